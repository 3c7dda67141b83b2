/-! -/
set_option maxRecDepth 100000 in
theorem ji_116_0 : mj_ins 116 0 = some (.iload 4) := by decide +kernel
set_option maxRecDepth 100000 in
theorem ji_116_2 : mj_ins 116 2 = some (.iload_n 3) := by decide +kernel
set_option maxRecDepth 100000 in
theorem ji_116_3 : mj_ins 116 3 = some (.if_icmp .ge 9) := by decide +kernel
set_option maxRecDepth 100000 in
theorem ji_116_12 : mj_ins 116 12 = some (.return_) := by decide +kernel
set_option maxRecDepth 100000 in
theorem jr_116 : mj_ret 116 = none := by decide +kernel
set_option maxRecDepth 100000 in
theorem ji_116_6 : mj_ins 116 6 = some (.iload 4) := by decide +kernel
set_option maxRecDepth 100000 in
theorem ji_116_8 : mj_ins 116 8 = some (.iconst 3) := by decide +kernel
set_option maxRecDepth 100000 in
theorem ji_116_9 : mj_ins 116 9 = some (.if_icmp .lt 4) := by decide +kernel
set_option maxRecDepth 100000 in
theorem ji_116_13 : mj_ins 116 13 = some (.aload_n 0) := by decide +kernel
set_option maxRecDepth 100000 in
theorem ji_116_14 : mj_ins 116 14 = some (.getfield 13) := by decide +kernel
set_option maxRecDepth 100000 in
theorem jf_116_13 : mj_fld 116 13 = some (10, 0, (.array (.object "ForestOfPoles$Forest")), false) := by decide +kernel
set_option maxRecDepth 100000 in
theorem ji_116_17 : mj_ins 116 17 = some (.iload 4) := by decide +kernel
set_option maxRecDepth 100000 in
theorem ji_116_19 : mj_ins 116 19 = some (.aaload) := by decide +kernel
set_option maxRecDepth 100000 in
theorem ji_116_20 : mj_ins 116 20 = some (.astore 6) := by decide +kernel
set_option maxRecDepth 100000 in
theorem ji_116_22 : mj_ins 116 22 = some (.aload 6) := by decide +kernel
set_option maxRecDepth 100000 in
theorem ji_116_24 : mj_ins 116 24 = some (.aload_n 1) := by decide +kernel
set_option maxRecDepth 100000 in
theorem ji_116_25 : mj_ins 116 25 = some (.invokevirtual 40) := by decide +kernel
set_option maxRecDepth 100000 in
theorem jc_116_40 : mj_cal 116 40 = some (2, 63, 1) := by decide +kernel
set_option maxRecDepth 100000 in
theorem sq_114 : sh_T[114]? = some (3, [0, 0, 118, 119, 120, 121, 122, 123, 124, 0, 0, 0, 0], 0, 0) := by decide +kernel
set_option maxRecDepth 100000 in
theorem ji_116_28 : mj_ins 116 28 = some (.iload 5) := by decide +kernel
set_option maxRecDepth 100000 in
theorem ji_116_30 : mj_ins 116 30 = some (.bipush 10) := by decide +kernel
set_option maxRecDepth 100000 in
theorem ji_116_32 : mj_ins 116 32 = some (.idiv) := by decide +kernel
set_option maxRecDepth 100000 in
theorem ji_116_33 : mj_ins 116 33 = some (.istore 7) := by decide +kernel
set_option maxRecDepth 100000 in
theorem ji_116_35 : mj_ins 116 35 = some (.aload 6) := by decide +kernel
set_option maxRecDepth 100000 in
theorem ji_116_37 : mj_ins 116 37 = some (.getfield 50) := by decide +kernel
set_option maxRecDepth 100000 in
theorem jf_116_50 : mj_fld 116 50 = some (3, 11, .int, true) := by decide +kernel
set_option maxRecDepth 100000 in
theorem ji_116_40 : mj_ins 116 40 = some (.iload_n 2) := by decide +kernel
set_option maxRecDepth 100000 in
theorem ji_116_41 : mj_ins 116 41 = some (.if_icmp .ne 14) := by decide +kernel
set_option maxRecDepth 100000 in
theorem ji_116_55 : mj_ins 116 55 = some (.iconst 1) := by decide +kernel
set_option maxRecDepth 100000 in
theorem ji_116_56 : mj_ins 116 56 = some (.istore 8) := by decide +kernel
set_option maxRecDepth 100000 in
theorem ji_116_58 : mj_ins 116 58 = some (.iload 8) := by decide +kernel
set_option maxRecDepth 100000 in
theorem ji_116_60 : mj_ins 116 60 = some (.bipush 9) := by decide +kernel
set_option maxRecDepth 100000 in
theorem ji_116_62 : mj_ins 116 62 = some (.if_icmp .gt 58) := by decide +kernel
set_option maxRecDepth 100000 in
theorem ji_116_65 : mj_ins 116 65 = some (.iload 4) := by decide +kernel
set_option maxRecDepth 100000 in
theorem ji_116_67 : mj_ins 116 67 = some (.iconst 1) := by decide +kernel
set_option maxRecDepth 100000 in
theorem ji_116_68 : mj_ins 116 68 = some (.iadd) := by decide +kernel
set_option maxRecDepth 100000 in
theorem ji_116_69 : mj_ins 116 69 = some (.iload_n 3) := by decide +kernel
set_option maxRecDepth 100000 in
theorem ji_116_70 : mj_ins 116 70 = some (.if_icmp .ge 50) := by decide +kernel
set_option maxRecDepth 100000 in
theorem ji_116_120 : mj_ins 116 120 = some (.return_) := by decide +kernel
set_option maxRecDepth 100000 in
theorem ji_116_44 : mj_ins 116 44 = some (.aload_n 0) := by decide +kernel
set_option maxRecDepth 100000 in
theorem ji_116_45 : mj_ins 116 45 = some (.dup) := by decide +kernel
set_option maxRecDepth 100000 in
theorem ji_116_46 : mj_ins 116 46 = some (.getfield 21) := by decide +kernel
set_option maxRecDepth 100000 in
theorem jf_116_21 : mj_fld 116 21 = some (10, 2, .int, true) := by decide +kernel
set_option maxRecDepth 100000 in
theorem ji_116_49 : mj_ins 116 49 = some (.iload 7) := by decide +kernel
set_option maxRecDepth 100000 in
theorem ji_116_51 : mj_ins 116 51 = some (.iadd) := by decide +kernel
set_option maxRecDepth 100000 in
theorem ji_116_52 : mj_ins 116 52 = some (.putfield 21) := by decide +kernel
set_option maxRecDepth 100000 in
theorem ji_116_73 : mj_ins 116 73 = some (.aload_n 0) := by decide +kernel
set_option maxRecDepth 100000 in
theorem ji_116_74 : mj_ins 116 74 = some (.getfield 13) := by decide +kernel
set_option maxRecDepth 100000 in
theorem ji_116_77 : mj_ins 116 77 = some (.iload 4) := by decide +kernel
set_option maxRecDepth 100000 in
theorem ji_116_79 : mj_ins 116 79 = some (.iconst 1) := by decide +kernel
set_option maxRecDepth 100000 in
theorem ji_116_80 : mj_ins 116 80 = some (.iadd) := by decide +kernel
set_option maxRecDepth 100000 in
theorem ji_116_81 : mj_ins 116 81 = some (.aaload) := by decide +kernel
set_option maxRecDepth 100000 in
theorem ji_116_82 : mj_ins 116 82 = some (.aload 6) := by decide +kernel
set_option maxRecDepth 100000 in
theorem ji_116_84 : mj_ins 116 84 = some (.invokevirtual 57) := by decide +kernel
set_option maxRecDepth 100000 in
theorem jc_116_57 : mj_cal 116 57 = some (2, 107, 1) := by decide +kernel
set_option maxRecDepth 100000 in
theorem ji_116_87 : mj_ins 116 87 = some (.aload_n 0) := by decide +kernel
set_option maxRecDepth 100000 in
theorem ji_116_88 : mj_ins 116 88 = some (.getfield 13) := by decide +kernel
set_option maxRecDepth 100000 in
theorem ji_116_91 : mj_ins 116 91 = some (.iload 4) := by decide +kernel
set_option maxRecDepth 100000 in
theorem ji_116_93 : mj_ins 116 93 = some (.iconst 1) := by decide +kernel
set_option maxRecDepth 100000 in
theorem ji_116_94 : mj_ins 116 94 = some (.iadd) := by decide +kernel
set_option maxRecDepth 100000 in
theorem ji_116_95 : mj_ins 116 95 = some (.aaload) := by decide +kernel
set_option maxRecDepth 100000 in
theorem ji_116_96 : mj_ins 116 96 = some (.iload 8) := by decide +kernel
set_option maxRecDepth 100000 in
theorem ji_116_98 : mj_ins 116 98 = some (.putfield 47) := by decide +kernel
set_option maxRecDepth 100000 in
theorem jf_116_47 : mj_fld 116 47 = some (3, 9, .int, true) := by decide +kernel
set_option maxRecDepth 100000 in
theorem ji_116_101 : mj_ins 116 101 = some (.aload_n 0) := by decide +kernel
set_option maxRecDepth 100000 in
theorem ji_116_102 : mj_ins 116 102 = some (.aload_n 1) := by decide +kernel
set_option maxRecDepth 100000 in
theorem ji_116_103 : mj_ins 116 103 = some (.iload_n 2) := by decide +kernel
set_option maxRecDepth 100000 in
theorem ji_116_104 : mj_ins 116 104 = some (.iload_n 3) := by decide +kernel
set_option maxRecDepth 100000 in
theorem ji_116_105 : mj_ins 116 105 = some (.iload 4) := by decide +kernel
set_option maxRecDepth 100000 in
theorem ji_116_107 : mj_ins 116 107 = some (.iconst 1) := by decide +kernel
set_option maxRecDepth 100000 in
theorem ji_116_108 : mj_ins 116 108 = some (.iadd) := by decide +kernel
set_option maxRecDepth 100000 in
theorem ji_116_109 : mj_ins 116 109 = some (.iload 7) := by decide +kernel
set_option maxRecDepth 100000 in
theorem ji_116_111 : mj_ins 116 111 = some (.invokevirtual 53) := by decide +kernel
set_option maxRecDepth 100000 in
theorem jc_116_53 : mj_cal 116 53 = some (2, 116, 5) := by decide +kernel
set_option maxRecDepth 100000 in
theorem jn_116 : mj_nl 116 = 9 := by decide +kernel
set_option maxRecDepth 100000 in
theorem jk_116 : mj_cls 116 = 10 := by decide +kernel
set_option maxRecDepth 100000 in
theorem ji_116_114 : mj_ins 116 114 = some (.iinc 8 1) := by decide +kernel
set_option maxRecDepth 100000 in
theorem ji_116_117 : mj_ins 116 117 = some (.goto (-59)) := by decide +kernel
set_option maxRecDepth 100000 in
theorem sq_106 : sh_T[106]? = some (3, [0, 0, 110, 111, 112, 113, 114, 115, 116, 0, 0, 0, 0], 0, 0) := by decide +kernel
/-! the class's winds tried, one hour a forest; laid by program (wp_v02.py) -/
section DVV
variable {nn d m pc : Nat} {lv : mj_L} {st : List Value} {h : mj_H} {Q : Option Value → mj_H → Prop}
theorem wl_idiv {x y : Int} (hi : mj_ins m pc = some .idiv) (hx : 0 ≤ x ∧ x ≤ 2147483647) (hy : 0 < y ∧ y ≤ 2147483647) (hr : wl_R nn d m (pc + 1) lv (wp_i (x / y) :: st) h Q) : wl_R nn d m pc lv (wp_i y :: wp_i x :: st) h Q := by
  refine wl_s (pc' := pc + 1) (lv' := lv) (st' := wp_i (x / y) :: st) (h' := h) hi rfl rfl ?_ hr
  show (if Int32.ofInt y = 0 then none else some (pc + 1, lv, Value.int (Int32.ofInt x / Int32.ofInt y) :: st, h)) = _
  rw [if_neg (wp_nz (by omega) (by omega)), wp_td hx hy]
end DVV
/-- g 1 + .. + g n -/
def smx (g : Nat → Int) : Nat → Int
  | 0 => 0
  | n + 1 => smx g n + g (n + 1)
theorem smx_9 {g : Nat → Int} {B : Int} (h0 : 0 ≤ B) (h : ∀ x, 0 ≤ g x ∧ g x ≤ B) {n : Nat} (hn : n ≤ 9) : 0 ≤ smx g n ∧ smx g n ≤ 9 * B := by
  have e0 : smx g 0 = 0 := rfl
  have e1 : smx g 1 = smx g 0 + g 1 := rfl
  have e2 : smx g 2 = smx g 1 + g 2 := rfl
  have e3 : smx g 3 = smx g 2 + g 3 := rfl
  have e4 : smx g 4 = smx g 3 + g 4 := rfl
  have e5 : smx g 5 = smx g 4 + g 5 := rfl
  have e6 : smx g 6 = smx g 5 + g 6 := rfl
  have e7 : smx g 7 = smx g 6 + g 7 := rfl
  have e8 : smx g 8 = smx g 7 + g 8 := rfl
  have e9 : smx g 9 = smx g 8 + g 9 := rfl
  have h1 := h 1
  have h2 := h 2
  have h3 := h 3
  have h4 := h 4
  have h5 := h 5
  have h6 := h 6
  have h7 := h 7
  have h8 := h 8
  have h9 := h 9
  have hh : n = 0 ∨ n = 1 ∨ n = 2 ∨ n = 3 ∨ n = 4 ∨ n = 5 ∨ n = 6 ∨ n = 7 ∨ n = 8 ∨ n = 9 := by omega
  rcases hh with rfl | rfl | rfl | rfl | rfl | rfl | rfl | rfl | rfl | rfl <;> omega
theorem smx_0 {g : Nat → Int} (h : ∀ x, g x = 0) : ∀ n : Nat, smx g n = 0
  | 0 => rfl
  | n + 1 => by
    show smx g n + g (n + 1) = 0
    rw [smx_0 h n, h]
    rfl
/-- of so many draws how many drop it while w has it: k hours, the draws' number wt, from the reference's state r -/
def dpN (cr : crs) (w : Int) : Nat → Int → sg_ → Int
  | 0, _, _ => 0
  | k + 1, wt, r => (if endR cr (flA cr r) 139 10 = w then wt / 10 else 0) + smx (fun x => dpN cr w k (wt / 10) (up (endR cr (flA cr r)) 139 9 (x : Int))) 9
theorem dpN_b {cr : crs} {w : Int} : ∀ (k : Nat) (wt : Int) (r : sg_), 0 ≤ wt → 0 ≤ dpN cr w k wt r ∧ dpN cr w k wt r ≤ wt
  | 0, wt, r, h => ⟨Int.le_refl _, h⟩
  | k + 1, wt, r, h => by
    have q := smx_9 (g := fun x : Nat => dpN cr w k (wt / 10) (up (endR cr (flA cr r)) 139 9 (x : Int))) (B := wt / 10) (by omega) (fun x => dpN_b k _ _ (by omega)) (n := 9) (by decide)
    show 0 ≤ (if endR cr (flA cr r) 139 10 = w then wt / 10 else 0) + smx (fun x : Nat => dpN cr w k (wt / 10) (up (endR cr (flA cr r)) 139 9 (x : Int))) 9 ∧ (if endR cr (flA cr r) 139 10 = w then wt / 10 else 0) + smx (fun x : Nat => dpN cr w k (wt / 10) (up (endR cr (flA cr r)) 139 9 (x : Int))) 9 ≤ wt
    by_cases c : endR cr (flA cr r) 139 10 = w
    · rw [if_pos c]; omega
    · rw [if_neg c]; omega
theorem rel_9 {c r : sg_} {F : Nat} (H : relF c r F 139) {x : Int} : relF (up c F 9 x) (up r 139 9 x) F 139 := by
  refine relF_s H (fun b j a1 a2 => up_a (by omega)) (fun j a1 a2 => up_k (by omega)) ?_ ?_ ?_ ?_ ?_ ?_
  · rw [up_k (by decide), up_k (by decide)]
    exact H.1.1
  · rw [up_k (by decide), up_k (by decide)]
    exact H.1.2
  · rw [up_k (by decide), up_k (by decide)]
    exact H.2.2.2.2.1
  · rw [up_e, up_e]
  · rw [up_k (by decide), up_k (by decide)]
    exact H.2.2.2.2.2.2.1
  · rw [up_k (by decide), up_k (by decide)]
    exact H.2.2.2.2.2.2.2
theorem endR_ok {cr : crs} {r : sg_} (G : RG r) (h12 : 0 ≤ r 139 12) (h8 : r 139 8 < 20000) : RG (endR cr (flA cr r)) ∧ 0 ≤ endR cr (flA cr r) 139 12 ∧ endR cr (flA cr r) 139 8 = r 139 8 + 1 := by
  have G1 := flA_RG (cr := cr) G
  have f12 : flA cr r 139 12 = r 139 12 := flA_j (Or.inr (by decide))
  have f8 : flA cr r 139 8 = r 139 8 := flA_j (Or.inr (by decide))
  have q : ∀ j, ¬ j = 8 → ¬ j = 10 → ¬ j = 12 → j < 3484 → endR cr (flA cr r) 139 j = flA cr r 139 j := fun j a b c d => endR_j a b c d (by rw [f12]; exact h12)
  have e8 : endR cr (flA cr r) 139 8 = r 139 8 + 1 := by rw [endR_8, f8]
  have hd := holdR_r (s := flA cr r) (cr := cr) G1.w0.2
  have o := G.o
  have e12 := endR_12 (cr := cr) (t := flA cr r)
  refine ⟨RG_e G1 (fun j a b => q j (by omega) (by omega) (by omega) (by omega)) (q 0 (by decide) (by decide) (by decide) (by decide)) (q 1 (by decide) (by decide) (by decide) (by decide)) (by rw [q 9 (by decide) (by decide) (by decide) (by decide)]; exact G1.w) (by rw [e8]; omega) (by rw [q 11 (by decide) (by decide) (by decide) (by decide)]; exact G1.x) (by rw [endR_10]; omega), by omega, e8⟩
/-- what never changes of a forest stands at E as at F -/
def SQF (s : sg_) (E F : Nat) : Prop := (s E 0 = s F 0 ∧ s E 1 = s F 1) ∧ (∀ j, 0 ≤ j → j < 8 → s (E + 1) j = s (F + 1) j ∧ s (E + 2) j = s (F + 2) j ∧ s (E + 3) j = s (F + 3) j) ∧ ∀ j, 0 ≤ j → j < 6 → s (E + 4) j = s (F + 4) j ∧ s (E + 5) j = s (F + 5) j
theorem SQF_f {s s1 : sg_} {E F : Nat} (H : SQF s E F) (e : ∀ (b : Nat) (j : Int), ((b = E ∨ b = F) ∧ j < 2) ∨ (E + 1 ≤ b ∧ b ≤ E + 5) ∨ (F + 1 ≤ b ∧ b ≤ F + 5) → s1 b j = s b j) : SQF s1 E F := by
  obtain ⟨⟨h0, h1⟩, h2, h4⟩ := H
  refine ⟨⟨by rw [e _ _ (by omega), e _ _ (by omega)]; exact h0, by rw [e _ _ (by omega), e _ _ (by omega)]; exact h1⟩, fun j a b => ?_, fun j a b => ?_⟩
  · rw [e (E + 1) j (by omega), e (E + 2) j (by omega), e (E + 3) j (by omega), e (F + 1) j (by omega), e (F + 2) j (by omega), e (F + 3) j (by omega)]
    exact h2 j a b
  · rw [e (E + 4) j (by omega), e (E + 5) j (by omega), e (F + 4) j (by omega), e (F + 5) j (by omega)]
    exact h4 j a b
theorem uc_116_2 {nn d : Nat} {h : mj_H} {s r : sg_} (C : CS h s) {cd : cds} {cr : crs} {w n wt : Int} (E : eqLaw cd cr) (A : askR (cr 2)) {T : Nat} (hT : isT T) (hw : wp_r w) (hn : 0 ≤ n ∧ n ≤ 3) (hwt : 0 ≤ wt ∧ wt ≤ 1000) (H : TXC s T cd) (SCs : SC s) (G : IG s 114) (R : relF s r 114 139) (RGr : RG r) (h12 : 0 ≤ r 139 12) (h10 : s 114 10 ≤ 19002) (hc : 0 ≤ s 95 2 ∧ s 95 2 + 2 * wt ≤ 100000) : wl_R nn (d + 5) 116 0 [some (.ref 95), some (.ref T), some (wp_i w), some (wp_i n), some (wp_i 2), some (wp_i wt), none, none, none] [] h (fun v1 h1 => v1 = none ∧ ∃ t, CS h1 t ∧ (∀ (b : Nat) (j : Int), ¬ ((b = 114 ∧ 9 ≤ j ∧ j ≤ 12) ∨ b = 120 ∨ b = 121) → ¬ (b = 95 ∧ j = 2) → t b j = s b j) ∧ t 95 2 = s 95 2 + dpN cr w (n - 2).toNat wt r) := by
  obtain ⟨u, eu⟩ : ∃ z9_, endR cr (flA cr r) = z9_ := ⟨_, rfl⟩
  have e8 := R.2.2.2.2.1
  have U := endR_ok (cr := cr) RGr h12 (by omega)
  rw [eu] at U
  refine wl_s (pc' := 2) ji_116_0 rfl rfl rfl ?_
  refine wl_s (pc' := 3) ji_116_2 rfl rfl rfl ?_
  refine wl_icmp (t := 12) ji_116_3 rfl (by omega) (by omega) (fun (hb1 : (n : Int) ≤ 2) => ?_) (fun (hb1 : ¬ ((n : Int) ≤ 2)) => ?_)
  · exact wl_rv ji_116_12 jr_116 (⟨rfl, s, C, fun _ _ _ _ => rfl, by rw [show (n - 2).toNat = 0 by omega]; show _ = s 95 2 + 0; omega⟩)
  · refine wl_s (pc' := 8) ji_116_6 rfl rfl rfl ?_
    refine wl_s (pc' := 9) ji_116_8 rfl rfl rfl ?_
    refine wl_icmp (t := 13) ji_116_9 rfl (by omega) (by omega) (fun (hb2 : (2 : Int) < 3) => ?_) (fun (hb2 : ¬ ((2 : Int) < 3)) => (by exfalso; omega))
    refine wl_s (pc' := 14) ji_116_13 rfl rfl rfl ?_
    refine cs_gr (r := 96) (k := 0) C (by decide) sq_95 rfl ji_116_14 jf_116_13 ?_
    refine wl_s (pc' := 19) ji_116_17 rfl rfl rfl ?_
    refine cs_aa (r := 114) (x := 2) C (by decide) sq_96 (by decide) (by decide) (by decide) (by decide) rfl ji_116_19 ?_
    refine wl_s (pc' := 22) (lv' := [some (.ref 95), some (.ref T), some (wp_i w), some (wp_i n), some (wp_i 2), some (wp_i wt), some (.ref 114), none, none]) ji_116_20 rfl rfl rfl ?_
    refine wl_s (pc' := 24) ji_116_22 rfl rfl rfl ?_
    refine wl_s (pc' := 25) ji_116_24 rfl rfl rfl ?_
    obtain ⟨q4, hq4⟩ := cs_c C (by decide) sq_114
    refine wl_vc (d := d + 4) (as := [.ref 114, .ref T]) (rest := []) ji_116_25 jc_116_40 rfl hq4 jk_63.symm (Nat.le_of_ble_eq_true rfl) rfl (by rw [jn_63]; rfl) (uc_63 (d := d) C hT isF_114 H SCs G) (fun v1 h3 R => ?_)
    obtain ⟨rfl, C⟩ := R
    obtain ⟨s1, es1⟩ : ∃ z9_, passC cd 114 s = z9_ := ⟨_, rfl⟩
    rw [es1] at C
    have q1 : ∀ (b : Nat) (j : Int), ¬ b = 114 → ¬ b = 114 + 6 → ¬ b = 114 + 7 → s1 b j = s b j := fun b j h0 h6 h7 => by rw [← es1]; exact passC_fr h0 h6 h7
    have q0 : ∀ j : Int, ¬ j = 11 → ¬ j = 10 → s1 114 j = s 114 j := fun j h1 h2 => by rw [← es1]; exact passC_0 h1 h2
    have G1 : IG s1 114 := by rw [← es1]; exact passC_IG G (by omega)
    have R1 := pass_eq E A R RGr G h12
    rw [es1, eu] at R1
    have q95 : s1 95 2 = s 95 2 := q1 _ _ (by decide) (by decide) (by decide)
    have r10 : u 139 10 = s1 114 11 := R1.2.2.2.2.2.2.1
    have g11 := G1.1.2.2.2.2.2.2.2.2.1
    show wl_R _ _ 116 28 [some (.ref 95), some (.ref T), some (wp_i w), some (wp_i n), some (wp_i 2), some (wp_i wt), some (.ref 114), none, none] [] h3 _
    refine wl_s (pc' := 30) ji_116_28 rfl rfl rfl ?_
    refine wl_bp ji_116_30 rfl ?_
    refine wl_idiv (x := wt) (y := 10) ji_116_32 (by omega) (by omega) ?_
    refine wl_s (pc' := 35) (lv' := [some (.ref 95), some (.ref T), some (wp_i w), some (wp_i n), some (wp_i 2), some (wp_i wt), some (.ref 114), some (wp_i (wt / 10)), none]) ji_116_33 rfl rfl rfl ?_
    refine wl_s (pc' := 37) ji_116_35 rfl rfl rfl ?_
    refine cs_gi (k := 11) (kI := 11) C (by decide) (by decide) sq_114 rfl rfl ji_116_37 jf_116_50 ?_
    have bd5 : wp_r (s1 114 11) := cs_ri (k := 11) (kI := 11) C (by decide) (by decide) sq_114 rfl rfl (show 11 < 13 by decide)
    refine wl_s (pc' := 41) ji_116_40 rfl rfl rfl ?_
    refine wl_icmp (t := 55) ji_116_41 rfl (by omega) (by omega) (fun (hb6 : ¬ (s1 114 11 : Int) = w) => ?_) (fun (hb6 : ¬ (¬ (s1 114 11 : Int) = w)) => ?_)
    · refine wl_s (pc' := 56) ji_116_55 rfl rfl rfl ?_
      refine wl_s (pc' := 58) (lv' := [some (.ref 95), some (.ref T), some (wp_i w), some (wp_i n), some (wp_i 2), some (wp_i wt), some (.ref 114), some (wp_i (wt / 10)), some (wp_i 1)]) ji_116_56 rfl rfl rfl ?_
      refine wl_s (pc' := 60) ji_116_58 rfl rfl rfl ?_
      refine wl_bp ji_116_60 rfl ?_
      refine wl_icmp (t := 120) ji_116_62 rfl (by omega) (by omega) (fun (hb7 : (9 : Int) < 1) => (by exfalso; omega)) (fun (hb7 : ¬ ((9 : Int) < 1)) => ?_)
      refine wl_s (pc' := 67) ji_116_65 rfl rfl rfl ?_
      refine wl_s (pc' := 68) ji_116_67 rfl rfl rfl ?_
      refine wl_iadd (x := 2) (y := 1) (z := 3) ji_116_68 (by omega) ?_
      refine wl_s (pc' := 70) ji_116_69 rfl rfl rfl ?_
      refine wl_icmp (t := 120) ji_116_70 rfl (by omega) (by omega) (fun (hb8 : (n : Int) ≤ 3) => ?_) (fun (hb8 : ¬ ((n : Int) ≤ 3)) => (by exfalso; omega))
      exact wl_rv ji_116_120 jr_116 (⟨rfl, s1, C, fun b j a1 a2 => by { by_cases z : b = 114; subst z; exact q0 j (by omega) (by omega); exact q1 b j z (by omega) (by omega) }, by { rw [show (n - 2).toNat = 0 + 1 by omega]; show _ = s 95 2 + ((if endR cr (flA cr r) 139 10 = w then wt / 10 else 0) + smx (fun x : Nat => dpN cr w 0 (wt / 10) (up (endR cr (flA cr r)) 139 9 (x : Int))) 9); rw [eu, if_neg (by omega), smx_0 (g := fun x : Nat => dpN cr w 0 (wt / 10) (up u 139 9 (x : Int))) (fun _ => rfl)]; rw [q95]; omega }⟩)
    · refine wl_s (pc' := 45) ji_116_44 rfl rfl rfl ?_
      refine wl_s (pc' := 46) ji_116_45 rfl rfl rfl ?_
      refine cs_gi (k := 2) (kI := 2) C (by decide) (by decide) sq_95 rfl rfl ji_116_46 jf_116_21 ?_
      rw [q95]
      have bd9 : wp_r (s 95 2) := q95 ▸ cs_ri (k := 2) (kI := 2) C (by decide) (by decide) sq_95 rfl rfl (show 2 < 3 by decide)
      refine wl_s (pc' := 51) ji_116_49 rfl rfl rfl ?_
      refine wl_iadd (x := s 95 2) (y := wt / 10) (z := s 95 2 + (wt / 10)) ji_116_51 (by omega) ?_
      refine cs_pi (k := 2) (kI := 2) (y := s 95 2 + (wt / 10)) C (by decide) sq_95 rfl rfl ji_116_52 jf_116_21 rfl rfl (by omega) (fun h C => ?_)
      obtain ⟨s10, es10⟩ : ∃ z9_, up s1 95 2 (s 95 2 + (wt / 10)) = z9_ := ⟨_, rfl⟩
      rw [es10] at C
      refine wl_s (pc' := 56) ji_116_55 rfl rfl rfl ?_
      refine wl_s (pc' := 58) (lv' := [some (.ref 95), some (.ref T), some (wp_i w), some (wp_i n), some (wp_i 2), some (wp_i wt), some (.ref 114), some (wp_i (wt / 10)), some (wp_i 1)]) ji_116_56 rfl rfl rfl ?_
      refine wl_s (pc' := 60) ji_116_58 rfl rfl rfl ?_
      refine wl_bp ji_116_60 rfl ?_
      refine wl_icmp (t := 120) ji_116_62 rfl (by omega) (by omega) (fun (hb11 : (9 : Int) < 1) => (by exfalso; omega)) (fun (hb11 : ¬ ((9 : Int) < 1)) => ?_)
      refine wl_s (pc' := 67) ji_116_65 rfl rfl rfl ?_
      refine wl_s (pc' := 68) ji_116_67 rfl rfl rfl ?_
      refine wl_iadd (x := 2) (y := 1) (z := 3) ji_116_68 (by omega) ?_
      refine wl_s (pc' := 70) ji_116_69 rfl rfl rfl ?_
      refine wl_icmp (t := 120) ji_116_70 rfl (by omega) (by omega) (fun (hb12 : (n : Int) ≤ 3) => ?_) (fun (hb12 : ¬ ((n : Int) ≤ 3)) => (by exfalso; omega))
      exact wl_rv ji_116_120 jr_116 (⟨rfl, s10, C, fun b j a1 a2 => by { rw [← es10, up_n (by omega)]; by_cases z : b = 114; subst z; exact q0 j (by omega) (by omega); exact q1 b j z (by omega) (by omega) }, by { rw [show (n - 2).toNat = 0 + 1 by omega]; show _ = s 95 2 + ((if endR cr (flA cr r) 139 10 = w then wt / 10 else 0) + smx (fun x : Nat => dpN cr w 0 (wt / 10) (up (endR cr (flA cr r)) 139 9 (x : Int))) 9); rw [eu, if_pos (by omega), smx_0 (g := fun x : Nat => dpN cr w 0 (wt / 10) (up u 139 9 (x : Int))) (fun _ => rfl)]; rw [← es10, up_e]; omega }⟩)
theorem uc_116_1l {d : Nat} {s1 u : sg_} {w7 : Int} {cd : cds} {cr : crs} {w n wt : Int} (E : eqLaw cd cr) (A : askR (cr 2)) {T : Nat} (hT : isT T) (hw : wp_r w) (hn : 0 ≤ n ∧ n ≤ 3) (hwt : 0 ≤ wt ∧ wt ≤ 1000) (hw7 : 0 ≤ w7 ∧ w7 ≤ 100) (H1 : TXC s1 T cd) (SC1 : SC s1) (G1 : IG s1 106) (R1 : relF s1 u 106 139) (RGu : RG u) (u12 : 0 ≤ u 139 12) (h10 : s1 106 10 ≤ 19002) (hc : 0 ≤ s1 95 2 ∧ s1 95 2 + 11 * w7 ≤ 100000) (Q1 : 2 < n → SQF s1 114 106) : ∀ (nn y : Nat) (h : mj_H) (t : sg_), CS h t → y ≤ 9 → (∀ (b : Nat) (j : Int), ¬ ((b = 114 ∧ 9 ≤ j ∧ j ≤ 12) ∨ b = 120 ∨ b = 121) → ¬ (b = 95 ∧ j = 2) → t b j = s1 b j) → t 95 2 = s1 95 2 + smx (fun x : Nat => dpN cr w (n - 2).toNat w7 (up u 139 9 (x : Int))) y → wl_R nn (d + 6) 116 58 [some (.ref 95), some (.ref T), some (wp_i w), some (wp_i n), some (wp_i 1), some (wp_i wt), some (.ref 106), some (wp_i w7), some (wp_i ((y : Int) + 1))] [] h (fun v1 h1 => v1 = none ∧ ∃ t, CS h1 t ∧ (∀ (b : Nat) (j : Int), ¬ ((b = 114 ∧ 9 ≤ j ∧ j ≤ 12) ∨ b = 120 ∨ b = 121) → ¬ (b = 95 ∧ j = 2) → t b j = s1 b j) ∧ t 95 2 = s1 95 2 + smx (fun x : Nat => dpN cr w (n - 2).toNat w7 (up u 139 9 (x : Int))) 9) := by
  intro nn
  induction nn with
  | zero => intros; exact wl_0
  | succ nn ih =>
    intro y h t C hy ft hs
    have sb := smx_9 (g := fun x : Nat => dpN cr w (n - 2).toNat w7 (up u 139 9 (x : Int))) (B := w7) (by omega) (fun x => dpN_b _ _ _ (by omega)) (n := y) hy
    refine wl_s1 (pc' := 60) ji_116_58 rfl rfl rfl ?_
    refine wl_bp ji_116_60 rfl ?_
    refine wl_icmp (t := 120) ji_116_62 rfl (by omega) (by omega) (fun (hb1 : (9 : Int) < ((y : Int) + 1)) => ?_) (fun (hb1 : ¬ ((9 : Int) < ((y : Int) + 1))) => ?_)
    · exact wl_rv ji_116_120 jr_116 (⟨rfl, t, C, ft, by rw [hs, show y = 9 by omega]⟩)
    · refine wl_s (pc' := 67) ji_116_65 rfl rfl rfl ?_
      refine wl_s (pc' := 68) ji_116_67 rfl rfl rfl ?_
      refine wl_iadd (x := 1) (y := 1) (z := 2) ji_116_68 (by omega) ?_
      refine wl_s (pc' := 70) ji_116_69 rfl rfl rfl ?_
      refine wl_icmp (t := 120) ji_116_70 rfl (by omega) (by omega) (fun (hb2 : (n : Int) ≤ 2) => ?_) (fun (hb2 : ¬ ((n : Int) ≤ 2)) => ?_)
      · exact wl_rv ji_116_120 jr_116 (⟨rfl, t, C, ft, by rw [hs, smx_0 (fun x => by rw [show (n - 2).toNat = 0 by omega]; rfl), smx_0 (fun x => by rw [show (n - 2).toNat = 0 by omega]; rfl)]⟩)
      · refine wl_s (pc' := 74) ji_116_73 rfl rfl rfl ?_
        refine cs_gr (r := 96) (k := 0) C (by decide) sq_95 rfl ji_116_74 jf_116_13 ?_
        refine wl_s (pc' := 79) ji_116_77 rfl rfl rfl ?_
        refine wl_s (pc' := 80) ji_116_79 rfl rfl rfl ?_
        refine wl_iadd (x := 1) (y := 1) (z := 2) ji_116_80 (by omega) ?_
        refine cs_aa (r := 114) (x := 2) C (by decide) sq_96 (by decide) (by decide) (by decide) (by decide) rfl ji_116_81 ?_
        refine wl_s (pc' := 84) ji_116_82 rfl rfl rfl ?_
        obtain ⟨q4, hq4⟩ := cs_c C (by decide) sq_114
        refine wl_vc (d := d + 5) (as := [.ref 114, .ref 106]) (rest := []) ji_116_84 jc_116_57 rfl hq4 jk_107.symm (Nat.le_of_ble_eq_true rfl) rfl (by rw [jn_107]; rfl) (uc_107 (d := d + 5) C isF_114 isF_106 (by decide)) (fun v1 h3 R => ?_)
        obtain ⟨rfl, t2, C, m6, m7, m9, m10, m11, m12, mf⟩ := R
        have FC : FCP s1 t2 106 114 := ⟨⟨by rw [mf _ _ (by omega) (by omega) (by omega), ft _ _ (by omega) (by omega)]; exact (Q1 (by omega)).1.1, by rw [mf _ _ (by omega) (by omega) (by omega), ft _ _ (by omega) (by omega)]; exact (Q1 (by omega)).1.2⟩, fun j a b => by { rw [mf (114 + 1) j (by omega) (by omega) (by omega), mf (114 + 2) j (by omega) (by omega) (by omega), mf (114 + 3) j (by omega) (by omega) (by omega), ft (114 + 1) j (by omega) (by omega), ft (114 + 2) j (by omega) (by omega), ft (114 + 3) j (by omega) (by omega)]; exact (Q1 (by omega)).2.1 j a b }, fun j a b => by { rw [mf (114 + 4) j (by omega) (by omega) (by omega), mf (114 + 5) j (by omega) (by omega) (by omega), ft (114 + 4) j (by omega) (by omega), ft (114 + 5) j (by omega) (by omega)]; exact (Q1 (by omega)).2.2 j a b }, fun j a b => ⟨(m6 j a b).trans (ft _ _ (by omega) (by omega)), (m7 j a b).trans (ft _ _ (by omega) (by omega))⟩, m9.trans (ft _ _ (by omega) (by omega)), m10.trans (ft _ _ (by omega) (by omega)), m11.trans (ft _ _ (by omega) (by omega)), m12.trans (ft _ _ (by omega) (by omega))⟩
        have f2 : ∀ (b : Nat) (j : Int), ¬ ((b = 114 ∧ 9 ≤ j ∧ j ≤ 12) ∨ b = 120 ∨ b = 121) → ¬ (b = 95 ∧ j = 2) → t2 b j = s1 b j := fun b j a1 a2 => (mf b j (by omega) (by omega) (by omega)).trans (ft b j a1 a2)
        have c2 : t2 95 2 = t 95 2 := mf _ _ (by omega) (by omega) (by omega)
        show wl_R _ _ 116 87 [some (.ref 95), some (.ref T), some (wp_i w), some (wp_i n), some (wp_i 1), some (wp_i wt), some (.ref 106), some (wp_i w7), some (wp_i ((y : Int) + 1))] [] h3 _
        refine wl_s (pc' := 88) ji_116_87 rfl rfl rfl ?_
        refine cs_gr (r := 96) (k := 0) C (by decide) sq_95 rfl ji_116_88 jf_116_13 ?_
        refine wl_s (pc' := 93) ji_116_91 rfl rfl rfl ?_
        refine wl_s (pc' := 94) ji_116_93 rfl rfl rfl ?_
        refine wl_iadd (x := 1) (y := 1) (z := 2) ji_116_94 (by omega) ?_
        refine cs_aa (r := 114) (x := 2) C (by decide) sq_96 (by decide) (by decide) (by decide) (by decide) rfl ji_116_95 ?_
        refine wl_s (pc' := 98) ji_116_96 rfl rfl rfl ?_
        refine cs_pi (k := 9) (kI := 9) (y := (y : Int) + 1) C (by decide) sq_114 rfl rfl ji_116_98 jf_116_47 rfl rfl (by omega) (fun h C => ?_)
        obtain ⟨s5, es5⟩ : ∃ z9_, up t2 114 9 ((y : Int) + 1) = z9_ := ⟨_, rfl⟩
        rw [es5] at C
        refine wl_s (pc' := 102) ji_116_101 rfl rfl rfl ?_
        refine wl_s (pc' := 103) ji_116_102 rfl rfl rfl ?_
        refine wl_s (pc' := 104) ji_116_103 rfl rfl rfl ?_
        refine wl_s (pc' := 105) ji_116_104 rfl rfl rfl ?_
        refine wl_s (pc' := 107) ji_116_105 rfl rfl rfl ?_
        refine wl_s (pc' := 108) ji_116_107 rfl rfl rfl ?_
        refine wl_iadd (x := 1) (y := 1) (z := 2) ji_116_108 (by omega) ?_
        refine wl_s (pc' := 111) ji_116_109 rfl rfl rfl ?_
        have f3 : ∀ (b : Nat) (j : Int), ¬ ((b = 114 ∧ 9 ≤ j ∧ j ≤ 12) ∨ b = 120 ∨ b = 121) → ¬ (b = 95 ∧ j = 2) → s5 b j = s1 b j := fun b j a1 a2 => by rw [← es5, up_n (by omega)]; exact f2 b j a1 a2
        have R3 := rel_9 (relF_t R1 FC (r1 := u) (R1 := 139) (fun _ _ _ => rfl)) (x := (y : Int) + 1)
        rw [es5] at R3
        have G3 : IG s5 114 := by rw [← es5]; exact IG_9 (IG_t G1 FC) (by omega)
        have c3 : s5 95 2 = t 95 2 := by rw [← es5, up_a (by decide)]; exact c2
        have h3 : s5 114 10 ≤ 19002 := by rw [← es5, up_k (by decide), FC.2.2.2.2.2.1]; exact h10
        obtain ⟨q7, hq7⟩ := cs_c C (by decide) sq_95
        refine wl_vc (d := d + 5) (as := [.ref 95, .ref T, wp_i w, wp_i n, wp_i 2, wp_i w7]) (rest := []) ji_116_111 jc_116_53 rfl hq7 jk_116.symm (Nat.le_of_ble_eq_true rfl) rfl (by rw [jn_116]; rfl) (uc_116_2 (d := d) C E A hT hw hn (wt := w7) (by omega) (TXC_f (fun b j a1 a2 => f3 b j (by have := isT_b hT; omega) (by have := isT_b hT; omega)) H1) (SC_f (fun j => f3 _ j (by omega) (by omega)) (fun j => f3 _ j (by omega) (by omega)) SC1) G3 R3 (RG_9 RGu (by omega)) (by rw [up_k (by decide)]; exact u12) h3 (by omega)) (fun v1 h6 R => ?_)
        obtain ⟨rfl, t4, C, f4, c4⟩ := R
        show wl_R _ _ 116 114 [some (.ref 95), some (.ref T), some (wp_i w), some (wp_i n), some (wp_i 1), some (wp_i wt), some (.ref 106), some (wp_i w7), some (wp_i ((y : Int) + 1))] [] h6 _
        refine wl_iinc (x := (y : Int) + 1) (z := (y : Int) + 1 + 1) (lv' := [some (.ref 95), some (.ref T), some (wp_i w), some (wp_i n), some (wp_i 1), some (wp_i wt), some (.ref 106), some (wp_i w7), some (wp_i ((y : Int) + 1 + 1))]) ji_116_114 rfl (Nat.le_of_ble_eq_true rfl) (by omega) rfl ?_
        refine wl_goto (t := 58) ji_116_117 rfl ?_
        rw [show (y : Int) + 1 + 1 = ((y + 1 : Nat) : Int) + 1 by omega]
        exact ih (y + 1) _ t4 C (by omega) (fun b j a1 a2 => (f4 b j (by omega) a2).trans (f3 b j a1 a2)) (by rw [c4, c3, hs]; show _ = s1 95 2 + (smx (fun x : Nat => dpN cr w (n - 2).toNat w7 (up u 139 9 (x : Int))) y + dpN cr w (n - 2).toNat w7 (up u 139 9 ((y + 1 : Nat) : Int))); rw [show ((y + 1 : Nat) : Int) = (y : Int) + 1 by omega]; omega)
theorem uc_116_1 {nn d : Nat} {h : mj_H} {s r : sg_} (C : CS h s) {cd : cds} {cr : crs} {w n wt : Int} (E : eqLaw cd cr) (A : askR (cr 2)) {T : Nat} (hT : isT T) (hw : wp_r w) (hn : 0 ≤ n ∧ n ≤ 3) (hwt : 0 ≤ wt ∧ wt ≤ 1000) (H : TXC s T cd) (SCs : SC s) (G : IG s 106) (R : relF s r 106 139) (RGr : RG r) (h12 : 0 ≤ r 139 12) (h10 : s 106 10 ≤ 19001) (hc : 0 ≤ s 95 2 ∧ s 95 2 + 2 * wt ≤ 100000) (Q1 : 2 < n → SQF s 114 106) : wl_R nn (d + 6) 116 0 [some (.ref 95), some (.ref T), some (wp_i w), some (wp_i n), some (wp_i 1), some (wp_i wt), none, none, none] [] h (fun v1 h1 => v1 = none ∧ ∃ t, CS h1 t ∧ (∀ (b : Nat) (j : Int), ¬ ((b = 106 ∧ 9 ≤ j ∧ j ≤ 12) ∨ b = 112 ∨ b = 113 ∨ (b = 114 ∧ 9 ≤ j ∧ j ≤ 12) ∨ b = 120 ∨ b = 121) → ¬ (b = 95 ∧ j = 2) → t b j = s b j) ∧ t 95 2 = s 95 2 + dpN cr w (n - 1).toNat wt r) := by
  obtain ⟨u, eu⟩ : ∃ z9_, endR cr (flA cr r) = z9_ := ⟨_, rfl⟩
  have e8 := R.2.2.2.2.1
  have U := endR_ok (cr := cr) RGr h12 (by omega)
  rw [eu] at U
  refine wl_s (pc' := 2) ji_116_0 rfl rfl rfl ?_
  refine wl_s (pc' := 3) ji_116_2 rfl rfl rfl ?_
  refine wl_icmp (t := 12) ji_116_3 rfl (by omega) (by omega) (fun (hb1 : (n : Int) ≤ 1) => ?_) (fun (hb1 : ¬ ((n : Int) ≤ 1)) => ?_)
  · exact wl_rv ji_116_12 jr_116 (⟨rfl, s, C, fun _ _ _ _ => rfl, by rw [show (n - 1).toNat = 0 by omega]; show _ = s 95 2 + 0; omega⟩)
  · refine wl_s (pc' := 8) ji_116_6 rfl rfl rfl ?_
    refine wl_s (pc' := 9) ji_116_8 rfl rfl rfl ?_
    refine wl_icmp (t := 13) ji_116_9 rfl (by omega) (by omega) (fun (hb2 : (1 : Int) < 3) => ?_) (fun (hb2 : ¬ ((1 : Int) < 3)) => (by exfalso; omega))
    refine wl_s (pc' := 14) ji_116_13 rfl rfl rfl ?_
    refine cs_gr (r := 96) (k := 0) C (by decide) sq_95 rfl ji_116_14 jf_116_13 ?_
    refine wl_s (pc' := 19) ji_116_17 rfl rfl rfl ?_
    refine cs_aa (r := 106) (x := 1) C (by decide) sq_96 (by decide) (by decide) (by decide) (by decide) rfl ji_116_19 ?_
    refine wl_s (pc' := 22) (lv' := [some (.ref 95), some (.ref T), some (wp_i w), some (wp_i n), some (wp_i 1), some (wp_i wt), some (.ref 106), none, none]) ji_116_20 rfl rfl rfl ?_
    refine wl_s (pc' := 24) ji_116_22 rfl rfl rfl ?_
    refine wl_s (pc' := 25) ji_116_24 rfl rfl rfl ?_
    obtain ⟨q4, hq4⟩ := cs_c C (by decide) sq_106
    refine wl_vc (d := d + 5) (as := [.ref 106, .ref T]) (rest := []) ji_116_25 jc_116_40 rfl hq4 jk_63.symm (Nat.le_of_ble_eq_true rfl) rfl (by rw [jn_63]; rfl) (uc_63 (d := d + 1) C hT isF_106 H SCs G) (fun v1 h3 R => ?_)
    obtain ⟨rfl, C⟩ := R
    obtain ⟨s1, es1⟩ : ∃ z9_, passC cd 106 s = z9_ := ⟨_, rfl⟩
    rw [es1] at C
    have q1 : ∀ (b : Nat) (j : Int), ¬ b = 106 → ¬ b = 106 + 6 → ¬ b = 106 + 7 → s1 b j = s b j := fun b j h0 h6 h7 => by rw [← es1]; exact passC_fr h0 h6 h7
    have q0 : ∀ j : Int, ¬ j = 11 → ¬ j = 10 → s1 106 j = s 106 j := fun j h1 h2 => by rw [← es1]; exact passC_0 h1 h2
    have G1 : IG s1 106 := by rw [← es1]; exact passC_IG G (by omega)
    have R1 := pass_eq E A R RGr G h12
    rw [es1, eu] at R1
    have q95 : s1 95 2 = s 95 2 := q1 _ _ (by decide) (by decide) (by decide)
    have r10 : u 139 10 = s1 106 11 := R1.2.2.2.2.2.2.1
    have g11 := G1.1.2.2.2.2.2.2.2.2.1
    show wl_R _ _ 116 28 [some (.ref 95), some (.ref T), some (wp_i w), some (wp_i n), some (wp_i 1), some (wp_i wt), some (.ref 106), none, none] [] h3 _
    refine wl_s (pc' := 30) ji_116_28 rfl rfl rfl ?_
    refine wl_bp ji_116_30 rfl ?_
    refine wl_idiv (x := wt) (y := 10) ji_116_32 (by omega) (by omega) ?_
    refine wl_s (pc' := 35) (lv' := [some (.ref 95), some (.ref T), some (wp_i w), some (wp_i n), some (wp_i 1), some (wp_i wt), some (.ref 106), some (wp_i (wt / 10)), none]) ji_116_33 rfl rfl rfl ?_
    refine wl_s (pc' := 37) ji_116_35 rfl rfl rfl ?_
    refine cs_gi (k := 11) (kI := 11) C (by decide) (by decide) sq_106 rfl rfl ji_116_37 jf_116_50 ?_
    have bd5 : wp_r (s1 106 11) := cs_ri (k := 11) (kI := 11) C (by decide) (by decide) sq_106 rfl rfl (show 11 < 13 by decide)
    refine wl_s (pc' := 41) ji_116_40 rfl rfl rfl ?_
    refine wl_icmp (t := 55) ji_116_41 rfl (by omega) (by omega) (fun (hb6 : ¬ (s1 106 11 : Int) = w) => ?_) (fun (hb6 : ¬ (¬ (s1 106 11 : Int) = w)) => ?_)
    · refine wl_s (pc' := 56) ji_116_55 rfl rfl rfl ?_
      refine wl_s (pc' := 58) (lv' := [some (.ref 95), some (.ref T), some (wp_i w), some (wp_i n), some (wp_i 1), some (wp_i wt), some (.ref 106), some (wp_i (wt / 10)), some (wp_i 1)]) ji_116_56 rfl rfl rfl ?_
      have f12 : ∀ (b : Nat) (j : Int), ¬ (b = 95 ∧ j = 2) → s1 b j = s1 b j := fun b j a1 => rfl
      have fs : ∀ (b : Nat) (j : Int), ¬ ((b = 106 ∧ 9 ≤ j ∧ j ≤ 12) ∨ b = 112 ∨ b = 113 ∨ (b = 114 ∧ 9 ≤ j ∧ j ≤ 12) ∨ b = 120 ∨ b = 121) → ¬ (b = 95 ∧ j = 2) → s1 b j = s b j := fun b j a1 a2 => (f12 b j a2).trans (by by_cases z : b = 106; subst z; exact q0 j (by omega) (by omega); exact q1 b j z (by omega) (by omega))
      have c12 : s1 95 2 = s 95 2 + (if u 139 10 = w then wt / 10 else 0) := by rw [if_neg (by omega)]; rw [q95]; omega
      refine wl_mono (uc_116_1l (d := d) (s1 := s1) (u := u) (w7 := wt / 10) (wt := wt) E A hT hw hn hwt (by omega) (TXC_f (fun b j a1 a2 => fs b j (by have := isT_b hT; omega) (by have := isT_b hT; omega)) H) (SC_f (fun j => fs _ j (by omega) (by omega)) (fun j => fs _ j (by omega) (by omega)) SCs) (IG_f (fun b j a1 a2 => f12 b j (by omega)) G1) (relF_f R1 (fun b j a1 a2 => f12 b j (by omega)) (fun _ _ _ _ _ _ _ => rfl)) U.1 U.2.1 (by rw [f12 _ _ (by decide), ← es1, passC_10]; omega) (by rw [c12]; by_cases z : u 139 10 = w; rw [if_pos z]; omega; rw [if_neg z]; omega) (fun z => SQF_f (Q1 z) (fun b j hb => fs b j (by omega) (by omega))) nn 0 _ s1 C (by decide) (fun _ _ _ _ => rfl) (by show _ = s1 95 2 + 0; omega)) (fun v1 h1 X => ?_)
      obtain ⟨e1, t, C, ft, ct⟩ := X
      refine ⟨e1, t, C, fun b j a1 a2 => (ft b j (by omega) a2).trans (fs b j a1 a2), ?_⟩
      rw [ct, c12, show (n - 1).toNat = (n - 2).toNat + 1 by omega]
      show _ = s 95 2 + ((if endR cr (flA cr r) 139 10 = w then wt / 10 else 0) + smx (fun x : Nat => dpN cr w (n - 2).toNat (wt / 10) (up (endR cr (flA cr r)) 139 9 (x : Int))) 9)
      rw [eu]
      omega
    · refine wl_s (pc' := 45) ji_116_44 rfl rfl rfl ?_
      refine wl_s (pc' := 46) ji_116_45 rfl rfl rfl ?_
      refine cs_gi (k := 2) (kI := 2) C (by decide) (by decide) sq_95 rfl rfl ji_116_46 jf_116_21 ?_
      rw [q95]
      have bd7 : wp_r (s 95 2) := q95 ▸ cs_ri (k := 2) (kI := 2) C (by decide) (by decide) sq_95 rfl rfl (show 2 < 3 by decide)
      refine wl_s (pc' := 51) ji_116_49 rfl rfl rfl ?_
      refine wl_iadd (x := s 95 2) (y := wt / 10) (z := s 95 2 + (wt / 10)) ji_116_51 (by omega) ?_
      refine cs_pi (k := 2) (kI := 2) (y := s 95 2 + (wt / 10)) C (by decide) sq_95 rfl rfl ji_116_52 jf_116_21 rfl rfl (by omega) (fun h C => ?_)
      obtain ⟨s8, es8⟩ : ∃ z9_, up s1 95 2 (s 95 2 + (wt / 10)) = z9_ := ⟨_, rfl⟩
      rw [es8] at C
      refine wl_s (pc' := 56) ji_116_55 rfl rfl rfl ?_
      refine wl_s (pc' := 58) (lv' := [some (.ref 95), some (.ref T), some (wp_i w), some (wp_i n), some (wp_i 1), some (wp_i wt), some (.ref 106), some (wp_i (wt / 10)), some (wp_i 1)]) ji_116_56 rfl rfl rfl ?_
      have f12 : ∀ (b : Nat) (j : Int), ¬ (b = 95 ∧ j = 2) → s8 b j = s1 b j := fun b j a1 => by rw [← es8, up_n (by omega)]
      have fs : ∀ (b : Nat) (j : Int), ¬ ((b = 106 ∧ 9 ≤ j ∧ j ≤ 12) ∨ b = 112 ∨ b = 113 ∨ (b = 114 ∧ 9 ≤ j ∧ j ≤ 12) ∨ b = 120 ∨ b = 121) → ¬ (b = 95 ∧ j = 2) → s8 b j = s b j := fun b j a1 a2 => (f12 b j a2).trans (by by_cases z : b = 106; subst z; exact q0 j (by omega) (by omega); exact q1 b j z (by omega) (by omega))
      have c12 : s8 95 2 = s 95 2 + (if u 139 10 = w then wt / 10 else 0) := by rw [if_pos (by omega)]; rw [← es8, up_e]
      refine wl_mono (uc_116_1l (d := d) (s1 := s8) (u := u) (w7 := wt / 10) (wt := wt) E A hT hw hn hwt (by omega) (TXC_f (fun b j a1 a2 => fs b j (by have := isT_b hT; omega) (by have := isT_b hT; omega)) H) (SC_f (fun j => fs _ j (by omega) (by omega)) (fun j => fs _ j (by omega) (by omega)) SCs) (IG_f (fun b j a1 a2 => f12 b j (by omega)) G1) (relF_f R1 (fun b j a1 a2 => f12 b j (by omega)) (fun _ _ _ _ _ _ _ => rfl)) U.1 U.2.1 (by rw [f12 _ _ (by decide), ← es1, passC_10]; omega) (by rw [c12]; by_cases z : u 139 10 = w; rw [if_pos z]; omega; rw [if_neg z]; omega) (fun z => SQF_f (Q1 z) (fun b j hb => fs b j (by omega) (by omega))) nn 0 _ s8 C (by decide) (fun _ _ _ _ => rfl) (by show _ = s8 95 2 + 0; omega)) (fun v1 h1 X => ?_)
      obtain ⟨e1, t, C, ft, ct⟩ := X
      refine ⟨e1, t, C, fun b j a1 a2 => (ft b j (by omega) a2).trans (fs b j a1 a2), ?_⟩
      rw [ct, c12, show (n - 1).toNat = (n - 2).toNat + 1 by omega]
      show _ = s 95 2 + ((if endR cr (flA cr r) 139 10 = w then wt / 10 else 0) + smx (fun x : Nat => dpN cr w (n - 2).toNat (wt / 10) (up (endR cr (flA cr r)) 139 9 (x : Int))) 9)
      rw [eu]
      omega
theorem uc_116_0l {d : Nat} {s1 u : sg_} {w7 : Int} {cd : cds} {cr : crs} {w n wt : Int} (E : eqLaw cd cr) (A : askR (cr 2)) {T : Nat} (hT : isT T) (hw : wp_r w) (hn : 0 ≤ n ∧ n ≤ 3) (hwt : 0 ≤ wt ∧ wt ≤ 1000) (hw7 : 0 ≤ w7 ∧ w7 ≤ 100) (H1 : TXC s1 T cd) (SC1 : SC s1) (G1 : IG s1 98) (R1 : relF s1 u 98 139) (RGu : RG u) (u12 : 0 ≤ u 139 12) (h10 : s1 98 10 ≤ 19001) (hc : 0 ≤ s1 95 2 ∧ s1 95 2 + 11 * w7 ≤ 100000) (Q0 : 1 < n → SQF s1 106 98) (Q1 : 2 < n → SQF s1 114 106) : ∀ (nn y : Nat) (h : mj_H) (t : sg_), CS h t → y ≤ 9 → (∀ (b : Nat) (j : Int), ¬ ((b = 106 ∧ 9 ≤ j ∧ j ≤ 12) ∨ b = 112 ∨ b = 113 ∨ (b = 114 ∧ 9 ≤ j ∧ j ≤ 12) ∨ b = 120 ∨ b = 121) → ¬ (b = 95 ∧ j = 2) → t b j = s1 b j) → t 95 2 = s1 95 2 + smx (fun x : Nat => dpN cr w (n - 1).toNat w7 (up u 139 9 (x : Int))) y → wl_R nn (d + 7) 116 58 [some (.ref 95), some (.ref T), some (wp_i w), some (wp_i n), some (wp_i 0), some (wp_i wt), some (.ref 98), some (wp_i w7), some (wp_i ((y : Int) + 1))] [] h (fun v1 h1 => v1 = none ∧ ∃ t, CS h1 t ∧ (∀ (b : Nat) (j : Int), ¬ ((b = 106 ∧ 9 ≤ j ∧ j ≤ 12) ∨ b = 112 ∨ b = 113 ∨ (b = 114 ∧ 9 ≤ j ∧ j ≤ 12) ∨ b = 120 ∨ b = 121) → ¬ (b = 95 ∧ j = 2) → t b j = s1 b j) ∧ t 95 2 = s1 95 2 + smx (fun x : Nat => dpN cr w (n - 1).toNat w7 (up u 139 9 (x : Int))) 9) := by
  intro nn
  induction nn with
  | zero => intros; exact wl_0
  | succ nn ih =>
    intro y h t C hy ft hs
    have sb := smx_9 (g := fun x : Nat => dpN cr w (n - 1).toNat w7 (up u 139 9 (x : Int))) (B := w7) (by omega) (fun x => dpN_b _ _ _ (by omega)) (n := y) hy
    refine wl_s1 (pc' := 60) ji_116_58 rfl rfl rfl ?_
    refine wl_bp ji_116_60 rfl ?_
    refine wl_icmp (t := 120) ji_116_62 rfl (by omega) (by omega) (fun (hb1 : (9 : Int) < ((y : Int) + 1)) => ?_) (fun (hb1 : ¬ ((9 : Int) < ((y : Int) + 1))) => ?_)
    · exact wl_rv ji_116_120 jr_116 (⟨rfl, t, C, ft, by rw [hs, show y = 9 by omega]⟩)
    · refine wl_s (pc' := 67) ji_116_65 rfl rfl rfl ?_
      refine wl_s (pc' := 68) ji_116_67 rfl rfl rfl ?_
      refine wl_iadd (x := 0) (y := 1) (z := 1) ji_116_68 (by omega) ?_
      refine wl_s (pc' := 70) ji_116_69 rfl rfl rfl ?_
      refine wl_icmp (t := 120) ji_116_70 rfl (by omega) (by omega) (fun (hb2 : (n : Int) ≤ 1) => ?_) (fun (hb2 : ¬ ((n : Int) ≤ 1)) => ?_)
      · exact wl_rv ji_116_120 jr_116 (⟨rfl, t, C, ft, by rw [hs, smx_0 (fun x => by rw [show (n - 1).toNat = 0 by omega]; rfl), smx_0 (fun x => by rw [show (n - 1).toNat = 0 by omega]; rfl)]⟩)
      · refine wl_s (pc' := 74) ji_116_73 rfl rfl rfl ?_
        refine cs_gr (r := 96) (k := 0) C (by decide) sq_95 rfl ji_116_74 jf_116_13 ?_
        refine wl_s (pc' := 79) ji_116_77 rfl rfl rfl ?_
        refine wl_s (pc' := 80) ji_116_79 rfl rfl rfl ?_
        refine wl_iadd (x := 0) (y := 1) (z := 1) ji_116_80 (by omega) ?_
        refine cs_aa (r := 106) (x := 1) C (by decide) sq_96 (by decide) (by decide) (by decide) (by decide) rfl ji_116_81 ?_
        refine wl_s (pc' := 84) ji_116_82 rfl rfl rfl ?_
        obtain ⟨q4, hq4⟩ := cs_c C (by decide) sq_106
        refine wl_vc (d := d + 6) (as := [.ref 106, .ref 98]) (rest := []) ji_116_84 jc_116_57 rfl hq4 jk_107.symm (Nat.le_of_ble_eq_true rfl) rfl (by rw [jn_107]; rfl) (uc_107 (d := d + 6) C isF_106 isF_98 (by decide)) (fun v1 h3 R => ?_)
        obtain ⟨rfl, t2, C, m6, m7, m9, m10, m11, m12, mf⟩ := R
        have FC : FCP s1 t2 98 106 := ⟨⟨by rw [mf _ _ (by omega) (by omega) (by omega), ft _ _ (by omega) (by omega)]; exact (Q0 (by omega)).1.1, by rw [mf _ _ (by omega) (by omega) (by omega), ft _ _ (by omega) (by omega)]; exact (Q0 (by omega)).1.2⟩, fun j a b => by { rw [mf (106 + 1) j (by omega) (by omega) (by omega), mf (106 + 2) j (by omega) (by omega) (by omega), mf (106 + 3) j (by omega) (by omega) (by omega), ft (106 + 1) j (by omega) (by omega), ft (106 + 2) j (by omega) (by omega), ft (106 + 3) j (by omega) (by omega)]; exact (Q0 (by omega)).2.1 j a b }, fun j a b => by { rw [mf (106 + 4) j (by omega) (by omega) (by omega), mf (106 + 5) j (by omega) (by omega) (by omega), ft (106 + 4) j (by omega) (by omega), ft (106 + 5) j (by omega) (by omega)]; exact (Q0 (by omega)).2.2 j a b }, fun j a b => ⟨(m6 j a b).trans (ft _ _ (by omega) (by omega)), (m7 j a b).trans (ft _ _ (by omega) (by omega))⟩, m9.trans (ft _ _ (by omega) (by omega)), m10.trans (ft _ _ (by omega) (by omega)), m11.trans (ft _ _ (by omega) (by omega)), m12.trans (ft _ _ (by omega) (by omega))⟩
        have f2 : ∀ (b : Nat) (j : Int), ¬ ((b = 106 ∧ 9 ≤ j ∧ j ≤ 12) ∨ b = 112 ∨ b = 113 ∨ (b = 114 ∧ 9 ≤ j ∧ j ≤ 12) ∨ b = 120 ∨ b = 121) → ¬ (b = 95 ∧ j = 2) → t2 b j = s1 b j := fun b j a1 a2 => (mf b j (by omega) (by omega) (by omega)).trans (ft b j a1 a2)
        have c2 : t2 95 2 = t 95 2 := mf _ _ (by omega) (by omega) (by omega)
        show wl_R _ _ 116 87 [some (.ref 95), some (.ref T), some (wp_i w), some (wp_i n), some (wp_i 0), some (wp_i wt), some (.ref 98), some (wp_i w7), some (wp_i ((y : Int) + 1))] [] h3 _
        refine wl_s (pc' := 88) ji_116_87 rfl rfl rfl ?_
        refine cs_gr (r := 96) (k := 0) C (by decide) sq_95 rfl ji_116_88 jf_116_13 ?_
        refine wl_s (pc' := 93) ji_116_91 rfl rfl rfl ?_
        refine wl_s (pc' := 94) ji_116_93 rfl rfl rfl ?_
        refine wl_iadd (x := 0) (y := 1) (z := 1) ji_116_94 (by omega) ?_
        refine cs_aa (r := 106) (x := 1) C (by decide) sq_96 (by decide) (by decide) (by decide) (by decide) rfl ji_116_95 ?_
        refine wl_s (pc' := 98) ji_116_96 rfl rfl rfl ?_
        refine cs_pi (k := 9) (kI := 9) (y := (y : Int) + 1) C (by decide) sq_106 rfl rfl ji_116_98 jf_116_47 rfl rfl (by omega) (fun h C => ?_)
        obtain ⟨s5, es5⟩ : ∃ z9_, up t2 106 9 ((y : Int) + 1) = z9_ := ⟨_, rfl⟩
        rw [es5] at C
        refine wl_s (pc' := 102) ji_116_101 rfl rfl rfl ?_
        refine wl_s (pc' := 103) ji_116_102 rfl rfl rfl ?_
        refine wl_s (pc' := 104) ji_116_103 rfl rfl rfl ?_
        refine wl_s (pc' := 105) ji_116_104 rfl rfl rfl ?_
        refine wl_s (pc' := 107) ji_116_105 rfl rfl rfl ?_
        refine wl_s (pc' := 108) ji_116_107 rfl rfl rfl ?_
        refine wl_iadd (x := 0) (y := 1) (z := 1) ji_116_108 (by omega) ?_
        refine wl_s (pc' := 111) ji_116_109 rfl rfl rfl ?_
        have f3 : ∀ (b : Nat) (j : Int), ¬ ((b = 106 ∧ 9 ≤ j ∧ j ≤ 12) ∨ b = 112 ∨ b = 113 ∨ (b = 114 ∧ 9 ≤ j ∧ j ≤ 12) ∨ b = 120 ∨ b = 121) → ¬ (b = 95 ∧ j = 2) → s5 b j = s1 b j := fun b j a1 a2 => by rw [← es5, up_n (by omega)]; exact f2 b j a1 a2
        have R3 := rel_9 (relF_t R1 FC (r1 := u) (R1 := 139) (fun _ _ _ => rfl)) (x := (y : Int) + 1)
        rw [es5] at R3
        have G3 : IG s5 106 := by rw [← es5]; exact IG_9 (IG_t G1 FC) (by omega)
        have c3 : s5 95 2 = t 95 2 := by rw [← es5, up_a (by decide)]; exact c2
        have h3 : s5 106 10 ≤ 19001 := by rw [← es5, up_k (by decide), FC.2.2.2.2.2.1]; exact h10
        obtain ⟨q7, hq7⟩ := cs_c C (by decide) sq_95
        refine wl_vc (d := d + 6) (as := [.ref 95, .ref T, wp_i w, wp_i n, wp_i 1, wp_i w7]) (rest := []) ji_116_111 jc_116_53 rfl hq7 jk_116.symm (Nat.le_of_ble_eq_true rfl) rfl (by rw [jn_116]; rfl) (uc_116_1 (d := d) C E A hT hw hn (wt := w7) (by omega) (TXC_f (fun b j a1 a2 => f3 b j (by have := isT_b hT; omega) (by have := isT_b hT; omega)) H1) (SC_f (fun j => f3 _ j (by omega) (by omega)) (fun j => f3 _ j (by omega) (by omega)) SC1) G3 R3 (RG_9 RGu (by omega)) (by rw [up_k (by decide)]; exact u12) h3 (by omega) (fun z => SQF_f (Q1 (by omega)) (fun b j hb => f3 b j (by omega) (by omega)))) (fun v1 h6 R => ?_)
        obtain ⟨rfl, t4, C, f4, c4⟩ := R
        show wl_R _ _ 116 114 [some (.ref 95), some (.ref T), some (wp_i w), some (wp_i n), some (wp_i 0), some (wp_i wt), some (.ref 98), some (wp_i w7), some (wp_i ((y : Int) + 1))] [] h6 _
        refine wl_iinc (x := (y : Int) + 1) (z := (y : Int) + 1 + 1) (lv' := [some (.ref 95), some (.ref T), some (wp_i w), some (wp_i n), some (wp_i 0), some (wp_i wt), some (.ref 98), some (wp_i w7), some (wp_i ((y : Int) + 1 + 1))]) ji_116_114 rfl (Nat.le_of_ble_eq_true rfl) (by omega) rfl ?_
        refine wl_goto (t := 58) ji_116_117 rfl ?_
        rw [show (y : Int) + 1 + 1 = ((y + 1 : Nat) : Int) + 1 by omega]
        exact ih (y + 1) _ t4 C (by omega) (fun b j a1 a2 => (f4 b j (by omega) a2).trans (f3 b j a1 a2)) (by rw [c4, c3, hs]; show _ = s1 95 2 + (smx (fun x : Nat => dpN cr w (n - 1).toNat w7 (up u 139 9 (x : Int))) y + dpN cr w (n - 1).toNat w7 (up u 139 9 ((y + 1 : Nat) : Int))); rw [show ((y + 1 : Nat) : Int) = (y : Int) + 1 by omega]; omega)
theorem uc_116_0 {nn d : Nat} {h : mj_H} {s r : sg_} (C : CS h s) {cd : cds} {cr : crs} {w n wt : Int} (E : eqLaw cd cr) (A : askR (cr 2)) {T : Nat} (hT : isT T) (hw : wp_r w) (hn : 0 ≤ n ∧ n ≤ 3) (hwt : 0 ≤ wt ∧ wt ≤ 1000) (H : TXC s T cd) (SCs : SC s) (G : IG s 98) (R : relF s r 98 139) (RGr : RG r) (h12 : 0 ≤ r 139 12) (h10 : s 98 10 ≤ 19000) (hc : 0 ≤ s 95 2 ∧ s 95 2 + 2 * wt ≤ 100000) (Q0 : 1 < n → SQF s 106 98) (Q1 : 2 < n → SQF s 114 106) : wl_R nn (d + 7) 116 0 [some (.ref 95), some (.ref T), some (wp_i w), some (wp_i n), some (wp_i 0), some (wp_i wt), none, none, none] [] h (fun v1 h1 => v1 = none ∧ ∃ t, CS h1 t ∧ (∀ (b : Nat) (j : Int), ¬ ((b = 98 ∧ 9 ≤ j ∧ j ≤ 12) ∨ b = 104 ∨ b = 105 ∨ (b = 106 ∧ 9 ≤ j ∧ j ≤ 12) ∨ b = 112 ∨ b = 113 ∨ (b = 114 ∧ 9 ≤ j ∧ j ≤ 12) ∨ b = 120 ∨ b = 121) → ¬ (b = 95 ∧ j = 2) → t b j = s b j) ∧ t 95 2 = s 95 2 + dpN cr w (n - 0).toNat wt r) := by
  obtain ⟨u, eu⟩ : ∃ z9_, endR cr (flA cr r) = z9_ := ⟨_, rfl⟩
  have e8 := R.2.2.2.2.1
  have U := endR_ok (cr := cr) RGr h12 (by omega)
  rw [eu] at U
  refine wl_s (pc' := 2) ji_116_0 rfl rfl rfl ?_
  refine wl_s (pc' := 3) ji_116_2 rfl rfl rfl ?_
  refine wl_icmp (t := 12) ji_116_3 rfl (by omega) (by omega) (fun (hb1 : (n : Int) ≤ 0) => ?_) (fun (hb1 : ¬ ((n : Int) ≤ 0)) => ?_)
  · exact wl_rv ji_116_12 jr_116 (⟨rfl, s, C, fun _ _ _ _ => rfl, by rw [show (n - 0).toNat = 0 by omega]; show _ = s 95 2 + 0; omega⟩)
  · refine wl_s (pc' := 8) ji_116_6 rfl rfl rfl ?_
    refine wl_s (pc' := 9) ji_116_8 rfl rfl rfl ?_
    refine wl_icmp (t := 13) ji_116_9 rfl (by omega) (by omega) (fun (hb2 : (0 : Int) < 3) => ?_) (fun (hb2 : ¬ ((0 : Int) < 3)) => (by exfalso; omega))
    refine wl_s (pc' := 14) ji_116_13 rfl rfl rfl ?_
    refine cs_gr (r := 96) (k := 0) C (by decide) sq_95 rfl ji_116_14 jf_116_13 ?_
    refine wl_s (pc' := 19) ji_116_17 rfl rfl rfl ?_
    refine cs_aa (r := 98) (x := 0) C (by decide) sq_96 (by decide) (by decide) (by decide) (by decide) rfl ji_116_19 ?_
    refine wl_s (pc' := 22) (lv' := [some (.ref 95), some (.ref T), some (wp_i w), some (wp_i n), some (wp_i 0), some (wp_i wt), some (.ref 98), none, none]) ji_116_20 rfl rfl rfl ?_
    refine wl_s (pc' := 24) ji_116_22 rfl rfl rfl ?_
    refine wl_s (pc' := 25) ji_116_24 rfl rfl rfl ?_
    obtain ⟨q4, hq4⟩ := cs_c C (by decide) sq_98
    refine wl_vc (d := d + 6) (as := [.ref 98, .ref T]) (rest := []) ji_116_25 jc_116_40 rfl hq4 jk_63.symm (Nat.le_of_ble_eq_true rfl) rfl (by rw [jn_63]; rfl) (uc_63 (d := d + 2) C hT isF_98 H SCs G) (fun v1 h3 R => ?_)
    obtain ⟨rfl, C⟩ := R
    obtain ⟨s1, es1⟩ : ∃ z9_, passC cd 98 s = z9_ := ⟨_, rfl⟩
    rw [es1] at C
    have q1 : ∀ (b : Nat) (j : Int), ¬ b = 98 → ¬ b = 98 + 6 → ¬ b = 98 + 7 → s1 b j = s b j := fun b j h0 h6 h7 => by rw [← es1]; exact passC_fr h0 h6 h7
    have q0 : ∀ j : Int, ¬ j = 11 → ¬ j = 10 → s1 98 j = s 98 j := fun j h1 h2 => by rw [← es1]; exact passC_0 h1 h2
    have G1 : IG s1 98 := by rw [← es1]; exact passC_IG G (by omega)
    have R1 := pass_eq E A R RGr G h12
    rw [es1, eu] at R1
    have q95 : s1 95 2 = s 95 2 := q1 _ _ (by decide) (by decide) (by decide)
    have r10 : u 139 10 = s1 98 11 := R1.2.2.2.2.2.2.1
    have g11 := G1.1.2.2.2.2.2.2.2.2.1
    show wl_R _ _ 116 28 [some (.ref 95), some (.ref T), some (wp_i w), some (wp_i n), some (wp_i 0), some (wp_i wt), some (.ref 98), none, none] [] h3 _
    refine wl_s (pc' := 30) ji_116_28 rfl rfl rfl ?_
    refine wl_bp ji_116_30 rfl ?_
    refine wl_idiv (x := wt) (y := 10) ji_116_32 (by omega) (by omega) ?_
    refine wl_s (pc' := 35) (lv' := [some (.ref 95), some (.ref T), some (wp_i w), some (wp_i n), some (wp_i 0), some (wp_i wt), some (.ref 98), some (wp_i (wt / 10)), none]) ji_116_33 rfl rfl rfl ?_
    refine wl_s (pc' := 37) ji_116_35 rfl rfl rfl ?_
    refine cs_gi (k := 11) (kI := 11) C (by decide) (by decide) sq_98 rfl rfl ji_116_37 jf_116_50 ?_
    have bd5 : wp_r (s1 98 11) := cs_ri (k := 11) (kI := 11) C (by decide) (by decide) sq_98 rfl rfl (show 11 < 13 by decide)
    refine wl_s (pc' := 41) ji_116_40 rfl rfl rfl ?_
    refine wl_icmp (t := 55) ji_116_41 rfl (by omega) (by omega) (fun (hb6 : ¬ (s1 98 11 : Int) = w) => ?_) (fun (hb6 : ¬ (¬ (s1 98 11 : Int) = w)) => ?_)
    · refine wl_s (pc' := 56) ji_116_55 rfl rfl rfl ?_
      refine wl_s (pc' := 58) (lv' := [some (.ref 95), some (.ref T), some (wp_i w), some (wp_i n), some (wp_i 0), some (wp_i wt), some (.ref 98), some (wp_i (wt / 10)), some (wp_i 1)]) ji_116_56 rfl rfl rfl ?_
      have f12 : ∀ (b : Nat) (j : Int), ¬ (b = 95 ∧ j = 2) → s1 b j = s1 b j := fun b j a1 => rfl
      have fs : ∀ (b : Nat) (j : Int), ¬ ((b = 98 ∧ 9 ≤ j ∧ j ≤ 12) ∨ b = 104 ∨ b = 105 ∨ (b = 106 ∧ 9 ≤ j ∧ j ≤ 12) ∨ b = 112 ∨ b = 113 ∨ (b = 114 ∧ 9 ≤ j ∧ j ≤ 12) ∨ b = 120 ∨ b = 121) → ¬ (b = 95 ∧ j = 2) → s1 b j = s b j := fun b j a1 a2 => (f12 b j a2).trans (by by_cases z : b = 98; subst z; exact q0 j (by omega) (by omega); exact q1 b j z (by omega) (by omega))
      have c12 : s1 95 2 = s 95 2 + (if u 139 10 = w then wt / 10 else 0) := by rw [if_neg (by omega)]; rw [q95]; omega
      refine wl_mono (uc_116_0l (d := d) (s1 := s1) (u := u) (w7 := wt / 10) (wt := wt) E A hT hw hn hwt (by omega) (TXC_f (fun b j a1 a2 => fs b j (by have := isT_b hT; omega) (by have := isT_b hT; omega)) H) (SC_f (fun j => fs _ j (by omega) (by omega)) (fun j => fs _ j (by omega) (by omega)) SCs) (IG_f (fun b j a1 a2 => f12 b j (by omega)) G1) (relF_f R1 (fun b j a1 a2 => f12 b j (by omega)) (fun _ _ _ _ _ _ _ => rfl)) U.1 U.2.1 (by rw [f12 _ _ (by decide), ← es1, passC_10]; omega) (by rw [c12]; by_cases z : u 139 10 = w; rw [if_pos z]; omega; rw [if_neg z]; omega) (fun z => SQF_f (Q0 z) (fun b j hb => fs b j (by omega) (by omega))) (fun z => SQF_f (Q1 z) (fun b j hb => fs b j (by omega) (by omega))) nn 0 _ s1 C (by decide) (fun _ _ _ _ => rfl) (by show _ = s1 95 2 + 0; omega)) (fun v1 h1 X => ?_)
      obtain ⟨e1, t, C, ft, ct⟩ := X
      refine ⟨e1, t, C, fun b j a1 a2 => (ft b j (by omega) a2).trans (fs b j a1 a2), ?_⟩
      rw [ct, c12, show (n - 0).toNat = (n - 1).toNat + 1 by omega]
      show _ = s 95 2 + ((if endR cr (flA cr r) 139 10 = w then wt / 10 else 0) + smx (fun x : Nat => dpN cr w (n - 1).toNat (wt / 10) (up (endR cr (flA cr r)) 139 9 (x : Int))) 9)
      rw [eu]
      omega
    · refine wl_s (pc' := 45) ji_116_44 rfl rfl rfl ?_
      refine wl_s (pc' := 46) ji_116_45 rfl rfl rfl ?_
      refine cs_gi (k := 2) (kI := 2) C (by decide) (by decide) sq_95 rfl rfl ji_116_46 jf_116_21 ?_
      rw [q95]
      have bd7 : wp_r (s 95 2) := q95 ▸ cs_ri (k := 2) (kI := 2) C (by decide) (by decide) sq_95 rfl rfl (show 2 < 3 by decide)
      refine wl_s (pc' := 51) ji_116_49 rfl rfl rfl ?_
      refine wl_iadd (x := s 95 2) (y := wt / 10) (z := s 95 2 + (wt / 10)) ji_116_51 (by omega) ?_
      refine cs_pi (k := 2) (kI := 2) (y := s 95 2 + (wt / 10)) C (by decide) sq_95 rfl rfl ji_116_52 jf_116_21 rfl rfl (by omega) (fun h C => ?_)
      obtain ⟨s8, es8⟩ : ∃ z9_, up s1 95 2 (s 95 2 + (wt / 10)) = z9_ := ⟨_, rfl⟩
      rw [es8] at C
      refine wl_s (pc' := 56) ji_116_55 rfl rfl rfl ?_
      refine wl_s (pc' := 58) (lv' := [some (.ref 95), some (.ref T), some (wp_i w), some (wp_i n), some (wp_i 0), some (wp_i wt), some (.ref 98), some (wp_i (wt / 10)), some (wp_i 1)]) ji_116_56 rfl rfl rfl ?_
      have f12 : ∀ (b : Nat) (j : Int), ¬ (b = 95 ∧ j = 2) → s8 b j = s1 b j := fun b j a1 => by rw [← es8, up_n (by omega)]
      have fs : ∀ (b : Nat) (j : Int), ¬ ((b = 98 ∧ 9 ≤ j ∧ j ≤ 12) ∨ b = 104 ∨ b = 105 ∨ (b = 106 ∧ 9 ≤ j ∧ j ≤ 12) ∨ b = 112 ∨ b = 113 ∨ (b = 114 ∧ 9 ≤ j ∧ j ≤ 12) ∨ b = 120 ∨ b = 121) → ¬ (b = 95 ∧ j = 2) → s8 b j = s b j := fun b j a1 a2 => (f12 b j a2).trans (by by_cases z : b = 98; subst z; exact q0 j (by omega) (by omega); exact q1 b j z (by omega) (by omega))
      have c12 : s8 95 2 = s 95 2 + (if u 139 10 = w then wt / 10 else 0) := by rw [if_pos (by omega)]; rw [← es8, up_e]
      refine wl_mono (uc_116_0l (d := d) (s1 := s8) (u := u) (w7 := wt / 10) (wt := wt) E A hT hw hn hwt (by omega) (TXC_f (fun b j a1 a2 => fs b j (by have := isT_b hT; omega) (by have := isT_b hT; omega)) H) (SC_f (fun j => fs _ j (by omega) (by omega)) (fun j => fs _ j (by omega) (by omega)) SCs) (IG_f (fun b j a1 a2 => f12 b j (by omega)) G1) (relF_f R1 (fun b j a1 a2 => f12 b j (by omega)) (fun _ _ _ _ _ _ _ => rfl)) U.1 U.2.1 (by rw [f12 _ _ (by decide), ← es1, passC_10]; omega) (by rw [c12]; by_cases z : u 139 10 = w; rw [if_pos z]; omega; rw [if_neg z]; omega) (fun z => SQF_f (Q0 z) (fun b j hb => fs b j (by omega) (by omega))) (fun z => SQF_f (Q1 z) (fun b j hb => fs b j (by omega) (by omega))) nn 0 _ s8 C (by decide) (fun _ _ _ _ => rfl) (by show _ = s8 95 2 + 0; omega)) (fun v1 h1 X => ?_)
      obtain ⟨e1, t, C, ft, ct⟩ := X
      refine ⟨e1, t, C, fun b j a1 a2 => (ft b j (by omega) a2).trans (fs b j a1 a2), ?_⟩
      rw [ct, c12, show (n - 0).toNat = (n - 1).toNat + 1 by omega]
      show _ = s 95 2 + ((if endR cr (flA cr r) 139 10 = w then wt / 10 else 0) + smx (fun x : Nat => dpN cr w (n - 1).toNat (wt / 10) (up (endR cr (flA cr r)) 139 9 (x : Int))) 9)
      rw [eu]
      omega
