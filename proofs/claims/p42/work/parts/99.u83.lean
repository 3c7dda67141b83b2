/-! -/
set_option maxRecDepth 100000 in
theorem ji_113_8 : mj_ins 113 8 = some (.iload 4) := by decide +kernel
set_option maxRecDepth 100000 in
theorem ji_113_10 : mj_ins 113 10 = some (.aload_n 0) := by decide +kernel
set_option maxRecDepth 100000 in
theorem ji_113_11 : mj_ins 113 11 = some (.getfield 9) := by decide +kernel
set_option maxRecDepth 100000 in
theorem jf_113_9 : mj_fld 113 9 = some (3, 0, .int, true) := by decide +kernel
set_option maxRecDepth 100000 in
theorem ji_113_14 : mj_ins 113 14 = some (.if_icmp .ge 46) := by decide +kernel
set_option maxRecDepth 100000 in
theorem ji_113_60 : mj_ins 113 60 = some (.iload_n 2) := by decide +kernel
set_option maxRecDepth 100000 in
theorem ji_113_61 : mj_ins 113 61 = some (.ireturn) := by decide +kernel
set_option maxRecDepth 100000 in
theorem jr_113 : mj_ret 113 = some .int := by decide +kernel
set_option maxRecDepth 100000 in
theorem ji_113_17 : mj_ins 113 17 = some (.aload_n 0) := by decide +kernel
set_option maxRecDepth 100000 in
theorem ji_113_18 : mj_ins 113 18 = some (.getfield 25) := by decide +kernel
set_option maxRecDepth 100000 in
theorem jf_113_25 : mj_fld 113 25 = some (3, 4, (.array .int), false) := by decide +kernel
set_option maxRecDepth 100000 in
theorem ji_113_21 : mj_ins 113 21 = some (.iload 4) := by decide +kernel
set_option maxRecDepth 100000 in
theorem ji_113_23 : mj_ins 113 23 = some (.iaload) := by decide +kernel
set_option maxRecDepth 100000 in
theorem ji_113_24 : mj_ins 113 24 = some (.aload_n 0) := by decide +kernel
set_option maxRecDepth 100000 in
theorem ji_113_25 : mj_ins 113 25 = some (.getfield 25) := by decide +kernel
set_option maxRecDepth 100000 in
theorem ji_113_28 : mj_ins 113 28 = some (.iload_n 1) := by decide +kernel
set_option maxRecDepth 100000 in
theorem ji_113_29 : mj_ins 113 29 = some (.iaload) := by decide +kernel
set_option maxRecDepth 100000 in
theorem ji_113_30 : mj_ins 113 30 = some (.isub) := by decide +kernel
set_option maxRecDepth 100000 in
theorem ji_113_31 : mj_ins 113 31 = some (.invokestatic 109) := by decide +kernel
set_option maxRecDepth 100000 in
theorem jc_113_109 : mj_cal 113 109 = some (12, 0, 0) := by decide +kernel
set_option maxRecDepth 100000 in
theorem ji_113_34 : mj_ins 113 34 = some (.istore 5) := by decide +kernel
set_option maxRecDepth 100000 in
theorem ji_113_36 : mj_ins 113 36 = some (.iload 4) := by decide +kernel
set_option maxRecDepth 100000 in
theorem ji_113_38 : mj_ins 113 38 = some (.iload_n 1) := by decide +kernel
set_option maxRecDepth 100000 in
theorem ji_113_39 : mj_ins 113 39 = some (.if_icmp .eq 15) := by decide +kernel
set_option maxRecDepth 100000 in
theorem ji_113_54 : mj_ins 113 54 = some (.iinc 4 1) := by decide +kernel
set_option maxRecDepth 100000 in
theorem ji_113_57 : mj_ins 113 57 = some (.goto (-49)) := by decide +kernel
set_option maxRecDepth 100000 in
theorem ji_113_42 : mj_ins 113 42 = some (.iload 5) := by decide +kernel
set_option maxRecDepth 100000 in
theorem ji_113_44 : mj_ins 113 44 = some (.iload_n 3) := by decide +kernel
set_option maxRecDepth 100000 in
theorem ji_113_45 : mj_ins 113 45 = some (.if_icmp .ge 9) := by decide +kernel
set_option maxRecDepth 100000 in
theorem ji_113_48 : mj_ins 113 48 = some (.iload 5) := by decide +kernel
set_option maxRecDepth 100000 in
theorem ji_113_50 : mj_ins 113 50 = some (.istore_n 3) := by decide +kernel
set_option maxRecDepth 100000 in
theorem ji_113_51 : mj_ins 113 51 = some (.iload 4) := by decide +kernel
set_option maxRecDepth 100000 in
theorem ji_113_53 : mj_ins 113 53 = some (.istore_n 2) := by decide +kernel
set_option maxRecDepth 100000 in
theorem ji_270_19 : mj_ins 270 19 = some (.iload 4) := by decide +kernel
set_option maxRecDepth 100000 in
theorem ji_270_21 : mj_ins 270 21 = some (.aload_n 0) := by decide +kernel
set_option maxRecDepth 100000 in
theorem ji_270_22 : mj_ins 270 22 = some (.getfield 7) := by decide +kernel
set_option maxRecDepth 100000 in
theorem jf_270_7 : mj_fld 270 7 = some (11, 0, (.array .int), false) := by decide +kernel
set_option maxRecDepth 100000 in
theorem ji_270_25 : mj_ins 270 25 = some (.iconst 0) := by decide +kernel
set_option maxRecDepth 100000 in
theorem ji_270_26 : mj_ins 270 26 = some (.iaload) := by decide +kernel
set_option maxRecDepth 100000 in
theorem ji_270_27 : mj_ins 270 27 = some (.if_icmp .ge 59) := by decide +kernel
set_option maxRecDepth 100000 in
theorem ji_270_86 : mj_ins 270 86 = some (.iload_n 2) := by decide +kernel
set_option maxRecDepth 100000 in
theorem ji_270_87 : mj_ins 270 87 = some (.ireturn) := by decide +kernel
set_option maxRecDepth 100000 in
theorem jr_270 : mj_ret 270 = some .int := by decide +kernel
set_option maxRecDepth 100000 in
theorem ji_270_30 : mj_ins 270 30 = some (.aload_n 0) := by decide +kernel
set_option maxRecDepth 100000 in
theorem ji_270_31 : mj_ins 270 31 = some (.iload 4) := by decide +kernel
set_option maxRecDepth 100000 in
theorem ji_270_33 : mj_ins 270 33 = some (.invokevirtual 298) := by decide +kernel
set_option maxRecDepth 100000 in
theorem jc_270_298 : mj_cal 270 298 = some (2, 230, 1) := by decide +kernel
set_option maxRecDepth 100000 in
theorem ji_270_36 : mj_ins 270 36 = some (.aload_n 0) := by decide +kernel
set_option maxRecDepth 100000 in
theorem ji_270_37 : mj_ins 270 37 = some (.iload_n 1) := by decide +kernel
set_option maxRecDepth 100000 in
theorem ji_270_38 : mj_ins 270 38 = some (.invokevirtual 298) := by decide +kernel
set_option maxRecDepth 100000 in
theorem ji_270_41 : mj_ins 270 41 = some (.isub) := by decide +kernel
set_option maxRecDepth 100000 in
theorem ji_270_42 : mj_ins 270 42 = some (.istore 5) := by decide +kernel
set_option maxRecDepth 100000 in
theorem ji_270_44 : mj_ins 270 44 = some (.iload 5) := by decide +kernel
set_option maxRecDepth 100000 in
theorem ji_270_46 : mj_ins 270 46 = some (.ifCond .ge 9) := by decide +kernel
set_option maxRecDepth 100000 in
theorem ji_270_55 : mj_ins 270 55 = some (.iload 5) := by decide +kernel
set_option maxRecDepth 100000 in
theorem ji_270_57 : mj_ins 270 57 = some (.istore 5) := by decide +kernel
set_option maxRecDepth 100000 in
theorem ji_270_59 : mj_ins 270 59 = some (.iload 4) := by decide +kernel
set_option maxRecDepth 100000 in
theorem ji_270_61 : mj_ins 270 61 = some (.iload_n 1) := by decide +kernel
set_option maxRecDepth 100000 in
theorem ji_270_62 : mj_ins 270 62 = some (.if_icmp .eq 18) := by decide +kernel
set_option maxRecDepth 100000 in
theorem ji_270_80 : mj_ins 270 80 = some (.iinc 4 1) := by decide +kernel
set_option maxRecDepth 100000 in
theorem ji_270_83 : mj_ins 270 83 = some (.goto (-64)) := by decide +kernel
set_option maxRecDepth 100000 in
theorem ji_270_65 : mj_ins 270 65 = some (.iload 5) := by decide +kernel
set_option maxRecDepth 100000 in
theorem ji_270_67 : mj_ins 270 67 = some (.iload_n 3) := by decide +kernel
set_option maxRecDepth 100000 in
theorem ji_270_68 : mj_ins 270 68 = some (.if_icmp .lt 6) := by decide +kernel
set_option maxRecDepth 100000 in
theorem ji_270_74 : mj_ins 270 74 = some (.iload 5) := by decide +kernel
set_option maxRecDepth 100000 in
theorem ji_270_76 : mj_ins 270 76 = some (.istore_n 3) := by decide +kernel
set_option maxRecDepth 100000 in
theorem ji_270_77 : mj_ins 270 77 = some (.iload 4) := by decide +kernel
set_option maxRecDepth 100000 in
theorem ji_270_79 : mj_ins 270 79 = some (.istore_n 2) := by decide +kernel
set_option maxRecDepth 100000 in
theorem ji_270_71 : mj_ins 270 71 = some (.goto 9) := by decide +kernel
set_option maxRecDepth 100000 in
theorem ji_270_49 : mj_ins 270 49 = some (.iload 5) := by decide +kernel
set_option maxRecDepth 100000 in
theorem ji_270_51 : mj_ins 270 51 = some (.ineg) := by decide +kernel
set_option maxRecDepth 100000 in
theorem ji_270_52 : mj_ins 270 52 = some (.goto 5) := by decide +kernel
set_option maxRecDepth 100000 in
theorem ji_113_0 : mj_ins 113 0 = some (.iconst (-1)) := by decide +kernel
set_option maxRecDepth 100000 in
theorem ji_113_1 : mj_ins 113 1 = some (.istore_n 2) := by decide +kernel
set_option maxRecDepth 100000 in
theorem ji_113_2 : mj_ins 113 2 = some (.bipush 100) := by decide +kernel
set_option maxRecDepth 100000 in
theorem ji_113_4 : mj_ins 113 4 = some (.istore_n 3) := by decide +kernel
set_option maxRecDepth 100000 in
theorem ji_113_5 : mj_ins 113 5 = some (.iconst 0) := by decide +kernel
set_option maxRecDepth 100000 in
theorem ji_113_6 : mj_ins 113 6 = some (.istore 4) := by decide +kernel
set_option maxRecDepth 100000 in
theorem ji_112_0 : mj_ins 112 0 = some (.aload_n 0) := by decide +kernel
set_option maxRecDepth 100000 in
theorem ji_112_1 : mj_ins 112 1 = some (.getfield 19) := by decide +kernel
set_option maxRecDepth 100000 in
theorem jf_112_19 : mj_fld 112 19 = some (0, 0, (.object "ForestOfPoles$State"), false) := by decide +kernel
set_option maxRecDepth 100000 in
theorem ji_112_4 : mj_ins 112 4 = some (.getfield 49) := by decide +kernel
set_option maxRecDepth 100000 in
theorem jf_112_49 : mj_fld 112 49 = some (2, 0, (.object "ForestOfPoles$Forest"), false) := by decide +kernel
set_option maxRecDepth 100000 in
theorem ji_112_7 : mj_ins 112 7 = some (.iload_n 1) := by decide +kernel
set_option maxRecDepth 100000 in
theorem ji_112_8 : mj_ins 112 8 = some (.invokevirtual 168) := by decide +kernel
set_option maxRecDepth 100000 in
theorem jc_112_168 : mj_cal 112 168 = some (2, 81, 1) := by decide +kernel
set_option maxRecDepth 100000 in
theorem ji_112_11 : mj_ins 112 11 = some (.ifCond .eq 17) := by decide +kernel
set_option maxRecDepth 100000 in
theorem ji_112_28 : mj_ins 112 28 = some (.iconst (-1)) := by decide +kernel
set_option maxRecDepth 100000 in
theorem ji_112_29 : mj_ins 112 29 = some (.ireturn) := by decide +kernel
set_option maxRecDepth 100000 in
theorem jr_112 : mj_ret 112 = some .int := by decide +kernel
set_option maxRecDepth 100000 in
theorem ji_112_14 : mj_ins 112 14 = some (.aload_n 0) := by decide +kernel
set_option maxRecDepth 100000 in
theorem ji_112_15 : mj_ins 112 15 = some (.getfield 19) := by decide +kernel
set_option maxRecDepth 100000 in
theorem ji_112_18 : mj_ins 112 18 = some (.getfield 49) := by decide +kernel
set_option maxRecDepth 100000 in
theorem ji_112_21 : mj_ins 112 21 = some (.iload_n 1) := by decide +kernel
set_option maxRecDepth 100000 in
theorem ji_112_22 : mj_ins 112 22 = some (.invokevirtual 228) := by decide +kernel
set_option maxRecDepth 100000 in
theorem jc_112_228 : mj_cal 112 228 = some (2, 113, 1) := by decide +kernel
set_option maxRecDepth 100000 in
theorem jn_113 : mj_nl 113 = 6 := by decide +kernel
set_option maxRecDepth 100000 in
theorem jk_113 : mj_cls 113 = 3 := by decide +kernel
set_option maxRecDepth 100000 in
theorem ji_112_25 : mj_ins 112 25 = some (.goto 4) := by decide +kernel
set_option maxRecDepth 100000 in
theorem ji_270_0 : mj_ins 270 0 = some (.aload_n 0) := by decide +kernel
set_option maxRecDepth 100000 in
theorem ji_270_1 : mj_ins 270 1 = some (.iload_n 1) := by decide +kernel
set_option maxRecDepth 100000 in
theorem ji_270_2 : mj_ins 270 2 = some (.invokevirtual 348) := by decide +kernel
set_option maxRecDepth 100000 in
theorem jc_270_348 : mj_cal 270 348 = some (2, 248, 1) := by decide +kernel
set_option maxRecDepth 100000 in
theorem ji_270_5 : mj_ins 270 5 = some (.ifCond .ne 5) := by decide +kernel
set_option maxRecDepth 100000 in
theorem ji_270_10 : mj_ins 270 10 = some (.iconst (-1)) := by decide +kernel
set_option maxRecDepth 100000 in
theorem ji_270_11 : mj_ins 270 11 = some (.istore_n 2) := by decide +kernel
set_option maxRecDepth 100000 in
theorem ji_270_12 : mj_ins 270 12 = some (.ldc_w 399) := by decide +kernel
set_option maxRecDepth 100000 in
theorem jcn_270_399 : mj_con 270 399 = some (.int 1000000000) := by decide +kernel
set_option maxRecDepth 100000 in
theorem ji_270_15 : mj_ins 270 15 = some (.istore_n 3) := by decide +kernel
set_option maxRecDepth 100000 in
theorem ji_270_16 : mj_ins 270 16 = some (.iconst 0) := by decide +kernel
set_option maxRecDepth 100000 in
theorem ji_270_17 : mj_ins 270 17 = some (.istore 4) := by decide +kernel
set_option maxRecDepth 100000 in
theorem ji_270_8 : mj_ins 270 8 = some (.iconst (-1)) := by decide +kernel
set_option maxRecDepth 100000 in
theorem ji_270_9 : mj_ins 270 9 = some (.ireturn) := by decide +kernel
/-! nearest, in both; laid by program (wp_u83.py) -/
theorem wl_ineg {nn d m pc : Nat} {lv : mj_L} {st : List Value} {h : mj_H} {Q : Option Value → mj_H → Prop} {x : Int} (hi : mj_ins m pc = some .ineg) (hr : wl_R nn d m (pc + 1) lv (wp_i (-x) :: st) h Q) : wl_R nn d m pc lv (wp_i x :: st) h Q := by
  refine wl_s (pc' := pc + 1) hi rfl rfl rfl ?_
  show wl_R nn d m (pc + 1) lv (.int (-Int32.ofInt x) :: st) h Q
  rw [← Int32.ofInt_neg]
  exact hr
theorem wl_ldw {nn d m pc : Nat} {lv : mj_L} {st : List Value} {h : mj_H} {Q : Option Value → mj_H → Prop} {x : Nat} {n : Int} {z : Int32} (hi : mj_ins m pc = some (.ldc_w x)) (hc : mj_con m x = some (.int z)) (hz : z = Int32.ofInt n) (hr : wl_R nn d m (pc + 3) lv (wp_i n :: st) h Q) : wl_R nn d m pc lv st h Q := by
  subst hz
  refine wl_s (pc' := pc + 3) (lv' := lv) (st' := wp_i n :: st) (h' := h) hi rfl rfl ?_ hr
  simp only [mj_st, hc]
  rfl
/-- the nearest of the first n to place p, and how far; D: farther than all -/
def nrs (g : Int → Int) (p D : Int) : Nat → Int × Int
  | 0 => (-1, D)
  | n + 1 => if ¬ (n : Int) = p ∧ max (g (n : Int) - g p) (-(g (n : Int) - g p)) < (nrs g p D n).2 then ((n : Int), max (g (n : Int) - g p) (-(g (n : Int) - g p))) else nrs g p D n
theorem nrs_c {g k : Int → Int} {p D : Int} (hp : g p = k p) : ∀ n : Nat, (∀ j : Int, 0 ≤ j → j < n → g j = k j) → nrs g p D n = nrs k p D n
  | 0, _ => rfl
  | n + 1, h => by
    show (if ¬ (n : Int) = p ∧ max (g (n : Int) - g p) (-(g (n : Int) - g p)) < (nrs g p D n).2 then ((n : Int), max (g (n : Int) - g p) (-(g (n : Int) - g p))) else nrs g p D n) = (if ¬ (n : Int) = p ∧ max (k (n : Int) - k p) (-(k (n : Int) - k p)) < (nrs k p D n).2 then ((n : Int), max (k (n : Int) - k p) (-(k (n : Int) - k p))) else nrs k p D n)
    rw [nrs_c hp n (fun j a b => h j a (by omega)), h n (by omega) (by omega), hp]
theorem nrs_D {g : Int → Int} {p D E : Int} : ∀ n : Nat, (∀ j : Int, 0 ≤ j → j < n → max (g j - g p) (-(g j - g p)) < D ∧ max (g j - g p) (-(g j - g p)) < E) → (nrs g p D n).1 = (nrs g p E n).1 ∧ (((nrs g p D n).2 = D ∧ (nrs g p E n).2 = E) ∨ (nrs g p D n).2 = (nrs g p E n).2)
  | 0, _ => ⟨rfl, Or.inl ⟨rfl, rfl⟩⟩
  | n + 1, h => by
    have a := nrs_D n (fun j a b => h j a (by omega))
    have b := h n (by omega) (by omega)
    show (if ¬ (n : Int) = p ∧ max (g (n : Int) - g p) (-(g (n : Int) - g p)) < (nrs g p D n).2 then ((n : Int), max (g (n : Int) - g p) (-(g (n : Int) - g p))) else nrs g p D n).1 = (if ¬ (n : Int) = p ∧ max (g (n : Int) - g p) (-(g (n : Int) - g p)) < (nrs g p E n).2 then ((n : Int), max (g (n : Int) - g p) (-(g (n : Int) - g p))) else nrs g p E n).1 ∧ (((if ¬ (n : Int) = p ∧ max (g (n : Int) - g p) (-(g (n : Int) - g p)) < (nrs g p D n).2 then ((n : Int), max (g (n : Int) - g p) (-(g (n : Int) - g p))) else nrs g p D n).2 = D ∧ (if ¬ (n : Int) = p ∧ max (g (n : Int) - g p) (-(g (n : Int) - g p)) < (nrs g p E n).2 then ((n : Int), max (g (n : Int) - g p) (-(g (n : Int) - g p))) else nrs g p E n).2 = E) ∨ (if ¬ (n : Int) = p ∧ max (g (n : Int) - g p) (-(g (n : Int) - g p)) < (nrs g p D n).2 then ((n : Int), max (g (n : Int) - g p) (-(g (n : Int) - g p))) else nrs g p D n).2 = (if ¬ (n : Int) = p ∧ max (g (n : Int) - g p) (-(g (n : Int) - g p)) < (nrs g p E n).2 then ((n : Int), max (g (n : Int) - g p) (-(g (n : Int) - g p))) else nrs g p E n).2)
    obtain ⟨x, hx⟩ : ∃ x, max (g (n : Int) - g p) (-(g (n : Int) - g p)) = x := ⟨_, rfl⟩
    rw [hx] at b ⊢
    by_cases q : (n : Int) = p
    · rw [if_neg (fun z => z.1 q), if_neg (fun z => z.1 q)]
      exact a
    · by_cases c : x < (nrs g p D n).2
      · have c2 : x < (nrs g p E n).2 := by
          rcases a.2 with z | z
          · omega
          · omega
        rw [if_pos ⟨q, c⟩, if_pos ⟨q, c2⟩]
        exact ⟨rfl, Or.inr rfl⟩
      · have c2 : ¬ x < (nrs g p E n).2 := by
          rcases a.2 with z | z
          · omega
          · omega
        rw [if_neg (fun z => c z.2), if_neg (fun z => c2 z.2)]
        exact a
theorem uc_113l {d : Nat} {h : mj_H} {s : sg_} (C : CS h s) (i0 : 0 ≤ s 48 0 ∧ s 48 0 ≤ 8) (hg : ∀ j, 0 ≤ j → j < 8 → 0 ≤ s 51 j ∧ s 51 j ≤ 99) {p : Int} (hp : 0 ≤ p ∧ p < s 48 0) : ∀ (nn i : Nat) (b b0 : Int) (l5 : Option Value), nrs (fun j => s 51 j) p 100 i = (b, b0) → (i : Int) ≤ s 48 0 → (-1 ≤ b ∧ b < 8) → (0 ≤ b0 ∧ b0 ≤ 100) → wl_R nn d 113 8 [some (.ref 48), some (wp_i p), some (wp_i b), some (wp_i b0), some (wp_i ((i : Int))), l5] [] h (fun v1 h1 => h1 = h ∧ v1 = some (wp_i (nrs (fun j => s 51 j) p 100 (s 48 0).toNat).1)) := by
  intro nn
  induction nn with
  | zero => intros; exact wl_0
  | succ nn ih =>
    intro i b b0 l5 hb hi rb rb0
    have gp := hg p (by omega) (by omega)
    refine wl_s1 (pc' := 10) ji_113_8 rfl rfl rfl ?_
    refine wl_s (pc' := 11) ji_113_10 rfl rfl rfl ?_
    refine cs_gi (k := 0) (kI := 0) C (by decide) (by decide) sq_48 rfl rfl ji_113_11 jf_113_9 ?_
    have bd1 : wp_r (s 48 0) := cs_ri (k := 0) (kI := 0) C (by decide) (by decide) sq_48 rfl rfl (show 0 < 13 by decide)
    refine wl_icmp (t := 60) ji_113_14 rfl (by omega) (by omega) (fun (hb2 : (s 48 0 : Int) ≤ ((i : Int))) => ?_) (fun (hb2 : ¬ ((s 48 0 : Int) ≤ ((i : Int)))) => ?_)
    · refine wl_s (pc' := 61) ji_113_60 rfl rfl rfl ?_
      exact wl_ri ji_113_61 jr_113 rfl (⟨rfl, by rw [show (s 48 0).toNat = i by omega, hb]⟩)
    · refine wl_s (pc' := 18) ji_113_17 rfl rfl rfl ?_
      refine cs_gr (r := 51) (k := 4) C (by decide) sq_48 rfl ji_113_18 jf_113_25 ?_
      refine wl_s (pc' := 23) ji_113_21 rfl rfl rfl ?_
      refine cs_l (x := (i : Int)) C (by decide) (by decide) sq_51 (by omega) ji_113_23 (fun ld30 ld31 ld32 => ?_)
      have bd4 := hg (i : Int) (by omega) (by omega)
      refine wl_s (pc' := 25) ji_113_24 rfl rfl rfl ?_
      refine cs_gr (r := 51) (k := 4) C (by decide) sq_48 rfl ji_113_25 jf_113_25 ?_
      refine wl_s (pc' := 29) ji_113_28 rfl rfl rfl ?_
      refine cs_l (x := p) C (by decide) (by decide) sq_51 (by omega) ji_113_29 (fun ld50 ld51 ld52 => ?_)
      have bd6 := gp
      refine wl_isub (x := s 51 ((i : Int))) (y := s 51 p) (z := s 51 ((i : Int)) - (s 51 p)) ji_113_30 (by omega) ?_
      refine wl_ab (a := s 51 ((i : Int)) - (s 51 p)) ji_113_31 jc_113_109 (Nat.le_of_ble_eq_true rfl) (by omega) (fun ab7 hab7 => ?_)
      refine wl_s (pc' := 36) (lv' := [some (.ref 48), some (wp_i p), some (wp_i b), some (wp_i b0), some (wp_i ((i : Int))), some (wp_i ab7)]) ji_113_34 rfl rfl rfl ?_
      refine wl_s (pc' := 38) ji_113_36 rfl rfl rfl ?_
      refine wl_s (pc' := 39) ji_113_38 rfl rfl rfl ?_
      refine wl_icmp (t := 54) ji_113_39 rfl (by omega) (by omega) (fun (hb8 : ((i : Int) : Int) = p) => ?_) (fun (hb8 : ¬ (((i : Int) : Int) = p)) => ?_)
      · refine wl_iinc (x := (i : Int)) (z := (i : Int) + 1) (lv' := [some (.ref 48), some (wp_i p), some (wp_i b), some (wp_i b0), some (wp_i ((i : Int) + 1)), some (wp_i ab7)]) ji_113_54 rfl (Nat.le_of_ble_eq_true rfl) (by omega) rfl ?_
        refine wl_goto (t := 8) ji_113_57 rfl ?_
        have e1 : nrs (fun j => s 51 j) p 100 (i + 1) = (b, b0) := by
          show (if ¬ (i : Int) = p ∧ max (s 51 (i : Int) - s 51 p) (-(s 51 (i : Int) - s 51 p)) < (nrs (fun j => s 51 j) p 100 i).2 then ((i : Int), max (s 51 (i : Int) - s 51 p) (-(s 51 (i : Int) - s 51 p))) else nrs (fun j => s 51 j) p 100 i) = _
          rw [hb, show max (s 51 (i : Int) - s 51 p) (-(s 51 (i : Int) - s 51 p)) = ab7 by omega]
          exact if_neg (fun z => by have := z.1; have : _ < b0 := z.2; omega)
        rw [show (i : Int) + 1 = ((i + 1 : Nat) : Int) by omega]
        exact ih (i + 1) _ _ _ e1 (by omega) (by omega) (by omega)
      · refine wl_s (pc' := 44) ji_113_42 rfl rfl rfl ?_
        refine wl_s (pc' := 45) ji_113_44 rfl rfl rfl ?_
        refine wl_icmp (t := 54) ji_113_45 rfl (by omega) (by omega) (fun (hb9 : (b0 : Int) ≤ ab7) => ?_) (fun (hb9 : ¬ ((b0 : Int) ≤ ab7)) => ?_)
        · refine wl_iinc (x := (i : Int)) (z := (i : Int) + 1) (lv' := [some (.ref 48), some (wp_i p), some (wp_i b), some (wp_i b0), some (wp_i ((i : Int) + 1)), some (wp_i ab7)]) ji_113_54 rfl (Nat.le_of_ble_eq_true rfl) (by omega) rfl ?_
          refine wl_goto (t := 8) ji_113_57 rfl ?_
          have e1 : nrs (fun j => s 51 j) p 100 (i + 1) = (b, b0) := by
            show (if ¬ (i : Int) = p ∧ max (s 51 (i : Int) - s 51 p) (-(s 51 (i : Int) - s 51 p)) < (nrs (fun j => s 51 j) p 100 i).2 then ((i : Int), max (s 51 (i : Int) - s 51 p) (-(s 51 (i : Int) - s 51 p))) else nrs (fun j => s 51 j) p 100 i) = _
            rw [hb, show max (s 51 (i : Int) - s 51 p) (-(s 51 (i : Int) - s 51 p)) = ab7 by omega]
            exact if_neg (fun z => by have := z.1; have : _ < b0 := z.2; omega)
          rw [show (i : Int) + 1 = ((i + 1 : Nat) : Int) by omega]
          exact ih (i + 1) _ _ _ e1 (by omega) (by omega) (by omega)
        · refine wl_s (pc' := 50) ji_113_48 rfl rfl rfl ?_
          refine wl_s (pc' := 51) (lv' := [some (.ref 48), some (wp_i p), some (wp_i b), some (wp_i ab7), some (wp_i ((i : Int))), some (wp_i ab7)]) ji_113_50 rfl rfl rfl ?_
          refine wl_s (pc' := 53) ji_113_51 rfl rfl rfl ?_
          refine wl_s (pc' := 54) (lv' := [some (.ref 48), some (wp_i p), some (wp_i ((i : Int))), some (wp_i ab7), some (wp_i ((i : Int))), some (wp_i ab7)]) ji_113_53 rfl rfl rfl ?_
          refine wl_iinc (x := (i : Int)) (z := (i : Int) + 1) (lv' := [some (.ref 48), some (wp_i p), some (wp_i ((i : Int))), some (wp_i ab7), some (wp_i ((i : Int) + 1)), some (wp_i ab7)]) ji_113_54 rfl (Nat.le_of_ble_eq_true rfl) (by omega) rfl ?_
          refine wl_goto (t := 8) ji_113_57 rfl ?_
          have e1 : nrs (fun j => s 51 j) p 100 (i + 1) = ((i : Int), ab7) := by
            show (if ¬ (i : Int) = p ∧ max (s 51 (i : Int) - s 51 p) (-(s 51 (i : Int) - s 51 p)) < (nrs (fun j => s 51 j) p 100 i).2 then ((i : Int), max (s 51 (i : Int) - s 51 p) (-(s 51 (i : Int) - s 51 p))) else nrs (fun j => s 51 j) p 100 i) = _
            rw [hb, show max (s 51 (i : Int) - s 51 p) (-(s 51 (i : Int) - s 51 p)) = ab7 by omega]
            exact if_pos ⟨by omega, by dsimp only; omega⟩
          rw [show (i : Int) + 1 = ((i + 1 : Nat) : Int) by omega]
          exact ih (i + 1) _ _ _ e1 (by omega) (by omega) (by omega)
theorem uc_270l {d : Nat} {h : mj_H} {s : sg_} (C : CS h s) (i0 : 0 ≤ s 139 0 ∧ s 139 0 ≤ 8) (hg : ∀ j, 0 ≤ j → j < 8 → 0 ≤ s 139 (16 + 3 * j + 1) ∧ s 139 (16 + 3 * j + 1) ≤ 99) {p : Int} (hp : 0 ≤ p ∧ p < s 139 0) : ∀ (nn i : Nat) (b b0 : Int) (l5 : Option Value), nrs (fun j => s 139 (16 + 3 * j + 1)) p 1000000000 i = (b, b0) → (i : Int) ≤ s 139 0 → (-1 ≤ b ∧ b < 8) → (0 ≤ b0 ∧ b0 ≤ 1000000000) → wl_R nn (d + 2) 270 19 [some (.ref 138), some (wp_i p), some (wp_i b), some (wp_i b0), some (wp_i ((i : Int))), l5] [] h (fun v1 h1 => h1 = h ∧ v1 = some (wp_i (nrs (fun j => s 139 (16 + 3 * j + 1)) p 1000000000 (s 139 0).toNat).1)) := by
  intro nn
  induction nn with
  | zero => intros; exact wl_0
  | succ nn ih =>
    intro i b b0 l5 hb hi rb rb0
    have gp := hg p (by omega) (by omega)
    refine wl_s1 (pc' := 21) ji_270_19 rfl rfl rfl ?_
    refine wl_s (pc' := 22) ji_270_21 rfl rfl rfl ?_
    refine cs_gr (r := 139) (k := 0) C (by decide) sq_138 rfl ji_270_22 jf_270_7 ?_
    refine wl_s (pc' := 26) ji_270_25 rfl rfl rfl ?_
    refine cs_l (x := 0) C (by decide) (by decide) sq_139 (by omega) ji_270_26 (fun ld10 ld11 ld12 => ?_)
    refine wl_icmp (t := 86) ji_270_27 rfl (by omega) (by omega) (fun (hb2 : (s 139 0 : Int) ≤ ((i : Int))) => ?_) (fun (hb2 : ¬ ((s 139 0 : Int) ≤ ((i : Int)))) => ?_)
    · refine wl_s (pc' := 87) ji_270_86 rfl rfl rfl ?_
      exact wl_ri ji_270_87 jr_270 rfl (⟨rfl, by rw [show (s 139 0).toNat = i by omega, hb]⟩)
    · refine wl_s (pc' := 31) ji_270_30 rfl rfl rfl ?_
      refine wl_s (pc' := 33) ji_270_31 rfl rfl rfl ?_
      obtain ⟨q4, hq4⟩ := cs_c C (by decide) sq_138
      refine wl_vc (d := d + 1) (as := [.ref 138, wp_i ((i : Int))]) (rest := []) ji_270_33 jc_270_298 rfl hq4 jk_230.symm (Nat.le_of_ble_eq_true rfl) rfl (by rw [jn_230]; rfl) (uc_230 (d := d + 1) C (p := (i : Int)) (by omega)) (fun v1 h3 R => ?_)
      obtain ⟨ee, rfl⟩ := R
      rw [ee]
      clear ee
      show wl_R _ _ 270 36 [some (.ref 138), some (wp_i p), some (wp_i b), some (wp_i b0), some (wp_i ((i : Int))), l5] [wp_i (s 139 (16 + 3 * ((i : Int)) + 1))] _ _
      have gr5 := hg ((i : Int)) (by omega) (by omega)
      refine wl_s (pc' := 37) ji_270_36 rfl rfl rfl ?_
      refine wl_s (pc' := 38) ji_270_37 rfl rfl rfl ?_
      obtain ⟨q7, hq7⟩ := cs_c C (by decide) sq_138
      refine wl_vc (d := d + 1) (as := [.ref 138, wp_i p]) (rest := [wp_i (s 139 (16 + 3 * ((i : Int)) + 1))]) ji_270_38 jc_270_298 rfl hq7 jk_230.symm (Nat.le_of_ble_eq_true rfl) rfl (by rw [jn_230]; rfl) (uc_230 (d := d + 1) C (p := p) (by omega)) (fun v1 h6 R => ?_)
      obtain ⟨ee, rfl⟩ := R
      rw [ee]
      clear ee
      show wl_R _ _ 270 41 [some (.ref 138), some (wp_i p), some (wp_i b), some (wp_i b0), some (wp_i ((i : Int))), l5] [wp_i (s 139 (16 + 3 * p + 1)), wp_i (s 139 (16 + 3 * ((i : Int)) + 1))] _ _
      have gr8 := hg p (by omega) (by omega)
      refine wl_isub (x := s 139 (16 + 3 * ((i : Int)) + 1)) (y := s 139 (16 + 3 * p + 1)) (z := s 139 (16 + 3 * ((i : Int)) + 1) - (s 139 (16 + 3 * p + 1))) ji_270_41 (by omega) ?_
      refine wl_s (pc' := 44) (lv' := [some (.ref 138), some (wp_i p), some (wp_i b), some (wp_i b0), some (wp_i ((i : Int))), some (wp_i (s 139 (16 + 3 * ((i : Int)) + 1) - (s 139 (16 + 3 * p + 1))))]) ji_270_42 rfl rfl rfl ?_
      refine wl_s (pc' := 46) ji_270_44 rfl rfl rfl ?_
      refine wl_if (t := 55) ji_270_46 rfl (by omega) (fun (hb9 : (0 : Int) ≤ (s 139 (16 + 3 * ((i : Int)) + 1) - (s 139 (16 + 3 * p + 1)))) => ?_) (fun (hb9 : ¬ ((0 : Int) ≤ (s 139 (16 + 3 * ((i : Int)) + 1) - (s 139 (16 + 3 * p + 1))))) => ?_)
      · refine wl_s (pc' := 57) ji_270_55 rfl rfl rfl ?_
        refine wl_s (pc' := 59) (lv' := [some (.ref 138), some (wp_i p), some (wp_i b), some (wp_i b0), some (wp_i ((i : Int))), some (wp_i (s 139 (16 + 3 * ((i : Int)) + 1) - (s 139 (16 + 3 * p + 1))))]) ji_270_57 rfl rfl rfl ?_
        refine wl_s (pc' := 61) ji_270_59 rfl rfl rfl ?_
        refine wl_s (pc' := 62) ji_270_61 rfl rfl rfl ?_
        refine wl_icmp (t := 80) ji_270_62 rfl (by omega) (by omega) (fun (hb10 : ((i : Int) : Int) = p) => ?_) (fun (hb10 : ¬ (((i : Int) : Int) = p)) => ?_)
        · refine wl_iinc (x := (i : Int)) (z := (i : Int) + 1) (lv' := [some (.ref 138), some (wp_i p), some (wp_i b), some (wp_i b0), some (wp_i ((i : Int) + 1)), some (wp_i (s 139 (16 + 3 * ((i : Int)) + 1) - (s 139 (16 + 3 * p + 1))))]) ji_270_80 rfl (Nat.le_of_ble_eq_true rfl) (by omega) rfl ?_
          refine wl_goto (t := 19) ji_270_83 rfl ?_
          have e1 : nrs (fun j => s 139 (16 + 3 * j + 1)) p 1000000000 (i + 1) = (b, b0) := by
            show (if ¬ (i : Int) = p ∧ max (s 139 (16 + 3 * (i : Int) + 1) - s 139 (16 + 3 * p + 1)) (-(s 139 (16 + 3 * (i : Int) + 1) - s 139 (16 + 3 * p + 1))) < (nrs (fun j => s 139 (16 + 3 * j + 1)) p 1000000000 i).2 then ((i : Int), max (s 139 (16 + 3 * (i : Int) + 1) - s 139 (16 + 3 * p + 1)) (-(s 139 (16 + 3 * (i : Int) + 1) - s 139 (16 + 3 * p + 1)))) else nrs (fun j => s 139 (16 + 3 * j + 1)) p 1000000000 i) = _
            rw [hb, show max (s 139 (16 + 3 * (i : Int) + 1) - s 139 (16 + 3 * p + 1)) (-(s 139 (16 + 3 * (i : Int) + 1) - s 139 (16 + 3 * p + 1))) = s 139 (16 + 3 * ((i : Int)) + 1) - (s 139 (16 + 3 * p + 1)) by omega]
            exact if_neg (fun z => by have := z.1; have : _ < b0 := z.2; omega)
          rw [show (i : Int) + 1 = ((i + 1 : Nat) : Int) by omega]
          exact ih (i + 1) _ _ _ e1 (by omega) (by omega) (by omega)
        · refine wl_s (pc' := 67) ji_270_65 rfl rfl rfl ?_
          refine wl_s (pc' := 68) ji_270_67 rfl rfl rfl ?_
          refine wl_icmp (t := 74) ji_270_68 rfl (by omega) (by omega) (fun (hb11 : (s 139 (16 + 3 * ((i : Int)) + 1) - (s 139 (16 + 3 * p + 1)) : Int) < b0) => ?_) (fun (hb11 : ¬ ((s 139 (16 + 3 * ((i : Int)) + 1) - (s 139 (16 + 3 * p + 1)) : Int) < b0)) => ?_)
          · refine wl_s (pc' := 76) ji_270_74 rfl rfl rfl ?_
            refine wl_s (pc' := 77) (lv' := [some (.ref 138), some (wp_i p), some (wp_i b), some (wp_i (s 139 (16 + 3 * ((i : Int)) + 1) - (s 139 (16 + 3 * p + 1)))), some (wp_i ((i : Int))), some (wp_i (s 139 (16 + 3 * ((i : Int)) + 1) - (s 139 (16 + 3 * p + 1))))]) ji_270_76 rfl rfl rfl ?_
            refine wl_s (pc' := 79) ji_270_77 rfl rfl rfl ?_
            refine wl_s (pc' := 80) (lv' := [some (.ref 138), some (wp_i p), some (wp_i ((i : Int))), some (wp_i (s 139 (16 + 3 * ((i : Int)) + 1) - (s 139 (16 + 3 * p + 1)))), some (wp_i ((i : Int))), some (wp_i (s 139 (16 + 3 * ((i : Int)) + 1) - (s 139 (16 + 3 * p + 1))))]) ji_270_79 rfl rfl rfl ?_
            refine wl_iinc (x := (i : Int)) (z := (i : Int) + 1) (lv' := [some (.ref 138), some (wp_i p), some (wp_i ((i : Int))), some (wp_i (s 139 (16 + 3 * ((i : Int)) + 1) - (s 139 (16 + 3 * p + 1)))), some (wp_i ((i : Int) + 1)), some (wp_i (s 139 (16 + 3 * ((i : Int)) + 1) - (s 139 (16 + 3 * p + 1))))]) ji_270_80 rfl (Nat.le_of_ble_eq_true rfl) (by omega) rfl ?_
            refine wl_goto (t := 19) ji_270_83 rfl ?_
            have e1 : nrs (fun j => s 139 (16 + 3 * j + 1)) p 1000000000 (i + 1) = ((i : Int), s 139 (16 + 3 * ((i : Int)) + 1) - (s 139 (16 + 3 * p + 1))) := by
              show (if ¬ (i : Int) = p ∧ max (s 139 (16 + 3 * (i : Int) + 1) - s 139 (16 + 3 * p + 1)) (-(s 139 (16 + 3 * (i : Int) + 1) - s 139 (16 + 3 * p + 1))) < (nrs (fun j => s 139 (16 + 3 * j + 1)) p 1000000000 i).2 then ((i : Int), max (s 139 (16 + 3 * (i : Int) + 1) - s 139 (16 + 3 * p + 1)) (-(s 139 (16 + 3 * (i : Int) + 1) - s 139 (16 + 3 * p + 1)))) else nrs (fun j => s 139 (16 + 3 * j + 1)) p 1000000000 i) = _
              rw [hb, show max (s 139 (16 + 3 * (i : Int) + 1) - s 139 (16 + 3 * p + 1)) (-(s 139 (16 + 3 * (i : Int) + 1) - s 139 (16 + 3 * p + 1))) = s 139 (16 + 3 * ((i : Int)) + 1) - (s 139 (16 + 3 * p + 1)) by omega]
              exact if_pos ⟨by omega, by dsimp only; omega⟩
            rw [show (i : Int) + 1 = ((i + 1 : Nat) : Int) by omega]
            exact ih (i + 1) _ _ _ e1 (by omega) (by omega) (by omega)
          · refine wl_goto (t := 80) ji_270_71 rfl ?_
            refine wl_iinc (x := (i : Int)) (z := (i : Int) + 1) (lv' := [some (.ref 138), some (wp_i p), some (wp_i b), some (wp_i b0), some (wp_i ((i : Int) + 1)), some (wp_i (s 139 (16 + 3 * ((i : Int)) + 1) - (s 139 (16 + 3 * p + 1))))]) ji_270_80 rfl (Nat.le_of_ble_eq_true rfl) (by omega) rfl ?_
            refine wl_goto (t := 19) ji_270_83 rfl ?_
            have e1 : nrs (fun j => s 139 (16 + 3 * j + 1)) p 1000000000 (i + 1) = (b, b0) := by
              show (if ¬ (i : Int) = p ∧ max (s 139 (16 + 3 * (i : Int) + 1) - s 139 (16 + 3 * p + 1)) (-(s 139 (16 + 3 * (i : Int) + 1) - s 139 (16 + 3 * p + 1))) < (nrs (fun j => s 139 (16 + 3 * j + 1)) p 1000000000 i).2 then ((i : Int), max (s 139 (16 + 3 * (i : Int) + 1) - s 139 (16 + 3 * p + 1)) (-(s 139 (16 + 3 * (i : Int) + 1) - s 139 (16 + 3 * p + 1)))) else nrs (fun j => s 139 (16 + 3 * j + 1)) p 1000000000 i) = _
              rw [hb, show max (s 139 (16 + 3 * (i : Int) + 1) - s 139 (16 + 3 * p + 1)) (-(s 139 (16 + 3 * (i : Int) + 1) - s 139 (16 + 3 * p + 1))) = s 139 (16 + 3 * ((i : Int)) + 1) - (s 139 (16 + 3 * p + 1)) by omega]
              exact if_neg (fun z => by have := z.1; have : _ < b0 := z.2; omega)
            rw [show (i : Int) + 1 = ((i + 1 : Nat) : Int) by omega]
            exact ih (i + 1) _ _ _ e1 (by omega) (by omega) (by omega)
      · refine wl_s (pc' := 51) ji_270_49 rfl rfl rfl ?_
        refine wl_ineg (x := s 139 (16 + 3 * ((i : Int)) + 1) - (s 139 (16 + 3 * p + 1))) ji_270_51 ?_
        refine wl_goto (t := 57) ji_270_52 rfl ?_
        refine wl_s (pc' := 59) (lv' := [some (.ref 138), some (wp_i p), some (wp_i b), some (wp_i b0), some (wp_i ((i : Int))), some (wp_i (-(s 139 (16 + 3 * ((i : Int)) + 1) - (s 139 (16 + 3 * p + 1)))))]) ji_270_57 rfl rfl rfl ?_
        refine wl_s (pc' := 61) ji_270_59 rfl rfl rfl ?_
        refine wl_s (pc' := 62) ji_270_61 rfl rfl rfl ?_
        refine wl_icmp (t := 80) ji_270_62 rfl (by omega) (by omega) (fun (hb12 : ((i : Int) : Int) = p) => ?_) (fun (hb12 : ¬ (((i : Int) : Int) = p)) => ?_)
        · refine wl_iinc (x := (i : Int)) (z := (i : Int) + 1) (lv' := [some (.ref 138), some (wp_i p), some (wp_i b), some (wp_i b0), some (wp_i ((i : Int) + 1)), some (wp_i (-(s 139 (16 + 3 * ((i : Int)) + 1) - (s 139 (16 + 3 * p + 1)))))]) ji_270_80 rfl (Nat.le_of_ble_eq_true rfl) (by omega) rfl ?_
          refine wl_goto (t := 19) ji_270_83 rfl ?_
          have e1 : nrs (fun j => s 139 (16 + 3 * j + 1)) p 1000000000 (i + 1) = (b, b0) := by
            show (if ¬ (i : Int) = p ∧ max (s 139 (16 + 3 * (i : Int) + 1) - s 139 (16 + 3 * p + 1)) (-(s 139 (16 + 3 * (i : Int) + 1) - s 139 (16 + 3 * p + 1))) < (nrs (fun j => s 139 (16 + 3 * j + 1)) p 1000000000 i).2 then ((i : Int), max (s 139 (16 + 3 * (i : Int) + 1) - s 139 (16 + 3 * p + 1)) (-(s 139 (16 + 3 * (i : Int) + 1) - s 139 (16 + 3 * p + 1)))) else nrs (fun j => s 139 (16 + 3 * j + 1)) p 1000000000 i) = _
            rw [hb, show max (s 139 (16 + 3 * (i : Int) + 1) - s 139 (16 + 3 * p + 1)) (-(s 139 (16 + 3 * (i : Int) + 1) - s 139 (16 + 3 * p + 1))) = -(s 139 (16 + 3 * ((i : Int)) + 1) - (s 139 (16 + 3 * p + 1))) by omega]
            exact if_neg (fun z => by have := z.1; have : _ < b0 := z.2; omega)
          rw [show (i : Int) + 1 = ((i + 1 : Nat) : Int) by omega]
          exact ih (i + 1) _ _ _ e1 (by omega) (by omega) (by omega)
        · refine wl_s (pc' := 67) ji_270_65 rfl rfl rfl ?_
          refine wl_s (pc' := 68) ji_270_67 rfl rfl rfl ?_
          refine wl_icmp (t := 74) ji_270_68 rfl (by omega) (by omega) (fun (hb13 : (-(s 139 (16 + 3 * ((i : Int)) + 1) - (s 139 (16 + 3 * p + 1))) : Int) < b0) => ?_) (fun (hb13 : ¬ ((-(s 139 (16 + 3 * ((i : Int)) + 1) - (s 139 (16 + 3 * p + 1))) : Int) < b0)) => ?_)
          · refine wl_s (pc' := 76) ji_270_74 rfl rfl rfl ?_
            refine wl_s (pc' := 77) (lv' := [some (.ref 138), some (wp_i p), some (wp_i b), some (wp_i (-(s 139 (16 + 3 * ((i : Int)) + 1) - (s 139 (16 + 3 * p + 1))))), some (wp_i ((i : Int))), some (wp_i (-(s 139 (16 + 3 * ((i : Int)) + 1) - (s 139 (16 + 3 * p + 1)))))]) ji_270_76 rfl rfl rfl ?_
            refine wl_s (pc' := 79) ji_270_77 rfl rfl rfl ?_
            refine wl_s (pc' := 80) (lv' := [some (.ref 138), some (wp_i p), some (wp_i ((i : Int))), some (wp_i (-(s 139 (16 + 3 * ((i : Int)) + 1) - (s 139 (16 + 3 * p + 1))))), some (wp_i ((i : Int))), some (wp_i (-(s 139 (16 + 3 * ((i : Int)) + 1) - (s 139 (16 + 3 * p + 1)))))]) ji_270_79 rfl rfl rfl ?_
            refine wl_iinc (x := (i : Int)) (z := (i : Int) + 1) (lv' := [some (.ref 138), some (wp_i p), some (wp_i ((i : Int))), some (wp_i (-(s 139 (16 + 3 * ((i : Int)) + 1) - (s 139 (16 + 3 * p + 1))))), some (wp_i ((i : Int) + 1)), some (wp_i (-(s 139 (16 + 3 * ((i : Int)) + 1) - (s 139 (16 + 3 * p + 1)))))]) ji_270_80 rfl (Nat.le_of_ble_eq_true rfl) (by omega) rfl ?_
            refine wl_goto (t := 19) ji_270_83 rfl ?_
            have e1 : nrs (fun j => s 139 (16 + 3 * j + 1)) p 1000000000 (i + 1) = ((i : Int), -(s 139 (16 + 3 * ((i : Int)) + 1) - (s 139 (16 + 3 * p + 1)))) := by
              show (if ¬ (i : Int) = p ∧ max (s 139 (16 + 3 * (i : Int) + 1) - s 139 (16 + 3 * p + 1)) (-(s 139 (16 + 3 * (i : Int) + 1) - s 139 (16 + 3 * p + 1))) < (nrs (fun j => s 139 (16 + 3 * j + 1)) p 1000000000 i).2 then ((i : Int), max (s 139 (16 + 3 * (i : Int) + 1) - s 139 (16 + 3 * p + 1)) (-(s 139 (16 + 3 * (i : Int) + 1) - s 139 (16 + 3 * p + 1)))) else nrs (fun j => s 139 (16 + 3 * j + 1)) p 1000000000 i) = _
              rw [hb, show max (s 139 (16 + 3 * (i : Int) + 1) - s 139 (16 + 3 * p + 1)) (-(s 139 (16 + 3 * (i : Int) + 1) - s 139 (16 + 3 * p + 1))) = -(s 139 (16 + 3 * ((i : Int)) + 1) - (s 139 (16 + 3 * p + 1))) by omega]
              exact if_pos ⟨by omega, by dsimp only; omega⟩
            rw [show (i : Int) + 1 = ((i + 1 : Nat) : Int) by omega]
            exact ih (i + 1) _ _ _ e1 (by omega) (by omega) (by omega)
          · refine wl_goto (t := 80) ji_270_71 rfl ?_
            refine wl_iinc (x := (i : Int)) (z := (i : Int) + 1) (lv' := [some (.ref 138), some (wp_i p), some (wp_i b), some (wp_i b0), some (wp_i ((i : Int) + 1)), some (wp_i (-(s 139 (16 + 3 * ((i : Int)) + 1) - (s 139 (16 + 3 * p + 1)))))]) ji_270_80 rfl (Nat.le_of_ble_eq_true rfl) (by omega) rfl ?_
            refine wl_goto (t := 19) ji_270_83 rfl ?_
            have e1 : nrs (fun j => s 139 (16 + 3 * j + 1)) p 1000000000 (i + 1) = (b, b0) := by
              show (if ¬ (i : Int) = p ∧ max (s 139 (16 + 3 * (i : Int) + 1) - s 139 (16 + 3 * p + 1)) (-(s 139 (16 + 3 * (i : Int) + 1) - s 139 (16 + 3 * p + 1))) < (nrs (fun j => s 139 (16 + 3 * j + 1)) p 1000000000 i).2 then ((i : Int), max (s 139 (16 + 3 * (i : Int) + 1) - s 139 (16 + 3 * p + 1)) (-(s 139 (16 + 3 * (i : Int) + 1) - s 139 (16 + 3 * p + 1)))) else nrs (fun j => s 139 (16 + 3 * j + 1)) p 1000000000 i) = _
              rw [hb, show max (s 139 (16 + 3 * (i : Int) + 1) - s 139 (16 + 3 * p + 1)) (-(s 139 (16 + 3 * (i : Int) + 1) - s 139 (16 + 3 * p + 1))) = -(s 139 (16 + 3 * ((i : Int)) + 1) - (s 139 (16 + 3 * p + 1))) by omega]
              exact if_neg (fun z => by have := z.1; have : _ < b0 := z.2; omega)
            rw [show (i : Int) + 1 = ((i + 1 : Nat) : Int) by omega]
            exact ih (i + 1) _ _ _ e1 (by omega) (by omega) (by omega)
theorem uc_113 {nn d : Nat} {h : mj_H} {s : sg_} (C : CS h s) (i0 : 0 ≤ s 48 0 ∧ s 48 0 ≤ 8) (hg : ∀ j, 0 ≤ j → j < 8 → 0 ≤ s 51 j ∧ s 51 j ≤ 99) {p : Int} (hp : 0 ≤ p ∧ p < s 48 0) : wl_R nn d 113 0 [some (.ref 48), some (wp_i p), none, none, none, none] [] h (fun v1 h1 => h1 = h ∧ v1 = some (wp_i (nrs (fun j => s 51 j) p 100 (s 48 0).toNat).1)) := by
  refine wl_s (pc' := 1) ji_113_0 rfl rfl rfl ?_
  refine wl_s (pc' := 2) (lv' := [some (.ref 48), some (wp_i p), some (wp_i (-1)), none, none, none]) ji_113_1 rfl rfl rfl ?_
  refine wl_bp ji_113_2 rfl ?_
  refine wl_s (pc' := 5) (lv' := [some (.ref 48), some (wp_i p), some (wp_i (-1)), some (wp_i 100), none, none]) ji_113_4 rfl rfl rfl ?_
  refine wl_s (pc' := 6) ji_113_5 rfl rfl rfl ?_
  refine wl_s (pc' := 8) (lv' := [some (.ref 48), some (wp_i p), some (wp_i (-1)), some (wp_i 100), some (wp_i 0), none]) ji_113_6 rfl rfl rfl ?_
  exact uc_113l C i0 hg hp nn 0 _ _ _ rfl (by omega) (by decide) (by decide)
def neC (s : sg_) (p : Int) : Int := if 0 ≤ p ∧ p < s 48 0 then (nrs (fun j => s 51 j) p 100 (s 48 0).toNat).1 else -1
def neR (s : sg_) (p : Int) : Int := if 0 ≤ p ∧ p < s 139 0 then (nrs (fun j => s 139 (16 + 3 * j + 1)) p 1000000000 (s 139 0).toNat).1 else -1
theorem uc_112 {nn d : Nat} {h : mj_H} {s : sg_} (C : CS h s) (i0 : 0 ≤ s 48 0 ∧ s 48 0 ≤ 8) (hg : ∀ j, 0 ≤ j → j < 8 → 0 ≤ s 51 j ∧ s 51 j ≤ 99) {p : Int} (hp : wp_r p) : wl_R nn (d + 1) 112 0 [some (.ref 9), some (wp_i p)] [] h (fun v1 h1 => h1 = h ∧ v1 = some (wp_i (neC s p))) := by
  refine wl_s (pc' := 1) ji_112_0 rfl rfl rfl ?_
  refine cs_gr (r := 47) (k := 0) C (by decide) sq_9 rfl ji_112_1 jf_112_19 ?_
  refine cs_gr (r := 48) (k := 0) C (by decide) sq_47 rfl ji_112_4 jf_112_49 ?_
  refine wl_s (pc' := 8) ji_112_7 rfl rfl rfl ?_
  obtain ⟨q2, hq2⟩ := cs_c C (by decide) sq_48
  refine wl_vc (d := d) (as := [.ref 48, wp_i p]) (rest := []) ji_112_8 jc_112_168 rfl hq2 jk_81.symm (Nat.le_of_ble_eq_true rfl) rfl (by rw [jn_81]; rfl) (uc_81 (d := d) C isF_48 (p := p) (by omega)) (fun v1 h1 R => ?_)
  obtain ⟨ee, y3, rfl, hy3a, hy3b⟩ := R
  rw [ee]
  clear ee
  show wl_R _ _ 112 11 [some (.ref 9), some (wp_i p)] [wp_i y3] _ _
  refine wl_if (t := 28) ji_112_11 rfl (by omega) (fun (hb4 : (y3 : Int) = 0) => ?_) (fun (hb4 : ¬ ((y3 : Int) = 0)) => ?_)
  · refine wl_s (pc' := 29) ji_112_28 rfl rfl rfl ?_
    exact wl_ri ji_112_29 jr_112 rfl (⟨rfl, congrArg (fun z => some (wp_i z)) (by unfold neC; rw [if_neg (by omega)])⟩)
  · refine wl_s (pc' := 15) ji_112_14 rfl rfl rfl ?_
    refine cs_gr (r := 47) (k := 0) C (by decide) sq_9 rfl ji_112_15 jf_112_19 ?_
    refine cs_gr (r := 48) (k := 0) C (by decide) sq_47 rfl ji_112_18 jf_112_49 ?_
    refine wl_s (pc' := 22) ji_112_21 rfl rfl rfl ?_
    obtain ⟨q6, hq6⟩ := cs_c C (by decide) sq_48
    refine wl_vc (d := d) (as := [.ref 48, wp_i p]) (rest := []) ji_112_22 jc_112_228 rfl hq6 jk_113.symm (Nat.le_of_ble_eq_true rfl) rfl (by rw [jn_113]; rfl) (uc_113 (d := d) C i0 hg (p := p) (by omega)) (fun v1 h5 R => ?_)
    obtain ⟨ee, rfl⟩ := R
    rw [ee]
    clear ee
    show wl_R _ _ 112 25 [some (.ref 9), some (wp_i p)] [wp_i ((nrs (fun j => s 51 j) p 100 (s 48 0).toNat).1)] _ _
    refine wl_goto (t := 29) ji_112_25 rfl ?_
    exact wl_ri ji_112_29 jr_112 rfl (⟨rfl, congrArg (fun z => some (wp_i z)) (by unfold neC; rw [if_pos (by omega)])⟩)
theorem uc_270 {nn d : Nat} {h : mj_H} {s : sg_} (C : CS h s) (i0 : 0 ≤ s 139 0 ∧ s 139 0 ≤ 8) (hg : ∀ j, 0 ≤ j → j < 8 → 0 ≤ s 139 (16 + 3 * j + 1) ∧ s 139 (16 + 3 * j + 1) ≤ 99) {p : Int} (hp : wp_r p) : wl_R nn (d + 2) 270 0 [some (.ref 138), some (wp_i p), none, none, none, none] [] h (fun v1 h1 => h1 = h ∧ v1 = some (wp_i (neR s p))) := by
  refine wl_s (pc' := 1) ji_270_0 rfl rfl rfl ?_
  refine wl_s (pc' := 2) ji_270_1 rfl rfl rfl ?_
  obtain ⟨q2, hq2⟩ := cs_c C (by decide) sq_138
  refine wl_vc (d := d + 1) (as := [.ref 138, wp_i p]) (rest := []) ji_270_2 jc_270_348 rfl hq2 jk_248.symm (Nat.le_of_ble_eq_true rfl) rfl (by rw [jn_248]; rfl) (uc_248 (d := d) C i0 (p := p) hp) (fun v1 h1 R => ?_)
  obtain ⟨ee, y3, rfl, hy3a, hy3b⟩ := R
  rw [ee]
  clear ee
  show wl_R _ _ 270 5 [some (.ref 138), some (wp_i p), none, none, none, none] [wp_i y3] _ _
  refine wl_if (t := 10) ji_270_5 rfl (by omega) (fun (hb4 : ¬ (y3 : Int) = 0) => ?_) (fun (hb4 : ¬ (¬ (y3 : Int) = 0)) => ?_)
  · refine wl_s (pc' := 11) ji_270_10 rfl rfl rfl ?_
    refine wl_s (pc' := 12) (lv' := [some (.ref 138), some (wp_i p), some (wp_i (-1)), none, none, none]) ji_270_11 rfl rfl rfl ?_
    refine wl_ldw (n := 1000000000) ji_270_12 jcn_270_399 (by decide) ?_
    refine wl_s (pc' := 16) (lv' := [some (.ref 138), some (wp_i p), some (wp_i (-1)), some (wp_i 1000000000), none, none]) ji_270_15 rfl rfl rfl ?_
    refine wl_s (pc' := 17) ji_270_16 rfl rfl rfl ?_
    refine wl_s (pc' := 19) (lv' := [some (.ref 138), some (wp_i p), some (wp_i (-1)), some (wp_i 1000000000), some (wp_i 0), none]) ji_270_17 rfl rfl rfl ?_
    have q := uc_270l (d := d) C i0 hg (p := p) (by omega) nn 0 (-1) 1000000000 none rfl (by omega) (by decide) (by decide)
    exact wl_mono q (fun v1 h1 R => ⟨R.1, R.2.trans (congrArg (fun z => some (wp_i z)) (by unfold neR; rw [if_pos (by omega)]))⟩)
  · refine wl_s (pc' := 9) ji_270_8 rfl rfl rfl ?_
    exact wl_ri ji_270_9 jr_270 rfl (⟨rfl, congrArg (fun z => some (wp_i z)) (by unfold neR; rw [if_neg (by omega)])⟩)
theorem eq_nearest {tc : tcs} {tr : Int → crs} {s : sg_} {M : Int} (L : LAWS tc tr s M) {p : Int} : neR s p = neC s p := by
  have H := L.1.1.2.1
  have N := L.1.1.1.1
  have x1 := L.1.1.1.2.2.2.2.2.2.1
  have h0 : s 139 0 = s 48 0 := H.1.1
  have i0 : 0 ≤ s 48 0 ∧ s 48 0 ≤ 8 := N.1.1
  unfold neR neC
  rw [h0]
  by_cases q : 0 ≤ p ∧ p < s 48 0
  · rw [if_pos q, if_pos q]
    have e : ∀ j : Int, 0 ≤ j → j < 8 → s 139 (16 + 3 * j + 1) = s 51 j := fun j a b => (H.2.1 j ⟨a, b⟩).2.1
    have b : ∀ j : Int, 0 ≤ j → j < 8 → 0 ≤ s 51 j ∧ s 51 j ≤ 99 := fun j a b => (x1 j ⟨a, b⟩).2
    rw [nrs_c (g := fun j => s 139 (16 + 3 * j + 1)) (k := fun j => s 51 j) (e p q.1 (by omega)) _ (fun j a d => e j a (by omega))]
    have bp := b p q.1 (by omega)
    exact (nrs_D _ (fun j a d => by have bj := b j a (by omega); show max (s 51 j - s 51 p) (-(s 51 j - s 51 p)) < 1000000000 ∧ max (s 51 j - s 51 p) (-(s 51 j - s 51 p)) < 100; omega)).1
  · rw [if_neg q, if_neg q]
