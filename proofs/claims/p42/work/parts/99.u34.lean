/-! -/
/-! -/
set_option maxRecDepth 100000 in
theorem ji_242_6 : mj_ins 242 6 = some (.iload_n 3) := by decide +kernel
set_option maxRecDepth 100000 in
theorem ji_242_7 : mj_ins 242 7 = some (.aload_n 0) := by decide +kernel
set_option maxRecDepth 100000 in
theorem ji_242_8 : mj_ins 242 8 = some (.getfield 7) := by decide +kernel
set_option maxRecDepth 100000 in
theorem jf_242_7 : mj_fld 242 7 = some (11, 0, (.array .int), false) := by decide +kernel
set_option maxRecDepth 100000 in
theorem ji_242_11 : mj_ins 242 11 = some (.iconst 1) := by decide +kernel
set_option maxRecDepth 100000 in
theorem ji_242_12 : mj_ins 242 12 = some (.iaload) := by decide +kernel
set_option maxRecDepth 100000 in
theorem ji_242_13 : mj_ins 242 13 = some (.if_icmp .ge 102) := by decide +kernel
set_option maxRecDepth 100000 in
theorem ji_242_115 : mj_ins 242 115 = some (.iload_n 1) := by decide +kernel
set_option maxRecDepth 100000 in
theorem ji_242_116 : mj_ins 242 116 = some (.ireturn) := by decide +kernel
set_option maxRecDepth 100000 in
theorem jr_242 : mj_ret 242 = some .int := by decide +kernel
set_option maxRecDepth 100000 in
theorem ji_242_16 : mj_ins 242 16 = some (.aload_n 0) := by decide +kernel
set_option maxRecDepth 100000 in
theorem ji_242_17 : mj_ins 242 17 = some (.getfield 7) := by decide +kernel
set_option maxRecDepth 100000 in
theorem ji_242_20 : mj_ins 242 20 = some (.bipush 9) := by decide +kernel
set_option maxRecDepth 100000 in
theorem ji_242_22 : mj_ins 242 22 = some (.iaload) := by decide +kernel
set_option maxRecDepth 100000 in
theorem ji_242_23 : mj_ins 242 23 = some (.ifCond .eq 92) := by decide +kernel
set_option maxRecDepth 100000 in
theorem ji_242_26 : mj_ins 242 26 = some (.aload_n 0) := by decide +kernel
set_option maxRecDepth 100000 in
theorem ji_242_27 : mj_ins 242 27 = some (.iload_n 3) := by decide +kernel
set_option maxRecDepth 100000 in
theorem ji_242_28 : mj_ins 242 28 = some (.invokevirtual 311) := by decide +kernel
set_option maxRecDepth 100000 in
theorem jc_242_311 : mj_cal 242 311 = some (2, 243, 1) := by decide +kernel
set_option maxRecDepth 100000 in
theorem jn_243 : mj_nl 243 = 4 := by decide +kernel
set_option maxRecDepth 100000 in
theorem jk_243 : mj_cls 243 = 11 := by decide +kernel
set_option maxRecDepth 100000 in
theorem ji_242_31 : mj_ins 242 31 = some (.istore 4) := by decide +kernel
set_option maxRecDepth 100000 in
theorem ji_242_33 : mj_ins 242 33 = some (.iload 4) := by decide +kernel
set_option maxRecDepth 100000 in
theorem ji_242_35 : mj_ins 242 35 = some (.iconst (-1)) := by decide +kernel
set_option maxRecDepth 100000 in
theorem ji_242_36 : mj_ins 242 36 = some (.if_icmp .eq 73) := by decide +kernel
set_option maxRecDepth 100000 in
theorem ji_242_109 : mj_ins 242 109 = some (.iinc 3 1) := by decide +kernel
set_option maxRecDepth 100000 in
theorem ji_242_112 : mj_ins 242 112 = some (.goto (-106)) := by decide +kernel
set_option maxRecDepth 100000 in
theorem ji_242_39 : mj_ins 242 39 = some (.iload 4) := by decide +kernel
set_option maxRecDepth 100000 in
theorem ji_242_41 : mj_ins 242 41 = some (.iload_n 2) := by decide +kernel
set_option maxRecDepth 100000 in
theorem ji_242_42 : mj_ins 242 42 = some (.if_icmp .ge 6) := by decide +kernel
set_option maxRecDepth 100000 in
theorem ji_242_48 : mj_ins 242 48 = some (.iload 4) := by decide +kernel
set_option maxRecDepth 100000 in
theorem ji_242_50 : mj_ins 242 50 = some (.iload_n 2) := by decide +kernel
set_option maxRecDepth 100000 in
theorem ji_242_51 : mj_ins 242 51 = some (.if_icmp .gt 38) := by decide +kernel
set_option maxRecDepth 100000 in
theorem ji_242_89 : mj_ins 242 89 = some (.iconst 1) := by decide +kernel
set_option maxRecDepth 100000 in
theorem ji_242_90 : mj_ins 242 90 = some (.goto 4) := by decide +kernel
set_option maxRecDepth 100000 in
theorem ji_242_94 : mj_ins 242 94 = some (.istore 5) := by decide +kernel
set_option maxRecDepth 100000 in
theorem ji_242_96 : mj_ins 242 96 = some (.iload 5) := by decide +kernel
set_option maxRecDepth 100000 in
theorem ji_242_98 : mj_ins 242 98 = some (.ifCond .ne 6) := by decide +kernel
set_option maxRecDepth 100000 in
theorem ji_242_104 : mj_ins 242 104 = some (.iload_n 3) := by decide +kernel
set_option maxRecDepth 100000 in
theorem ji_242_105 : mj_ins 242 105 = some (.istore_n 1) := by decide +kernel
set_option maxRecDepth 100000 in
theorem ji_242_106 : mj_ins 242 106 = some (.iload 4) := by decide +kernel
set_option maxRecDepth 100000 in
theorem ji_242_108 : mj_ins 242 108 = some (.istore_n 2) := by decide +kernel
set_option maxRecDepth 100000 in
theorem ji_242_54 : mj_ins 242 54 = some (.iload_n 1) := by decide +kernel
set_option maxRecDepth 100000 in
theorem ji_242_55 : mj_ins 242 55 = some (.aload_n 0) := by decide +kernel
set_option maxRecDepth 100000 in
theorem ji_242_56 : mj_ins 242 56 = some (.getfield 7) := by decide +kernel
set_option maxRecDepth 100000 in
theorem ji_242_59 : mj_ins 242 59 = some (.bipush 10) := by decide +kernel
set_option maxRecDepth 100000 in
theorem ji_242_61 : mj_ins 242 61 = some (.iaload) := by decide +kernel
set_option maxRecDepth 100000 in
theorem ji_242_62 : mj_ins 242 62 = some (.if_icmp .eq 31) := by decide +kernel
set_option maxRecDepth 100000 in
theorem ji_242_93 : mj_ins 242 93 = some (.iconst 0) := by decide +kernel
set_option maxRecDepth 100000 in
theorem ji_242_101 : mj_ins 242 101 = some (.goto 8) := by decide +kernel
set_option maxRecDepth 100000 in
theorem ji_242_65 : mj_ins 242 65 = some (.iload_n 3) := by decide +kernel
set_option maxRecDepth 100000 in
theorem ji_242_66 : mj_ins 242 66 = some (.aload_n 0) := by decide +kernel
set_option maxRecDepth 100000 in
theorem ji_242_67 : mj_ins 242 67 = some (.getfield 7) := by decide +kernel
set_option maxRecDepth 100000 in
theorem ji_242_70 : mj_ins 242 70 = some (.bipush 10) := by decide +kernel
set_option maxRecDepth 100000 in
theorem ji_242_72 : mj_ins 242 72 = some (.iaload) := by decide +kernel
set_option maxRecDepth 100000 in
theorem ji_242_73 : mj_ins 242 73 = some (.if_icmp .eq 16) := by decide +kernel
set_option maxRecDepth 100000 in
theorem ji_242_76 : mj_ins 242 76 = some (.aload_n 0) := by decide +kernel
set_option maxRecDepth 100000 in
theorem ji_242_77 : mj_ins 242 77 = some (.iload_n 3) := by decide +kernel
set_option maxRecDepth 100000 in
theorem ji_242_78 : mj_ins 242 78 = some (.invokevirtual 286) := by decide +kernel
set_option maxRecDepth 100000 in
theorem jc_242_286 : mj_cal 242 286 = some (2, 227, 1) := by decide +kernel
set_option maxRecDepth 100000 in
theorem ji_242_81 : mj_ins 242 81 = some (.aload_n 0) := by decide +kernel
set_option maxRecDepth 100000 in
theorem ji_242_82 : mj_ins 242 82 = some (.iload_n 1) := by decide +kernel
set_option maxRecDepth 100000 in
theorem ji_242_83 : mj_ins 242 83 = some (.invokevirtual 286) := by decide +kernel
set_option maxRecDepth 100000 in
theorem ji_242_86 : mj_ins 242 86 = some (.if_icmp .le 7) := by decide +kernel
set_option maxRecDepth 100000 in
theorem ji_242_45 : mj_ins 242 45 = some (.goto 64) := by decide +kernel
set_option maxRecDepth 100000 in
theorem ji_242_0 : mj_ins 242 0 = some (.iconst (-1)) := by decide +kernel
set_option maxRecDepth 100000 in
theorem ji_242_1 : mj_ins 242 1 = some (.istore_n 1) := by decide +kernel
set_option maxRecDepth 100000 in
theorem ji_242_2 : mj_ins 242 2 = some (.iconst (-1)) := by decide +kernel
set_option maxRecDepth 100000 in
theorem ji_242_3 : mj_ins 242 3 = some (.istore_n 2) := by decide +kernel
set_option maxRecDepth 100000 in
theorem ji_242_4 : mj_ins 242 4 = some (.iconst 0) := by decide +kernel
set_option maxRecDepth 100000 in
theorem ji_242_5 : mj_ins 242 5 = some (.istore_n 3) := by decide +kernel
/-! who holds, in the reference; laid by program (wp_u34.py) -/
def hn1 (s : sg_) (cr : crs) (w : Int) (b : Int × Int) : Int × Int :=
  if hgR s cr w (s 139 0).toNat = -1 ∨ hgR s cr w (s 139 0).toNat < b.2 then b
  else if b.2 < hgR s cr w (s 139 0).toNat ∨ (¬ b.1 = s 139 10 ∧ (w = s 139 10 ∨ s 139 (40 + 2 * b.1) < s 139 (40 + 2 * w))) then (w, hgR s cr w (s 139 0).toNat) else b
def hnR (s : sg_) (cr : crs) : Nat → Int × Int
  | 0 => (-1, -1)
  | n + 1 => hn1 s cr n (hnR s cr n)
def holdR (s : sg_) (cr : crs) : Int := if s 139 9 = 0 then -1 else (hnR s cr (s 139 1).toNat).1
theorem hgR_r {s : sg_} {cr : crs} (R9 : RR s cr) {w : Int} (hw : 0 ≤ w ∧ w < 6) : ∀ n : Nat, n ≤ 8 → -1 ≤ hgR s cr w n ∧ hgR s cr w n ≤ 99
  | 0, _ => ⟨Int.le_refl _, (by decide : (-1 : Int) ≤ 99)⟩
  | n + 1, h => by
    have ih := hgR_r R9 hw n (by omega)
    have := R9.h w n hw (by omega)
    show -1 ≤ hg1 s cr w n (hgR s cr w n) ∧ hg1 s cr w n (hgR s cr w n) ≤ 99
    unfold hg1
    split <;> omega
theorem uc_242l {d : Nat} {s : sg_} {cr : crs} (R9 : RR s cr) (h9 : ¬ s 139 9 = 0) : ∀ (nn w : Nat) (best top : Int) (l4 l5 : Option Value) (h : mj_H), CS h s → (w : Int) ≤ s 139 1 → hnR s cr w = (best, top) → (-1 ≤ top ∧ top ≤ 99) → (-1 ≤ best ∧ best < 6 ∧ (best = -1 → top = -1)) → wl_R nn (d + 6) 242 6 [some (.ref 138), some (wp_i best), some (wp_i top), some (wp_i ((w : Int))), l4, l5] [] h (fun v1 h1 => v1 = some (wp_i (holdR s cr)) ∧ CS h1 s) := by
  intro nn
  induction nn with
  | zero => intros; exact wl_0
  | succ nn ih =>
    intro w best top l4 l5 h C hw0 he ht hbt
    have hp1 := R9.p
    have hw1 := R9.w
    refine wl_s1 (pc' := 7) ji_242_6 rfl rfl rfl ?_
    refine wl_s (pc' := 8) ji_242_7 rfl rfl rfl ?_
    refine cs_gr (r := 139) (k := 0) C (by decide) sq_138 rfl ji_242_8 jf_242_7 ?_
    refine wl_s (pc' := 12) ji_242_11 rfl rfl rfl ?_
    refine cs_l (x := 1) C (by decide) (by decide) sq_139 (by omega) ji_242_12 (fun ld10 ld11 ld12 => ?_)
    refine wl_icmp (t := 115) ji_242_13 rfl (by omega) (by omega) (fun (hb2 : (s 139 1 : Int) ≤ ((w : Int))) => ?_) (fun (hb2 : ¬ ((s 139 1 : Int) ≤ ((w : Int)))) => ?_)
    · refine wl_s (pc' := 116) ji_242_115 rfl rfl rfl ?_
      exact wl_ri ji_242_116 jr_242 rfl (⟨by unfold holdR; rw [if_neg h9, show (s 139 1).toNat = w by omega, he], C⟩)
    · refine wl_s (pc' := 17) ji_242_16 rfl rfl rfl ?_
      refine cs_gr (r := 139) (k := 0) C (by decide) sq_138 rfl ji_242_17 jf_242_7 ?_
      refine wl_bp ji_242_20 rfl ?_
      refine cs_l (x := 9) C (by decide) (by decide) sq_139 (by omega) ji_242_22 (fun ld30 ld31 ld32 => ?_)
      refine wl_if (t := 115) ji_242_23 rfl (by omega) (fun (hb4 : (s 139 9 : Int) = 0) => (by exfalso; omega)) (fun (hb4 : ¬ ((s 139 9 : Int) = 0)) => ?_)
      refine wl_s (pc' := 27) ji_242_26 rfl rfl rfl ?_
      refine wl_s (pc' := 28) ji_242_27 rfl rfl rfl ?_
      obtain ⟨q6, hq6⟩ := cs_c C (by decide) sq_138
      refine wl_vc (d := d + 5) (as := [.ref 138, wp_i ((w : Int))]) (rest := []) ji_242_28 jc_242_311 rfl hq6 jk_243.symm (Nat.le_of_ble_eq_true rfl) rfl (by rw [jn_243]; rfl) (uc_243 (d := d) C R9 (w := (w : Int)) (by omega)) (fun v1 h5 R => ?_)
      obtain ⟨rfl, C⟩ := R
      have rH := hgR_r R9 (w := (w : Int)) (by omega) (s 139 0).toNat (by omega)
      obtain ⟨H, eH⟩ : ∃ z9_, hgR s cr (w : Int) (s 139 0).toNat = z9_ := ⟨_, rfl⟩
      rw [eH] at rH ⊢
      show wl_R _ _ 242 31 [some (.ref 138), some (wp_i best), some (wp_i top), some (wp_i ((w : Int))), l4, l5] [wp_i H] h5 _
      refine wl_s (pc' := 33) (lv' := [some (.ref 138), some (wp_i best), some (wp_i top), some (wp_i ((w : Int))), some (wp_i H), l5]) ji_242_31 rfl rfl rfl ?_
      refine wl_s (pc' := 35) ji_242_33 rfl rfl rfl ?_
      refine wl_s (pc' := 36) ji_242_35 rfl rfl rfl ?_
      refine wl_icmp (t := 109) ji_242_36 rfl (by omega) (by omega) (fun (hb7 : (H : Int) = (-1)) => ?_) (fun (hb7 : ¬ ((H : Int) = (-1))) => ?_)
      · refine wl_iinc (x := (w : Int)) (z := (w : Int) + 1) (lv' := [some (.ref 138), some (wp_i best), some (wp_i top), some (wp_i ((w : Int) + 1)), some (wp_i H), l5]) ji_242_109 rfl (Nat.le_of_ble_eq_true rfl) (by omega) rfl ?_
        refine wl_goto (t := 6) ji_242_112 rfl ?_
        rw [show (w : Int) + 1 = ((w + 1 : Nat) : Int) by omega]
        exact ih (w + 1) best top _ _ _ C (by omega) (by show hn1 s cr w (hnR s cr w) = _; rw [he]; unfold hn1; rw [eH, if_pos (Or.inl (by omega))]) (by omega) (by omega)
      · refine wl_s (pc' := 41) ji_242_39 rfl rfl rfl ?_
        refine wl_s (pc' := 42) ji_242_41 rfl rfl rfl ?_
        refine wl_icmp (t := 48) ji_242_42 rfl (by omega) (by omega) (fun (hb8 : (top : Int) ≤ H) => ?_) (fun (hb8 : ¬ ((top : Int) ≤ H)) => ?_)
        · refine wl_s (pc' := 50) ji_242_48 rfl rfl rfl ?_
          refine wl_s (pc' := 51) ji_242_50 rfl rfl rfl ?_
          refine wl_icmp (t := 89) ji_242_51 rfl (by omega) (by omega) (fun (hb9 : (top : Int) < H) => ?_) (fun (hb9 : ¬ ((top : Int) < H)) => ?_)
          · refine wl_s (pc' := 90) ji_242_89 rfl rfl rfl ?_
            refine wl_goto (t := 94) ji_242_90 rfl ?_
            refine wl_s (pc' := 96) (lv' := [some (.ref 138), some (wp_i best), some (wp_i top), some (wp_i ((w : Int))), some (wp_i H), some (wp_i 1)]) ji_242_94 rfl rfl rfl ?_
            refine wl_s (pc' := 98) ji_242_96 rfl rfl rfl ?_
            refine wl_if (t := 104) ji_242_98 rfl (by omega) (fun (hb10 : ¬ (1 : Int) = 0) => ?_) (fun (hb10 : ¬ (¬ (1 : Int) = 0)) => (by exfalso; omega))
            refine wl_s (pc' := 105) ji_242_104 rfl rfl rfl ?_
            refine wl_s (pc' := 106) (lv' := [some (.ref 138), some (wp_i ((w : Int))), some (wp_i top), some (wp_i ((w : Int))), some (wp_i H), some (wp_i 1)]) ji_242_105 rfl rfl rfl ?_
            refine wl_s (pc' := 108) ji_242_106 rfl rfl rfl ?_
            refine wl_s (pc' := 109) (lv' := [some (.ref 138), some (wp_i ((w : Int))), some (wp_i H), some (wp_i ((w : Int))), some (wp_i H), some (wp_i 1)]) ji_242_108 rfl rfl rfl ?_
            refine wl_iinc (x := (w : Int)) (z := (w : Int) + 1) (lv' := [some (.ref 138), some (wp_i ((w : Int))), some (wp_i H), some (wp_i ((w : Int) + 1)), some (wp_i H), some (wp_i 1)]) ji_242_109 rfl (Nat.le_of_ble_eq_true rfl) (by omega) rfl ?_
            refine wl_goto (t := 6) ji_242_112 rfl ?_
            rw [show (w : Int) + 1 = ((w + 1 : Nat) : Int) by omega]
            exact ih (w + 1) (w : Int) H _ _ _ C (by omega) (by show hn1 s cr w (hnR s cr w) = _; rw [he]; unfold hn1; rw [eH, if_neg (fun z => by rcases z with z | z; (omega); (have z : H < top := z; omega)), if_pos (Or.inl (by show top < H; omega))]) (by omega) (by omega)
          · refine wl_s (pc' := 55) ji_242_54 rfl rfl rfl ?_
            refine wl_s (pc' := 56) ji_242_55 rfl rfl rfl ?_
            refine cs_gr (r := 139) (k := 0) C (by decide) sq_138 rfl ji_242_56 jf_242_7 ?_
            refine wl_bp ji_242_59 rfl ?_
            refine cs_l (x := 10) C (by decide) (by decide) sq_139 (by omega) ji_242_61 (fun ld110 ld111 ld112 => ?_)
            refine wl_icmp (t := 93) ji_242_62 rfl (by omega) (by omega) (fun (hb12 : (best : Int) = (s 139 10)) => ?_) (fun (hb12 : ¬ ((best : Int) = (s 139 10))) => ?_)
            · refine wl_s (pc' := 94) ji_242_93 rfl rfl rfl ?_
              refine wl_s (pc' := 96) (lv' := [some (.ref 138), some (wp_i best), some (wp_i top), some (wp_i ((w : Int))), some (wp_i H), some (wp_i 0)]) ji_242_94 rfl rfl rfl ?_
              refine wl_s (pc' := 98) ji_242_96 rfl rfl rfl ?_
              refine wl_if (t := 104) ji_242_98 rfl (by omega) (fun (hb13 : ¬ (0 : Int) = 0) => (by exfalso; omega)) (fun (hb13 : ¬ (¬ (0 : Int) = 0)) => ?_)
              refine wl_goto (t := 109) ji_242_101 rfl ?_
              refine wl_iinc (x := (w : Int)) (z := (w : Int) + 1) (lv' := [some (.ref 138), some (wp_i best), some (wp_i top), some (wp_i ((w : Int) + 1)), some (wp_i H), some (wp_i 0)]) ji_242_109 rfl (Nat.le_of_ble_eq_true rfl) (by omega) rfl ?_
              refine wl_goto (t := 6) ji_242_112 rfl ?_
              rw [show (w : Int) + 1 = ((w + 1 : Nat) : Int) by omega]
              exact ih (w + 1) best top _ _ _ C (by omega) (by show hn1 s cr w (hnR s cr w) = _; rw [he]; unfold hn1; rw [eH, if_neg (fun z => by rcases z with z | z; (omega); (have z : H < top := z; omega)), if_neg (fun z => by rcases z with z | ⟨z, z2⟩; (have z : top < H := z; omega); (have z : ¬ best = s 139 10 := z; have z2 : (w : Int) = s 139 10 ∨ s 139 (40 + 2 * best) < s 139 (40 + 2 * (w : Int)) := z2; omega))]) (by omega) (by omega)
            · refine wl_s (pc' := 66) ji_242_65 rfl rfl rfl ?_
              refine wl_s (pc' := 67) ji_242_66 rfl rfl rfl ?_
              refine cs_gr (r := 139) (k := 0) C (by decide) sq_138 rfl ji_242_67 jf_242_7 ?_
              refine wl_bp ji_242_70 rfl ?_
              refine cs_l (x := 10) C (by decide) (by decide) sq_139 (by omega) ji_242_72 (fun ld140 ld141 ld142 => ?_)
              refine wl_icmp (t := 89) ji_242_73 rfl (by omega) (by omega) (fun (hb15 : ((w : Int) : Int) = (s 139 10)) => ?_) (fun (hb15 : ¬ (((w : Int) : Int) = (s 139 10))) => ?_)
              · refine wl_s (pc' := 90) ji_242_89 rfl rfl rfl ?_
                refine wl_goto (t := 94) ji_242_90 rfl ?_
                refine wl_s (pc' := 96) (lv' := [some (.ref 138), some (wp_i best), some (wp_i top), some (wp_i ((w : Int))), some (wp_i H), some (wp_i 1)]) ji_242_94 rfl rfl rfl ?_
                refine wl_s (pc' := 98) ji_242_96 rfl rfl rfl ?_
                refine wl_if (t := 104) ji_242_98 rfl (by omega) (fun (hb16 : ¬ (1 : Int) = 0) => ?_) (fun (hb16 : ¬ (¬ (1 : Int) = 0)) => (by exfalso; omega))
                refine wl_s (pc' := 105) ji_242_104 rfl rfl rfl ?_
                refine wl_s (pc' := 106) (lv' := [some (.ref 138), some (wp_i ((w : Int))), some (wp_i top), some (wp_i ((w : Int))), some (wp_i H), some (wp_i 1)]) ji_242_105 rfl rfl rfl ?_
                refine wl_s (pc' := 108) ji_242_106 rfl rfl rfl ?_
                refine wl_s (pc' := 109) (lv' := [some (.ref 138), some (wp_i ((w : Int))), some (wp_i H), some (wp_i ((w : Int))), some (wp_i H), some (wp_i 1)]) ji_242_108 rfl rfl rfl ?_
                refine wl_iinc (x := (w : Int)) (z := (w : Int) + 1) (lv' := [some (.ref 138), some (wp_i ((w : Int))), some (wp_i H), some (wp_i ((w : Int) + 1)), some (wp_i H), some (wp_i 1)]) ji_242_109 rfl (Nat.le_of_ble_eq_true rfl) (by omega) rfl ?_
                refine wl_goto (t := 6) ji_242_112 rfl ?_
                rw [show (w : Int) + 1 = ((w + 1 : Nat) : Int) by omega]
                exact ih (w + 1) (w : Int) H _ _ _ C (by omega) (by show hn1 s cr w (hnR s cr w) = _; rw [he]; unfold hn1; rw [eH, if_neg (fun z => by rcases z with z | z; (omega); (have z : H < top := z; omega)), if_pos (Or.inr (by show ¬ best = s 139 10 ∧ ((w : Int) = s 139 10 ∨ s 139 (40 + 2 * best) < s 139 (40 + 2 * (w : Int))); omega))]) (by omega) (by omega)
              · refine wl_s (pc' := 77) ji_242_76 rfl rfl rfl ?_
                refine wl_s (pc' := 78) ji_242_77 rfl rfl rfl ?_
                obtain ⟨q18, hq18⟩ := cs_c C (by decide) sq_138
                refine wl_vc (d := d + 5) (as := [.ref 138, wp_i ((w : Int))]) (rest := []) ji_242_78 jc_242_286 rfl hq18 jk_227.symm (Nat.le_of_ble_eq_true rfl) rfl (by rw [jn_227]; rfl) (uc_227 (d := d + 5) C (w := (w : Int)) (by omega)) (fun v1 h17 R => ?_)
                obtain ⟨ee, rfl⟩ := R
                rw [ee]
                clear ee
                show wl_R _ _ 242 81 [some (.ref 138), some (wp_i best), some (wp_i top), some (wp_i ((w : Int))), some (wp_i H), l5] [wp_i (s 139 (40 + 2 * ((w : Int))))] _ _
                have gr19 : wp_r (s 139 (40 + 2 * ((w : Int)))) := cs_ri (k := (40 + 2 * ((w : Int))).toNat) C (by decide) (by decide) sq_139 (by omega) rfl (by show _ < 0 + 6044; omega)
                refine wl_s (pc' := 82) ji_242_81 rfl rfl rfl ?_
                refine wl_s (pc' := 83) ji_242_82 rfl rfl rfl ?_
                obtain ⟨q21, hq21⟩ := cs_c C (by decide) sq_138
                refine wl_vc (d := d + 5) (as := [.ref 138, wp_i best]) (rest := [wp_i (s 139 (40 + 2 * ((w : Int))))]) ji_242_83 jc_242_286 rfl hq21 jk_227.symm (Nat.le_of_ble_eq_true rfl) rfl (by rw [jn_227]; rfl) (uc_227 (d := d + 5) C (w := best) (by omega)) (fun v1 h20 R => ?_)
                obtain ⟨ee, rfl⟩ := R
                rw [ee]
                clear ee
                show wl_R _ _ 242 86 [some (.ref 138), some (wp_i best), some (wp_i top), some (wp_i ((w : Int))), some (wp_i H), l5] [wp_i (s 139 (40 + 2 * best)), wp_i (s 139 (40 + 2 * ((w : Int))))] _ _
                have gr22 : wp_r (s 139 (40 + 2 * best)) := cs_ri (k := (40 + 2 * best).toNat) C (by decide) (by decide) sq_139 (by omega) rfl (by show _ < 0 + 6044; omega)
                refine wl_icmp (t := 93) ji_242_86 rfl (by omega) (by omega) (fun (hb23 : (s 139 (40 + 2 * ((w : Int))) : Int) ≤ (s 139 (40 + 2 * best))) => ?_) (fun (hb23 : ¬ ((s 139 (40 + 2 * ((w : Int))) : Int) ≤ (s 139 (40 + 2 * best)))) => ?_)
                · refine wl_s (pc' := 94) ji_242_93 rfl rfl rfl ?_
                  refine wl_s (pc' := 96) (lv' := [some (.ref 138), some (wp_i best), some (wp_i top), some (wp_i ((w : Int))), some (wp_i H), some (wp_i 0)]) ji_242_94 rfl rfl rfl ?_
                  refine wl_s (pc' := 98) ji_242_96 rfl rfl rfl ?_
                  refine wl_if (t := 104) ji_242_98 rfl (by omega) (fun (hb24 : ¬ (0 : Int) = 0) => (by exfalso; omega)) (fun (hb24 : ¬ (¬ (0 : Int) = 0)) => ?_)
                  refine wl_goto (t := 109) ji_242_101 rfl ?_
                  refine wl_iinc (x := (w : Int)) (z := (w : Int) + 1) (lv' := [some (.ref 138), some (wp_i best), some (wp_i top), some (wp_i ((w : Int) + 1)), some (wp_i H), some (wp_i 0)]) ji_242_109 rfl (Nat.le_of_ble_eq_true rfl) (by omega) rfl ?_
                  refine wl_goto (t := 6) ji_242_112 rfl ?_
                  rw [show (w : Int) + 1 = ((w + 1 : Nat) : Int) by omega]
                  exact ih (w + 1) best top _ _ _ C (by omega) (by show hn1 s cr w (hnR s cr w) = _; rw [he]; unfold hn1; rw [eH, if_neg (fun z => by rcases z with z | z; (omega); (have z : H < top := z; omega)), if_neg (fun z => by rcases z with z | ⟨z, z2⟩; (have z : top < H := z; omega); (have z : ¬ best = s 139 10 := z; have z2 : (w : Int) = s 139 10 ∨ s 139 (40 + 2 * best) < s 139 (40 + 2 * (w : Int)) := z2; omega))]) (by omega) (by omega)
                · refine wl_s (pc' := 90) ji_242_89 rfl rfl rfl ?_
                  refine wl_goto (t := 94) ji_242_90 rfl ?_
                  refine wl_s (pc' := 96) (lv' := [some (.ref 138), some (wp_i best), some (wp_i top), some (wp_i ((w : Int))), some (wp_i H), some (wp_i 1)]) ji_242_94 rfl rfl rfl ?_
                  refine wl_s (pc' := 98) ji_242_96 rfl rfl rfl ?_
                  refine wl_if (t := 104) ji_242_98 rfl (by omega) (fun (hb25 : ¬ (1 : Int) = 0) => ?_) (fun (hb25 : ¬ (¬ (1 : Int) = 0)) => (by exfalso; omega))
                  refine wl_s (pc' := 105) ji_242_104 rfl rfl rfl ?_
                  refine wl_s (pc' := 106) (lv' := [some (.ref 138), some (wp_i ((w : Int))), some (wp_i top), some (wp_i ((w : Int))), some (wp_i H), some (wp_i 1)]) ji_242_105 rfl rfl rfl ?_
                  refine wl_s (pc' := 108) ji_242_106 rfl rfl rfl ?_
                  refine wl_s (pc' := 109) (lv' := [some (.ref 138), some (wp_i ((w : Int))), some (wp_i H), some (wp_i ((w : Int))), some (wp_i H), some (wp_i 1)]) ji_242_108 rfl rfl rfl ?_
                  refine wl_iinc (x := (w : Int)) (z := (w : Int) + 1) (lv' := [some (.ref 138), some (wp_i ((w : Int))), some (wp_i H), some (wp_i ((w : Int) + 1)), some (wp_i H), some (wp_i 1)]) ji_242_109 rfl (Nat.le_of_ble_eq_true rfl) (by omega) rfl ?_
                  refine wl_goto (t := 6) ji_242_112 rfl ?_
                  rw [show (w : Int) + 1 = ((w + 1 : Nat) : Int) by omega]
                  exact ih (w + 1) (w : Int) H _ _ _ C (by omega) (by show hn1 s cr w (hnR s cr w) = _; rw [he]; unfold hn1; rw [eH, if_neg (fun z => by rcases z with z | z; (omega); (have z : H < top := z; omega)), if_pos (Or.inr (by show ¬ best = s 139 10 ∧ ((w : Int) = s 139 10 ∨ s 139 (40 + 2 * best) < s 139 (40 + 2 * (w : Int))); omega))]) (by omega) (by omega)
        · refine wl_goto (t := 109) ji_242_45 rfl ?_
          refine wl_iinc (x := (w : Int)) (z := (w : Int) + 1) (lv' := [some (.ref 138), some (wp_i best), some (wp_i top), some (wp_i ((w : Int) + 1)), some (wp_i H), l5]) ji_242_109 rfl (Nat.le_of_ble_eq_true rfl) (by omega) rfl ?_
          refine wl_goto (t := 6) ji_242_112 rfl ?_
          rw [show (w : Int) + 1 = ((w + 1 : Nat) : Int) by omega]
          exact ih (w + 1) best top _ _ _ C (by omega) (by show hn1 s cr w (hnR s cr w) = _; rw [he]; unfold hn1; rw [eH, if_pos (Or.inr (by show H < top; omega))]) (by omega) (by omega)
theorem uc_242 {nn d : Nat} {h : mj_H} {s : sg_} (C : CS h s) {cr : crs} (R9 : RR s cr) : wl_R nn (d + 6) 242 0 [some (.ref 138), none, none, none, none, none] [] h (fun v1 h1 => v1 = some (wp_i (holdR s cr)) ∧ CS h1 s) := by
  by_cases h9 : s 139 9 = 0
  · skip
    refine wl_s (pc' := 1) ji_242_0 rfl rfl rfl ?_
    refine wl_s (pc' := 2) (lv' := [some (.ref 138), some (wp_i (-1)), none, none, none, none]) ji_242_1 rfl rfl rfl ?_
    refine wl_s (pc' := 3) ji_242_2 rfl rfl rfl ?_
    refine wl_s (pc' := 4) (lv' := [some (.ref 138), some (wp_i (-1)), some (wp_i (-1)), none, none, none]) ji_242_3 rfl rfl rfl ?_
    refine wl_s (pc' := 5) ji_242_4 rfl rfl rfl ?_
    refine wl_s (pc' := 6) (lv' := [some (.ref 138), some (wp_i (-1)), some (wp_i (-1)), some (wp_i 0), none, none]) ji_242_5 rfl rfl rfl ?_
    refine wl_s (pc' := 7) ji_242_6 rfl rfl rfl ?_
    refine wl_s (pc' := 8) ji_242_7 rfl rfl rfl ?_
    refine cs_gr (r := 139) (k := 0) C (by decide) sq_138 rfl ji_242_8 jf_242_7 ?_
    refine wl_s (pc' := 12) ji_242_11 rfl rfl rfl ?_
    refine cs_l (x := 1) C (by decide) (by decide) sq_139 (by omega) ji_242_12 (fun ld10 ld11 ld12 => ?_)
    refine wl_icmp (t := 115) ji_242_13 rfl (by omega) (by omega) (fun (hb2 : (s 139 1 : Int) ≤ 0) => ?_) (fun (hb2 : ¬ ((s 139 1 : Int) ≤ 0)) => ?_)
    · refine wl_s (pc' := 116) ji_242_115 rfl rfl rfl ?_
      exact wl_ri ji_242_116 jr_242 rfl (⟨by unfold holdR; rw [if_pos h9], C⟩)
    · refine wl_s (pc' := 17) ji_242_16 rfl rfl rfl ?_
      refine cs_gr (r := 139) (k := 0) C (by decide) sq_138 rfl ji_242_17 jf_242_7 ?_
      refine wl_bp ji_242_20 rfl ?_
      refine cs_l (x := 9) C (by decide) (by decide) sq_139 (by omega) ji_242_22 (fun ld30 ld31 ld32 => ?_)
      refine wl_if (t := 115) ji_242_23 rfl (by omega) (fun (hb4 : (s 139 9 : Int) = 0) => ?_) (fun (hb4 : ¬ ((s 139 9 : Int) = 0)) => (by exfalso; omega))
      refine wl_s (pc' := 116) ji_242_115 rfl rfl rfl ?_
      exact wl_ri ji_242_116 jr_242 rfl (⟨by unfold holdR; rw [if_pos h9], C⟩)
  · refine wl_s (pc' := 1) ji_242_0 rfl rfl rfl ?_
    refine wl_s (pc' := 2) (lv' := [some (.ref 138), some (wp_i (-1)), none, none, none, none]) ji_242_1 rfl rfl rfl ?_
    refine wl_s (pc' := 3) ji_242_2 rfl rfl rfl ?_
    refine wl_s (pc' := 4) (lv' := [some (.ref 138), some (wp_i (-1)), some (wp_i (-1)), none, none, none]) ji_242_3 rfl rfl rfl ?_
    refine wl_s (pc' := 5) ji_242_4 rfl rfl rfl ?_
    refine wl_s (pc' := 6) (lv' := [some (.ref 138), some (wp_i (-1)), some (wp_i (-1)), some (wp_i 0), none, none]) ji_242_5 rfl rfl rfl ?_
    exact uc_242l R9 h9 nn 0 (-1) (-1) none none h C (by have := R9.w; omega) rfl (by omega) (by omega)
