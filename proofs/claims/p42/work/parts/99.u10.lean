/-! -/
/-! -/
set_option maxRecDepth 100000 in
theorem ji_72_28 : mj_ins 72 28 = some (.iload 5) := by decide +kernel
set_option maxRecDepth 100000 in
theorem ji_72_30 : mj_ins 72 30 = some (.aload_n 0) := by decide +kernel
set_option maxRecDepth 100000 in
theorem ji_72_31 : mj_ins 72 31 = some (.getfield 15) := by decide +kernel
set_option maxRecDepth 100000 in
theorem jf_72_15 : mj_fld 72 15 = some (3, 1, .int, true) := by decide +kernel
set_option maxRecDepth 100000 in
theorem ji_72_34 : mj_ins 72 34 = some (.if_icmp .ge 74) := by decide +kernel
set_option maxRecDepth 100000 in
theorem ji_72_108 : mj_ins 72 108 = some (.iinc 4 1) := by decide +kernel
set_option maxRecDepth 100000 in
theorem ji_72_111 : mj_ins 72 111 = some (.goto (-95)) := by decide +kernel
set_option maxRecDepth 100000 in
theorem ji_72_16 : mj_ins 72 16 = some (.iload 4) := by decide +kernel
set_option maxRecDepth 100000 in
theorem ji_72_18 : mj_ins 72 18 = some (.aload_n 0) := by decide +kernel
set_option maxRecDepth 100000 in
theorem ji_72_19 : mj_ins 72 19 = some (.getfield 9) := by decide +kernel
set_option maxRecDepth 100000 in
theorem jf_72_9 : mj_fld 72 9 = some (3, 0, .int, true) := by decide +kernel
set_option maxRecDepth 100000 in
theorem ji_72_22 : mj_ins 72 22 = some (.if_icmp .ge 92) := by decide +kernel
set_option maxRecDepth 100000 in
theorem ji_72_114 : mj_ins 72 114 = some (.iload_n 2) := by decide +kernel
set_option maxRecDepth 100000 in
theorem ji_72_115 : mj_ins 72 115 = some (.ireturn) := by decide +kernel
set_option maxRecDepth 100000 in
theorem jr_72 : mj_ret 72 = some .int := by decide +kernel
set_option maxRecDepth 100000 in
theorem ji_72_25 : mj_ins 72 25 = some (.iconst 0) := by decide +kernel
set_option maxRecDepth 100000 in
theorem ji_72_26 : mj_ins 72 26 = some (.istore 5) := by decide +kernel
set_option maxRecDepth 100000 in
theorem ji_72_37 : mj_ins 72 37 = some (.aload_n 0) := by decide +kernel
set_option maxRecDepth 100000 in
theorem ji_72_38 : mj_ins 72 38 = some (.getfield 34) := by decide +kernel
set_option maxRecDepth 100000 in
theorem jf_72_34 : mj_fld 72 34 = some (3, 7, (.array .int), false) := by decide +kernel
set_option maxRecDepth 100000 in
theorem ji_72_41 : mj_ins 72 41 = some (.iload 4) := by decide +kernel
set_option maxRecDepth 100000 in
theorem ji_72_43 : mj_ins 72 43 = some (.bipush 6) := by decide +kernel
set_option maxRecDepth 100000 in
theorem ji_72_45 : mj_ins 72 45 = some (.imul) := by decide +kernel
set_option maxRecDepth 100000 in
theorem ji_72_46 : mj_ins 72 46 = some (.iload 5) := by decide +kernel
set_option maxRecDepth 100000 in
theorem ji_72_48 : mj_ins 72 48 = some (.iadd) := by decide +kernel
set_option maxRecDepth 100000 in
theorem ji_72_49 : mj_ins 72 49 = some (.iaload) := by decide +kernel
set_option maxRecDepth 100000 in
theorem ji_72_50 : mj_ins 72 50 = some (.istore 6) := by decide +kernel
set_option maxRecDepth 100000 in
theorem ji_72_52 : mj_ins 72 52 = some (.iload 6) := by decide +kernel
set_option maxRecDepth 100000 in
theorem ji_72_54 : mj_ins 72 54 = some (.iconst (-1)) := by decide +kernel
set_option maxRecDepth 100000 in
theorem ji_72_55 : mj_ins 72 55 = some (.if_icmp .eq 47) := by decide +kernel
set_option maxRecDepth 100000 in
theorem ji_72_102 : mj_ins 72 102 = some (.iinc 5 1) := by decide +kernel
set_option maxRecDepth 100000 in
theorem ji_72_105 : mj_ins 72 105 = some (.goto (-77)) := by decide +kernel
set_option maxRecDepth 100000 in
theorem ji_72_58 : mj_ins 72 58 = some (.iload 6) := by decide +kernel
set_option maxRecDepth 100000 in
theorem ji_72_60 : mj_ins 72 60 = some (.iload_n 3) := by decide +kernel
set_option maxRecDepth 100000 in
theorem ji_72_61 : mj_ins 72 61 = some (.if_icmp .lt 41) := by decide +kernel
set_option maxRecDepth 100000 in
theorem ji_72_64 : mj_ins 72 64 = some (.aload_n 1) := by decide +kernel
set_option maxRecDepth 100000 in
theorem ji_72_65 : mj_ins 72 65 = some (.iconst 2) := by decide +kernel
set_option maxRecDepth 100000 in
theorem ji_72_66 : mj_ins 72 66 = some (.aload_n 0) := by decide +kernel
set_option maxRecDepth 100000 in
theorem ji_72_67 : mj_ins 72 67 = some (.iload 4) := by decide +kernel
set_option maxRecDepth 100000 in
theorem ji_72_69 : mj_ins 72 69 = some (.iload 5) := by decide +kernel
set_option maxRecDepth 100000 in
theorem ji_72_71 : mj_ins 72 71 = some (.invokevirtual 91) := by decide +kernel
set_option maxRecDepth 100000 in
theorem jc_72_91 : mj_cal 72 91 = some (2, 64, 4) := by decide +kernel
set_option maxRecDepth 100000 in
theorem jn_64 : mj_nl 64 = 8 := by decide +kernel
set_option maxRecDepth 100000 in
theorem jk_64 : mj_cls 64 = 1 := by decide +kernel
set_option maxRecDepth 100000 in
theorem ji_72_74 : mj_ins 72 74 = some (.ifCond .ne 6) := by decide +kernel
set_option maxRecDepth 100000 in
theorem ji_72_80 : mj_ins 72 80 = some (.iload 6) := by decide +kernel
set_option maxRecDepth 100000 in
theorem ji_72_82 : mj_ins 72 82 = some (.iload_n 3) := by decide +kernel
set_option maxRecDepth 100000 in
theorem ji_72_83 : mj_ins 72 83 = some (.if_icmp .gt 13) := by decide +kernel
set_option maxRecDepth 100000 in
theorem ji_72_96 : mj_ins 72 96 = some (.iload 5) := by decide +kernel
set_option maxRecDepth 100000 in
theorem ji_72_98 : mj_ins 72 98 = some (.istore_n 2) := by decide +kernel
set_option maxRecDepth 100000 in
theorem ji_72_99 : mj_ins 72 99 = some (.iload 6) := by decide +kernel
set_option maxRecDepth 100000 in
theorem ji_72_101 : mj_ins 72 101 = some (.istore_n 3) := by decide +kernel
set_option maxRecDepth 100000 in
theorem ji_72_86 : mj_ins 72 86 = some (.aload_n 0) := by decide +kernel
set_option maxRecDepth 100000 in
theorem ji_72_87 : mj_ins 72 87 = some (.iload 5) := by decide +kernel
set_option maxRecDepth 100000 in
theorem ji_72_89 : mj_ins 72 89 = some (.iload_n 2) := by decide +kernel
set_option maxRecDepth 100000 in
theorem ji_72_90 : mj_ins 72 90 = some (.invokevirtual 105) := by decide +kernel
set_option maxRecDepth 100000 in
theorem jc_72_105 : mj_cal 72 105 = some (2, 73, 2) := by decide +kernel
set_option maxRecDepth 100000 in
theorem jn_73 : mj_nl 73 = 3 := by decide +kernel
set_option maxRecDepth 100000 in
theorem jk_73 : mj_cls 73 = 3 := by decide +kernel
set_option maxRecDepth 100000 in
theorem ji_72_93 : mj_ins 72 93 = some (.ifCond .eq 6) := by decide +kernel
set_option maxRecDepth 100000 in
theorem ji_72_77 : mj_ins 72 77 = some (.goto 25) := by decide +kernel
set_option maxRecDepth 100000 in
theorem ji_72_0 : mj_ins 72 0 = some (.aload_n 0) := by decide +kernel
set_option maxRecDepth 100000 in
theorem ji_72_1 : mj_ins 72 1 = some (.getfield 40) := by decide +kernel
set_option maxRecDepth 100000 in
theorem jf_72_40 : mj_fld 72 40 = some (3, 9, .int, true) := by decide +kernel
set_option maxRecDepth 100000 in
theorem ji_72_4 : mj_ins 72 4 = some (.ifCond .ne 5) := by decide +kernel
set_option maxRecDepth 100000 in
theorem ji_72_9 : mj_ins 72 9 = some (.iconst (-1)) := by decide +kernel
set_option maxRecDepth 100000 in
theorem ji_72_10 : mj_ins 72 10 = some (.istore_n 2) := by decide +kernel
set_option maxRecDepth 100000 in
theorem ji_72_11 : mj_ins 72 11 = some (.iconst (-1)) := by decide +kernel
set_option maxRecDepth 100000 in
theorem ji_72_12 : mj_ins 72 12 = some (.istore_n 3) := by decide +kernel
set_option maxRecDepth 100000 in
theorem ji_72_13 : mj_ins 72 13 = some (.iconst 0) := by decide +kernel
set_option maxRecDepth 100000 in
theorem ji_72_14 : mj_ins 72 14 = some (.istore 4) := by decide +kernel
set_option maxRecDepth 100000 in
theorem ji_72_7 : mj_ins 72 7 = some (.iconst (-1)) := by decide +kernel
set_option maxRecDepth 100000 in
theorem ji_72_8 : mj_ins 72 8 = some (.ireturn) := by decide +kernel
/-! who would hold, in the class; laid by program (wp_u10.py) -/
abbrev ahC (s : sg_) (F : Nat) (w z : Int) : Prop := w = s F 11 ∨ (¬ z = s F 11 ∧ (z < 0 ∨ s (F + 4) z < s (F + 4) w ∨ (s (F + 4) z = s (F + 4) w ∧ w < z)))
def hr1 (cd : cds) (s : sg_) (F : Nat) (p w : Int) (b : Int × Int) : Int × Int := if s (F + 6) (p * 6 + w) = -1 ∨ s (F + 6) (p * 6 + w) < b.2 ∨ sayC cd s F p w 2 = 0 then b else (if b.2 < s (F + 6) (p * 6 + w) ∨ ahC s F w b.1 then w else b.1, s (F + 6) (p * 6 + w))
def hrW (cd : cds) (s : sg_) (F : Nat) (p : Int) : Nat → Int × Int → Int × Int
  | 0, b => b
  | n + 1, b => hr1 cd s F p n (hrW cd s F p n b)
def hrP (cd : cds) (s : sg_) (F q : Nat) : Nat → Int × Int
  | 0 => (-1, -1)
  | m + 1 => hrW cd s F m q (hrP cd s F q m)
def heirC (cd : cds) (s : sg_) (F : Nat) : Int := if s F 9 = 0 then -1 else (hrP cd s F (s F 1).toNat (s F 0).toNat).1
theorem uc_72l {d : Nat} {s : sg_} {T : Nat} (hT : isT T) {F : Nat} (hF : isF F) {cd : cds} (H : TXC s T cd) (H2 : SC s) (I : IF s F) (h9 : ¬ s F 9 = 0) : ∀ (nn p w : Nat) (best top : Int) (l6 : Option Value) (h : mj_H), CS h s → (p : Int) < s F 0 → (w : Int) ≤ s F 1 → hrW cd s F p w (hrP cd s F (s F 1).toNat p) = (best, top) → (-1 ≤ best ∧ best < 6) → (-1 ≤ top ∧ top ≤ 99) → wl_R nn (d + 3) 72 28 [some (.ref F), some (.ref T), some (wp_i best), some (wp_i top), some (wp_i ((p : Int))), some (wp_i ((w : Int))), l6] [] h (fun v1 h1 => v1 = some (wp_i (heirC cd s F)) ∧ CS h1 s) := by
  intro nn
  induction nn with
  | zero => intros; exact wl_0
  | succ nn ih =>
    intro p w best top l6 h C hp hw he rb rt
    have hI0 := I.1
    have hI1 := I.2.1
    refine wl_s1 (pc' := 30) ji_72_28 rfl rfl rfl ?_
    refine wl_s (pc' := 31) ji_72_30 rfl rfl rfl ?_
    refine cs_gi (k := 1) (kI := 1) C (Nat.lt_of_lt_of_le (by decide) hF.1) (isF_n hF 0 (by decide)) hF.2.1 rfl rfl ji_72_31 jf_72_15 ?_
    have bd1 := I.2.1
    refine wl_icmp (t := 108) ji_72_34 rfl (by omega) (by omega) (fun (hb2 : (s F 1 : Int) ≤ ((w : Int))) => ?_) (fun (hb2 : ¬ ((s F 1 : Int) ≤ ((w : Int)))) => ?_)
    · refine wl_iinc (x := (p : Int)) (z := (p : Int) + 1) (lv' := [some (.ref F), some (.ref T), some (wp_i best), some (wp_i top), some (wp_i ((p : Int) + 1)), some (wp_i ((w : Int))), l6]) ji_72_108 rfl (Nat.le_of_ble_eq_true rfl) (by omega) rfl ?_
      refine wl_goto (t := 16) ji_72_111 rfl ?_
      refine wl_s (pc' := 18) ji_72_16 rfl rfl rfl ?_
      refine wl_s (pc' := 19) ji_72_18 rfl rfl rfl ?_
      refine cs_gi (k := 0) (kI := 0) C (Nat.lt_of_lt_of_le (by decide) hF.1) (isF_n hF 0 (by decide)) hF.2.1 rfl rfl ji_72_19 jf_72_9 ?_
      have bd3 := I.1
      refine wl_icmp (t := 114) ji_72_22 rfl (by omega) (by omega) (fun (hb4 : (s F 0 : Int) ≤ ((p : Int) + 1)) => ?_) (fun (hb4 : ¬ ((s F 0 : Int) ≤ ((p : Int) + 1))) => ?_)
      · refine wl_s (pc' := 115) ji_72_114 rfl rfl rfl ?_
        exact wl_ri ji_72_115 jr_72 rfl (⟨by rw [show heirC cd s F = best by unfold heirC; rw [if_neg h9, show (s F 0).toNat = p + 1 by omega]; show (hrW cd s F p (s F 1).toNat (hrP cd s F (s F 1).toNat p)).1 = best; rw [show (s F 1).toNat = w by omega] at he ⊢; rw [he]], C⟩)
      · refine wl_s (pc' := 26) ji_72_25 rfl rfl rfl ?_
        refine wl_s (pc' := 28) (lv' := [some (.ref F), some (.ref T), some (wp_i best), some (wp_i top), some (wp_i ((p : Int) + 1)), some (wp_i 0), l6]) ji_72_26 rfl rfl rfl ?_
        rw [show (p : Int) + 1 = ((p + 1 : Nat) : Int) by omega]
        exact ih (p + 1) 0 best top _ _ C (by omega) (by omega) (by show hrP cd s F (s F 1).toNat (p + 1) = _; rw [← he]; show hrW cd s F p (s F 1).toNat _ = _; rw [show (s F 1).toNat = w by omega]) rb rt
    · refine wl_s (pc' := 38) ji_72_37 rfl rfl rfl ?_
      refine cs_gr (r := F + 6) (k := 7) C (Nat.lt_of_lt_of_le (by decide) hF.1) hF.2.1 rfl ji_72_38 jf_72_34 ?_
      refine wl_s (pc' := 43) ji_72_41 rfl rfl rfl ?_
      refine wl_bp ji_72_43 rfl ?_
      refine wl_imul (x := (p : Int)) (y := 6) (z := ((p : Int)) * 6) ji_72_45 (by omega) ?_
      refine wl_s (pc' := 48) ji_72_46 rfl rfl rfl ?_
      refine wl_iadd (x := ((p : Int)) * 6) (y := (w : Int)) (z := ((p : Int)) * 6 + ((w : Int))) ji_72_48 (by omega) ?_
      refine cs_l (x := ((p : Int)) * 6 + ((w : Int))) C (Nat.lt_of_lt_of_le (by decide) (Nat.le_trans hF.1 (Nat.le_add_right _ _))) (isF_n hF 6 (by decide)) hF.2.2.2.2.2.2.2.1 (by omega) ji_72_49 (fun ld50 ld51 ld52 => ?_)
      have bd6 := I.2.2.2.2.1 (((p : Int)) * 6 + ((w : Int))) (by omega) (by omega)
      refine wl_s (pc' := 52) (lv' := [some (.ref F), some (.ref T), some (wp_i best), some (wp_i top), some (wp_i ((p : Int))), some (wp_i ((w : Int))), some (wp_i (s (F + 6) (((p : Int)) * 6 + ((w : Int)))))]) ji_72_50 rfl rfl rfl ?_
      refine wl_s (pc' := 54) ji_72_52 rfl rfl rfl ?_
      refine wl_s (pc' := 55) ji_72_54 rfl rfl rfl ?_
      refine wl_icmp (t := 102) ji_72_55 rfl (by omega) (by omega) (fun (hb7 : (s (F + 6) (((p : Int)) * 6 + ((w : Int))) : Int) = (-1)) => ?_) (fun (hb7 : ¬ ((s (F + 6) (((p : Int)) * 6 + ((w : Int))) : Int) = (-1))) => ?_)
      · refine wl_iinc (x := (w : Int)) (z := (w : Int) + 1) (lv' := [some (.ref F), some (.ref T), some (wp_i best), some (wp_i top), some (wp_i ((p : Int))), some (wp_i ((w : Int) + 1)), some (wp_i (s (F + 6) (((p : Int)) * 6 + ((w : Int)))))]) ji_72_102 rfl (Nat.le_of_ble_eq_true rfl) (by omega) rfl ?_
        refine wl_goto (t := 28) ji_72_105 rfl ?_
        rw [show (w : Int) + 1 = ((w + 1 : Nat) : Int) by omega]
        exact ih p (w + 1) best top _ _ C hp (by omega) (by show hr1 cd s F p w (hrW cd s F p w _) = _; rw [he]; unfold hr1; rw [if_pos (Or.inl (by omega))]) (by omega) (by omega)
      · refine wl_s (pc' := 60) ji_72_58 rfl rfl rfl ?_
        refine wl_s (pc' := 61) ji_72_60 rfl rfl rfl ?_
        refine wl_icmp (t := 102) ji_72_61 rfl (by omega) (by omega) (fun (hb8 : (s (F + 6) (((p : Int)) * 6 + ((w : Int))) : Int) < top) => ?_) (fun (hb8 : ¬ ((s (F + 6) (((p : Int)) * 6 + ((w : Int))) : Int) < top)) => ?_)
        · refine wl_iinc (x := (w : Int)) (z := (w : Int) + 1) (lv' := [some (.ref F), some (.ref T), some (wp_i best), some (wp_i top), some (wp_i ((p : Int))), some (wp_i ((w : Int) + 1)), some (wp_i (s (F + 6) (((p : Int)) * 6 + ((w : Int)))))]) ji_72_102 rfl (Nat.le_of_ble_eq_true rfl) (by omega) rfl ?_
          refine wl_goto (t := 28) ji_72_105 rfl ?_
          rw [show (w : Int) + 1 = ((w + 1 : Nat) : Int) by omega]
          exact ih p (w + 1) best top _ _ C hp (by omega) (by show hr1 cd s F p w (hrW cd s F p w _) = _; rw [he]; unfold hr1; rw [if_pos (Or.inr (Or.inl (by show s (F + 6) ((p : Int) * 6 + (w : Int)) < top; omega)))]) (by omega) (by omega)
        · refine wl_s (pc' := 65) ji_72_64 rfl rfl rfl ?_
          refine wl_s (pc' := 66) ji_72_65 rfl rfl rfl ?_
          refine wl_s (pc' := 67) ji_72_66 rfl rfl rfl ?_
          refine wl_s (pc' := 69) ji_72_67 rfl rfl rfl ?_
          refine wl_s (pc' := 71) ji_72_69 rfl rfl rfl ?_
          obtain ⟨q10, hq10⟩ := cs_c C (Nat.lt_of_lt_of_le (by decide) hT.1) hT.2.1
          refine wl_vc (d := d + 2) (as := [.ref T, wp_i 2, .ref F, wp_i ((p : Int)), wp_i ((w : Int))]) (rest := []) ji_72_71 jc_72_91 rfl hq10 jk_64.symm (Nat.le_of_ble_eq_true rfl) rfl (by rw [jn_64]; rfl) (uc_64 (d := d) C hT hF I H H2 (p := (p : Int)) (w := (w : Int)) (l := 2) (by omega) (by omega) (by omega)) (fun v1 h9 R => ?_)
          obtain ⟨rfl, C⟩ := R
          obtain ⟨y11, hy11⟩ : ∃ z9_, sayC cd s F ((p : Int)) ((w : Int)) 2 = z9_ := ⟨_, rfl⟩
          have hy11r := sayC_r I cd (p := (p : Int)) (w := (w : Int)) (l := 2) (by omega) (by omega) (by omega)
          rw [hy11] at hy11r ⊢
          show wl_R _ _ 72 74 [some (.ref F), some (.ref T), some (wp_i best), some (wp_i top), some (wp_i ((p : Int))), some (wp_i ((w : Int))), some (wp_i (s (F + 6) (((p : Int)) * 6 + ((w : Int)))))] [wp_i y11] h9 _
          refine wl_if (t := 80) ji_72_74 rfl (by omega) (fun (hb12 : ¬ (y11 : Int) = 0) => ?_) (fun (hb12 : ¬ (¬ (y11 : Int) = 0)) => ?_)
          · refine wl_s (pc' := 82) ji_72_80 rfl rfl rfl ?_
            refine wl_s (pc' := 83) ji_72_82 rfl rfl rfl ?_
            refine wl_icmp (t := 96) ji_72_83 rfl (by omega) (by omega) (fun (hb13 : (top : Int) < (s (F + 6) (((p : Int)) * 6 + ((w : Int))))) => ?_) (fun (hb13 : ¬ ((top : Int) < (s (F + 6) (((p : Int)) * 6 + ((w : Int)))))) => ?_)
            · refine wl_s (pc' := 98) ji_72_96 rfl rfl rfl ?_
              refine wl_s (pc' := 99) (lv' := [some (.ref F), some (.ref T), some (wp_i ((w : Int))), some (wp_i top), some (wp_i ((p : Int))), some (wp_i ((w : Int))), some (wp_i (s (F + 6) (((p : Int)) * 6 + ((w : Int)))))]) ji_72_98 rfl rfl rfl ?_
              refine wl_s (pc' := 101) ji_72_99 rfl rfl rfl ?_
              refine wl_s (pc' := 102) (lv' := [some (.ref F), some (.ref T), some (wp_i ((w : Int))), some (wp_i (s (F + 6) (((p : Int)) * 6 + ((w : Int))))), some (wp_i ((p : Int))), some (wp_i ((w : Int))), some (wp_i (s (F + 6) (((p : Int)) * 6 + ((w : Int)))))]) ji_72_101 rfl rfl rfl ?_
              refine wl_iinc (x := (w : Int)) (z := (w : Int) + 1) (lv' := [some (.ref F), some (.ref T), some (wp_i ((w : Int))), some (wp_i (s (F + 6) (((p : Int)) * 6 + ((w : Int))))), some (wp_i ((p : Int))), some (wp_i ((w : Int) + 1)), some (wp_i (s (F + 6) (((p : Int)) * 6 + ((w : Int)))))]) ji_72_102 rfl (Nat.le_of_ble_eq_true rfl) (by omega) rfl ?_
              refine wl_goto (t := 28) ji_72_105 rfl ?_
              rw [show (w : Int) + 1 = ((w + 1 : Nat) : Int) by omega]
              exact ih p (w + 1) ((w : Int)) (s (F + 6) ((p : Int) * 6 + (w : Int))) _ _ C hp (by omega) (by show hr1 cd s F p w (hrW cd s F p w _) = _; rw [he]; unfold hr1; rw [if_neg (fun z => by rcases z with z | z | z; (omega); (have z : s (F + 6) ((p : Int) * 6 + (w : Int)) < top := z; omega); (rw [hy11] at z; omega))]; rw [if_pos (Or.inl (by show top < s (F + 6) ((p : Int) * 6 + (w : Int)); omega))]) (by omega) (by omega)
            · refine wl_s (pc' := 87) ji_72_86 rfl rfl rfl ?_
              refine wl_s (pc' := 89) ji_72_87 rfl rfl rfl ?_
              refine wl_s (pc' := 90) ji_72_89 rfl rfl rfl ?_
              obtain ⟨q15, hq15⟩ := cs_c C (Nat.lt_of_lt_of_le (by decide) hF.1) hF.2.1
              refine wl_vc (d := d + 2) (as := [.ref F, wp_i ((w : Int)), wp_i best]) (rest := []) ji_72_90 jc_72_105 rfl hq15 jk_73.symm (Nat.le_of_ble_eq_true rfl) rfl (by rw [jn_73]; rfl) (uc_73 (d := d + 2) C hF I (w := (w : Int)) (z := best) (by omega) (by omega)) (fun v1 h14 R => ?_)
              obtain ⟨ee, y16, rfl, hy16a, hy16b⟩ := R
              rw [ee]
              clear ee
              show wl_R _ _ 72 93 [some (.ref F), some (.ref T), some (wp_i best), some (wp_i top), some (wp_i ((p : Int))), some (wp_i ((w : Int))), some (wp_i (s (F + 6) (((p : Int)) * 6 + ((w : Int)))))] [wp_i y16] _ _
              refine wl_if (t := 99) ji_72_93 rfl (by omega) (fun (hb17 : (y16 : Int) = 0) => ?_) (fun (hb17 : ¬ ((y16 : Int) = 0)) => ?_)
              · refine wl_s (pc' := 101) ji_72_99 rfl rfl rfl ?_
                refine wl_s (pc' := 102) (lv' := [some (.ref F), some (.ref T), some (wp_i best), some (wp_i (s (F + 6) (((p : Int)) * 6 + ((w : Int))))), some (wp_i ((p : Int))), some (wp_i ((w : Int))), some (wp_i (s (F + 6) (((p : Int)) * 6 + ((w : Int)))))]) ji_72_101 rfl rfl rfl ?_
                refine wl_iinc (x := (w : Int)) (z := (w : Int) + 1) (lv' := [some (.ref F), some (.ref T), some (wp_i best), some (wp_i (s (F + 6) (((p : Int)) * 6 + ((w : Int))))), some (wp_i ((p : Int))), some (wp_i ((w : Int) + 1)), some (wp_i (s (F + 6) (((p : Int)) * 6 + ((w : Int)))))]) ji_72_102 rfl (Nat.le_of_ble_eq_true rfl) (by omega) rfl ?_
                refine wl_goto (t := 28) ji_72_105 rfl ?_
                rw [show (w : Int) + 1 = ((w + 1 : Nat) : Int) by omega]
                exact ih p (w + 1) best (s (F + 6) ((p : Int) * 6 + (w : Int))) _ _ C hp (by omega) (by show hr1 cd s F p w (hrW cd s F p w _) = _; rw [he]; unfold hr1; rw [if_neg (fun z => by rcases z with z | z | z; (omega); (have z : s (F + 6) ((p : Int) * 6 + (w : Int)) < top := z; omega); (rw [hy11] at z; omega))]; rw [if_neg (fun z => by rcases z with z | z; (have z : top < s (F + 6) ((p : Int) * 6 + (w : Int)) := z; omega); (have := hy16b.mpr z; omega))]) (by omega) (by omega)
              · refine wl_s (pc' := 98) ji_72_96 rfl rfl rfl ?_
                refine wl_s (pc' := 99) (lv' := [some (.ref F), some (.ref T), some (wp_i ((w : Int))), some (wp_i top), some (wp_i ((p : Int))), some (wp_i ((w : Int))), some (wp_i (s (F + 6) (((p : Int)) * 6 + ((w : Int)))))]) ji_72_98 rfl rfl rfl ?_
                refine wl_s (pc' := 101) ji_72_99 rfl rfl rfl ?_
                refine wl_s (pc' := 102) (lv' := [some (.ref F), some (.ref T), some (wp_i ((w : Int))), some (wp_i (s (F + 6) (((p : Int)) * 6 + ((w : Int))))), some (wp_i ((p : Int))), some (wp_i ((w : Int))), some (wp_i (s (F + 6) (((p : Int)) * 6 + ((w : Int)))))]) ji_72_101 rfl rfl rfl ?_
                refine wl_iinc (x := (w : Int)) (z := (w : Int) + 1) (lv' := [some (.ref F), some (.ref T), some (wp_i ((w : Int))), some (wp_i (s (F + 6) (((p : Int)) * 6 + ((w : Int))))), some (wp_i ((p : Int))), some (wp_i ((w : Int) + 1)), some (wp_i (s (F + 6) (((p : Int)) * 6 + ((w : Int)))))]) ji_72_102 rfl (Nat.le_of_ble_eq_true rfl) (by omega) rfl ?_
                refine wl_goto (t := 28) ji_72_105 rfl ?_
                rw [show (w : Int) + 1 = ((w + 1 : Nat) : Int) by omega]
                exact ih p (w + 1) ((w : Int)) (s (F + 6) ((p : Int) * 6 + (w : Int))) _ _ C hp (by omega) (by show hr1 cd s F p w (hrW cd s F p w _) = _; rw [he]; unfold hr1; rw [if_neg (fun z => by rcases z with z | z | z; (omega); (have z : s (F + 6) ((p : Int) * 6 + (w : Int)) < top := z; omega); (rw [hy11] at z; omega))]; rw [if_pos (Or.inr (hy16b.mp (by omega)))]) (by omega) (by omega)
          · refine wl_goto (t := 102) ji_72_77 rfl ?_
            refine wl_iinc (x := (w : Int)) (z := (w : Int) + 1) (lv' := [some (.ref F), some (.ref T), some (wp_i best), some (wp_i top), some (wp_i ((p : Int))), some (wp_i ((w : Int) + 1)), some (wp_i (s (F + 6) (((p : Int)) * 6 + ((w : Int)))))]) ji_72_102 rfl (Nat.le_of_ble_eq_true rfl) (by omega) rfl ?_
            refine wl_goto (t := 28) ji_72_105 rfl ?_
            rw [show (w : Int) + 1 = ((w + 1 : Nat) : Int) by omega]
            exact ih p (w + 1) best top _ _ C hp (by omega) (by show hr1 cd s F p w (hrW cd s F p w _) = _; rw [he]; unfold hr1; rw [if_pos (Or.inr (Or.inr (by rw [hy11]; omega)))]) (by omega) (by omega)
theorem uc_72 {nn d : Nat} {h : mj_H} {s : sg_} (C : CS h s) {T : Nat} (hT : isT T) {F : Nat} (hF : isF F) {cd : cds} (H : TXC s T cd) (H2 : SC s) (I : IF s F) : wl_R nn (d + 3) 72 0 [some (.ref F), some (.ref T), none, none, none, none, none] [] h (fun v1 h1 => v1 = some (wp_i (heirC cd s F)) ∧ CS h1 s) := by
  have hI0 := I.1
  have hI1 := I.2.1
  refine wl_s (pc' := 1) ji_72_0 rfl rfl rfl ?_
  refine cs_gi (k := 9) (kI := 9) C (Nat.lt_of_lt_of_le (by decide) hF.1) (isF_n hF 0 (by decide)) hF.2.1 rfl rfl ji_72_1 jf_72_40 ?_
  have bd1 := I.2.2.2.2.2.2.1
  refine wl_if (t := 9) ji_72_4 rfl (by omega) (fun (hb2 : ¬ (s F 9 : Int) = 0) => ?_) (fun (hb2 : ¬ (¬ (s F 9 : Int) = 0)) => ?_)
  · refine wl_s (pc' := 10) ji_72_9 rfl rfl rfl ?_
    refine wl_s (pc' := 11) (lv' := [some (.ref F), some (.ref T), some (wp_i (-1)), none, none, none, none]) ji_72_10 rfl rfl rfl ?_
    refine wl_s (pc' := 12) ji_72_11 rfl rfl rfl ?_
    refine wl_s (pc' := 13) (lv' := [some (.ref F), some (.ref T), some (wp_i (-1)), some (wp_i (-1)), none, none, none]) ji_72_12 rfl rfl rfl ?_
    refine wl_s (pc' := 14) ji_72_13 rfl rfl rfl ?_
    refine wl_s (pc' := 16) (lv' := [some (.ref F), some (.ref T), some (wp_i (-1)), some (wp_i (-1)), some (wp_i 0), none, none]) ji_72_14 rfl rfl rfl ?_
    refine wl_s (pc' := 18) ji_72_16 rfl rfl rfl ?_
    refine wl_s (pc' := 19) ji_72_18 rfl rfl rfl ?_
    refine cs_gi (k := 0) (kI := 0) C (Nat.lt_of_lt_of_le (by decide) hF.1) (isF_n hF 0 (by decide)) hF.2.1 rfl rfl ji_72_19 jf_72_9 ?_
    have bd3 := I.1
    refine wl_icmp (t := 114) ji_72_22 rfl (by omega) (by omega) (fun (hb4 : (s F 0 : Int) ≤ 0) => ?_) (fun (hb4 : ¬ ((s F 0 : Int) ≤ 0)) => ?_)
    · refine wl_s (pc' := 115) ji_72_114 rfl rfl rfl ?_
      exact wl_ri ji_72_115 jr_72 rfl (⟨by rw [show heirC cd s F = -1 by unfold heirC; rw [if_neg (by omega), show (s F 0).toNat = 0 by omega]; rfl], C⟩)
    · refine wl_s (pc' := 26) ji_72_25 rfl rfl rfl ?_
      refine wl_s (pc' := 28) (lv' := [some (.ref F), some (.ref T), some (wp_i (-1)), some (wp_i (-1)), some (wp_i 0), some (wp_i 0), none]) ji_72_26 rfl rfl rfl ?_
      exact uc_72l hT hF H H2 I (by omega) nn 0 0 (-1) (-1) none _ C (by omega) (by omega) rfl (by omega) (by omega)
  · refine wl_s (pc' := 8) ji_72_7 rfl rfl rfl ?_
    exact wl_ri ji_72_8 jr_72 rfl (⟨by rw [show heirC cd s F = -1 by unfold heirC; rw [if_pos (by omega)]], C⟩)
theorem hr1_r {cd : cds} {s : sg_} {F : Nat} (I : IF s F) {p w : Int} (hp : 0 ≤ p ∧ p < 8) (hw : 0 ≤ w ∧ w < 6) {b : Int × Int} (hb : -1 ≤ b.1 ∧ b.1 < 6) : -1 ≤ (hr1 cd s F p w b).1 ∧ (hr1 cd s F p w b).1 < 6 := by
  unfold hr1
  split
  · exact hb
  · show -1 ≤ (if _ then w else b.1) ∧ (if _ then w else b.1) < 6
    split <;> omega
theorem hrW_r {cd : cds} {s : sg_} {F : Nat} (I : IF s F) {p : Int} (hp : 0 ≤ p ∧ p < 8) : ∀ (n : Nat) {b : Int × Int}, n ≤ 6 → (-1 ≤ b.1 ∧ b.1 < 6) → -1 ≤ (hrW cd s F p n b).1 ∧ (hrW cd s F p n b).1 < 6
  | 0, _, _, hb => hb
  | n + 1, _, hn, hb => hr1_r I hp (by omega) (hrW_r I hp n (by omega) hb)
theorem hrP_r {cd : cds} {s : sg_} {F : Nat} (I : IF s F) {q : Nat} (hq : q ≤ 6) : ∀ (m : Nat), m ≤ 8 → -1 ≤ (hrP cd s F q m).1 ∧ (hrP cd s F q m).1 < 6
  | 0, _ => ⟨Int.le_refl _, (by decide : (-1 : Int) < 6)⟩
  | m + 1, h => hrW_r I (by omega) q hq (hrP_r I hq m (by omega))
theorem heirC_r {cd : cds} {s : sg_} {F : Nat} (I : IF s F) : -1 ≤ heirC cd s F ∧ heirC cd s F < 6 := by
  have h0 := I.1
  have h1 := I.2.1
  unfold heirC
  split
  · omega
  · exact hrP_r I (by omega) _ (by omega)
