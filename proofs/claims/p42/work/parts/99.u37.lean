/-! -/
/-! -/
set_option maxRecDepth 100000 in
theorem ji_222_14 : mj_ins 222 14 = some (.iload_n 2) := by decide +kernel
set_option maxRecDepth 100000 in
theorem ji_222_15 : mj_ins 222 15 = some (.aload_n 0) := by decide +kernel
set_option maxRecDepth 100000 in
theorem ji_222_16 : mj_ins 222 16 = some (.getfield 7) := by decide +kernel
set_option maxRecDepth 100000 in
theorem jf_222_7 : mj_fld 222 7 = some (11, 0, (.array .int), false) := by decide +kernel
set_option maxRecDepth 100000 in
theorem ji_222_19 : mj_ins 222 19 = some (.iconst 1) := by decide +kernel
set_option maxRecDepth 100000 in
theorem ji_222_20 : mj_ins 222 20 = some (.iaload) := by decide +kernel
set_option maxRecDepth 100000 in
theorem ji_222_21 : mj_ins 222 21 = some (.if_icmp .ge 87) := by decide +kernel
set_option maxRecDepth 100000 in
theorem ji_222_108 : mj_ins 222 108 = some (.iinc 1 1) := by decide +kernel
set_option maxRecDepth 100000 in
theorem ji_222_111 : mj_ins 222 111 = some (.goto (-109)) := by decide +kernel
set_option maxRecDepth 100000 in
theorem ji_222_2 : mj_ins 222 2 = some (.iload_n 1) := by decide +kernel
set_option maxRecDepth 100000 in
theorem ji_222_3 : mj_ins 222 3 = some (.aload_n 0) := by decide +kernel
set_option maxRecDepth 100000 in
theorem ji_222_4 : mj_ins 222 4 = some (.getfield 7) := by decide +kernel
set_option maxRecDepth 100000 in
theorem ji_222_7 : mj_ins 222 7 = some (.iconst 0) := by decide +kernel
set_option maxRecDepth 100000 in
theorem ji_222_8 : mj_ins 222 8 = some (.iaload) := by decide +kernel
set_option maxRecDepth 100000 in
theorem ji_222_9 : mj_ins 222 9 = some (.if_icmp .ge 105) := by decide +kernel
set_option maxRecDepth 100000 in
theorem ji_222_12 : mj_ins 222 12 = some (.iconst 0) := by decide +kernel
set_option maxRecDepth 100000 in
theorem ji_222_13 : mj_ins 222 13 = some (.istore_n 2) := by decide +kernel
set_option maxRecDepth 100000 in
theorem ji_222_24 : mj_ins 222 24 = some (.aload_n 0) := by decide +kernel
set_option maxRecDepth 100000 in
theorem ji_222_25 : mj_ins 222 25 = some (.iload_n 2) := by decide +kernel
set_option maxRecDepth 100000 in
theorem ji_222_26 : mj_ins 222 26 = some (.iload_n 1) := by decide +kernel
set_option maxRecDepth 100000 in
theorem ji_222_27 : mj_ins 222 27 = some (.invokevirtual 74) := by decide +kernel
set_option maxRecDepth 100000 in
theorem jc_222_74 : mj_cal 222 74 = some (2, 223, 2) := by decide +kernel
set_option maxRecDepth 100000 in
theorem ji_222_30 : mj_ins 222 30 = some (.ifCond .ne 6) := by decide +kernel
set_option maxRecDepth 100000 in
theorem ji_222_36 : mj_ins 222 36 = some (.aload_n 0) := by decide +kernel
set_option maxRecDepth 100000 in
theorem ji_222_37 : mj_ins 222 37 = some (.iload_n 2) := by decide +kernel
set_option maxRecDepth 100000 in
theorem ji_222_38 : mj_ins 222 38 = some (.iload_n 1) := by decide +kernel
set_option maxRecDepth 100000 in
theorem ji_222_39 : mj_ins 222 39 = some (.iconst 0) := by decide +kernel
set_option maxRecDepth 100000 in
theorem ji_222_40 : mj_ins 222 40 = some (.aload_n 0) := by decide +kernel
set_option maxRecDepth 100000 in
theorem ji_222_41 : mj_ins 222 41 = some (.iload_n 2) := by decide +kernel
set_option maxRecDepth 100000 in
theorem ji_222_42 : mj_ins 222 42 = some (.iload_n 1) := by decide +kernel
set_option maxRecDepth 100000 in
theorem ji_222_43 : mj_ins 222 43 = some (.iconst 0) := by decide +kernel
set_option maxRecDepth 100000 in
theorem ji_222_44 : mj_ins 222 44 = some (.invokevirtual 70) := by decide +kernel
set_option maxRecDepth 100000 in
theorem jc_222_70 : mj_cal 222 70 = some (2, 224, 3) := by decide +kernel
set_option maxRecDepth 100000 in
theorem ji_222_47 : mj_ins 222 47 = some (.aload_n 0) := by decide +kernel
set_option maxRecDepth 100000 in
theorem ji_222_48 : mj_ins 222 48 = some (.iload_n 2) := by decide +kernel
set_option maxRecDepth 100000 in
theorem ji_222_49 : mj_ins 222 49 = some (.iload_n 1) := by decide +kernel
set_option maxRecDepth 100000 in
theorem ji_222_50 : mj_ins 222 50 = some (.invokevirtual 314) := by decide +kernel
set_option maxRecDepth 100000 in
theorem jc_222_314 : mj_cal 222 314 = some (2, 225, 2) := by decide +kernel
set_option maxRecDepth 100000 in
theorem jn_225 : mj_nl 225 = 3 := by decide +kernel
set_option maxRecDepth 100000 in
theorem jk_225 : mj_cls 225 = 11 := by decide +kernel
set_option maxRecDepth 100000 in
theorem ji_222_53 : mj_ins 222 53 = some (.iadd) := by decide +kernel
set_option maxRecDepth 100000 in
theorem ji_222_54 : mj_ins 222 54 = some (.i2l) := by decide +kernel
set_option maxRecDepth 100000 in
theorem ji_222_55 : mj_ins 222 55 = some (.iconst 0) := by decide +kernel
set_option maxRecDepth 100000 in
theorem ji_222_56 : mj_ins 222 56 = some (.aload_n 0) := by decide +kernel
set_option maxRecDepth 100000 in
theorem ji_222_57 : mj_ins 222 57 = some (.iload_n 1) := by decide +kernel
set_option maxRecDepth 100000 in
theorem ji_222_58 : mj_ins 222 58 = some (.invokevirtual 289) := by decide +kernel
set_option maxRecDepth 100000 in
theorem jc_222_289 : mj_cal 222 289 = some (2, 220, 1) := by decide +kernel
set_option maxRecDepth 100000 in
theorem ji_222_61 : mj_ins 222 61 = some (.invokestatic 282) := by decide +kernel
set_option maxRecDepth 100000 in
theorem jc_222_282 : mj_cal 222 282 = some (1, 238, 3) := by decide +kernel
set_option maxRecDepth 100000 in
theorem ji_222_64 : mj_ins 222 64 = some (.invokevirtual 317) := by decide +kernel
set_option maxRecDepth 100000 in
theorem jc_222_317 : mj_cal 222 317 = some (2, 239, 4) := by decide +kernel
set_option maxRecDepth 100000 in
theorem ji_222_67 : mj_ins 222 67 = some (.aload_n 0) := by decide +kernel
set_option maxRecDepth 100000 in
theorem ji_222_68 : mj_ins 222 68 = some (.iload_n 2) := by decide +kernel
set_option maxRecDepth 100000 in
theorem ji_222_69 : mj_ins 222 69 = some (.iload_n 1) := by decide +kernel
set_option maxRecDepth 100000 in
theorem ji_222_70 : mj_ins 222 70 = some (.iconst 1) := by decide +kernel
set_option maxRecDepth 100000 in
theorem ji_222_71 : mj_ins 222 71 = some (.invokevirtual 70) := by decide +kernel
set_option maxRecDepth 100000 in
theorem ji_222_74 : mj_ins 222 74 = some (.aload_n 0) := by decide +kernel
set_option maxRecDepth 100000 in
theorem ji_222_75 : mj_ins 222 75 = some (.iload_n 2) := by decide +kernel
set_option maxRecDepth 100000 in
theorem ji_222_76 : mj_ins 222 76 = some (.iload_n 1) := by decide +kernel
set_option maxRecDepth 100000 in
theorem ji_222_77 : mj_ins 222 77 = some (.invokevirtual 321) := by decide +kernel
set_option maxRecDepth 100000 in
theorem jc_222_321 : mj_cal 222 321 = some (2, 240, 2) := by decide +kernel
set_option maxRecDepth 100000 in
theorem jn_240 : mj_nl 240 = 3 := by decide +kernel
set_option maxRecDepth 100000 in
theorem jk_240 : mj_cls 240 = 11 := by decide +kernel
set_option maxRecDepth 100000 in
theorem ji_222_80 : mj_ins 222 80 = some (.iadd) := by decide +kernel
set_option maxRecDepth 100000 in
theorem ji_222_81 : mj_ins 222 81 = some (.istore_n 3) := by decide +kernel
set_option maxRecDepth 100000 in
theorem ji_222_82 : mj_ins 222 82 = some (.aload_n 0) := by decide +kernel
set_option maxRecDepth 100000 in
theorem ji_222_83 : mj_ins 222 83 = some (.iload_n 2) := by decide +kernel
set_option maxRecDepth 100000 in
theorem ji_222_84 : mj_ins 222 84 = some (.iload_n 1) := by decide +kernel
set_option maxRecDepth 100000 in
theorem ji_222_85 : mj_ins 222 85 = some (.iconst 1) := by decide +kernel
set_option maxRecDepth 100000 in
theorem ji_222_86 : mj_ins 222 86 = some (.iload_n 3) := by decide +kernel
set_option maxRecDepth 100000 in
theorem ji_222_87 : mj_ins 222 87 = some (.invokevirtual 317) := by decide +kernel
set_option maxRecDepth 100000 in
theorem ji_222_90 : mj_ins 222 90 = some (.iload_n 3) := by decide +kernel
set_option maxRecDepth 100000 in
theorem ji_222_91 : mj_ins 222 91 = some (.bipush 99) := by decide +kernel
set_option maxRecDepth 100000 in
theorem ji_222_93 : mj_ins 222 93 = some (.if_icmp .le 9) := by decide +kernel
set_option maxRecDepth 100000 in
theorem ji_222_102 : mj_ins 222 102 = some (.iinc 2 1) := by decide +kernel
set_option maxRecDepth 100000 in
theorem ji_222_105 : mj_ins 222 105 = some (.goto (-91)) := by decide +kernel
set_option maxRecDepth 100000 in
theorem ji_222_96 : mj_ins 222 96 = some (.aload_n 0) := by decide +kernel
set_option maxRecDepth 100000 in
theorem ji_222_97 : mj_ins 222 97 = some (.iload_n 2) := by decide +kernel
set_option maxRecDepth 100000 in
theorem ji_222_98 : mj_ins 222 98 = some (.iload_n 1) := by decide +kernel
set_option maxRecDepth 100000 in
theorem ji_222_99 : mj_ins 222 99 = some (.invokevirtual 324) := by decide +kernel
set_option maxRecDepth 100000 in
theorem jc_222_324 : mj_cal 222 324 = some (2, 241, 2) := by decide +kernel
set_option maxRecDepth 100000 in
theorem jn_241 : mj_nl 241 = 3 := by decide +kernel
set_option maxRecDepth 100000 in
theorem jk_241 : mj_cls 241 = 11 := by decide +kernel
set_option maxRecDepth 100000 in
theorem ji_222_33 : mj_ins 222 33 = some (.goto 69) := by decide +kernel
/-! the reference's flyOn, flags; laid by program (wp_u37.py) -/
theorem uc_222l {d : Nat} {s : sg_} {cr : crs} {Q : Option Value → mj_H → Prop} (i0 : 0 ≤ s 139 0 ∧ s 139 0 ≤ 8) (i1 : 0 ≤ s 139 1 ∧ s 139 1 ≤ 6) : ∀ (nn p w : Nat) (t : sg_) (l3 : Option Value) (h : mj_H), CS h t → (p : Int) < s 139 0 → (w : Int) ≤ s 139 1 → t = flWs cr p w (flPs cr (s 139 1).toNat p s) → RS t cr → t 139 0 = s 139 0 → t 139 1 = s 139 1 → (∀ (p w : Nat) (t : sg_) (l3 : Option Value) (h : mj_H), CS h t → RS t cr → (p : Int) + 1 = s 139 0 → (w : Int) = s 139 1 → t = flWs cr p w (flPs cr (s 139 1).toNat p s) → t 139 0 = s 139 0 → t 139 1 = s 139 1 → ∀ nn, wl_R nn (d + 5) 222 114 [some (.ref 138), some (wp_i ((p : Int) + 1)), some (wp_i (w : Int)), l3] [] h Q) → wl_R nn (d + 5) 222 14 [some (.ref 138), some (wp_i ((p : Int))), some (wp_i ((w : Int))), l3] [] h Q := by
  intro nn
  induction nn with
  | zero => intros; exact wl_0
  | succ nn ih =>
    intro p w t l3 h C hp hw ht H9 e0 e1 hk
    obtain ⟨H, eH⟩ : ∃ z9_, t 139 (52 + 2 * (8 * (w : Int) + (p : Int)) + 0) = z9_ := ⟨_, rfl⟩
    have rH : (w : Int) < 6 → (p : Int) < 8 → -1 ≤ t 139 (52 + 2 * (8 * (w : Int) + (p : Int)) + 0) ∧ t 139 (52 + 2 * (8 * (w : Int) + (p : Int)) + 0) ≤ 99 := fun a b => H9.g.h (w : Int) (p : Int) (by omega) (by omega)
    rw [eH] at rH
    refine wl_s1 (pc' := 15) ji_222_14 rfl rfl rfl ?_
    refine wl_s (pc' := 16) ji_222_15 rfl rfl rfl ?_
    refine cs_gr (r := 139) (k := 0) C (by decide) sq_138 rfl ji_222_16 jf_222_7 ?_
    refine wl_s (pc' := 20) ji_222_19 rfl rfl rfl ?_
    refine cs_l (x := 1) C (by decide) (by decide) sq_139 (by omega) ji_222_20 (fun ld10 ld11 ld12 => ?_)
    rw [e1] at ld12 ⊢
    refine wl_icmp (t := 108) ji_222_21 rfl (by omega) (by omega) (fun (hb2 : (s 139 1 : Int) ≤ ((w : Int))) => ?_) (fun (hb2 : ¬ ((s 139 1 : Int) ≤ ((w : Int)))) => ?_)
    · refine wl_iinc (x := (p : Int)) (z := (p : Int) + 1) (lv' := [some (.ref 138), some (wp_i ((p : Int) + 1)), some (wp_i ((w : Int))), l3]) ji_222_108 rfl (Nat.le_of_ble_eq_true rfl) (by omega) rfl ?_
      refine wl_goto (t := 2) ji_222_111 rfl ?_
      refine wl_s (pc' := 3) ji_222_2 rfl rfl rfl ?_
      refine wl_s (pc' := 4) ji_222_3 rfl rfl rfl ?_
      refine cs_gr (r := 139) (k := 0) C (by decide) sq_138 rfl ji_222_4 jf_222_7 ?_
      refine wl_s (pc' := 8) ji_222_7 rfl rfl rfl ?_
      refine cs_l (x := 0) C (by decide) (by decide) sq_139 (by omega) ji_222_8 (fun ld30 ld31 ld32 => ?_)
      rw [e0] at ld32 ⊢
      refine wl_icmp (t := 114) ji_222_9 rfl (by omega) (by omega) (fun (hb4 : (s 139 0 : Int) ≤ ((p : Int) + 1)) => ?_) (fun (hb4 : ¬ ((s 139 0 : Int) ≤ ((p : Int) + 1))) => ?_)
      · exact hk p w t _ _ C H9 (by omega) (by omega) ht e0 e1 _
      · refine wl_s (pc' := 13) ji_222_12 rfl rfl rfl ?_
        refine wl_s (pc' := 14) (lv' := [some (.ref 138), some (wp_i ((p : Int) + 1)), some (wp_i 0), l3]) ji_222_13 rfl rfl rfl ?_
        rw [show (p : Int) + 1 = ((p + 1 : Nat) : Int) by omega]
        exact ih (p + 1) 0 t _ _ C (by omega) (by omega) (by rw [ht, show w = (s 139 1).toNat by omega]; rfl) H9 e0 e1 hk
    · refine wl_s (pc' := 25) ji_222_24 rfl rfl rfl ?_
      refine wl_s (pc' := 26) ji_222_25 rfl rfl rfl ?_
      refine wl_s (pc' := 27) ji_222_26 rfl rfl rfl ?_
      obtain ⟨q6, hq6⟩ := cs_c C (by decide) sq_138
      refine wl_vc (d := d + 4) (as := [.ref 138, wp_i ((w : Int)), wp_i ((p : Int))]) (rest := []) ji_222_27 jc_222_74 rfl hq6 jk_223.symm (Nat.le_of_ble_eq_true rfl) rfl (by rw [jn_223]; rfl) (uc_223 (d := d + 3) C (w := (w : Int)) (p := (p : Int)) (by omega) (by omega)) (fun v1 h5 R => ?_)
      obtain ⟨ee, y7, rfl, hy7a, hy7b⟩ := R
      rw [ee]
      clear ee
      show wl_R _ _ 222 30 [some (.ref 138), some (wp_i ((p : Int))), some (wp_i ((w : Int))), l3] [wp_i y7] _ _
      rw [eH] at hy7b
      refine wl_if (t := 36) ji_222_30 rfl (by omega) (fun (hb8 : ¬ (y7 : Int) = 0) => ?_) (fun (hb8 : ¬ (¬ (y7 : Int) = 0)) => ?_)
      · refine wl_s (pc' := 37) ji_222_36 rfl rfl rfl ?_
        refine wl_s (pc' := 38) ji_222_37 rfl rfl rfl ?_
        refine wl_s (pc' := 39) ji_222_38 rfl rfl rfl ?_
        refine wl_s (pc' := 40) ji_222_39 rfl rfl rfl ?_
        refine wl_s (pc' := 41) ji_222_40 rfl rfl rfl ?_
        refine wl_s (pc' := 42) ji_222_41 rfl rfl rfl ?_
        refine wl_s (pc' := 43) ji_222_42 rfl rfl rfl ?_
        refine wl_s (pc' := 44) ji_222_43 rfl rfl rfl ?_
        obtain ⟨q10, hq10⟩ := cs_c C (by decide) sq_138
        refine wl_vc (d := d + 4) (as := [.ref 138, wp_i ((w : Int)), wp_i ((p : Int)), wp_i 0]) (rest := [wp_i 0, wp_i ((p : Int)), wp_i ((w : Int)), .ref 138]) ji_222_44 jc_222_70 rfl hq10 jk_224.symm (Nat.le_of_ble_eq_true rfl) rfl (by rw [jn_224]; rfl) (uc_224 (d := d + 4) C (w := (w : Int)) (p := (p : Int)) (k := 0) (by omega) (by omega) (by omega)) (fun v1 h9 R => ?_)
        obtain ⟨ee, rfl⟩ := R
        rw [ee]
        clear ee
        rw [eH]
        show wl_R _ _ 222 47 [some (.ref 138), some (wp_i ((p : Int))), some (wp_i ((w : Int))), l3] [wp_i H, wp_i 0, wp_i ((p : Int)), wp_i ((w : Int)), .ref 138] _ _
        refine wl_s (pc' := 48) ji_222_47 rfl rfl rfl ?_
        refine wl_s (pc' := 49) ji_222_48 rfl rfl rfl ?_
        refine wl_s (pc' := 50) ji_222_49 rfl rfl rfl ?_
        obtain ⟨q12, hq12⟩ := cs_c C (by decide) sq_138
        refine wl_vc (d := d + 4) (as := [.ref 138, wp_i ((w : Int)), wp_i ((p : Int))]) (rest := [wp_i H, wp_i 0, wp_i ((p : Int)), wp_i ((w : Int)), .ref 138]) ji_222_50 jc_222_314 rfl hq12 jk_225.symm (Nat.le_of_ble_eq_true rfl) rfl (by rw [jn_225]; rfl) (uc_225 (d := d) C H9.g.w0 H9.r H9.n (w := (w : Int)) (p := (p : Int)) (by omega) (by omega) (fun k hk => RG_b H9.g (by omega) (by omega) hk) (H9.t 0 (by decide)) H9.v0) (fun v1 h11 R => ?_)
        obtain ⟨rfl, C⟩ := R
        have r1 := clR_b (cr := cr) H9.g (w := (w : Int)) (p := (p : Int)) (by omega)
        obtain ⟨y1, ey1⟩ : ∃ z9_, clR cr t (w : Int) (p : Int) = z9_ := ⟨_, rfl⟩
        have ey1b : sayR (nmR t (w : Int) (p : Int)) (cr 0) (t 139 (40 + 2 * (w : Int))) (-99) 99 = y1 := ey1
        rw [ey1b]
        rw [ey1] at r1
        show wl_R _ _ 222 53 [some (.ref 138), some (wp_i ((p : Int))), some (wp_i ((w : Int))), l3] [wp_i y1, wp_i H, wp_i 0, wp_i ((p : Int)), wp_i ((w : Int)), .ref 138] h11 _
        refine wl_iadd (x := H) (y := y1) (z := H + y1) ji_222_53 (by omega) ?_
        refine wl_i2g (x := H + y1) ji_222_54 (by omega) ?_
        refine wl_s (pc' := 56) ji_222_55 rfl rfl rfl ?_
        refine wl_s (pc' := 57) ji_222_56 rfl rfl rfl ?_
        refine wl_s (pc' := 58) ji_222_57 rfl rfl rfl ?_
        obtain ⟨q14, hq14⟩ := cs_c C (by decide) sq_138
        refine wl_vc (d := d + 4) (as := [.ref 138, wp_i ((p : Int))]) (rest := [wp_i 0, wl_L (H + y1), wp_i 0, wp_i ((p : Int)), wp_i ((w : Int)), .ref 138]) ji_222_58 jc_222_289 rfl hq14 jk_220.symm (Nat.le_of_ble_eq_true rfl) rfl (by rw [jn_220]; rfl) (uc_220 (d := d + 4) C (p := (p : Int)) (by omega)) (fun v1 h13 R => ?_)
        obtain ⟨ee, rfl⟩ := R
        rw [ee]
        clear ee
        show wl_R _ _ 222 61 [some (.ref 138), some (wp_i ((p : Int))), some (wp_i ((w : Int))), l3] [wp_i (t 139 (16 + 3 * (p : Int))), wp_i 0, wl_L (H + y1), wp_i 0, wp_i ((p : Int)), wp_i ((w : Int)), .ref 138] _ _
        have rt := H9.g.a (p : Int) (by omega)
        refine wl_sc (d := d + 4) (as := [wl_L (H + y1), wp_i 0, wp_i (t 139 (16 + 3 * (p : Int)))]) (rest := [wp_i 0, wp_i ((p : Int)), wp_i ((w : Int)), .ref 138]) ji_222_61 jc_222_282 (Nat.le_of_ble_eq_true rfl) rfl (Nat.le_of_ble_eq_true rfl) rfl (by rw [jn_238]; rfl) (uc_238 (d := d + 4) (x := H + y1) (a := 0) (b := t 139 (16 + 3 * (p : Int))) (by unfold wl_q; omega) (by omega) (by omega) (by omega)) (fun v1 h15 R => ?_)
        obtain ⟨ee, rfl⟩ := R
        rw [ee]
        clear ee
        show wl_R _ _ 222 64 [some (.ref 138), some (wp_i ((p : Int))), some (wp_i ((w : Int))), l3] [wp_i (max 0 (min (t 139 (16 + 3 * (p : Int))) (H + y1))), wp_i 0, wp_i ((p : Int)), wp_i ((w : Int)), .ref 138] _ _
        obtain ⟨q17, hq17⟩ := cs_c C (by decide) sq_138
        refine wl_vc (d := d + 4) (as := [.ref 138, wp_i ((w : Int)), wp_i ((p : Int)), wp_i 0, wp_i (max 0 (min (t 139 (16 + 3 * (p : Int))) (H + y1)))]) (rest := []) ji_222_64 jc_222_317 rfl hq17 jk_239.symm (Nat.le_of_ble_eq_true rfl) rfl (by rw [jn_239]; rfl) (uc_239 (d := d + 4) C (w := (w : Int)) (p := (p : Int)) (k := 0) (v := max 0 (min (t 139 (16 + 3 * (p : Int))) (H + y1))) (by omega) (by omega) (by omega) (by omega)) (fun v1 h16 R => ?_)
        obtain ⟨rfl, C⟩ := R
        obtain ⟨s1, es1⟩ : ∃ z9_, up t 139 (52 + 2 * (8 * (w : Int) + (p : Int)) + 0) (max 0 (min (t 139 (16 + 3 * (p : Int))) (H + y1))) = z9_ := ⟨_, rfl⟩
        rw [es1] at C
        have hH1 : ¬ H = -1 := hy7b.mp (by omega)
        have q0 : htR s1 (w : Int) (p : Int) = max 0 (min (t 139 (16 + 3 * (p : Int))) (H + y1)) := by rw [← es1]; exact up_e _ _ _ _
        have q1 : s1 139 (52 + 2 * (8 * (w : Int) + (p : Int)) + 1) = t 139 (52 + 2 * (8 * (w : Int) + (p : Int)) + 1) := by rw [← es1, up_k (by omega)]
        have w1 := H9.g.e (w : Int) (p : Int) (by omega) (by omega)
        have w2 := H9.g.f (w : Int) (p : Int) (by omega) (by omega) (by show ¬ t 139 (52 + 2 * (8 * (w : Int) + (p : Int)) + 0) = -1; rw [eH]; exact hH1)
        have G1 : RG s1 := RG_up H9.g (w := (w : Int)) (p := (p : Int)) (by omega) (by omega) (fun j a b => by rw [← es1, up_k a]) (by omega) (by omega) (by omega)
        have H8 : RS s1 cr := RS_f H9 G1 (by rw [← es1, up_k (by omega)]) (fun j => by rw [← es1, up_a (by decide)])
        obtain ⟨E, eE⟩ : ∃ z9_, s1 139 (52 + 2 * (8 * (w : Int) + (p : Int)) + 1) = z9_ := ⟨_, rfl⟩
        show wl_R _ _ 222 67 [some (.ref 138), some (wp_i ((p : Int))), some (wp_i ((w : Int))), l3] [] h16 _
        refine wl_s (pc' := 68) ji_222_67 rfl rfl rfl ?_
        refine wl_s (pc' := 69) ji_222_68 rfl rfl rfl ?_
        refine wl_s (pc' := 70) ji_222_69 rfl rfl rfl ?_
        refine wl_s (pc' := 71) ji_222_70 rfl rfl rfl ?_
        obtain ⟨q19, hq19⟩ := cs_c C (by decide) sq_138
        refine wl_vc (d := d + 4) (as := [.ref 138, wp_i ((w : Int)), wp_i ((p : Int)), wp_i 1]) (rest := []) ji_222_71 jc_222_70 rfl hq19 jk_224.symm (Nat.le_of_ble_eq_true rfl) rfl (by rw [jn_224]; rfl) (uc_224 (d := d + 4) C (w := (w : Int)) (p := (p : Int)) (k := 1) (by omega) (by omega) (by omega)) (fun v1 h18 R => ?_)
        obtain ⟨ee, rfl⟩ := R
        rw [ee]
        clear ee
        rw [eE]
        show wl_R _ _ 222 74 [some (.ref 138), some (wp_i ((p : Int))), some (wp_i ((w : Int))), l3] [wp_i E] _ _
        refine wl_s (pc' := 75) ji_222_74 rfl rfl rfl ?_
        refine wl_s (pc' := 76) ji_222_75 rfl rfl rfl ?_
        refine wl_s (pc' := 77) ji_222_76 rfl rfl rfl ?_
        obtain ⟨q21, hq21⟩ := cs_c C (by decide) sq_138
        refine wl_vc (d := d + 4) (as := [.ref 138, wp_i ((w : Int)), wp_i ((p : Int))]) (rest := [wp_i E]) ji_222_77 jc_222_321 rfl hq21 jk_240.symm (Nat.le_of_ble_eq_true rfl) rfl (by rw [jn_240]; rfl) (uc_240 (d := d) C H8.g.w0 H8.r H8.n (w := (w : Int)) (p := (p : Int)) (by omega) (by omega) (fun k hk => RG_b H8.g (by omega) (by omega) hk) (H8.t 1 (by decide)) H8.v1) (fun v1 h20 R => ?_)
        obtain ⟨rfl, C⟩ := R
        have r2 := teR_b G1 cr (w := (w : Int)) (p := (p : Int))
        obtain ⟨y2, ey2⟩ : ∃ z9_, teR cr s1 (w : Int) (p : Int) = z9_ := ⟨_, rfl⟩
        have ey2b : sayR (nmR s1 (w : Int) (p : Int)) (cr 1) (s1 139 9) 0 100 = y2 := ey2
        rw [ey2b]
        rw [ey2] at r2
        show wl_R _ _ 222 80 [some (.ref 138), some (wp_i ((p : Int))), some (wp_i ((w : Int))), l3] [wp_i y2, wp_i E] h20 _
        refine wl_iadd (x := E) (y := y2) (z := E + y2) ji_222_80 (by omega) ?_
        refine wl_s (pc' := 82) (lv' := [some (.ref 138), some (wp_i ((p : Int))), some (wp_i ((w : Int))), some (wp_i (E + y2))]) ji_222_81 rfl rfl rfl ?_
        refine wl_s (pc' := 83) ji_222_82 rfl rfl rfl ?_
        refine wl_s (pc' := 84) ji_222_83 rfl rfl rfl ?_
        refine wl_s (pc' := 85) ji_222_84 rfl rfl rfl ?_
        refine wl_s (pc' := 86) ji_222_85 rfl rfl rfl ?_
        refine wl_s (pc' := 87) ji_222_86 rfl rfl rfl ?_
        obtain ⟨q23, hq23⟩ := cs_c C (by decide) sq_138
        refine wl_vc (d := d + 4) (as := [.ref 138, wp_i ((w : Int)), wp_i ((p : Int)), wp_i 1, wp_i (E + y2)]) (rest := []) ji_222_87 jc_222_317 rfl hq23 jk_239.symm (Nat.le_of_ble_eq_true rfl) rfl (by rw [jn_239]; rfl) (uc_239 (d := d + 4) C (w := (w : Int)) (p := (p : Int)) (k := 1) (v := E + y2) (by omega) (by omega) (by omega) (by omega)) (fun v1 h22 R => ?_)
        obtain ⟨rfl, C⟩ := R
        obtain ⟨s2, es2⟩ : ∃ z9_, up s1 139 (52 + 2 * (8 * (w : Int) + (p : Int)) + 1) (E + y2) = z9_ := ⟨_, rfl⟩
        rw [es2] at C
        show wl_R _ _ 222 90 [some (.ref 138), some (wp_i ((p : Int))), some (wp_i ((w : Int))), some (wp_i (E + y2))] [] h22 _
        refine wl_s (pc' := 91) ji_222_90 rfl rfl rfl ?_
        refine wl_bp ji_222_91 rfl ?_
        refine wl_icmp (t := 102) ji_222_93 rfl (by omega) (by omega) (fun (hb24 : (E + y2 : Int) ≤ 99) => ?_) (fun (hb24 : ¬ ((E + y2 : Int) ≤ 99)) => ?_)
        · refine wl_iinc (x := (w : Int)) (z := (w : Int) + 1) (lv' := [some (.ref 138), some (wp_i ((p : Int))), some (wp_i ((w : Int) + 1)), some (wp_i (E + y2))]) ji_222_102 rfl (Nat.le_of_ble_eq_true rfl) (by omega) rfl ?_
          refine wl_goto (t := 14) ji_222_105 rfl ?_
          have hpw : flW cr (w : Int) (p : Int) t = s2 := by unfold flW; rw [if_neg (show ¬ t 139 (52 + 2 * (8 * (w : Int) + (p : Int)) + 0) = -1 by rw [eH]; exact hH1)]; simp only [show htR t (w : Int) (p : Int) = H from eH, ey1, es1, ey2, eE, es2]; rw [if_neg (by omega)]
          rw [show (w : Int) + 1 = ((w + 1 : Nat) : Int) by omega]
          exact ih p (w + 1) (flW cr (w : Int) (p : Int) t) _ _ (cs_mono C hpw.symm) hp (by omega) (by rw [ht]; rfl) (RS_f H9 (flW_RG H9.g (by omega) (by omega)) (flW_fr (Or.inr ⟨by omega, by omega⟩)) (fun j => flW_fr (Or.inl (by decide)))) ((flW_fr (Or.inr ⟨by omega, by omega⟩)).trans e0) ((flW_fr (Or.inr ⟨by omega, by omega⟩)).trans e1) hk
        · refine wl_s (pc' := 97) ji_222_96 rfl rfl rfl ?_
          refine wl_s (pc' := 98) ji_222_97 rfl rfl rfl ?_
          refine wl_s (pc' := 99) ji_222_98 rfl rfl rfl ?_
          obtain ⟨q26, hq26⟩ := cs_c C (by decide) sq_138
          refine wl_vc (d := d + 4) (as := [.ref 138, wp_i ((w : Int)), wp_i ((p : Int))]) (rest := []) ji_222_99 jc_222_324 rfl hq26 jk_241.symm (Nat.le_of_ble_eq_true rfl) rfl (by rw [jn_241]; rfl) (uc_241 (d := d + 3) C (w := (w : Int)) (p := (p : Int)) (by omega) (by omega)) (fun v1 h25 R => ?_)
          obtain ⟨rfl, C⟩ := R
          show wl_R _ _ 222 102 [some (.ref 138), some (wp_i ((p : Int))), some (wp_i ((w : Int))), some (wp_i (E + y2))] [] h25 _
          refine wl_iinc (x := (w : Int)) (z := (w : Int) + 1) (lv' := [some (.ref 138), some (wp_i ((p : Int))), some (wp_i ((w : Int) + 1)), some (wp_i (E + y2))]) ji_222_102 rfl (Nat.le_of_ble_eq_true rfl) (by omega) rfl ?_
          refine wl_goto (t := 14) ji_222_105 rfl ?_
          have hpw : flW cr (w : Int) (p : Int) t = up (up s2 139 (52 + 2 * (8 * (w : Int) + (p : Int)) + 0) (-1)) 139 (52 + 2 * (8 * (w : Int) + (p : Int)) + 1) 0 := by unfold flW; rw [if_neg (show ¬ t 139 (52 + 2 * (8 * (w : Int) + (p : Int)) + 0) = -1 by rw [eH]; exact hH1)]; simp only [show htR t (w : Int) (p : Int) = H from eH, ey1, es1, ey2, eE, es2]; rw [if_pos (by omega)]
          rw [show (w : Int) + 1 = ((w + 1 : Nat) : Int) by omega]
          exact ih p (w + 1) (flW cr (w : Int) (p : Int) t) _ _ (cs_mono C hpw.symm) hp (by omega) (by rw [ht]; rfl) (RS_f H9 (flW_RG H9.g (by omega) (by omega)) (flW_fr (Or.inr ⟨by omega, by omega⟩)) (fun j => flW_fr (Or.inl (by decide)))) ((flW_fr (Or.inr ⟨by omega, by omega⟩)).trans e0) ((flW_fr (Or.inr ⟨by omega, by omega⟩)).trans e1) hk
      · refine wl_goto (t := 102) ji_222_33 rfl ?_
        refine wl_iinc (x := (w : Int)) (z := (w : Int) + 1) (lv' := [some (.ref 138), some (wp_i ((p : Int))), some (wp_i ((w : Int) + 1)), l3]) ji_222_102 rfl (Nat.le_of_ble_eq_true rfl) (by omega) rfl ?_
        refine wl_goto (t := 14) ji_222_105 rfl ?_
        have hpw : flW cr (w : Int) (p : Int) t = t := by unfold flW; rw [if_pos (show t 139 (52 + 2 * (8 * (w : Int) + (p : Int)) + 0) = -1 by rw [eH]; exact Classical.byContradiction (fun c => by have := hy7b.mpr c; omega))]
        rw [show (w : Int) + 1 = ((w + 1 : Nat) : Int) by omega]
        exact ih p (w + 1) (flW cr (w : Int) (p : Int) t) _ _ (cs_mono C hpw.symm) hp (by omega) (by rw [ht]; rfl) (RS_f H9 (flW_RG H9.g (by omega) (by omega)) (flW_fr (Or.inr ⟨by omega, by omega⟩)) (fun j => flW_fr (Or.inl (by decide)))) ((flW_fr (Or.inr ⟨by omega, by omega⟩)).trans e0) ((flW_fr (Or.inr ⟨by omega, by omega⟩)).trans e1) hk
