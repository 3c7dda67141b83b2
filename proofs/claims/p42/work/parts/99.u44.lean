/-! -/
/-! -/
set_option maxRecDepth 100000 in
theorem ji_219_46 : mj_ins 219 46 = some (.aload_n 0) := by decide +kernel
set_option maxRecDepth 100000 in
theorem ji_219_47 : mj_ins 219 47 = some (.getfield 7) := by decide +kernel
set_option maxRecDepth 100000 in
theorem ji_219_50 : mj_ins 219 50 = some (.iconst 4) := by decide +kernel
set_option maxRecDepth 100000 in
theorem ji_219_51 : mj_ins 219 51 = some (.dup2) := by decide +kernel
set_option maxRecDepth 100000 in
theorem ji_219_52 : mj_ins 219 52 = some (.iaload) := by decide +kernel
set_option maxRecDepth 100000 in
theorem ji_219_53 : mj_ins 219 53 = some (.iconst 1) := by decide +kernel
set_option maxRecDepth 100000 in
theorem ji_219_54 : mj_ins 219 54 = some (.isub) := by decide +kernel
set_option maxRecDepth 100000 in
theorem ji_219_55 : mj_ins 219 55 = some (.iastore) := by decide +kernel
set_option maxRecDepth 100000 in
theorem ji_219_0 : mj_ins 219 0 = some (.aload_n 0) := by decide +kernel
set_option maxRecDepth 100000 in
theorem ji_219_1 : mj_ins 219 1 = some (.getfield 7) := by decide +kernel
set_option maxRecDepth 100000 in
theorem ji_219_4 : mj_ins 219 4 = some (.iconst 4) := by decide +kernel
set_option maxRecDepth 100000 in
theorem ji_219_5 : mj_ins 219 5 = some (.iaload) := by decide +kernel
set_option maxRecDepth 100000 in
theorem ji_219_6 : mj_ins 219 6 = some (.bipush 30) := by decide +kernel
set_option maxRecDepth 100000 in
theorem ji_219_8 : mj_ins 219 8 = some (.if_icmp .ne 48) := by decide +kernel
set_option maxRecDepth 100000 in
theorem ji_219_11 : mj_ins 219 11 = some (.iconst 0) := by decide +kernel
set_option maxRecDepth 100000 in
theorem ji_219_12 : mj_ins 219 12 = some (.istore_n 1) := by decide +kernel
/-! the reference's keep; laid by program (wp_u44.py) -/
theorem uc_219 {nn d : Nat} {h : mj_H} {s : sg_} (h4 : 0 ≤ s 139 4 ∧ s 139 4 ≤ 30) (C : CS h s) : wl_R nn (d + 1) 219 0 [some (.ref 138), none, none] [] h (fun v1 h1 => v1 = none ∧ CS h1 (keepR s)) := by
  refine wl_s (pc' := 1) ji_219_0 rfl rfl rfl ?_
  refine cs_gr (r := 139) (k := 0) C (by decide) sq_138 rfl ji_219_1 jf_219_7 ?_
  refine wl_s (pc' := 5) ji_219_4 rfl rfl rfl ?_
  refine cs_l (x := 4) C (by decide) (by decide) sq_139 (by omega) ji_219_5 (fun ld10 ld11 ld12 => ?_)
  refine wl_bp ji_219_6 rfl ?_
  refine wl_icmp (t := 56) ji_219_8 rfl (by omega) (by omega) (fun (hb2 : ¬ (s 139 4 : Int) = 30) => ?_) (fun (hb2 : ¬ (¬ (s 139 4 : Int) = 30)) => ?_)
  · refine wl_mono (uc_219m (by omega) rfl C) (fun v1 h1 R => ⟨R.1, cs_mono R.2 ?_⟩)
    unfold keepR; rw [if_neg (by omega)]
  · refine wl_s (pc' := 12) ji_219_11 rfl rfl rfl ?_
    refine wl_s (pc' := 13) (lv' := [some (.ref 138), some (wp_i 0), none]) ji_219_12 rfl rfl rfl ?_
    have h30 : s 139 4 = 30 := by omega
    refine uc_219a nn 0 _ (by omega) (cs_mono C shR_0.symm) (fun nn h C i => ?_)
    obtain ⟨t, et⟩ : ∃ t, shR s 3190 = t := ⟨_, rfl⟩
    rw [et] at C
    have t4 : t 139 4 = s 139 4 := by rw [← et]; exact if_neg (by omega)
    refine wl_s (pc' := 47) ji_219_46 rfl rfl rfl ?_
    refine cs_gr (r := 139) (k := 0) C (by decide) sq_138 rfl ji_219_47 jf_219_7 ?_
    refine wl_s (pc' := 51) ji_219_50 rfl rfl rfl ?_
    refine wl_s (pc' := 52) ji_219_51 rfl rfl rfl ?_
    refine cs_l (x := 4) C (by decide) (by decide) sq_139 (by omega) ji_219_52 (fun ld10 ld11 ld12 => ?_)
    rw [t4] at ld12 ⊢
    refine wl_s (pc' := 54) ji_219_53 rfl rfl rfl ?_
    refine wl_isub (x := s 139 4) (y := 1) (z := 29) ji_219_54 (by omega) ?_
    refine cs_s (x := 4) (y := 29) C (by decide) sq_139 (by omega) (by omega) ji_219_55 (fun h st20 st21 C => ?_)
    obtain ⟨s3, es3⟩ : ∃ z9_, up t 139 4 29 = z9_ := ⟨_, rfl⟩
    rw [es3] at C
    refine wl_mono (uc_219m (by rw [← es3, up_e]; decide) rfl C) (fun v1 h1 R => ⟨R.1, cs_mono R.2 ?_⟩)
    unfold keepR; rw [if_pos h30, et, es3]
