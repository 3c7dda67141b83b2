/-! -/
/-! -/
set_option maxRecDepth 100000 in
theorem ji_219_178 : mj_ins 219 178 = some (.aload_n 0) := by decide +kernel
set_option maxRecDepth 100000 in
theorem ji_219_179 : mj_ins 219 179 = some (.getfield 7) := by decide +kernel
set_option maxRecDepth 100000 in
theorem ji_219_182 : mj_ins 219 182 = some (.iconst 4) := by decide +kernel
set_option maxRecDepth 100000 in
theorem ji_219_183 : mj_ins 219 183 = some (.dup2) := by decide +kernel
set_option maxRecDepth 100000 in
theorem ji_219_184 : mj_ins 219 184 = some (.iaload) := by decide +kernel
set_option maxRecDepth 100000 in
theorem ji_219_185 : mj_ins 219 185 = some (.iconst 1) := by decide +kernel
set_option maxRecDepth 100000 in
theorem ji_219_186 : mj_ins 219 186 = some (.iadd) := by decide +kernel
set_option maxRecDepth 100000 in
theorem ji_219_187 : mj_ins 219 187 = some (.iastore) := by decide +kernel
set_option maxRecDepth 100000 in
theorem ji_219_188 : mj_ins 219 188 = some (.return_) := by decide +kernel
set_option maxRecDepth 100000 in
theorem jr_219 : mj_ret 219 = none := by decide +kernel
set_option maxRecDepth 100000 in
theorem ji_219_56 : mj_ins 219 56 = some (.sipush 184) := by decide +kernel
set_option maxRecDepth 100000 in
theorem ji_219_59 : mj_ins 219 59 = some (.bipush 110) := by decide +kernel
set_option maxRecDepth 100000 in
theorem ji_219_61 : mj_ins 219 61 = some (.aload_n 0) := by decide +kernel
set_option maxRecDepth 100000 in
theorem ji_219_62 : mj_ins 219 62 = some (.getfield 7) := by decide +kernel
set_option maxRecDepth 100000 in
theorem ji_219_65 : mj_ins 219 65 = some (.iconst 4) := by decide +kernel
set_option maxRecDepth 100000 in
theorem ji_219_66 : mj_ins 219 66 = some (.iaload) := by decide +kernel
set_option maxRecDepth 100000 in
theorem ji_219_67 : mj_ins 219 67 = some (.imul) := by decide +kernel
set_option maxRecDepth 100000 in
theorem ji_219_68 : mj_ins 219 68 = some (.iadd) := by decide +kernel
set_option maxRecDepth 100000 in
theorem ji_219_69 : mj_ins 219 69 = some (.istore_n 1) := by decide +kernel
set_option maxRecDepth 100000 in
theorem ji_219_70 : mj_ins 219 70 = some (.aload_n 0) := by decide +kernel
set_option maxRecDepth 100000 in
theorem ji_219_71 : mj_ins 219 71 = some (.getfield 7) := by decide +kernel
set_option maxRecDepth 100000 in
theorem ji_219_74 : mj_ins 219 74 = some (.iload_n 1) := by decide +kernel
set_option maxRecDepth 100000 in
theorem ji_219_75 : mj_ins 219 75 = some (.aload_n 0) := by decide +kernel
set_option maxRecDepth 100000 in
theorem ji_219_76 : mj_ins 219 76 = some (.getfield 7) := by decide +kernel
set_option maxRecDepth 100000 in
theorem ji_219_79 : mj_ins 219 79 = some (.iconst 0) := by decide +kernel
set_option maxRecDepth 100000 in
theorem ji_219_80 : mj_ins 219 80 = some (.iaload) := by decide +kernel
set_option maxRecDepth 100000 in
theorem ji_219_81 : mj_ins 219 81 = some (.iastore) := by decide +kernel
set_option maxRecDepth 100000 in
theorem ji_219_82 : mj_ins 219 82 = some (.iconst 0) := by decide +kernel
set_option maxRecDepth 100000 in
theorem ji_219_83 : mj_ins 219 83 = some (.istore_n 2) := by decide +kernel
set_option maxRecDepth 100000 in
theorem ji_219_114 : mj_ins 219 114 = some (.iconst 0) := by decide +kernel
set_option maxRecDepth 100000 in
theorem ji_219_115 : mj_ins 219 115 = some (.istore_n 2) := by decide +kernel
set_option maxRecDepth 100000 in
theorem ji_219_144 : mj_ins 219 144 = some (.iconst 0) := by decide +kernel
set_option maxRecDepth 100000 in
theorem ji_219_145 : mj_ins 219 145 = some (.istore_n 2) := by decide +kernel
/-! the reference's keep, whole; laid by program (wp_u43.py) -/
def keR (s : sg_) : sg_ := up (rwR s (184 + 110 * s 139 4) 110) 139 4 (s 139 4 + 1)
def keepR (s : sg_) : sg_ := if s 139 4 = 30 then keR (up (shR s 3190) 139 4 29) else keR s
theorem uc_219z {nn d : Nat} {h : mj_H} {s : sg_} {a i : Int} (h4 : 0 ≤ s 139 4 ∧ s 139 4 < 30) (ha : 184 + 110 * s 139 4 = a) (C : CS h (rwR s a 110)) : wl_R nn (d + 1) 219 178 [some (.ref 138), some (wp_i a), some (wp_i i)] [] h (fun v1 h1 => v1 = none ∧ CS h1 (keR s)) := by
  obtain ⟨t, et⟩ : ∃ t, rwR s a 110 = t := ⟨_, rfl⟩
  rw [et] at C
  have t4 : t 139 4 = s 139 4 := by rw [← et, rwR_l (by omega)]
  refine wl_s (pc' := 179) ji_219_178 rfl rfl rfl ?_
  refine cs_gr (r := 139) (k := 0) C (by decide) sq_138 rfl ji_219_179 jf_219_7 ?_
  refine wl_s (pc' := 183) ji_219_182 rfl rfl rfl ?_
  refine wl_s (pc' := 184) ji_219_183 rfl rfl rfl ?_
  refine cs_l (x := 4) C (by decide) (by decide) sq_139 (by omega) ji_219_184 (fun ld10 ld11 ld12 => ?_)
  rw [t4] at ld12 ⊢
  refine wl_s (pc' := 186) ji_219_185 rfl rfl rfl ?_
  refine wl_iadd (x := s 139 4) (y := 1) (z := s 139 4 + 1) ji_219_186 (by omega) ?_
  refine cs_s (x := 4) (y := s 139 4 + 1) C (by decide) sq_139 (by omega) (by omega) ji_219_187 (fun h st20 st21 C => ?_)
  obtain ⟨s3, es3⟩ : ∃ z9_, up t 139 4 (s 139 4 + 1) = z9_ := ⟨_, rfl⟩
  rw [es3] at C
  exact wl_rv ji_219_188 jr_219 (⟨rfl, cs_mono C (by unfold keR; rw [ha, et, ← es3])⟩)
theorem uc_219m {nn d : Nat} {h : mj_H} {s : sg_} {l1 l2 : Option Value} {a : Int} (h4 : 0 ≤ s 139 4 ∧ s 139 4 < 30) (ha : 184 + 110 * s 139 4 = a) (C : CS h s) : wl_R nn (d + 1) 219 56 [some (.ref 138), l1, l2] [] h (fun v1 h1 => v1 = none ∧ CS h1 (keR s)) := by
  refine wl_sp ji_219_56 rfl ?_
  refine wl_bp ji_219_59 rfl ?_
  refine wl_s (pc' := 62) ji_219_61 rfl rfl rfl ?_
  refine cs_gr (r := 139) (k := 0) C (by decide) sq_138 rfl ji_219_62 jf_219_7 ?_
  refine wl_s (pc' := 66) ji_219_65 rfl rfl rfl ?_
  refine cs_l (x := 4) C (by decide) (by decide) sq_139 (by omega) ji_219_66 (fun ld10 ld11 ld12 => ?_)
  refine wl_imul (x := 110) (y := s 139 4) (z := 110 * (s 139 4)) ji_219_67 (by omega) ?_
  refine wl_iadd (x := 184) (y := 110 * (s 139 4)) (z := a) ji_219_68 (by omega) ?_
  refine wl_s (pc' := 70) (lv' := [some (.ref 138), some (wp_i a), l2]) ji_219_69 rfl rfl rfl ?_
  refine wl_s (pc' := 71) ji_219_70 rfl rfl rfl ?_
  refine cs_gr (r := 139) (k := 0) C (by decide) sq_138 rfl ji_219_71 jf_219_7 ?_
  refine wl_s (pc' := 75) ji_219_74 rfl rfl rfl ?_
  refine wl_s (pc' := 76) ji_219_75 rfl rfl rfl ?_
  refine cs_gr (r := 139) (k := 0) C (by decide) sq_138 rfl ji_219_76 jf_219_7 ?_
  refine wl_s (pc' := 80) ji_219_79 rfl rfl rfl ?_
  refine cs_l (x := 0) C (by decide) (by decide) sq_139 (by omega) ji_219_80 (fun ld20 ld21 ld22 => ?_)
  refine cs_s (x := a) (y := s 139 0) C (by decide) sq_139 (by omega) (by omega) ji_219_81 (fun h st30 st31 C => ?_)
  obtain ⟨s4, es4⟩ : ∃ z9_, up s 139 a (s 139 0) = z9_ := ⟨_, rfl⟩
  rw [es4] at C
  refine wl_s (pc' := 83) ji_219_82 rfl rfl rfl ?_
  refine wl_s (pc' := 84) (lv' := [some (.ref 138), some (wp_i a), some (wp_i 0)]) ji_219_83 rfl rfl rfl ?_
  refine uc_219b (by omega) nn 0 _ (by omega) (cs_mono C (by rw [← es4]; funext b j; unfold up rwR; by_cases c : b = 139 ∧ j = a; (obtain ⟨rfl, rfl⟩ := c; rw [if_pos ⟨rfl, rfl⟩, if_pos ⟨rfl, by omega, by omega⟩, Int.sub_self]; rfl); (rw [if_neg c, if_neg (fun z => c ⟨z.1, by omega⟩)]))) (fun nn h C i => ?_)
  refine wl_s (pc' := 115) ji_219_114 rfl rfl rfl ?_
  refine wl_s (pc' := 116) (lv' := [some (.ref 138), some (wp_i a), some (wp_i 0)]) ji_219_115 rfl rfl rfl ?_
  refine uc_219c (by omega) nn 0 _ (by omega) C (fun nn h C i => ?_)
  refine wl_s (pc' := 145) ji_219_144 rfl rfl rfl ?_
  refine wl_s (pc' := 146) (lv' := [some (.ref 138), some (wp_i a), some (wp_i 0)]) ji_219_145 rfl rfl rfl ?_
  refine uc_219d (by omega) nn 0 _ (by omega) C (fun nn h C i => ?_)
  exact uc_219z h4 ha C
