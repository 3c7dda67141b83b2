/-! -/
set_option maxRecDepth 100000 in
theorem sq_69 : sh_T[69]? = some (2, [73, 81, 84, 86, 90, 14, 0, 0], 0, 0) := by decide +kernel
set_option maxRecDepth 100000 in
theorem sq_70 : sh_T[70]? = some (3, [0, 0, 74, 75, 76, 77, 78, 79, 80, 0, 0, 0, 0], 0, 0) := by decide +kernel
/-! image and back, in the class; laid by program (wp_u60.py) -/
theorem isF_70 : isF 70 := ⟨by decide, by decide +kernel, by decide +kernel, by decide +kernel, by decide +kernel, by decide +kernel, by decide +kernel, by decide +kernel, by decide +kernel, by decide⟩
/-- a state of the game (at A) stands at B too; else nothing is changed -/
def CPY (s t : sg_) (A B : Nat) : Prop := (t B 6 = s A 6 ∧ t B 7 = s A 7) ∧ (t (B + 1) 0 = s (A + 1) 0 ∧ t (B + 1) 1 = s (A + 1) 1) ∧ (∀ j, 0 ≤ j → j < 8 → t (B + 2) j = s (A + 2) j ∧ t (B + 3) j = s (A + 3) j ∧ t (B + 4) j = s (A + 4) j) ∧ (∀ j, 0 ≤ j → j < 6 → t (B + 5) j = s (A + 5) j ∧ t (B + 6) j = s (A + 6) j) ∧ (∀ j, 0 ≤ j → j < 48 → t (B + 7) j = s (A + 7) j ∧ t (B + 8) j = s (A + 8) j) ∧ (t (B + 1) 9 = s (A + 1) 9 ∧ t (B + 1) 10 = s (A + 1) 10 ∧ t (B + 1) 11 = s (A + 1) 11 ∧ t (B + 1) 12 = s (A + 1) 12) ∧ (∀ j, 0 ≤ j → j < 40 → t (B + 10) j = s (A + 10) j ∧ t (B + 11) j = s (A + 11) j) ∧ t (B + 9) 2 = s (A + 9) 2 ∧ (∀ j, 0 ≤ j → j < 5700 → t (B + 13) j = s (A + 13) j) ∧ (t (B + 12) 1 = s (A + 12) 1 ∧ t (B + 12) 2 = s (A + 12) 2) ∧ (∀ j, 0 ≤ j → j < 8 → t (B + 15) j = s (A + 15) j ∧ t (B + 16) j = s (A + 16) j) ∧ t (B + 14) 3 = s (A + 14) 3 ∧ (∀ j, 0 ≤ j → j < 10 → t (B + 19) j = s (A + 19) j ∧ t (B + 20) j = s (A + 20) j) ∧ t (B + 18) 3 = s (A + 18) 3 ∧ ∀ (b : Nat) (j : Int), ¬ (B ≤ b ∧ b ≤ B + 21) → t b j = s b j
theorem uc_161a {nn d : Nat} {h : mj_H} {s : sg_} (C : CS h s) (hb : ∀ j, 0 ≤ j → j < 8 → s 63 j = 0 ∨ s 63 j = 1) : wl_R nn (d + 2) 161 0 [some (.ref 69), some (.ref 47)] [] h (fun v1 h1 => v1 = none ∧ ∃ t, CS h1 t ∧ CPY s t 47 69) := by
  refine wl_s (pc' := 1) ji_161_0 rfl rfl rfl ?_
  refine cs_gr (r := 70) (k := 0) C (by decide) sq_69 rfl ji_161_1 jf_161_12 ?_
  refine wl_s (pc' := 5) ji_161_4 rfl rfl rfl ?_
  refine cs_gr (r := 48) (k := 0) C (by decide) sq_47 rfl ji_161_5 jf_161_12 ?_
  obtain ⟨q2, hq2⟩ := cs_c C (by decide) sq_70
  refine wl_vc (d := d + 1) (as := [.ref 70, .ref 48]) (rest := []) ji_161_8 jc_161_57 rfl hq2 jk_106.symm (Nat.le_of_ble_eq_true rfl) rfl (by rw [jn_106]; rfl) (uc_106 (d := d) C isF_70 isF_48 (by decide)) (fun v1 h1 R => ?_)
  obtain ⟨rfl, t1, C, m1, m2, m4, m6, m9, f1⟩ := R
  have m2 : ∀ j, 0 ≤ j → j < 8 → t1 71 j = s 49 j ∧ t1 72 j = s 50 j ∧ t1 73 j = s 51 j := m2
  have m4 : ∀ j, 0 ≤ j → j < 6 → t1 74 j = s 52 j ∧ t1 75 j = s 53 j := m4
  have m6 : ∀ j, 0 ≤ j → j < 48 → t1 76 j = s 54 j ∧ t1 77 j = s 55 j := m6
  show wl_R _ _ 161 11 [some (.ref 69), some (.ref 47)] [] h1 _
  refine wl_s (pc' := 12) ji_161_11 rfl rfl rfl ?_
  refine cs_gr (r := 78) (k := 1) C (by decide) sq_69 rfl ji_161_12 jf_161_21 ?_
  refine wl_s (pc' := 16) ji_161_15 rfl rfl rfl ?_
  refine cs_gr (r := 56) (k := 1) C (by decide) sq_47 rfl ji_161_16 jf_161_21 ?_
  obtain ⟨q4, hq4⟩ := cs_c C (by decide) sq_78
  refine wl_vc (d := d + 1) (as := [.ref 78, .ref 56]) (rest := []) ji_161_19 jc_161_61 rfl hq4 jk_162.symm (Nat.le_of_ble_eq_true rfl) rfl (by rw [jn_162]; rfl) (uc_162a (d := d + 1) C) (fun v1 h3 R => ?_)
  obtain ⟨rfl, t2, C, b1, b2, b3, f2⟩ := R
  show wl_R _ _ 161 22 [some (.ref 69), some (.ref 47)] [] h3 _
  refine wl_s (pc' := 23) ji_161_22 rfl rfl rfl ?_
  refine cs_gr (r := 81) (k := 2) C (by decide) sq_69 rfl ji_161_23 jf_161_28 ?_
  refine wl_s (pc' := 27) ji_161_26 rfl rfl rfl ?_
  refine cs_gr (r := 59) (k := 2) C (by decide) sq_47 rfl ji_161_27 jf_161_28 ?_
  obtain ⟨q6, hq6⟩ := cs_c C (by decide) sq_81
  refine wl_vc (d := d + 1) (as := [.ref 81, .ref 59]) (rest := []) ji_161_30 jc_161_64 rfl hq6 jk_163.symm (Nat.le_of_ble_eq_true rfl) rfl (by rw [jn_163]; rfl) (uc_163a (d := d + 1) C) (fun v1 h5 R => ?_)
  obtain ⟨rfl, t3, C, r1, r2, r3, f3⟩ := R
  have hb3 : ∀ j, 0 ≤ j → j < 8 → t3 63 j = 0 ∨ t3 63 j = 1 := fun j a b => by rw [f3 _ _ (by omega), f2 _ _ (by omega), f1 _ _ (by omega)]; exact hb j a b
  show wl_R _ _ 161 33 [some (.ref 69), some (.ref 47)] [] h5 _
  refine wl_s (pc' := 34) ji_161_33 rfl rfl rfl ?_
  refine cs_gr (r := 83) (k := 3) C (by decide) sq_69 rfl ji_161_34 jf_161_35 ?_
  refine wl_s (pc' := 38) ji_161_37 rfl rfl rfl ?_
  refine cs_gr (r := 61) (k := 3) C (by decide) sq_47 rfl ji_161_38 jf_161_35 ?_
  obtain ⟨q8, hq8⟩ := cs_c C (by decide) sq_83
  refine wl_vc (d := d + 1) (as := [.ref 83, .ref 61]) (rest := []) ji_161_41 jc_161_67 rfl hq8 jk_164.symm (Nat.le_of_ble_eq_true rfl) rfl (by rw [jn_164]; rfl) (uc_164a (d := d + 1) C hb3) (fun v1 h7 R => ?_)
  obtain ⟨rfl, t4, C, d1, d2, f4⟩ := R
  show wl_R _ _ 161 44 [some (.ref 69), some (.ref 47)] [] h7 _
  refine wl_s (pc' := 45) ji_161_44 rfl rfl rfl ?_
  refine cs_gr (r := 87) (k := 4) C (by decide) sq_69 rfl ji_161_45 jf_161_42 ?_
  refine wl_s (pc' := 49) ji_161_48 rfl rfl rfl ?_
  refine cs_gr (r := 65) (k := 4) C (by decide) sq_47 rfl ji_161_49 jf_161_42 ?_
  obtain ⟨q10, hq10⟩ := cs_c C (by decide) sq_87
  refine wl_vc (d := d + 1) (as := [.ref 87, .ref 65]) (rest := []) ji_161_52 jc_161_70 rfl hq10 jk_165.symm (Nat.le_of_ble_eq_true rfl) rfl (by rw [jn_165]; rfl) (uc_165a (d := d + 1) C) (fun v1 h9 R => ?_)
  obtain ⟨rfl, t5, C, c1, c2, c3, f5⟩ := R
  show wl_R _ _ 161 55 [some (.ref 69), some (.ref 47)] [] h9 _
  have w6 : t5 47 6 = s 47 6 := by rw [f5 _ _ (by omega), f4 _ _ (by omega), f3 _ _ (by omega), f2 _ _ (by omega), f1 _ _ (by omega)]
  have w7 : t5 47 7 = s 47 7 := by rw [f5 _ _ (by omega), f4 _ _ (by omega), f3 _ _ (by omega), f2 _ _ (by omega), f1 _ _ (by omega)]
  refine wl_s (pc' := 56) ji_161_55 rfl rfl rfl ?_
  refine wl_s (pc' := 57) ji_161_56 rfl rfl rfl ?_
  refine cs_gi (k := 6) (kI := 6) C (by decide) (by decide) sq_47 rfl rfl ji_161_57 jf_161_46 ?_
  rw [w6]
  have bd11 : wp_r (s 47 6) := w6 ▸ cs_ri (k := 6) (kI := 6) C (by decide) (by decide) sq_47 rfl rfl (show 6 < 8 by decide)
  refine cs_pi (k := 6) (kI := 6) (y := s 47 6) C (by decide) sq_69 rfl rfl ji_161_60 jf_161_46 rfl rfl (by omega) (fun h C => ?_)
  obtain ⟨s12, es12⟩ : ∃ z9_, up t5 69 6 (s 47 6) = z9_ := ⟨_, rfl⟩
  rw [es12] at C
  refine wl_s (pc' := 64) ji_161_63 rfl rfl rfl ?_
  refine wl_s (pc' := 65) ji_161_64 rfl rfl rfl ?_
  refine cs_gi (k := 7) (kI := 7) C (by decide) (by decide) sq_47 rfl rfl ji_161_65 jf_161_50 ?_
  have rd13 : s12 47 7 = s 47 7 := by rw [← es12, up_a (by omega)]; exact w7
  rw [rd13]
  have bd14 : wp_r (s 47 7) := rd13 ▸ cs_ri (k := 7) (kI := 7) C (by decide) (by decide) sq_47 rfl rfl (show 7 < 8 by decide)
  refine cs_pi (k := 7) (kI := 7) (y := s 47 7) C (by decide) sq_69 rfl rfl ji_161_68 jf_161_50 rfl rfl (by omega) (fun h C => ?_)
  obtain ⟨s15, es15⟩ : ∃ z9_, up s12 69 7 (s 47 7) = z9_ := ⟨_, rfl⟩
  rw [es15] at C
  exact wl_rv ji_161_71 jr_161 (⟨rfl, s15, C, ⟨by { show s15 69 6 = s 47 6; rw [← es15, up_k (by decide), ← es12, up_e] }, by { show s15 69 7 = s 47 7; rw [← es15, up_e] }⟩, ⟨by { show s15 70 0 = s 48 0; rw [← es15, up_a (by omega), ← es12, up_a (by omega), f5 _ _ (by omega), f4 _ _ (by omega), f3 _ _ (by omega), f2 _ _ (by omega), m1.1] }, by { show s15 70 1 = s 48 1; rw [← es15, up_a (by omega), ← es12, up_a (by omega), f5 _ _ (by omega), f4 _ _ (by omega), f3 _ _ (by omega), f2 _ _ (by omega), m1.2] }⟩, fun j a b => ⟨by { show s15 71 j = s 49 j; rw [← es15, up_a (by omega), ← es12, up_a (by omega), f5 _ _ (by omega), f4 _ _ (by omega), f3 _ _ (by omega), f2 _ _ (by omega), (m2 j a b).1] }, by { show s15 72 j = s 50 j; rw [← es15, up_a (by omega), ← es12, up_a (by omega), f5 _ _ (by omega), f4 _ _ (by omega), f3 _ _ (by omega), f2 _ _ (by omega), (m2 j a b).2.1] }, by { show s15 73 j = s 51 j; rw [← es15, up_a (by omega), ← es12, up_a (by omega), f5 _ _ (by omega), f4 _ _ (by omega), f3 _ _ (by omega), f2 _ _ (by omega), (m2 j a b).2.2] }⟩, fun j a b => ⟨by { show s15 74 j = s 52 j; rw [← es15, up_a (by omega), ← es12, up_a (by omega), f5 _ _ (by omega), f4 _ _ (by omega), f3 _ _ (by omega), f2 _ _ (by omega), (m4 j a b).1] }, by { show s15 75 j = s 53 j; rw [← es15, up_a (by omega), ← es12, up_a (by omega), f5 _ _ (by omega), f4 _ _ (by omega), f3 _ _ (by omega), f2 _ _ (by omega), (m4 j a b).2] }⟩, fun j a b => ⟨by { show s15 76 j = s 54 j; rw [← es15, up_a (by omega), ← es12, up_a (by omega), f5 _ _ (by omega), f4 _ _ (by omega), f3 _ _ (by omega), f2 _ _ (by omega), (m6 j a b).1] }, by { show s15 77 j = s 55 j; rw [← es15, up_a (by omega), ← es12, up_a (by omega), f5 _ _ (by omega), f4 _ _ (by omega), f3 _ _ (by omega), f2 _ _ (by omega), (m6 j a b).2] }⟩, ⟨by { show s15 70 9 = s 48 9; rw [← es15, up_a (by omega), ← es12, up_a (by omega), f5 _ _ (by omega), f4 _ _ (by omega), f3 _ _ (by omega), f2 _ _ (by omega), m9.1] }, by { show s15 70 10 = s 48 10; rw [← es15, up_a (by omega), ← es12, up_a (by omega), f5 _ _ (by omega), f4 _ _ (by omega), f3 _ _ (by omega), f2 _ _ (by omega), m9.2.1] }, by { show s15 70 11 = s 48 11; rw [← es15, up_a (by omega), ← es12, up_a (by omega), f5 _ _ (by omega), f4 _ _ (by omega), f3 _ _ (by omega), f2 _ _ (by omega), m9.2.2.1] }, by { show s15 70 12 = s 48 12; rw [← es15, up_a (by omega), ← es12, up_a (by omega), f5 _ _ (by omega), f4 _ _ (by omega), f3 _ _ (by omega), f2 _ _ (by omega), m9.2.2.2] }⟩, fun j a b => ⟨by { show s15 79 j = s 57 j; rw [← es15, up_a (by omega), ← es12, up_a (by omega), f5 _ _ (by omega), f4 _ _ (by omega), f3 _ _ (by omega), b1 j a b, f1 _ _ (by omega)] }, by { show s15 80 j = s 58 j; rw [← es15, up_a (by omega), ← es12, up_a (by omega), f5 _ _ (by omega), f4 _ _ (by omega), f3 _ _ (by omega), b2 j a b, f1 _ _ (by omega)] }⟩, by { show s15 78 2 = s 56 2; rw [← es15, up_a (by omega), ← es12, up_a (by omega), f5 _ _ (by omega), f4 _ _ (by omega), f3 _ _ (by omega), b3, f1 _ _ (by omega)] }, fun j a b => by { show s15 82 j = s 60 j; rw [← es15, up_a (by omega), ← es12, up_a (by omega), f5 _ _ (by omega), f4 _ _ (by omega), r1 j a b, f2 _ _ (by omega), f1 _ _ (by omega)] }, ⟨by { show s15 81 1 = s 59 1; rw [← es15, up_a (by omega), ← es12, up_a (by omega), f5 _ _ (by omega), f4 _ _ (by omega), r2, f2 _ _ (by omega), f1 _ _ (by omega)] }, by { show s15 81 2 = s 59 2; rw [← es15, up_a (by omega), ← es12, up_a (by omega), f5 _ _ (by omega), f4 _ _ (by omega), r3, f2 _ _ (by omega), f1 _ _ (by omega)] }⟩, fun j a b => ⟨by { show s15 84 j = s 62 j; rw [← es15, up_a (by omega), ← es12, up_a (by omega), f5 _ _ (by omega), (d1 j a b).1, f3 _ _ (by omega), f2 _ _ (by omega), f1 _ _ (by omega)] }, by { show s15 85 j = s 63 j; rw [← es15, up_a (by omega), ← es12, up_a (by omega), f5 _ _ (by omega), (d1 j a b).2, f3 _ _ (by omega), f2 _ _ (by omega), f1 _ _ (by omega)] }⟩, by { show s15 83 3 = s 61 3; rw [← es15, up_a (by omega), ← es12, up_a (by omega), f5 _ _ (by omega), d2, f3 _ _ (by omega), f2 _ _ (by omega), f1 _ _ (by omega)] }, fun j a b => ⟨by { show s15 88 j = s 66 j; rw [← es15, up_a (by omega), ← es12, up_a (by omega), c1 j a b, f4 _ _ (by omega), f3 _ _ (by omega), f2 _ _ (by omega), f1 _ _ (by omega)] }, by { show s15 89 j = s 67 j; rw [← es15, up_a (by omega), ← es12, up_a (by omega), c2 j a b, f4 _ _ (by omega), f3 _ _ (by omega), f2 _ _ (by omega), f1 _ _ (by omega)] }⟩, by { show s15 87 3 = s 65 3; rw [← es15, up_a (by omega), ← es12, up_a (by omega), c3, f4 _ _ (by omega), f3 _ _ (by omega), f2 _ _ (by omega), f1 _ _ (by omega)] }, fun b j a => by { rw [← es15, up_a (by omega), ← es12, up_a (by omega), f5 _ _ (by omega), f4 _ _ (by omega), f3 _ _ (by omega), f2 _ _ (by omega), f1 _ _ (by omega)] }⟩)
theorem uc_161b {nn d : Nat} {h : mj_H} {s : sg_} (C : CS h s) (hb : ∀ j, 0 ≤ j → j < 8 → s 85 j = 0 ∨ s 85 j = 1) : wl_R nn (d + 2) 161 0 [some (.ref 47), some (.ref 69)] [] h (fun v1 h1 => v1 = none ∧ ∃ t, CS h1 t ∧ CPY s t 69 47) := by
  refine wl_s (pc' := 1) ji_161_0 rfl rfl rfl ?_
  refine cs_gr (r := 48) (k := 0) C (by decide) sq_47 rfl ji_161_1 jf_161_12 ?_
  refine wl_s (pc' := 5) ji_161_4 rfl rfl rfl ?_
  refine cs_gr (r := 70) (k := 0) C (by decide) sq_69 rfl ji_161_5 jf_161_12 ?_
  obtain ⟨q2, hq2⟩ := cs_c C (by decide) sq_48
  refine wl_vc (d := d + 1) (as := [.ref 48, .ref 70]) (rest := []) ji_161_8 jc_161_57 rfl hq2 jk_106.symm (Nat.le_of_ble_eq_true rfl) rfl (by rw [jn_106]; rfl) (uc_106 (d := d) C isF_48 isF_70 (by decide)) (fun v1 h1 R => ?_)
  obtain ⟨rfl, t1, C, m1, m2, m4, m6, m9, f1⟩ := R
  have m2 : ∀ j, 0 ≤ j → j < 8 → t1 49 j = s 71 j ∧ t1 50 j = s 72 j ∧ t1 51 j = s 73 j := m2
  have m4 : ∀ j, 0 ≤ j → j < 6 → t1 52 j = s 74 j ∧ t1 53 j = s 75 j := m4
  have m6 : ∀ j, 0 ≤ j → j < 48 → t1 54 j = s 76 j ∧ t1 55 j = s 77 j := m6
  show wl_R _ _ 161 11 [some (.ref 47), some (.ref 69)] [] h1 _
  refine wl_s (pc' := 12) ji_161_11 rfl rfl rfl ?_
  refine cs_gr (r := 56) (k := 1) C (by decide) sq_47 rfl ji_161_12 jf_161_21 ?_
  refine wl_s (pc' := 16) ji_161_15 rfl rfl rfl ?_
  refine cs_gr (r := 78) (k := 1) C (by decide) sq_69 rfl ji_161_16 jf_161_21 ?_
  obtain ⟨q4, hq4⟩ := cs_c C (by decide) sq_56
  refine wl_vc (d := d + 1) (as := [.ref 56, .ref 78]) (rest := []) ji_161_19 jc_161_61 rfl hq4 jk_162.symm (Nat.le_of_ble_eq_true rfl) rfl (by rw [jn_162]; rfl) (uc_162b (d := d + 1) C) (fun v1 h3 R => ?_)
  obtain ⟨rfl, t2, C, b1, b2, b3, f2⟩ := R
  show wl_R _ _ 161 22 [some (.ref 47), some (.ref 69)] [] h3 _
  refine wl_s (pc' := 23) ji_161_22 rfl rfl rfl ?_
  refine cs_gr (r := 59) (k := 2) C (by decide) sq_47 rfl ji_161_23 jf_161_28 ?_
  refine wl_s (pc' := 27) ji_161_26 rfl rfl rfl ?_
  refine cs_gr (r := 81) (k := 2) C (by decide) sq_69 rfl ji_161_27 jf_161_28 ?_
  obtain ⟨q6, hq6⟩ := cs_c C (by decide) sq_59
  refine wl_vc (d := d + 1) (as := [.ref 59, .ref 81]) (rest := []) ji_161_30 jc_161_64 rfl hq6 jk_163.symm (Nat.le_of_ble_eq_true rfl) rfl (by rw [jn_163]; rfl) (uc_163b (d := d + 1) C) (fun v1 h5 R => ?_)
  obtain ⟨rfl, t3, C, r1, r2, r3, f3⟩ := R
  have hb3 : ∀ j, 0 ≤ j → j < 8 → t3 85 j = 0 ∨ t3 85 j = 1 := fun j a b => by rw [f3 _ _ (by omega), f2 _ _ (by omega), f1 _ _ (by omega)]; exact hb j a b
  show wl_R _ _ 161 33 [some (.ref 47), some (.ref 69)] [] h5 _
  refine wl_s (pc' := 34) ji_161_33 rfl rfl rfl ?_
  refine cs_gr (r := 61) (k := 3) C (by decide) sq_47 rfl ji_161_34 jf_161_35 ?_
  refine wl_s (pc' := 38) ji_161_37 rfl rfl rfl ?_
  refine cs_gr (r := 83) (k := 3) C (by decide) sq_69 rfl ji_161_38 jf_161_35 ?_
  obtain ⟨q8, hq8⟩ := cs_c C (by decide) sq_61
  refine wl_vc (d := d + 1) (as := [.ref 61, .ref 83]) (rest := []) ji_161_41 jc_161_67 rfl hq8 jk_164.symm (Nat.le_of_ble_eq_true rfl) rfl (by rw [jn_164]; rfl) (uc_164b (d := d + 1) C hb3) (fun v1 h7 R => ?_)
  obtain ⟨rfl, t4, C, d1, d2, f4⟩ := R
  show wl_R _ _ 161 44 [some (.ref 47), some (.ref 69)] [] h7 _
  refine wl_s (pc' := 45) ji_161_44 rfl rfl rfl ?_
  refine cs_gr (r := 65) (k := 4) C (by decide) sq_47 rfl ji_161_45 jf_161_42 ?_
  refine wl_s (pc' := 49) ji_161_48 rfl rfl rfl ?_
  refine cs_gr (r := 87) (k := 4) C (by decide) sq_69 rfl ji_161_49 jf_161_42 ?_
  obtain ⟨q10, hq10⟩ := cs_c C (by decide) sq_65
  refine wl_vc (d := d + 1) (as := [.ref 65, .ref 87]) (rest := []) ji_161_52 jc_161_70 rfl hq10 jk_165.symm (Nat.le_of_ble_eq_true rfl) rfl (by rw [jn_165]; rfl) (uc_165b (d := d + 1) C) (fun v1 h9 R => ?_)
  obtain ⟨rfl, t5, C, c1, c2, c3, f5⟩ := R
  show wl_R _ _ 161 55 [some (.ref 47), some (.ref 69)] [] h9 _
  have w6 : t5 69 6 = s 69 6 := by rw [f5 _ _ (by omega), f4 _ _ (by omega), f3 _ _ (by omega), f2 _ _ (by omega), f1 _ _ (by omega)]
  have w7 : t5 69 7 = s 69 7 := by rw [f5 _ _ (by omega), f4 _ _ (by omega), f3 _ _ (by omega), f2 _ _ (by omega), f1 _ _ (by omega)]
  refine wl_s (pc' := 56) ji_161_55 rfl rfl rfl ?_
  refine wl_s (pc' := 57) ji_161_56 rfl rfl rfl ?_
  refine cs_gi (k := 6) (kI := 6) C (by decide) (by decide) sq_69 rfl rfl ji_161_57 jf_161_46 ?_
  rw [w6]
  have bd11 : wp_r (s 69 6) := w6 ▸ cs_ri (k := 6) (kI := 6) C (by decide) (by decide) sq_69 rfl rfl (show 6 < 8 by decide)
  refine cs_pi (k := 6) (kI := 6) (y := s 69 6) C (by decide) sq_47 rfl rfl ji_161_60 jf_161_46 rfl rfl (by omega) (fun h C => ?_)
  obtain ⟨s12, es12⟩ : ∃ z9_, up t5 47 6 (s 69 6) = z9_ := ⟨_, rfl⟩
  rw [es12] at C
  refine wl_s (pc' := 64) ji_161_63 rfl rfl rfl ?_
  refine wl_s (pc' := 65) ji_161_64 rfl rfl rfl ?_
  refine cs_gi (k := 7) (kI := 7) C (by decide) (by decide) sq_69 rfl rfl ji_161_65 jf_161_50 ?_
  have rd13 : s12 69 7 = s 69 7 := by rw [← es12, up_a (by omega)]; exact w7
  rw [rd13]
  have bd14 : wp_r (s 69 7) := rd13 ▸ cs_ri (k := 7) (kI := 7) C (by decide) (by decide) sq_69 rfl rfl (show 7 < 8 by decide)
  refine cs_pi (k := 7) (kI := 7) (y := s 69 7) C (by decide) sq_47 rfl rfl ji_161_68 jf_161_50 rfl rfl (by omega) (fun h C => ?_)
  obtain ⟨s15, es15⟩ : ∃ z9_, up s12 47 7 (s 69 7) = z9_ := ⟨_, rfl⟩
  rw [es15] at C
  exact wl_rv ji_161_71 jr_161 (⟨rfl, s15, C, ⟨by { show s15 47 6 = s 69 6; rw [← es15, up_k (by decide), ← es12, up_e] }, by { show s15 47 7 = s 69 7; rw [← es15, up_e] }⟩, ⟨by { show s15 48 0 = s 70 0; rw [← es15, up_a (by omega), ← es12, up_a (by omega), f5 _ _ (by omega), f4 _ _ (by omega), f3 _ _ (by omega), f2 _ _ (by omega), m1.1] }, by { show s15 48 1 = s 70 1; rw [← es15, up_a (by omega), ← es12, up_a (by omega), f5 _ _ (by omega), f4 _ _ (by omega), f3 _ _ (by omega), f2 _ _ (by omega), m1.2] }⟩, fun j a b => ⟨by { show s15 49 j = s 71 j; rw [← es15, up_a (by omega), ← es12, up_a (by omega), f5 _ _ (by omega), f4 _ _ (by omega), f3 _ _ (by omega), f2 _ _ (by omega), (m2 j a b).1] }, by { show s15 50 j = s 72 j; rw [← es15, up_a (by omega), ← es12, up_a (by omega), f5 _ _ (by omega), f4 _ _ (by omega), f3 _ _ (by omega), f2 _ _ (by omega), (m2 j a b).2.1] }, by { show s15 51 j = s 73 j; rw [← es15, up_a (by omega), ← es12, up_a (by omega), f5 _ _ (by omega), f4 _ _ (by omega), f3 _ _ (by omega), f2 _ _ (by omega), (m2 j a b).2.2] }⟩, fun j a b => ⟨by { show s15 52 j = s 74 j; rw [← es15, up_a (by omega), ← es12, up_a (by omega), f5 _ _ (by omega), f4 _ _ (by omega), f3 _ _ (by omega), f2 _ _ (by omega), (m4 j a b).1] }, by { show s15 53 j = s 75 j; rw [← es15, up_a (by omega), ← es12, up_a (by omega), f5 _ _ (by omega), f4 _ _ (by omega), f3 _ _ (by omega), f2 _ _ (by omega), (m4 j a b).2] }⟩, fun j a b => ⟨by { show s15 54 j = s 76 j; rw [← es15, up_a (by omega), ← es12, up_a (by omega), f5 _ _ (by omega), f4 _ _ (by omega), f3 _ _ (by omega), f2 _ _ (by omega), (m6 j a b).1] }, by { show s15 55 j = s 77 j; rw [← es15, up_a (by omega), ← es12, up_a (by omega), f5 _ _ (by omega), f4 _ _ (by omega), f3 _ _ (by omega), f2 _ _ (by omega), (m6 j a b).2] }⟩, ⟨by { show s15 48 9 = s 70 9; rw [← es15, up_a (by omega), ← es12, up_a (by omega), f5 _ _ (by omega), f4 _ _ (by omega), f3 _ _ (by omega), f2 _ _ (by omega), m9.1] }, by { show s15 48 10 = s 70 10; rw [← es15, up_a (by omega), ← es12, up_a (by omega), f5 _ _ (by omega), f4 _ _ (by omega), f3 _ _ (by omega), f2 _ _ (by omega), m9.2.1] }, by { show s15 48 11 = s 70 11; rw [← es15, up_a (by omega), ← es12, up_a (by omega), f5 _ _ (by omega), f4 _ _ (by omega), f3 _ _ (by omega), f2 _ _ (by omega), m9.2.2.1] }, by { show s15 48 12 = s 70 12; rw [← es15, up_a (by omega), ← es12, up_a (by omega), f5 _ _ (by omega), f4 _ _ (by omega), f3 _ _ (by omega), f2 _ _ (by omega), m9.2.2.2] }⟩, fun j a b => ⟨by { show s15 57 j = s 79 j; rw [← es15, up_a (by omega), ← es12, up_a (by omega), f5 _ _ (by omega), f4 _ _ (by omega), f3 _ _ (by omega), b1 j a b, f1 _ _ (by omega)] }, by { show s15 58 j = s 80 j; rw [← es15, up_a (by omega), ← es12, up_a (by omega), f5 _ _ (by omega), f4 _ _ (by omega), f3 _ _ (by omega), b2 j a b, f1 _ _ (by omega)] }⟩, by { show s15 56 2 = s 78 2; rw [← es15, up_a (by omega), ← es12, up_a (by omega), f5 _ _ (by omega), f4 _ _ (by omega), f3 _ _ (by omega), b3, f1 _ _ (by omega)] }, fun j a b => by { show s15 60 j = s 82 j; rw [← es15, up_a (by omega), ← es12, up_a (by omega), f5 _ _ (by omega), f4 _ _ (by omega), r1 j a b, f2 _ _ (by omega), f1 _ _ (by omega)] }, ⟨by { show s15 59 1 = s 81 1; rw [← es15, up_a (by omega), ← es12, up_a (by omega), f5 _ _ (by omega), f4 _ _ (by omega), r2, f2 _ _ (by omega), f1 _ _ (by omega)] }, by { show s15 59 2 = s 81 2; rw [← es15, up_a (by omega), ← es12, up_a (by omega), f5 _ _ (by omega), f4 _ _ (by omega), r3, f2 _ _ (by omega), f1 _ _ (by omega)] }⟩, fun j a b => ⟨by { show s15 62 j = s 84 j; rw [← es15, up_a (by omega), ← es12, up_a (by omega), f5 _ _ (by omega), (d1 j a b).1, f3 _ _ (by omega), f2 _ _ (by omega), f1 _ _ (by omega)] }, by { show s15 63 j = s 85 j; rw [← es15, up_a (by omega), ← es12, up_a (by omega), f5 _ _ (by omega), (d1 j a b).2, f3 _ _ (by omega), f2 _ _ (by omega), f1 _ _ (by omega)] }⟩, by { show s15 61 3 = s 83 3; rw [← es15, up_a (by omega), ← es12, up_a (by omega), f5 _ _ (by omega), d2, f3 _ _ (by omega), f2 _ _ (by omega), f1 _ _ (by omega)] }, fun j a b => ⟨by { show s15 66 j = s 88 j; rw [← es15, up_a (by omega), ← es12, up_a (by omega), c1 j a b, f4 _ _ (by omega), f3 _ _ (by omega), f2 _ _ (by omega), f1 _ _ (by omega)] }, by { show s15 67 j = s 89 j; rw [← es15, up_a (by omega), ← es12, up_a (by omega), c2 j a b, f4 _ _ (by omega), f3 _ _ (by omega), f2 _ _ (by omega), f1 _ _ (by omega)] }⟩, by { show s15 65 3 = s 87 3; rw [← es15, up_a (by omega), ← es12, up_a (by omega), c3, f4 _ _ (by omega), f3 _ _ (by omega), f2 _ _ (by omega), f1 _ _ (by omega)] }, fun b j a => by { rw [← es15, up_a (by omega), ← es12, up_a (by omega), f5 _ _ (by omega), f4 _ _ (by omega), f3 _ _ (by omega), f2 _ _ (by omega), f1 _ _ (by omega)] }⟩)
theorem uc_160 {nn d : Nat} {h : mj_H} {s : sg_} (C : CS h s) (hb : ∀ j, 0 ≤ j → j < 8 → s 63 j = 0 ∨ s 63 j = 1) : wl_R nn (d + 3) 160 0 [some (.ref 9)] [] h (fun v1 h1 => v1 = some (wp_i (s 48 10)) ∧ ∃ t, CS h1 t ∧ CPY s t 47 69) := by
  refine wl_s (pc' := 1) ji_160_0 rfl rfl rfl ?_
  refine cs_gr (r := 69) (k := 1) C (by decide) sq_9 rfl ji_160_1 jf_160_23 ?_
  refine wl_s (pc' := 5) ji_160_4 rfl rfl rfl ?_
  refine cs_gr (r := 47) (k := 0) C (by decide) sq_9 rfl ji_160_5 jf_160_19 ?_
  obtain ⟨q2, hq2⟩ := cs_c C (by decide) sq_69
  refine wl_vc (d := d + 2) (as := [.ref 69, .ref 47]) (rest := []) ji_160_8 jc_160_322 rfl hq2 jk_161.symm (Nat.le_of_ble_eq_true rfl) rfl (by rw [jn_161]; rfl) (uc_161a (d := d) C hb) (fun v1 h1 R => ?_)
  obtain ⟨rfl, t, C, K⟩ := R
  have q : t 48 10 = s 48 10 := K.2.2.2.2.2.2.2.2.2.2.2.2.2.2 48 10 (by decide)
  show wl_R _ _ 160 11 [some (.ref 9)] [] h1 _
  refine wl_s (pc' := 12) ji_160_11 rfl rfl rfl ?_
  refine cs_gr (r := 47) (k := 0) C (by decide) sq_9 rfl ji_160_12 jf_160_19 ?_
  refine cs_gr (r := 48) (k := 0) C (by decide) sq_47 rfl ji_160_15 jf_160_49 ?_
  refine cs_gi (k := 10) (kI := 10) C (by decide) (by decide) sq_48 rfl rfl ji_160_18 jf_160_98 ?_
  have bd3 : wp_r (t 48 10) := cs_ri (k := 10) (kI := 10) C (by decide) (by decide) sq_48 rfl rfl (show 10 < 13 by decide)
  exact wl_ri ji_160_21 jr_160 rfl (⟨by rw [q], t, C, K⟩)
theorem uc_166 {nn d : Nat} {h : mj_H} {s : sg_} (C : CS h s) (hb : ∀ j, 0 ≤ j → j < 8 → s 85 j = 0 ∨ s 85 j = 1) : wl_R nn (d + 3) 166 0 [some (.ref 9)] [] h (fun v1 h1 => v1 = some (wp_i (s 70 10)) ∧ ∃ t, CS h1 t ∧ CPY s t 69 47) := by
  refine wl_s (pc' := 1) ji_166_0 rfl rfl rfl ?_
  refine cs_gr (r := 47) (k := 0) C (by decide) sq_9 rfl ji_166_1 jf_166_19 ?_
  refine wl_s (pc' := 5) ji_166_4 rfl rfl rfl ?_
  refine cs_gr (r := 69) (k := 1) C (by decide) sq_9 rfl ji_166_5 jf_166_23 ?_
  obtain ⟨q2, hq2⟩ := cs_c C (by decide) sq_47
  refine wl_vc (d := d + 2) (as := [.ref 47, .ref 69]) (rest := []) ji_166_8 jc_166_322 rfl hq2 jk_161.symm (Nat.le_of_ble_eq_true rfl) rfl (by rw [jn_161]; rfl) (uc_161b (d := d) C hb) (fun v1 h1 R => ?_)
  obtain ⟨rfl, t, C, K⟩ := R
  have q : t 48 10 = s 70 10 := K.2.2.2.2.2.1.2.1
  show wl_R _ _ 166 11 [some (.ref 9)] [] h1 _
  refine wl_s (pc' := 12) ji_166_11 rfl rfl rfl ?_
  refine cs_gr (r := 47) (k := 0) C (by decide) sq_9 rfl ji_166_12 jf_166_19 ?_
  refine cs_gr (r := 48) (k := 0) C (by decide) sq_47 rfl ji_166_15 jf_166_49 ?_
  refine cs_gi (k := 10) (kI := 10) C (by decide) (by decide) sq_48 rfl rfl ji_166_18 jf_166_98 ?_
  have bd3 : wp_r (t 48 10) := cs_ri (k := 10) (kI := 10) C (by decide) (by decide) sq_48 rfl rfl (show 10 < 13 by decide)
  exact wl_ri ji_166_21 jr_166 rfl (⟨by rw [q], t, C, K⟩)
