/-! -/
set_option maxRecDepth 100000 in
theorem jr_169 : mj_ret 169 = none := by decide +kernel
set_option maxRecDepth 100000 in
theorem sq_140 : sh_T[140]? = some (1000, [], 6044, 0) := by decide +kernel
/-! image and back, in the reference; laid by program (wp_u61.py) -/
theorem cpy_0 {s : sg_} {a0 a1 : Nat} : cpy s a0 0 a1 0 0 = s := by
  funext b j
  exact if_neg (by omega)
theorem cpy_s {s : sg_} {a0 a1 : Nat} {m : Int} (hm : 0 ≤ m) : up (cpy s a0 0 a1 0 m) a1 m (s a0 m) = cpy s a0 0 a1 0 (m + 1) := by
  funext b j
  unfold up cpy
  by_cases h1 : b = a1 ∧ j = m
  · obtain ⟨rfl, rfl⟩ := h1
    rw [if_pos ⟨rfl, rfl⟩, if_pos ⟨rfl, hm, by omega⟩, Int.sub_zero, Int.add_zero]
  · rw [if_neg h1]
    by_cases h2 : b = a1 ∧ 0 ≤ j ∧ j < 0 + m
    · rw [if_pos h2, if_pos ⟨h2.1, h2.2.1, by omega⟩]
    · rw [if_neg h2, if_neg (by omega)]
theorem cpy_v {s : sg_} {a0 a1 : Nat} {n j : Int} (h : 0 ≤ j ∧ j < n) : cpy s a0 0 a1 0 n a1 j = s a0 j := by
  unfold cpy
  rw [if_pos ⟨rfl, h.1, by omega⟩, Int.sub_zero, Int.add_zero]
theorem uc_169la {d : Nat} {s : sg_} : ∀ (nn : Nat) (i : Int) (h : mj_H), (0 ≤ i ∧ i ≤ 6044) → CS h (cpy s 139 0 140 0 i) → wl_R nn d 169 2 [some (.ref 139), some (.ref 140), some (wp_i i)] [] h (fun v1 h1 => v1 = none ∧ CS h1 (cpy s 139 0 140 0 6044)) := by
  intro nn
  induction nn with
  | zero => intros; exact wl_0
  | succ nn ih =>
    intro i h hi C
    obtain ⟨t, et⟩ : ∃ t, cpy s 139 0 140 0 i = t := ⟨_, rfl⟩
    rw [et] at C
    have t5 : t 139 i = s 139 i := by rw [← et, cpy_fr (by decide)]
    refine wl_s1 (pc' := 3) ji_169_2 rfl rfl rfl ?_
    refine wl_sp ji_169_3 rfl ?_
    refine wl_icmp (t := 21) ji_169_6 rfl (by omega) (by omega) (fun (hb1 : (6044 : Int) ≤ i) => ?_) (fun (hb1 : ¬ ((6044 : Int) ≤ i)) => ?_)
    · exact wl_rv ji_169_21 jr_169 (⟨rfl, cs_mono C (by rw [← et, show i = 6044 by omega])⟩)
    · refine wl_s (pc' := 10) ji_169_9 rfl rfl rfl ?_
      refine wl_s (pc' := 11) ji_169_10 rfl rfl rfl ?_
      refine wl_s (pc' := 12) ji_169_11 rfl rfl rfl ?_
      refine wl_s (pc' := 13) ji_169_12 rfl rfl rfl ?_
      refine cs_l (x := i) C (by decide) (by decide) sq_139 (by omega) ji_169_13 (fun ld20 ld21 ld22 => ?_)
      rw [t5] at ld22 ⊢
      refine cs_s (x := i) (y := s 139 i) C (by decide) sq_140 (by omega) (by omega) ji_169_14 (fun h st30 st31 C => ?_)
      obtain ⟨s4, es4⟩ : ∃ z9_, up t 140 i (s 139 i) = z9_ := ⟨_, rfl⟩
      rw [es4] at C
      refine wl_iinc (x := i) (z := i + 1) (lv' := [some (.ref 139), some (.ref 140), some (wp_i (i + 1))]) ji_169_15 rfl (Nat.le_of_ble_eq_true rfl) (by omega) rfl ?_
      refine wl_goto (t := 2) ji_169_18 rfl ?_
      exact ih (i + 1) _ (by omega) (cs_mono C (by rw [← cpy_s (by omega), et, es4]))
theorem uc_169a {nn d : Nat} {h : mj_H} {s : sg_} (C : CS h s) : wl_R nn d 169 0 [some (.ref 139), some (.ref 140), none] [] h (fun v1 h1 => v1 = none ∧ CS h1 (cpy s 139 0 140 0 6044)) := by
  refine wl_s (pc' := 1) ji_169_0 rfl rfl rfl ?_
  refine wl_s (pc' := 2) (lv' := [some (.ref 139), some (.ref 140), some (wp_i 0)]) ji_169_1 rfl rfl rfl ?_
  exact uc_169la nn 0 h (by decide) (cs_mono C cpy_0.symm)
theorem uc_169lb {d : Nat} {s : sg_} : ∀ (nn : Nat) (i : Int) (h : mj_H), (0 ≤ i ∧ i ≤ 6044) → CS h (cpy s 140 0 139 0 i) → wl_R nn d 169 2 [some (.ref 140), some (.ref 139), some (wp_i i)] [] h (fun v1 h1 => v1 = none ∧ CS h1 (cpy s 140 0 139 0 6044)) := by
  intro nn
  induction nn with
  | zero => intros; exact wl_0
  | succ nn ih =>
    intro i h hi C
    obtain ⟨t, et⟩ : ∃ t, cpy s 140 0 139 0 i = t := ⟨_, rfl⟩
    rw [et] at C
    have t5 : t 140 i = s 140 i := by rw [← et, cpy_fr (by decide)]
    refine wl_s1 (pc' := 3) ji_169_2 rfl rfl rfl ?_
    refine wl_sp ji_169_3 rfl ?_
    refine wl_icmp (t := 21) ji_169_6 rfl (by omega) (by omega) (fun (hb1 : (6044 : Int) ≤ i) => ?_) (fun (hb1 : ¬ ((6044 : Int) ≤ i)) => ?_)
    · exact wl_rv ji_169_21 jr_169 (⟨rfl, cs_mono C (by rw [← et, show i = 6044 by omega])⟩)
    · refine wl_s (pc' := 10) ji_169_9 rfl rfl rfl ?_
      refine wl_s (pc' := 11) ji_169_10 rfl rfl rfl ?_
      refine wl_s (pc' := 12) ji_169_11 rfl rfl rfl ?_
      refine wl_s (pc' := 13) ji_169_12 rfl rfl rfl ?_
      refine cs_l (x := i) C (by decide) (by decide) sq_140 (by omega) ji_169_13 (fun ld20 ld21 ld22 => ?_)
      rw [t5] at ld22 ⊢
      refine cs_s (x := i) (y := s 140 i) C (by decide) sq_139 (by omega) (by omega) ji_169_14 (fun h st30 st31 C => ?_)
      obtain ⟨s4, es4⟩ : ∃ z9_, up t 139 i (s 140 i) = z9_ := ⟨_, rfl⟩
      rw [es4] at C
      refine wl_iinc (x := i) (z := i + 1) (lv' := [some (.ref 140), some (.ref 139), some (wp_i (i + 1))]) ji_169_15 rfl (Nat.le_of_ble_eq_true rfl) (by omega) rfl ?_
      refine wl_goto (t := 2) ji_169_18 rfl ?_
      exact ih (i + 1) _ (by omega) (cs_mono C (by rw [← cpy_s (by omega), et, es4]))
theorem uc_169b {nn d : Nat} {h : mj_H} {s : sg_} (C : CS h s) : wl_R nn d 169 0 [some (.ref 140), some (.ref 139), none] [] h (fun v1 h1 => v1 = none ∧ CS h1 (cpy s 140 0 139 0 6044)) := by
  refine wl_s (pc' := 1) ji_169_0 rfl rfl rfl ?_
  refine wl_s (pc' := 2) (lv' := [some (.ref 140), some (.ref 139), some (wp_i 0)]) ji_169_1 rfl rfl rfl ?_
  exact uc_169lb nn 0 h (by decide) (cs_mono C cpy_0.symm)
theorem uc_312 {nn d : Nat} {h : mj_H} {s : sg_} (C : CS h s)  : wl_R nn (d + 1) 312 0 [some (.ref 138)] [] h (fun v1 h1 => v1 = some (wp_i (s 139 8)) ∧ CS h1 (cpy s 139 0 140 0 6044)) := by
  refine wl_s (pc' := 1) ji_312_0 rfl rfl rfl ?_
  refine cs_gr (r := 139) (k := 0) C (by decide) sq_138 rfl ji_312_1 jf_312_7 ?_
  refine wl_s (pc' := 5) ji_312_4 rfl rfl rfl ?_
  refine cs_gr (r := 140) (k := 1) C (by decide) sq_138 rfl ji_312_5 jf_312_13 ?_
  refine wl_sc (d := d) (as := [.ref 139, .ref 140]) (rest := []) ji_312_8 jc_312_62 (Nat.le_of_ble_eq_true rfl) rfl (Nat.le_of_ble_eq_true rfl) rfl (by rw [jn_169]; rfl) (uc_169a (d := d) C) (fun v1 h1 R => ?_)
  obtain ⟨rfl, C⟩ := R
  obtain ⟨t, et⟩ : ∃ z9_, cpy s 139 0 140 0 6044 = z9_ := ⟨_, rfl⟩
  rw [et] at C
  have q : t 139 8 = s 139 8 := by rw [← et, cpy_fr (by decide)]
  show wl_R _ _ 312 11 [some (.ref 138)] [] h1 _
  refine wl_s (pc' := 12) ji_312_11 rfl rfl rfl ?_
  refine cs_gr (r := 139) (k := 0) C (by decide) sq_138 rfl ji_312_12 jf_312_7 ?_
  refine wl_bp ji_312_15 rfl ?_
  refine cs_l (x := 8) C (by decide) (by decide) sq_139 (by omega) ji_312_17 (fun ld20 ld21 ld22 => ?_)
  exact wl_ri ji_312_18 jr_312 rfl (⟨by rw [q], by rw [et]; exact C⟩)
theorem uc_313 {nn d : Nat} {h : mj_H} {s : sg_} (C : CS h s)  : wl_R nn (d + 1) 313 0 [some (.ref 138)] [] h (fun v1 h1 => v1 = some (wp_i (s 140 8)) ∧ CS h1 (cpy s 140 0 139 0 6044)) := by
  refine wl_s (pc' := 1) ji_313_0 rfl rfl rfl ?_
  refine cs_gr (r := 140) (k := 1) C (by decide) sq_138 rfl ji_313_1 jf_313_13 ?_
  refine wl_s (pc' := 5) ji_313_4 rfl rfl rfl ?_
  refine cs_gr (r := 139) (k := 0) C (by decide) sq_138 rfl ji_313_5 jf_313_7 ?_
  refine wl_sc (d := d) (as := [.ref 140, .ref 139]) (rest := []) ji_313_8 jc_313_62 (Nat.le_of_ble_eq_true rfl) rfl (Nat.le_of_ble_eq_true rfl) rfl (by rw [jn_169]; rfl) (uc_169b (d := d) C) (fun v1 h1 R => ?_)
  obtain ⟨rfl, C⟩ := R
  obtain ⟨t, et⟩ : ∃ z9_, cpy s 140 0 139 0 6044 = z9_ := ⟨_, rfl⟩
  rw [et] at C
  have q : t 139 8 = s 140 8 := by rw [← et, cpy_v (by decide)]
  show wl_R _ _ 313 11 [some (.ref 138)] [] h1 _
  refine wl_s (pc' := 12) ji_313_11 rfl rfl rfl ?_
  refine cs_gr (r := 139) (k := 0) C (by decide) sq_138 rfl ji_313_12 jf_313_7 ?_
  refine wl_bp ji_313_15 rfl ?_
  refine cs_l (x := 8) C (by decide) (by decide) sq_139 (by omega) ji_313_17 (fun ld20 ld21 ld22 => ?_)
  exact wl_ri ji_313_18 jr_313 rfl (⟨by rw [q], by rw [et]; exact C⟩)
