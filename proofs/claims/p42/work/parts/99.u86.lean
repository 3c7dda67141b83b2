/-! -/
set_option maxRecDepth 100000 in
theorem ji_273_3 : mj_ins 273 3 = some (.iload_n 1) := by decide +kernel
set_option maxRecDepth 100000 in
theorem ji_273_4 : mj_ins 273 4 = some (.sipush 148) := by decide +kernel
set_option maxRecDepth 100000 in
theorem ji_273_7 : mj_ins 273 7 = some (.if_icmp .ge 21) := by decide +kernel
set_option maxRecDepth 100000 in
theorem ji_273_28 : mj_ins 273 28 = some (.aload_n 0) := by decide +kernel
set_option maxRecDepth 100000 in
theorem ji_273_29 : mj_ins 273 29 = some (.iconst 0) := by decide +kernel
set_option maxRecDepth 100000 in
theorem ji_273_30 : mj_ins 273 30 = some (.putfield 43) := by decide +kernel
set_option maxRecDepth 100000 in
theorem jf_273_43 : mj_fld 273 43 = some (11, 25, .boolean, true) := by decide +kernel
set_option maxRecDepth 100000 in
theorem ji_273_33 : mj_ins 273 33 = some (.return_) := by decide +kernel
set_option maxRecDepth 100000 in
theorem jr_273 : mj_ret 273 = none := by decide +kernel
set_option maxRecDepth 100000 in
theorem ji_273_10 : mj_ins 273 10 = some (.aload_n 0) := by decide +kernel
set_option maxRecDepth 100000 in
theorem ji_273_11 : mj_ins 273 11 = some (.getfield 47) := by decide +kernel
set_option maxRecDepth 100000 in
theorem jf_273_47 : mj_fld 273 47 = some (11, 26, (.array .int), false) := by decide +kernel
set_option maxRecDepth 100000 in
theorem ji_273_14 : mj_ins 273 14 = some (.iload_n 1) := by decide +kernel
set_option maxRecDepth 100000 in
theorem ji_273_15 : mj_ins 273 15 = some (.aload_n 0) := by decide +kernel
set_option maxRecDepth 100000 in
theorem ji_273_16 : mj_ins 273 16 = some (.getfield 7) := by decide +kernel
set_option maxRecDepth 100000 in
theorem jf_273_7 : mj_fld 273 7 = some (11, 0, (.array .int), false) := by decide +kernel
set_option maxRecDepth 100000 in
theorem ji_273_19 : mj_ins 273 19 = some (.iload_n 1) := by decide +kernel
set_option maxRecDepth 100000 in
theorem ji_273_20 : mj_ins 273 20 = some (.iaload) := by decide +kernel
set_option maxRecDepth 100000 in
theorem ji_273_21 : mj_ins 273 21 = some (.iastore) := by decide +kernel
set_option maxRecDepth 100000 in
theorem sq_147 : sh_T[147]? = some (1000, [], 148, 0) := by decide +kernel
set_option maxRecDepth 100000 in
theorem ji_273_22 : mj_ins 273 22 = some (.iinc 1 1) := by decide +kernel
set_option maxRecDepth 100000 in
theorem ji_273_25 : mj_ins 273 25 = some (.goto (-22)) := by decide +kernel
set_option maxRecDepth 100000 in
theorem ji_273_0 : mj_ins 273 0 = some (.bipush 8) := by decide +kernel
set_option maxRecDepth 100000 in
theorem ji_273_2 : mj_ins 273 2 = some (.istore_n 1) := by decide +kernel
set_option maxRecDepth 100000 in
theorem ji_274_3 : mj_ins 274 3 = some (.iload_n 1) := by decide +kernel
set_option maxRecDepth 100000 in
theorem ji_274_4 : mj_ins 274 4 = some (.sipush 148) := by decide +kernel
set_option maxRecDepth 100000 in
theorem ji_274_7 : mj_ins 274 7 = some (.if_icmp .ge 21) := by decide +kernel
set_option maxRecDepth 100000 in
theorem ji_274_28 : mj_ins 274 28 = some (.aload_n 0) := by decide +kernel
set_option maxRecDepth 100000 in
theorem ji_274_29 : mj_ins 274 29 = some (.iconst 1) := by decide +kernel
set_option maxRecDepth 100000 in
theorem ji_274_30 : mj_ins 274 30 = some (.putfield 43) := by decide +kernel
set_option maxRecDepth 100000 in
theorem jf_274_43 : mj_fld 274 43 = some (11, 25, .boolean, true) := by decide +kernel
set_option maxRecDepth 100000 in
theorem ji_274_33 : mj_ins 274 33 = some (.return_) := by decide +kernel
set_option maxRecDepth 100000 in
theorem jr_274 : mj_ret 274 = none := by decide +kernel
set_option maxRecDepth 100000 in
theorem ji_274_10 : mj_ins 274 10 = some (.aload_n 0) := by decide +kernel
set_option maxRecDepth 100000 in
theorem ji_274_11 : mj_ins 274 11 = some (.getfield 7) := by decide +kernel
set_option maxRecDepth 100000 in
theorem jf_274_7 : mj_fld 274 7 = some (11, 0, (.array .int), false) := by decide +kernel
set_option maxRecDepth 100000 in
theorem ji_274_14 : mj_ins 274 14 = some (.iload_n 1) := by decide +kernel
set_option maxRecDepth 100000 in
theorem ji_274_15 : mj_ins 274 15 = some (.aload_n 0) := by decide +kernel
set_option maxRecDepth 100000 in
theorem ji_274_16 : mj_ins 274 16 = some (.getfield 47) := by decide +kernel
set_option maxRecDepth 100000 in
theorem jf_274_47 : mj_fld 274 47 = some (11, 26, (.array .int), false) := by decide +kernel
set_option maxRecDepth 100000 in
theorem ji_274_19 : mj_ins 274 19 = some (.iload_n 1) := by decide +kernel
set_option maxRecDepth 100000 in
theorem ji_274_20 : mj_ins 274 20 = some (.iaload) := by decide +kernel
set_option maxRecDepth 100000 in
theorem ji_274_21 : mj_ins 274 21 = some (.iastore) := by decide +kernel
set_option maxRecDepth 100000 in
theorem ji_274_22 : mj_ins 274 22 = some (.iinc 1 1) := by decide +kernel
set_option maxRecDepth 100000 in
theorem ji_274_25 : mj_ins 274 25 = some (.goto (-22)) := by decide +kernel
set_option maxRecDepth 100000 in
theorem ji_274_0 : mj_ins 274 0 = some (.bipush 8) := by decide +kernel
set_option maxRecDepth 100000 in
theorem ji_274_2 : mj_ins 274 2 = some (.istore_n 1) := by decide +kernel
/-! begin and putBack of the reference; laid by program (wp_u86.py) -/
theorem cpy8_0 {s : sg_} {a0 a1 : Nat} : cpy s a0 8 a1 8 (8 - 8) = s := by
  funext b j
  exact if_neg (by omega)
theorem cpy8_s {s : sg_} {a0 a1 : Nat} {i : Int} (hi : 8 ≤ i) : up (cpy s a0 8 a1 8 (i - 8)) a1 i (s a0 i) = cpy s a0 8 a1 8 (i + 1 - 8) := by
  funext b j
  unfold up cpy
  by_cases h1 : b = a1 ∧ j = i
  · obtain ⟨rfl, rfl⟩ := h1
    rw [if_pos ⟨rfl, rfl⟩, if_pos ⟨rfl, hi, by omega⟩, show j - 8 + 8 = j by omega]
  · rw [if_neg h1]
    by_cases h2 : b = a1 ∧ 8 ≤ j ∧ j < 8 + (i - 8)
    · rw [if_pos h2, if_pos ⟨h2.1, h2.2.1, by omega⟩]
    · rw [if_neg h2, if_neg (by omega)]
def bgR (s : sg_) : sg_ := up (cpy s 139 8 147 8 140) 138 25 0
def pbR (s : sg_) : sg_ := up (cpy s 147 8 139 8 140) 138 25 1
theorem uc_273l {d : Nat} {s : sg_} : ∀ (nn : Nat) (i : Int) (h : mj_H), (8 ≤ i ∧ i ≤ 148) → CS h (cpy s 139 8 147 8 (i - 8)) → wl_R nn d 273 3 [some (.ref 138), some (wp_i i)] [] h (fun v1 h1 => v1 = none ∧ CS h1 (bgR s)) := by
  intro nn
  induction nn with
  | zero => intros; exact wl_0
  | succ nn ih =>
    intro i h hi C
    obtain ⟨t, et⟩ : ∃ t, cpy s 139 8 147 8 (i - 8) = t := ⟨_, rfl⟩
    rw [et] at C
    have t5 : t 139 i = s 139 i := by rw [← et, cpy_fr (by decide)]
    refine wl_s1 (pc' := 4) ji_273_3 rfl rfl rfl ?_
    refine wl_sp ji_273_4 rfl ?_
    refine wl_icmp (t := 28) ji_273_7 rfl (by omega) (by omega) (fun (hb1 : (148 : Int) ≤ i) => ?_) (fun (hb1 : ¬ ((148 : Int) ≤ i)) => ?_)
    · refine wl_s (pc' := 29) ji_273_28 rfl rfl rfl ?_
      refine wl_s (pc' := 30) ji_273_29 rfl rfl rfl ?_
      refine cs_pi (k := 25) (kI := 25) (y := 0) C (by decide) sq_138 rfl rfl ji_273_30 jf_273_43 (pv_nb (by omega)) (pv_fb (by omega)) (by omega) (fun h C => ?_)
      obtain ⟨s2, es2⟩ : ∃ z9_, up t 138 25 0 = z9_ := ⟨_, rfl⟩
      rw [es2] at C
      exact wl_rv ji_273_33 jr_273 (⟨rfl, cs_mono C (by rw [← es2, ← et, show i = 148 by omega]; rfl)⟩)
    · refine wl_s (pc' := 11) ji_273_10 rfl rfl rfl ?_
      refine cs_gr (r := 147) (k := 26) C (by decide) sq_138 rfl ji_273_11 jf_273_47 ?_
      refine wl_s (pc' := 15) ji_273_14 rfl rfl rfl ?_
      refine wl_s (pc' := 16) ji_273_15 rfl rfl rfl ?_
      refine cs_gr (r := 139) (k := 0) C (by decide) sq_138 rfl ji_273_16 jf_273_7 ?_
      refine wl_s (pc' := 20) ji_273_19 rfl rfl rfl ?_
      refine cs_l (x := i) C (by decide) (by decide) sq_139 (by omega) ji_273_20 (fun ld30 ld31 ld32 => ?_)
      rw [t5] at ld32 ⊢
      refine cs_s (x := i) (y := s 139 i) C (by decide) sq_147 (by omega) (by omega) ji_273_21 (fun h st40 st41 C => ?_)
      obtain ⟨s5, es5⟩ : ∃ z9_, up t 147 i (s 139 i) = z9_ := ⟨_, rfl⟩
      rw [es5] at C
      refine wl_iinc (x := i) (z := i + 1) (lv' := [some (.ref 138), some (wp_i (i + 1))]) ji_273_22 rfl (Nat.le_of_ble_eq_true rfl) (by omega) rfl ?_
      refine wl_goto (t := 3) ji_273_25 rfl ?_
      exact ih (i + 1) _ (by omega) (cs_mono C (by rw [← cpy8_s (by omega), et, es5]))
theorem uc_273 {nn d : Nat} {h : mj_H} {s : sg_} (C : CS h s) : wl_R nn d 273 0 [some (.ref 138), none] [] h (fun v1 h1 => v1 = none ∧ CS h1 (bgR s)) := by
  refine wl_bp ji_273_0 rfl ?_
  refine wl_s (pc' := 3) (lv' := [some (.ref 138), some (wp_i 8)]) ji_273_2 rfl rfl rfl ?_
  exact uc_273l nn 8 h (by decide) (cs_mono C cpy8_0.symm)
theorem uc_274l {d : Nat} {s : sg_} : ∀ (nn : Nat) (i : Int) (h : mj_H), (8 ≤ i ∧ i ≤ 148) → CS h (cpy s 147 8 139 8 (i - 8)) → wl_R nn d 274 3 [some (.ref 138), some (wp_i i)] [] h (fun v1 h1 => v1 = none ∧ CS h1 (pbR s)) := by
  intro nn
  induction nn with
  | zero => intros; exact wl_0
  | succ nn ih =>
    intro i h hi C
    obtain ⟨t, et⟩ : ∃ t, cpy s 147 8 139 8 (i - 8) = t := ⟨_, rfl⟩
    rw [et] at C
    have t5 : t 147 i = s 147 i := by rw [← et, cpy_fr (by decide)]
    refine wl_s1 (pc' := 4) ji_274_3 rfl rfl rfl ?_
    refine wl_sp ji_274_4 rfl ?_
    refine wl_icmp (t := 28) ji_274_7 rfl (by omega) (by omega) (fun (hb1 : (148 : Int) ≤ i) => ?_) (fun (hb1 : ¬ ((148 : Int) ≤ i)) => ?_)
    · refine wl_s (pc' := 29) ji_274_28 rfl rfl rfl ?_
      refine wl_s (pc' := 30) ji_274_29 rfl rfl rfl ?_
      refine cs_pi (k := 25) (kI := 25) (y := 1) C (by decide) sq_138 rfl rfl ji_274_30 jf_274_43 (pv_nb (by omega)) (pv_fb (by omega)) (by omega) (fun h C => ?_)
      obtain ⟨s2, es2⟩ : ∃ z9_, up t 138 25 1 = z9_ := ⟨_, rfl⟩
      rw [es2] at C
      exact wl_rv ji_274_33 jr_274 (⟨rfl, cs_mono C (by rw [← es2, ← et, show i = 148 by omega]; rfl)⟩)
    · refine wl_s (pc' := 11) ji_274_10 rfl rfl rfl ?_
      refine cs_gr (r := 139) (k := 0) C (by decide) sq_138 rfl ji_274_11 jf_274_7 ?_
      refine wl_s (pc' := 15) ji_274_14 rfl rfl rfl ?_
      refine wl_s (pc' := 16) ji_274_15 rfl rfl rfl ?_
      refine cs_gr (r := 147) (k := 26) C (by decide) sq_138 rfl ji_274_16 jf_274_47 ?_
      refine wl_s (pc' := 20) ji_274_19 rfl rfl rfl ?_
      refine cs_l (x := i) C (by decide) (by decide) sq_147 (by omega) ji_274_20 (fun ld30 ld31 ld32 => ?_)
      rw [t5] at ld32 ⊢
      refine cs_s (x := i) (y := s 147 i) C (by decide) sq_139 (by omega) (by omega) ji_274_21 (fun h st40 st41 C => ?_)
      obtain ⟨s5, es5⟩ : ∃ z9_, up t 139 i (s 147 i) = z9_ := ⟨_, rfl⟩
      rw [es5] at C
      refine wl_iinc (x := i) (z := i + 1) (lv' := [some (.ref 138), some (wp_i (i + 1))]) ji_274_22 rfl (Nat.le_of_ble_eq_true rfl) (by omega) rfl ?_
      refine wl_goto (t := 3) ji_274_25 rfl ?_
      exact ih (i + 1) _ (by omega) (cs_mono C (by rw [← cpy8_s (by omega), et, es5]))
theorem uc_274 {nn d : Nat} {h : mj_H} {s : sg_} (C : CS h s) : wl_R nn d 274 0 [some (.ref 138), none] [] h (fun v1 h1 => v1 = none ∧ CS h1 (pbR s)) := by
  refine wl_bp ji_274_0 rfl ?_
  refine wl_s (pc' := 3) (lv' := [some (.ref 138), some (wp_i 8)]) ji_274_2 rfl rfl rfl ?_
  exact uc_274l nn 8 h (by decide) (cs_mono C cpy8_0.symm)
/-- what comes back: all but what was worked on elsewhere -/
theorem pb_bg {s t : sg_} (e : ∀ j, 8 ≤ j → j < 148 → t 147 j = s 139 j) (f : ∀ (b : Nat) (j : Int), ¬ b = 147 → ¬ (b = 139 ∧ 8 ≤ j ∧ j < 148) → ¬ (b = 138 ∧ j = 25) → t b j = s b j) (b : Nat) (j : Int) (h1 : ¬ b = 147) (h2 : ¬ (b = 138 ∧ j = 25)) : pbR t b j = s b j := by
  unfold pbR
  rw [up_n h2]
  unfold cpy
  by_cases q : b = 139 ∧ 8 ≤ j ∧ j < 8 + 140
  · rw [if_pos q, show j - 8 + 8 = j by omega, q.1]
    exact e j q.2.1 (by omega)
  · rw [if_neg q]
    exact f b j h1 (by omega) h2
