/-! -/
/-! -/
set_option maxRecDepth 100000 in
theorem ji_219_13 : mj_ins 219 13 = some (.iload_n 1) := by decide +kernel
set_option maxRecDepth 100000 in
theorem ji_219_14 : mj_ins 219 14 = some (.sipush 3190) := by decide +kernel
set_option maxRecDepth 100000 in
theorem ji_219_17 : mj_ins 219 17 = some (.if_icmp .ge 29) := by decide +kernel
set_option maxRecDepth 100000 in
theorem ji_219_20 : mj_ins 219 20 = some (.aload_n 0) := by decide +kernel
set_option maxRecDepth 100000 in
theorem ji_219_21 : mj_ins 219 21 = some (.getfield 7) := by decide +kernel
set_option maxRecDepth 100000 in
theorem jf_219_7 : mj_fld 219 7 = some (11, 0, (.array .int), false) := by decide +kernel
set_option maxRecDepth 100000 in
theorem ji_219_24 : mj_ins 219 24 = some (.sipush 184) := by decide +kernel
set_option maxRecDepth 100000 in
theorem ji_219_27 : mj_ins 219 27 = some (.iload_n 1) := by decide +kernel
set_option maxRecDepth 100000 in
theorem ji_219_28 : mj_ins 219 28 = some (.iadd) := by decide +kernel
set_option maxRecDepth 100000 in
theorem ji_219_29 : mj_ins 219 29 = some (.aload_n 0) := by decide +kernel
set_option maxRecDepth 100000 in
theorem ji_219_30 : mj_ins 219 30 = some (.getfield 7) := by decide +kernel
set_option maxRecDepth 100000 in
theorem ji_219_33 : mj_ins 219 33 = some (.sipush 294) := by decide +kernel
set_option maxRecDepth 100000 in
theorem ji_219_36 : mj_ins 219 36 = some (.iload_n 1) := by decide +kernel
set_option maxRecDepth 100000 in
theorem ji_219_37 : mj_ins 219 37 = some (.iadd) := by decide +kernel
set_option maxRecDepth 100000 in
theorem ji_219_38 : mj_ins 219 38 = some (.iaload) := by decide +kernel
set_option maxRecDepth 100000 in
theorem ji_219_39 : mj_ins 219 39 = some (.iastore) := by decide +kernel
set_option maxRecDepth 100000 in
theorem ji_219_40 : mj_ins 219 40 = some (.iinc 1 1) := by decide +kernel
set_option maxRecDepth 100000 in
theorem ji_219_43 : mj_ins 219 43 = some (.goto (-30)) := by decide +kernel
/-! the reference's keep: rows shifted; laid by program (wp_u41.py) -/
def shR (s : sg_) (m : Int) : sg_ := fun b j => if b = 139 ∧ 184 ≤ j ∧ j < 184 + m then s 139 (j + 110) else s b j
theorem shR_0 {s : sg_} : shR s 0 = s := by
  funext b j
  unfold shR
  rw [if_neg (by omega)]
theorem shR_s {s : sg_} {m : Int} (hm : 0 ≤ m) : up (shR s m) 139 (184 + m) (s 139 (294 + m)) = shR s (m + 1) := by
  funext b j
  unfold up shR
  by_cases h1 : b = 139 ∧ j = 184 + m
  · obtain ⟨rfl, rfl⟩ := h1
    rw [if_pos ⟨rfl, rfl⟩, if_pos ⟨rfl, by omega, by omega⟩, show 184 + m + 110 = 294 + m by omega]
  · rw [if_neg h1]
    by_cases h2 : b = 139 ∧ 184 ≤ j ∧ j < 184 + m
    · rw [if_pos h2, if_pos ⟨h2.1, h2.2.1, by omega⟩]
    · rw [if_neg h2, if_neg (fun z => h2 ⟨z.1, z.2.1, by by_cases e : j = 184 + m; exact absurd ⟨z.1, e⟩ h1; omega⟩)]
theorem uc_219a {d : Nat} {s : sg_} {Q : Option Value → mj_H → Prop} {l2 : Option Value} : ∀ (nn : Nat) (i : Int) (h : mj_H), (0 ≤ i ∧ i ≤ 3190) → CS h (shR s i) → (∀ (nn : Nat) (h : mj_H), CS h (shR s 3190) → ∀ i : Int, wl_R nn d 219 46 [some (.ref 138), some (wp_i i), l2] [] h Q) → wl_R nn d 219 13 [some (.ref 138), some (wp_i i), l2] [] h Q := by
  intro nn
  induction nn with
  | zero => intros; exact wl_0
  | succ nn ih =>
    intro i h hi C hk
    obtain ⟨t, et⟩ : ∃ t, shR s i = t := ⟨_, rfl⟩
    rw [et] at C
    have t2 : t 139 (294 + i) = s 139 (294 + i) := by
      rw [← et]
      exact if_neg (by omega)
    refine wl_s1 (pc' := 14) ji_219_13 rfl rfl rfl ?_
    refine wl_sp ji_219_14 rfl ?_
    refine wl_icmp (t := 46) ji_219_17 rfl (by omega) (by omega) (fun (hb1 : (3190 : Int) ≤ i) => ?_) (fun (hb1 : ¬ ((3190 : Int) ≤ i)) => ?_)
    · exact hk _ _ (cs_mono C (by rw [← et, show i = 3190 by omega])) i
    · refine wl_s (pc' := 21) ji_219_20 rfl rfl rfl ?_
      refine cs_gr (r := 139) (k := 0) C (by decide) sq_138 rfl ji_219_21 jf_219_7 ?_
      refine wl_sp ji_219_24 rfl ?_
      refine wl_s (pc' := 28) ji_219_27 rfl rfl rfl ?_
      refine wl_iadd (x := 184) (y := i) (z := 184 + i) ji_219_28 (by omega) ?_
      refine wl_s (pc' := 30) ji_219_29 rfl rfl rfl ?_
      refine cs_gr (r := 139) (k := 0) C (by decide) sq_138 rfl ji_219_30 jf_219_7 ?_
      refine wl_sp ji_219_33 rfl ?_
      refine wl_s (pc' := 37) ji_219_36 rfl rfl rfl ?_
      refine wl_iadd (x := 294) (y := i) (z := 294 + i) ji_219_37 (by omega) ?_
      refine cs_l (x := 294 + i) C (by decide) (by decide) sq_139 (by omega) ji_219_38 (fun ld20 ld21 ld22 => ?_)
      rw [t2] at ld22 ⊢
      refine cs_s (x := 184 + i) (y := s 139 (294 + i)) C (by decide) sq_139 (by omega) (by omega) ji_219_39 (fun h st30 st31 C => ?_)
      obtain ⟨s4, es4⟩ : ∃ z9_, up t 139 (184 + i) (s 139 (294 + i)) = z9_ := ⟨_, rfl⟩
      rw [es4] at C
      refine wl_iinc (x := i) (z := i + 1) (lv' := [some (.ref 138), some (wp_i (i + 1)), l2]) ji_219_40 rfl (Nat.le_of_ble_eq_true rfl) (by omega) rfl ?_
      refine wl_goto (t := 13) ji_219_43 rfl ?_
      exact ih (i + 1) _ (by omega) (cs_mono C (by rw [← es4, ← et, shR_s (by omega)])) hk
