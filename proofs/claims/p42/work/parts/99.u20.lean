/-! -/
/-! -/
/-! arrays of longs, of truths; laid by program (rd.u20) -/
section LB
variable {nn d m pc : Nat} {lv : mj_L} {st : List Value} {h : mj_H} {Q : Option Value → mj_H → Prop} {s : sg_}
theorem wl_all {a : Nat} {x : Int} {vs : List Value} (hi : mj_ins m pc = some .laload) (ha : h[a]? = some (1005, vs)) (hx : wp_r x) (hr : ∀ v, 0 ≤ x → x < vs.length → vs[x.toNat]? = some v → wl_R nn d m (pc + 1) lv (v :: st) h Q) : wl_R nn d m pc lv (wp_i x :: .ref a :: st) h Q := by
  refine wl_x hi rfl rfl (fun p l s g e => ?_)
  simp only [mj_st] at e
  cases hel : mj_el h a 1005 (Int32.ofInt x) with
  | none => rw [hel] at e; cases e
  | some v =>
    rw [hel] at e
    cases e
    unfold mj_el at hel
    rw [ha] at hel
    dsimp only at hel
    rw [if_pos rfl] at hel
    unfold mj_ix at hel
    rw [wp_ti hx] at hel
    by_cases hb : 0 ≤ x ∧ x < (vs.length : Int)
    · rw [if_pos hb] at hel
      exact hr v hb.1 hb.2 hel
    · rw [if_neg hb] at hel
      cases hel
theorem wl_abl {a : Nat} {x : Int} {vs : List Value} (hi : mj_ins m pc = some .baload) (ha : h[a]? = some (1001, vs)) (hx : wp_r x) (hr : ∀ v, 0 ≤ x → x < vs.length → vs[x.toNat]? = some v → wl_R nn d m (pc + 1) lv (v :: st) h Q) : wl_R nn d m pc lv (wp_i x :: .ref a :: st) h Q := by
  refine wl_x hi rfl rfl (fun p l s g e => ?_)
  simp only [mj_st] at e
  cases hel : mj_el h a 1001 (Int32.ofInt x) with
  | none => rw [hel] at e; cases e
  | some v =>
    rw [hel] at e
    cases e
    unfold mj_el at hel
    rw [ha] at hel
    dsimp only at hel
    rw [if_pos rfl] at hel
    unfold mj_ix at hel
    rw [wp_ti hx] at hel
    by_cases hb : 0 ≤ x ∧ x < (vs.length : Int)
    · rw [if_pos hb] at hel
      exact hr v hb.1 hb.2 hel
    · rw [if_neg hb] at hel
      cases hel
theorem wl_asl {a : Nat} {x y : Int} {vs : List Value} (hi : mj_ins m pc = some .lastore) (ha : h[a]? = some (1005, vs)) (hx : wp_r x) (hr : 0 ≤ x → x < vs.length → wl_R nn d m (pc + 1) lv st (h.set a (1005, vs.set x.toNat (wl_L y))) Q) : wl_R nn d m pc lv (wl_L y :: wp_i x :: .ref a :: st) h Q := by
  refine wl_x hi rfl rfl (fun p l s g e => ?_)
  simp only [mj_st] at e
  cases hes : mj_es mj_n0 h a 1005 (Int32.ofInt x) (wl_L y) with
  | none => rw [hes] at e; cases e
  | some h2 =>
    rw [hes] at e
    cases e
    unfold mj_es at hes
    rw [ha] at hes
    dsimp only at hes
    split at hes
    · unfold mj_ix at hes
      rw [wp_ti hx] at hes
      by_cases hb : 0 ≤ x ∧ x < (vs.length : Int)
      · rw [if_pos hb] at hes
        cases hes
        exact hr hb.1 hb.2
      · rw [if_neg hb] at hes
        cases hes
    · cases hes
theorem wl_asb {a : Nat} {x y : Int} {vs : List Value} (hi : mj_ins m pc = some .bastore) (ha : h[a]? = some (1001, vs)) (hx : wp_r x) (hy : y = 0 ∨ y = 1) (hr : 0 ≤ x → x < vs.length → wl_R nn d m (pc + 1) lv st (h.set a (1001, vs.set x.toNat (wp_i y))) Q) : wl_R nn d m pc lv (wp_i y :: wp_i x :: .ref a :: st) h Q := by
  refine wl_x hi rfl rfl (fun p l s g e => ?_)
  simp only [mj_st] at e
  rw [pv_nb hy] at e
  cases hes : mj_es mj_n0 h a 1001 (Int32.ofInt x) (wp_i y) with
  | none => rw [hes] at e; cases e
  | some h2 =>
    rw [hes] at e
    cases e
    unfold mj_es at hes
    rw [ha] at hes
    dsimp only at hes
    split at hes
    · unfold mj_ix at hes
      rw [wp_ti hx] at hes
      by_cases hb : 0 ≤ x ∧ x < (vs.length : Int)
      · rw [if_pos hb] at hes
        cases hes
        exact hr hb.1 hb.2
      · rw [if_neg hb] at hes
        cases hes
    · cases hes
theorem c0_ll {a n : Nat} {x : Int} (C : CS0 h s) (ha : 0 < a) (hq : sh_T[a]? = some (1005, [], n, 1)) (hx : wp_r x) (hi : mj_ins m pc = some .laload) (hr : 0 ≤ x → x < n → wl_R nn d m (pc + 1) lv (wl_L (s a x) :: st) h Q) : wl_R nn d m pc lv (wp_i x :: .ref a :: st) h Q := by
  obtain ⟨vs, e1, e2, e3⟩ := C a _ ha hq
  have e2 : vs.length = n := by rw [e2]; show 0 + n = n; omega
  refine wl_all hi e1 hx (fun v v1 v2 v3 => ?_)
  have h3 := e3 x.toNat (by omega)
  rw [show ((x.toNat : Nat) : Int) = x by omega, v3] at h3
  obtain ⟨h3, h4⟩ := h3
  cases h3
  exact hr v1 (by omega)
theorem c0_lb {a n : Nat} {x : Int} (C : CS0 h s) (ha : 0 < a) (hq : sh_T[a]? = some (1001, [], n, 0)) (hx : wp_r x) (hi : mj_ins m pc = some .baload) (hr : 0 ≤ x → x < n → wp_r (s a x) → wl_R nn d m (pc + 1) lv (wp_i (s a x) :: st) h Q) : wl_R nn d m pc lv (wp_i x :: .ref a :: st) h Q := by
  obtain ⟨vs, e1, e2, e3⟩ := C a _ ha hq
  have e2 : vs.length = n := by rw [e2]; show 0 + n = n; omega
  refine wl_abl hi e1 hx (fun v v1 v2 v3 => ?_)
  have h3 := e3 x.toNat (by omega)
  rw [show ((x.toNat : Nat) : Int) = x by omega, v3] at h3
  obtain ⟨h3, h4⟩ := h3
  cases h3
  exact hr v1 (by omega) (h4 rfl)
theorem c0_sl {a n : Nat} {x y : Int} (C : CS0 h s) (ha : 0 < a) (hq : sh_T[a]? = some (1005, [], n, 1)) (hx : wp_r x) (hi : mj_ins m pc = some .lastore) (hr : ∀ h1, 0 ≤ x → x < n → CS0 h1 (up s a x y) → wl_R nn d m (pc + 1) lv st h1 Q) : wl_R nn d m pc lv (wl_L y :: wp_i x :: .ref a :: st) h Q := by
  obtain ⟨vs, e1, e2, e3⟩ := C a _ ha hq
  have e2 : vs.length = n := by rw [e2]; show 0 + n = n; omega
  refine wl_asl hi e1 hx (fun x1 x2 => hr _ x1 (by omega) ?_)
  have := c0_set (k := x.toNat) (y := y) C ha hq e1 (fun z => by cases z)
  rw [show ((x.toNat : Nat) : Int) = x by omega] at this
  exact this
theorem c0_sb {a n : Nat} {x y : Int} (C : CS0 h s) (ha : 0 < a) (hq : sh_T[a]? = some (1001, [], n, 0)) (hx : wp_r x) (hy : y = 0 ∨ y = 1) (hi : mj_ins m pc = some .bastore) (hr : ∀ h1, 0 ≤ x → x < n → CS0 h1 (up s a x y) → wl_R nn d m (pc + 1) lv st h1 Q) : wl_R nn d m pc lv (wp_i y :: wp_i x :: .ref a :: st) h Q := by
  obtain ⟨vs, e1, e2, e3⟩ := C a _ ha hq
  have e2 : vs.length = n := by rw [e2]; show 0 + n = n; omega
  refine wl_asb hi e1 hx hy (fun x1 x2 => hr _ x1 (by omega) ?_)
  have := c0_set (k := x.toNat) (y := y) C ha hq e1 (fun _ => by omega)
  rw [show ((x.toNat : Nat) : Int) = x by omega] at this
  exact this
end LB
