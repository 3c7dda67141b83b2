/-! the reference's work, its loop as a whole -/
def sx_p20 : List sx_D := match sx_y20.2.2 with
  | [(_, _, ds)] => ds
  | _ => []
set_option maxRecDepth 100000 in
theorem sx_p20_k : sx_p20.length = 705 ∧ ((List.range 304).all fun i => decide (sx_p20[97 + 2 * i]? = some (0, 0, 41)) && decide (sx_p20[98 + 2 * i]? = some (0, -2147483648, 9999))) = true := by decide +kernel
set_option maxRecDepth 100000 in
theorem sx_y20_k : sx_y20.2.2 = [(0, 2820, sx_p20)] := by decide +kernel
theorem sx_fd20 {j : Nat} (hj : j < 2820) : sx_fd sx_y20.2.2 j = sx_p20[j % 705]? := by
  rw [sx_y20_k]
  unfold sx_fd
  have e : ([((0 : Nat), (2820 : Nat), sx_p20)].find? fun q => decide (q.1 ≤ j) && decide (j < q.1 + q.2.1)) = some (0, 2820, sx_p20) := by
    rw [List.find?_cons_of_pos]
    simp only [Bool.and_eq_true, decide_eq_true_eq]
    omega
  rw [e]
  dsimp only
  rw [sx_p20_k.1, Nat.sub_zero]
/-- a text's element -/
theorem sx_txt {h : mj_H} {Tx : Nat} {ts : List Value} (hH : sx_H sx_TT 20 sx_tau h) (tT : sx_tau[Tx]? = some 20) (h3 : h[Tx]? = some (1000, ts)) {J : Int32} {j : Nat} (hJ : J.toInt = (j : Int)) (hj : j < 2820) : ts.length = 2820 ∧ ∃ z, mj_el h Tx 1000 J = some (.int z) ∧ z.toInt = sx_el ts j ∧ ∀ lo hi, sx_p20[j % 705]? = some (0, lo, hi) → lo ≤ z.toInt ∧ z.toInt ≤ hi := by
  obtain ⟨-, ts', c1, c2, c3, -⟩ := hH Tx 20 sx_y20 tT rfl
  have c1 : h[Tx]? = some (1000, ts') := c1
  have c2 : ts'.length = 2820 := c2
  rw [h3] at c1
  cases c1
  refine ⟨c2, ?_⟩
  have hv : ts[j]? = some ts[j] := List.getElem?_eq_getElem (by omega)
  obtain ⟨d, d1, d2⟩ := c3 _ _ hv
  rw [sx_fd20 hj] at d1
  have hint : ∃ z, ts[j] = .int z ∧ ∀ lo hi, d = (0, lo, hi) → lo ≤ z.toInt ∧ z.toInt ≤ hi := by
    have hk : d.1 = 0 := by
      have hall : sx_p20.all (fun d => d.1 == 0) = true := by decide +kernel
      have := List.all_eq_true.mp hall d (List.mem_of_getElem? d1)
      exact beq_iff_eq.mp this
    obtain ⟨k, lo, hi⟩ := d
    dsimp only at hk
    subst hk
    obtain ⟨z, e1, e2, e3⟩ := d2
    exact ⟨z, e1, fun lo' hi' e => by cases e; exact ⟨e2, e3⟩⟩
  obtain ⟨z, ez, hz⟩ := hint
  rw [ez] at hv
  refine ⟨z, ?_, ?_, fun lo hi e => hz lo hi (by rw [e] at d1; exact (Option.some.inj d1).symm)⟩
  · unfold mj_el
    rw [h3]
    dsimp only
    have hix : mj_ix J ts.length = some j := by
      unfold mj_ix
      rw [if_pos (by omega), hJ]
      rfl
    rw [if_pos rfl, hix]
    exact hv
  · unfold sx_el
    rw [hv]
/-- which case a sign is -/
def sx_wcs (o : Int) : Nat := if o = 0 then 0 else if o = 1 then 1 else if o = 2 then 2 else if o = 3 then 3 else if o < 10 then 4 else if o < 20 then 5 else if o = 20 then 6 else 7
theorem sx_wc_all (o : Int) : sx_wc (sx_wcs o) = true := by
  unfold sx_wcs
  split
  · exact sx_wc0
  split
  · exact sx_wc1
  split
  · exact sx_wc2
  split
  · exact sx_wc3
  split
  · exact sx_wc4
  split
  · exact sx_wc5
  split
  · exact sx_wc6
  · exact sx_wc7
theorem sx_in7 {r : Nat → Int} {a0 b0 a1 b1 a2 b2 a3 b3 a4 b4 a5 b5 a6 b6 : Int} {c6 : List sx_X} (h0 : a0 ≤ r 0 ∧ r 0 ≤ b0) (h1 : a1 ≤ r 1 ∧ r 1 ≤ b1) (h2 : a2 ≤ r 2 ∧ r 2 ≤ b2) (h3 : a3 ≤ r 3 ∧ r 3 ≤ b3) (h4 : a4 ≤ r 4 ∧ r 4 ≤ b4) (h5 : a5 ≤ r 5 ∧ r 5 ≤ b5) (h6 : a6 ≤ r 6 ∧ r 6 ≤ b6) (hc : ∀ y ∈ c6, sx_bel 7 y = true ∧ 0 ≤ sx_ev r y) : sx_in [(a0, b0, []), (a1, b1, []), (a2, b2, []), (a3, b3, []), (a4, b4, []), (a5, b5, []), (a6, b6, c6)] r := by
  intro j q hq
  match j, hq with
  | 0, hq => cases hq; exact ⟨h0.1, h0.2, fun y hy => by cases hy⟩
  | 1, hq => cases hq; exact ⟨h1.1, h1.2, fun y hy => by cases hy⟩
  | 2, hq => cases hq; exact ⟨h2.1, h2.2, fun y hy => by cases hy⟩
  | 3, hq => cases hq; exact ⟨h3.1, h3.2, fun y hy => by cases hy⟩
  | 4, hq => cases hq; exact ⟨h4.1, h4.2, fun y hy => by cases hy⟩
  | 5, hq => cases hq; exact ⟨h5.1, h5.2, fun y hy => by cases hy⟩
  | 6, hq => cases hq; exact ⟨h6.1, h6.2, hc⟩
  | j + 7, hq => simp at hq
/-- a good item: the values and truths fit its case, and the rest is good with what is there then -/
theorem sx_wf_step {ts : List Value} {base i len n t : Nat} {o v : Int} (ho : sx_el ts (base + 2 * i) = o) (hv : sx_el ts (base + 2 * i + 1) = v) (o0 : 0 ≤ o ∧ o ≤ 41) (vb : -2147483648 ≤ v ∧ v ≤ 9999) (hn : n ≤ i) (ht : t ≤ i) (hi : i ≤ 302) (hw : sx_wf ts base i (len + 1) n t = true) {r : Nat → Int} (rx : 1 ≤ r 0 ∧ r 0 ≤ 2208) (rb : 97 ≤ r 1 ∧ r 1 ≤ 2212) (r2 : r 2 = n) (r3 : r 3 = t) (r4 : r 4 = i) (r5 : r 5 = o) (r6 : r 6 = v) : sx_in (sx_wE (sx_wcs o)) r ∧ (sx_wE (sx_wcs o)).length = 7 ∧ ∃ n' t' : Nat, sx_ev r (sx_wn (sx_wcs o)) = (n' : Int) ∧ sx_ev r (sx_wt (sx_wcs o)) = (t' : Int) ∧ n' ≤ i + 1 ∧ t' ≤ i + 1 ∧ sx_wf ts base (i + 1) len n' t' = true := by
  unfold sx_wf at hw
  rw [ho, hv] at hw
  have no : ∀ y ∈ ([] : List sx_X), sx_bel 7 y = true ∧ 0 ≤ sx_ev r y := fun y hy => by cases hy
  by_cases c0 : o = 0
  · rw [if_pos c0] at hw
    have e : sx_wcs o = 0 := by simp [sx_wcs, c0]
    rw [e]
    exact ⟨sx_in7 rx rb ⟨by omega, by omega⟩ ⟨by omega, by omega⟩ ⟨by omega, by omega⟩ ⟨by omega, by omega⟩ ⟨by omega, by omega⟩ no, rfl, n + 1, t, by show (1 : Int) + (1 * r 2 + 0) = _; omega, by show (0 : Int) + (1 * r 3 + 0) = _; omega, by omega, by omega, hw⟩
  rw [if_neg c0] at hw
  by_cases c1 : o = 1
  · rw [if_pos c1, Bool.and_eq_true, decide_eq_true_eq] at hw
    have e : sx_wcs o = 1 := by simp [sx_wcs, c1]
    rw [e]
    exact ⟨sx_in7 rx rb ⟨by omega, by omega⟩ ⟨by omega, by omega⟩ ⟨by omega, by omega⟩ ⟨by omega, by omega⟩ ⟨by omega, by omega⟩ no, rfl, n + 1, t, by show (1 : Int) + (1 * r 2 + 0) = _; omega, by show (0 : Int) + (1 * r 3 + 0) = _; omega, by omega, by omega, hw.2⟩
  rw [if_neg c1] at hw
  by_cases c2 : o = 2
  · rw [if_pos c2, Bool.and_eq_true, decide_eq_true_eq] at hw
    have e : sx_wcs o = 2 := by simp [sx_wcs, c2]
    rw [e]
    refine ⟨sx_in7 rx rb ⟨by omega, by omega⟩ ⟨by omega, by omega⟩ ⟨by omega, by omega⟩ ⟨by omega, by omega⟩ ⟨by omega, by omega⟩ (fun y hy => ?_), rfl, n - (v.toNat + 1), t + 1, by show (-1 : Int) + (1 * r 2 + (-1 * r 6 + 0)) = _; omega, by show (1 : Int) + (1 * r 3 + 0) = _; omega, by omega, by omega, hw.2⟩
    rw [List.mem_singleton] at hy
    subst hy
    refine ⟨rfl, ?_⟩
    show 0 ≤ (-1 : Int) + (1 * r 2 + (-1 * r 6 + 0))
    omega
  rw [if_neg c2] at hw
  by_cases c3 : o = 3
  · rw [if_pos c3, Bool.and_eq_true, decide_eq_true_eq] at hw
    have e : sx_wcs o = 3 := by simp [sx_wcs, c3]
    rw [e]
    exact ⟨sx_in7 rx rb ⟨by omega, by omega⟩ ⟨by omega, by omega⟩ ⟨by omega, by omega⟩ ⟨by omega, by omega⟩ ⟨by omega, by omega⟩ no, rfl, n, t, by show (0 : Int) + (1 * r 2 + 0) = _; omega, by show (0 : Int) + (1 * r 3 + 0) = _; omega, by omega, by omega, hw.2⟩
  rw [if_neg c3] at hw
  by_cases c4 : o < 10
  · rw [if_pos c4, Bool.and_eq_true, decide_eq_true_eq] at hw
    have e : sx_wcs o = 4 := by simp [sx_wcs, c0, c1, c2, c3, c4]
    rw [e]
    exact ⟨sx_in7 rx rb ⟨by omega, by omega⟩ ⟨by omega, by omega⟩ ⟨by omega, by omega⟩ ⟨by omega, by omega⟩ ⟨by omega, by omega⟩ no, rfl, n - 1, t, by show (-1 : Int) + (1 * r 2 + 0) = _; omega, by show (0 : Int) + (1 * r 3 + 0) = _; omega, by omega, by omega, hw.2⟩
  rw [if_neg c4] at hw
  by_cases c5 : o < 20
  · rw [if_pos c5, Bool.and_eq_true, decide_eq_true_eq] at hw
    have e : sx_wcs o = 5 := by simp [sx_wcs, c0, c1, c2, c3, c4, c5]
    rw [e]
    exact ⟨sx_in7 rx rb ⟨by omega, by omega⟩ ⟨by omega, by omega⟩ ⟨by omega, by omega⟩ ⟨by omega, by omega⟩ ⟨by omega, by omega⟩ no, rfl, n - 2, t + 1, by show (-2 : Int) + (1 * r 2 + 0) = _; omega, by show (1 : Int) + (1 * r 3 + 0) = _; omega, by omega, by omega, hw.2⟩
  rw [if_neg c5] at hw
  by_cases c6 : o = 20
  · rw [if_pos c6, Bool.and_eq_true, decide_eq_true_eq] at hw
    have e : sx_wcs o = 6 := by simp [sx_wcs, c6]
    rw [e]
    exact ⟨sx_in7 rx rb ⟨by omega, by omega⟩ ⟨by omega, by omega⟩ ⟨by omega, by omega⟩ ⟨by omega, by omega⟩ ⟨by omega, by omega⟩ no, rfl, n, t, by show (0 : Int) + (1 * r 2 + 0) = _; omega, by show (0 : Int) + (1 * r 3 + 0) = _; omega, by omega, by omega, hw.2⟩
  · rw [if_neg c6, Bool.and_eq_true, decide_eq_true_eq] at hw
    have e : sx_wcs o = 7 := by simp [sx_wcs, c0, c1, c2, c3, c4, c5, c6]
    rw [e]
    exact ⟨sx_in7 rx rb ⟨by omega, by omega⟩ ⟨by omega, by omega⟩ ⟨by omega, by omega⟩ ⟨by omega, by omega⟩ ⟨by omega, by omega⟩ no, rfl, n, t - 1, by show (0 : Int) + (1 * r 2 + 0) = _; omega, by show (-1 : Int) + (1 * r 3 + 0) = _; omega, by omega, by omega, hw.2⟩
