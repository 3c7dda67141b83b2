/-! -/
/-! -/
/-! the reference's invariants through hours and steps -/
theorem RG_e {s s1 : sg_} (G : RG s) (e : ∀ j, 16 ≤ j → j < 148 → s1 139 j = s 139 j) (e0 : s1 139 0 = s 139 0) (e1 : s1 139 1 = s 139 1) (w : 0 ≤ s1 139 9 ∧ s1 139 9 ≤ 9) (o : 0 ≤ s1 139 8 ∧ s1 139 8 ≤ 20000) (x : 0 ≤ s1 139 11 ∧ s1 139 11 ≤ 30306) (d : -1 ≤ s1 139 10 ∧ s1 139 10 ≤ 5) : RG s1 := RG_mk
  (a_ := fun q hq => by rw [e _ (by omega) (by omega)]; exact G.a q hq)
  (pl_ := fun q hq => by rw [e _ (by omega) (by omega)]; exact G.pl q hq)
  (n_ := fun q hq => by rw [e _ (by omega) (by omega)]; exact G.n q hq)
  (h_ := fun u q hu hq => by
      show -1 ≤ s1 139 (52 + 2 * (8 * u + q) + 0) ∧ s1 139 (52 + 2 * (8 * u + q) + 0) ≤ 99
      rw [e _ (by omega) (by omega)]
      exact G.h u q hu hq)
  (e_ := fun u q hu hq => by rw [e _ (by omega) (by omega)]; exact G.e u q hu hq)
  (f_ := fun u q hu hq => by
      show ¬ s1 139 (52 + 2 * (8 * u + q) + 0) = -1 → s1 139 (52 + 2 * (8 * u + q) + 1) ≤ 99
      rw [e _ (by omega) (by omega), e _ (by omega) (by omega)]
      exact G.f u q hu hq)
  (w_ := w)
  (o_ := o)
  (x_ := x)
  (d_ := d)
  (p0_ := by rw [e0]; exact G.p0)
  (w0_ := by rw [e1]; exact G.w0)
theorem keR_fr {s : sg_} {b : Nat} {j : Int} (h4 : 0 ≤ s 139 4) (h : ¬ b = 139 ∨ (j < 184 ∧ ¬ j = 4)) : keR s b j = s b j := by
  unfold keR up
  rw [if_neg (by omega)]
  exact if_neg (by omega)
theorem keepR_fr {s : sg_} {b : Nat} {j : Int} (h4 : 0 ≤ s 139 4) (h : ¬ b = 139 ∨ (j < 184 ∧ ¬ j = 4)) : keepR s b j = s b j := by
  unfold keepR
  split
  · rw [keR_fr (by rw [up_e]; decide) h]
    unfold up shR
    rw [if_neg (by omega)]
    exact if_neg (by omega)
  · exact keR_fr h4 h
theorem keepR_RS {s : sg_} {cr : crs} (H : RS s cr) (h4 : 0 ≤ s 139 4) : RS (keepR s) cr := by
  have e : ∀ j, j < 184 → ¬ j = 4 → keepR s 139 j = s 139 j := fun j a b => keepR_fr h4 (Or.inr ⟨a, b⟩)
  exact RS_f H (RG_e H.g (fun j a b => e j (by omega) (by omega)) (e 0 (by decide) (by decide)) (e 1 (by decide) (by decide)) (by rw [e 9 (by decide) (by decide)]; exact H.g.w) (by rw [e 8 (by decide) (by decide)]; exact H.g.o) (by rw [e 11 (by decide) (by decide)]; exact H.g.x) (by rw [e 10 (by decide) (by decide)]; exact H.g.d)) (e 3 (by decide) (by decide)) (fun j => keepR_fr h4 (Or.inl (by decide)))
