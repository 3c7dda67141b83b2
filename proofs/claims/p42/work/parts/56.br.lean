/-! the checker's branches, sound -/
theorem sx_cs_ok {E : sx_E} {r : Nat → Int} (h : sx_in E r) {y : sx_X} (hy : 0 ≤ sx_ev r y) : ∃ F, sx_cs E y = some F ∧ sx_in F r ∧ F.length = E.length := by
  unfold sx_cs
  split
  · rename_i lo hi hb
    have := (sx_b_ok h hb).2
    have h1 := sx_tight_ok h hy
    rw [if_neg (by omega), if_neg (by rw [sx_bad_ok h1]; decide)]
    obtain ⟨h2, h3⟩ := sx_addc_ok h1 hy
    exact ⟨_, rfl, h2, h3.trans (sx_tight_len E y)⟩
  · exact ⟨E, rfl, h, rfl⟩
/-- how a number compares with 0 -/
def sx_cv (c : ClassFile.Cond) (v : Int) : Bool := match c with
  | .eq => decide (v = 0)
  | .ne => decide (¬ v = 0)
  | .lt => decide (v < 0)
  | .ge => decide (0 ≤ v)
  | .gt => decide (0 < v)
  | .le => decide (v ≤ 0)
theorem sx_cv_ng (c : ClassFile.Cond) (v : Int) : sx_cv (sx_ngc c) v = !sx_cv c v := by
  cases c <;> simp only [sx_cv, sx_ngc] <;> rw [← decide_not] <;> exact decide_eq_decide.mpr (by omega)
theorem sx_wh_ok {E : sx_E} {r : Nat → Int} (h : sx_in E r) {c : ClassFile.Cond} {x : sx_X} (hx : sx_cv c (sx_ev r x) = true) : ∃ F, sx_wh E c x = some F ∧ sx_in F r ∧ F.length = E.length := by
  have hn : sx_ev r (sx_mulc (-1) x) = -sx_ev r x := by rw [sx_mulc_ev]; omega
  have hx1 : sx_ev r (sx_sub x (sx_c 1)) = sx_ev r x - 1 := by rw [sx_sub_ev, sx_c_ev]
  have hn1 : sx_ev r (sx_sub (sx_mulc (-1) x) (sx_c 1)) = -sx_ev r x - 1 := by rw [sx_sub_ev, sx_c_ev, hn]
  cases c with
  | eq =>
    have e : sx_ev r x = 0 := of_decide_eq_true hx
    obtain ⟨F, g1, g2, g3⟩ := sx_cs_ok h (y := x) (by omega)
    obtain ⟨F2, k1, k2, k3⟩ := sx_cs_ok g2 (y := sx_mulc (-1) x) (by omega)
    exact ⟨F2, by simp only [sx_wh, g1, sx_cs2]; exact k1, k2, k3.trans g3⟩
  | ne =>
    have e : ¬ sx_ev r x = 0 := of_decide_eq_true hx
    simp only [sx_wh, sx_ne0]
    split
    · rename_i lo hi hb
      obtain ⟨b1, b2⟩ := sx_b_ok h hb
      split
      · exact sx_cs_ok h (by omega)
      · split
        · exact sx_cs_ok h (by omega)
        · exact ⟨E, rfl, h, rfl⟩
    · exact ⟨E, rfl, h, rfl⟩
  | lt =>
    have e : sx_ev r x < 0 := of_decide_eq_true hx
    exact sx_cs_ok h (by omega)
  | ge =>
    have e : 0 ≤ sx_ev r x := of_decide_eq_true hx
    exact sx_cs_ok h e
  | gt =>
    have e : 0 < sx_ev r x := of_decide_eq_true hx
    exact sx_cs_ok h (by omega)
  | le =>
    have e : sx_ev r x ≤ 0 := of_decide_eq_true hx
    exact sx_cs_ok h (by omega)
theorem sx_wl_ok {E : sx_E} {r : Nat → Int} (h : sx_in E r) {c : ClassFile.Cond} {x : sx_X} (hx : sx_cv c (sx_ev r x) = true) : ∃ F, some F ∈ sx_wl E c x ∧ sx_in F r ∧ F.length = E.length := by
  unfold sx_wl
  split
  · have e : ¬ sx_ev r x = 0 := of_decide_eq_true hx
    have hn : sx_ev r (sx_mulc (-1) x) = -sx_ev r x := by rw [sx_mulc_ev]; omega
    have hx1 : sx_ev r (sx_sub x (sx_c 1)) = sx_ev r x - 1 := by rw [sx_sub_ev, sx_c_ev]
    have hn1 : sx_ev r (sx_sub (sx_mulc (-1) x) (sx_c 1)) = -sx_ev r x - 1 := by rw [sx_sub_ev, sx_c_ev, hn]
    by_cases p : 0 < sx_ev r x
    · obtain ⟨F, g1, g2, g3⟩ := sx_cs_ok h (y := sx_sub x (sx_c 1)) (by omega)
      exact ⟨F, by rw [g1]; exact List.mem_cons_self, g2, g3⟩
    · obtain ⟨F, g1, g2, g3⟩ := sx_cs_ok h (y := sx_sub (sx_mulc (-1) x) (sx_c 1)) (by omega)
      exact ⟨F, by rw [g1]; exact List.mem_cons_of_mem _ List.mem_cons_self, g2, g3⟩
  · obtain ⟨F, g1, g2, g3⟩ := sx_wh_ok h hx
    exact ⟨F, by rw [g1]; exact List.mem_cons_self, g2, g3⟩
section SXB
variable {P : sx_P} {r : Nat → Int} {g : Nat → Nat} {lv : mj_L} {st : List Value} {h : mj_H} {ls : List (Option sx_A)} {ss S0 : List sx_A} {E : sx_E} {nr p0 : Nat} {C : sx_C} {mods : List Nat}
theorem sx_w_ok (hl : sx_lr r g P.2.2.1 ls lv) (hs : sx_sr r g P.2.2.1 ss st) (hC : sx_cr r g P.2.2.1 C h) (hH : sx_H P.1 P.2.1 P.2.2.1 h) {F : sx_E} (hF : sx_in F r) (hn : F.length = E.length) {p : Nat} {L : List sx_S} (hm : ∀ S' ∈ sx_w (p0, ls, S0, E, nr, C) ss p (some F), S' ∈ L) : sx_to P r g nr E.length mods h L p lv st h :=
  ⟨_, hm _ List.mem_cons_self, r, g, rfl, ⟨hl, hs, hF, hC, hH⟩, fun _ _ => rfl, by show E.length ≤ F.length; omega, fun _ _ => rfl, Nat.le_refl _, sx_ef_rf⟩
theorem sx_if_ok (hl : sx_lr r g P.2.2.1 ls lv) (hs : sx_sr r g P.2.2.1 ss st) (hE : sx_in E r) (hC : sx_cr r g P.2.2.1 C h) (hH : sx_H P.1 P.2.1 P.2.2.1 h) {c : ClassFile.Cond} {t f : Nat} {x : sx_X} : sx_to P r g nr E.length mods h (sx_if (p0, ls, S0, E, nr, C) ss c t f x) (if sx_cv c (sx_ev r x) then t else f) lv st h := by
  unfold sx_if
  dsimp only
  cases hc : sx_cv c (sx_ev r x) with
  | true =>
    obtain ⟨F, g1, g2, g3⟩ := sx_wl_ok hE hc
    rw [if_pos rfl]
    exact sx_w_ok (p0 := p0) (S0 := S0) (nr := nr) hl hs hC hH g2 g3 (fun S' h => List.mem_append_left _ (List.mem_flatMap.mpr ⟨_, g1, h⟩))
  | false =>
    obtain ⟨F, g1, g2, g3⟩ := sx_wl_ok hE (c := sx_ngc c) (x := x) (by rw [sx_cv_ng, hc]; rfl)
    rw [if_neg (by decide)]
    exact sx_w_ok (p0 := p0) (S0 := S0) (nr := nr) hl hs hC hH g2 g3 (fun S' h => List.mem_append_right _ (List.mem_flatMap.mpr ⟨_, g1, h⟩))
theorem sx_tsw_ok (hl : sx_lr r g P.2.2.1 ls lv) (hs : sx_sr r g P.2.2.1 ss st) (hE : sx_in E r) (hC : sx_cr r g P.2.2.1 C h) (hH : sx_H P.1 P.2.1 P.2.2.1 h) {pc : Nat} {x : sx_X} : ∀ {offs : List Int} {k : Int} {L : List sx_S}, sx_tsw pc (p0, ls, S0, E, nr, C) ss E x k offs = some L → ∀ j : Nat, j < offs.length → sx_ev r x = k + j → ∃ off t, offs[j]? = some off ∧ mj_j pc off = some t ∧ sx_to P r g nr E.length mods h L t lv st h
  | [], k, L, _, j, hj, _ => by cases hj
  | off :: l, k, L, hL, j, hj, hx => by
    unfold sx_tsw at hL
    split at hL
    · rename_i t L1 ht hL1
      cases hL
      cases j with
      | zero =>
        obtain ⟨F, g1, g2, g3⟩ := sx_wh_ok hE (c := .eq) (x := sx_sub x (sx_c k)) (decide_eq_true (by rw [sx_sub_ev, sx_c_ev]; omega))
        refine ⟨off, t, rfl, ht, ?_⟩
        unfold sx_eqk
        rw [g1]
        exact sx_w_ok (p0 := p0) (S0 := S0) (nr := nr) hl hs hC hH g2 g3 (fun S' h => List.mem_append_left _ h)
      | succ j =>
        obtain ⟨off', t', e1, e2, S', m1, e3⟩ := sx_tsw_ok hl hs hE hC hH hL1 j (by simpa using hj) (by omega)
        exact ⟨off', t', e1, e2, S', List.mem_append_right _ m1, e3⟩
    · cases hL
theorem sx_two_ok (hl : sx_lr r g P.2.2.1 ls lv) (hs : sx_sr r g P.2.2.1 ss st) (hE : sx_in E r) (hC : sx_cr r g P.2.2.1 C h) (hH : sx_H P.1 P.2.1 P.2.2.1 h) {pc : Nat} {c1 c2 : sx_X} {a1 a2 : sx_A} {v : Value} (hv : (0 ≤ sx_ev r c1 ∧ sx_vr r g P.2.2.1 a1 v) ∨ (0 ≤ sx_ev r c2 ∧ sx_vr r g P.2.2.1 a2 v)) : sx_to P r g nr E.length mods h (sx_two (p0, ls, S0, E, nr, C) pc ss c1 a1 c2 a2) pc lv (v :: st) h := by
  unfold sx_two
  dsimp only
  rcases hv with ⟨h1, h2⟩ | ⟨h1, h2⟩
  · obtain ⟨F, g1, g2, g3⟩ := sx_cs_ok hE h1
    rw [g1]
    exact sx_w_ok (p0 := p0) (S0 := S0) (nr := nr) (ss := a1 :: ss) (st := v :: st) hl ⟨h2, hs⟩ hC hH g2 g3 (fun S' h => List.mem_append_left _ h)
  · obtain ⟨F, g1, g2, g3⟩ := sx_cs_ok hE h1
    rw [g1]
    exact sx_w_ok (p0 := p0) (S0 := S0) (nr := nr) (ss := a2 :: ss) (st := v :: st) hl ⟨h2, hs⟩ hC hH g2 g3 (fun S' h => List.mem_append_right _ h)
end SXB
