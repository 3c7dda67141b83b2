/-! the driver's run -/
def sx_pfm (m : Nat) (mods : List Nat) (i : Instr) : Bool := match i with
  | .putfield x => match mj_fld m x with
    | some (_, k, _, _) => decide (k ∈ mods)
    | none => true
  | _ => true
/-- one step, then go -/
def sx_sp (P : sx_P) (m : Nat) (K : sx_K) (X0 : sx_X) (go : sx_S → Bool) (S : sx_S) : Bool := match mj_ins m S.1 with
  | none => false
  | some i => sx_ret m K.2.1 i S || (match sx_cK P m X0 K.2.2.2 i S with
    | some L => L.all go
    | none => sx_pfm m K.2.2.2 i && (match sx_i P m i S with
      | some L => L.all go
      | none => false))
def sx_go (P : sx_P) (m : Nat) (K : sx_K) (X0 : sx_X) (n0 : Nat) (cuts : List sx_T) (M : Option sx_X) : Nat → sx_S → Bool
  | 0, _ => false
  | n + 1, S => match cuts.find? (fun T => T.1 == S.1) with
    | some T => sx_mt n0 M S T
    | none => sx_sp P m K X0 (sx_go P m K X0 n0 cuts M n) S
/-- the run from here ends well -/
def sx_R (P : sx_P) (d m : Nat) (K : sx_K) (pc : Nat) (lv : mj_L) (st : List Value) (h : mj_H) : Prop := ∃ f v h', mj_run f d m pc lv st h = some (v, h') ∧ sx_H P.1 P.2.1 P.2.2.1 h' ∧ sx_an P.2.2.1 K.2.1 v ∧ sx_ef K.2.2.2 h h' ∧ h'.length = h.length
def sx_lt (n : Nat) (x : sx_X) : Bool := x.2.all fun q => decide (q.2 < n)
theorem sx_sum_eq {r r' : Nat → Int} {n : Nat} (hr : ∀ j, j < n → r' j = r j) : ∀ {l : List (Int × Nat)}, (l.all fun q => decide (q.2 < n)) = true → sx_sum r' l = sx_sum r l
  | [], _ => rfl
  | (a, i) :: l, h => by
    rw [List.all_cons, Bool.and_eq_true] at h
    have hi : i < n := of_decide_eq_true h.1
    simp only [sx_sum]
    rw [sx_sum_eq hr h.2, hr i hi]
theorem sx_ev_eq {r r' : Nat → Int} {n : Nat} (hr : ∀ j, j < n → r' j = r j) {x : sx_X} (h : sx_lt n x = true) : sx_ev r' x = sx_ev r x := by
  unfold sx_ev
  rw [sx_sum_eq hr h]
theorem sx_sp_ok {P : sx_P} {d m : Nat} {K : sx_K} {X0 : sx_X} {go : sx_S → Bool} {S : sx_S} {r : Nat → Int} {g : Nat → Nat} {lv : mj_L} {st : List Value} {h : mj_H} (hsp : sx_sp P m K X0 go S = true) (hg : sx_g P.1 P.2.1 P.2.2.1 r g S lv st h) (hX : sx_ev r X0 ≤ d) (IH : ∀ d', d' < d → ∀ c K, P.2.2.2[c]? = some (some K) → sx_M P d' c K)
    (hgo : ∀ (S' : sx_S) (r' : Nat → Int) (g' : Nat → Nat) (lv' : mj_L) (st' : List Value) (h' : mj_H), go S' = true → sx_g P.1 P.2.1 P.2.2.1 r' g' S' lv' st' h' → (∀ j, j < S.2.2.2.1.length → r' j = r j) → S.2.2.2.1.length ≤ S'.2.2.2.1.length → sx_R P d m K S'.1 lv' st' h') : sx_R P d m K S.1 lv st h := by
  obtain ⟨pc, ls, ss, E, nr, C⟩ := S
  unfold sx_sp at hsp
  dsimp only at hsp hgo ⊢
  cases hi : mj_ins m pc with
  | none => rw [hi] at hsp; cases hsp
  | some i =>
    rw [hi] at hsp
    dsimp only at hsp
    rw [Bool.or_eq_true] at hsp
    rcases hsp with hsp | hsp
    · obtain ⟨v, e1, e2⟩ := sx_ret_ok hsp hg
      refine ⟨1, v, h, ?_, hg.2.2.2.2, e2, sx_ef_rf, rfl⟩
      unfold mj_run
      rw [hi]
      dsimp only
      rw [e1]
    · obtain ⟨hl, hs, hE, hC, hH⟩ := hg
      cases hk : sx_cK P m X0 K.2.2.2 i (pc, ls, ss, E, nr, C) with
      | some L =>
        rw [hk] at hsp
        dsimp only at hsp
        obtain ⟨n1, c, vs, t2, d', lv0, f, v, h', rfl, c1, c2, c3, c4, S', m1, r', g', e1, e2, e3, e4, e5⟩ := sx_cK_ok hk hl hs hE hC hH hX IH
        obtain ⟨f2, v2, h2, q1, q2, q3, q4, q5⟩ := hgo S' r' g' lv _ h' (List.all_eq_true.mp hsp S' m1) e2 e3 e4
        refine ⟨max f f2 + 1, v2, h2, ?_, q2, q3, sx_ef_tr e5 q4, q5.trans c4⟩
        unfold mj_run
        rw [hi]
        dsimp only
        rw [n1]
        dsimp only
        rw [c1]
        dsimp only
        rw [c2]
        dsimp only
        rw [mj_run_mono (Nat.le_max_left f f2) (Nat.le_refl _) c3]
        dsimp only
        rw [e1] at q1
        exact mj_run_mono (Nat.le_max_right f f2) (Nat.le_refl _) q1
      | none =>
        rw [hk] at hsp
        dsimp only at hsp
        rw [Bool.and_eq_true] at hsp
        obtain ⟨s1, s2⟩ := hsp
        cases hL : sx_i P m i (pc, ls, ss, E, nr, C) with
        | none => rw [hL] at s2; cases s2
        | some L =>
          rw [hL] at s2
          dsimp only at s2
          have hm : ∀ x c k ty w, i = .putfield x → mj_fld m x = some (c, k, ty, w) → k ∈ K.2.2.2 := by
            intro x c k ty w ei ef
            subst ei
            simp only [sx_pfm, ef] at s1
            exact of_decide_eq_true s1
          obtain ⟨pc', lv', st', h', t1, S', m1, r', g', e1, e2, e3, e4, e5⟩ := sx_i_ok hl hs hE hC hH hm hL
          obtain ⟨n1, n2⟩ := sx_i_ne hL
          have hlen := sx_i_len hL t1
          obtain ⟨f2, v2, h2, q1, q2, q3, q4, q5⟩ := hgo S' r' g' lv' st' h' (List.all_eq_true.mp s2 S' m1) e2 e3 e4
          refine ⟨f2 + 1, v2, h2, ?_, q2, q3, sx_ef_tr e5 q4, q5.trans hlen⟩
          unfold mj_run
          rw [hi]
          dsimp only
          rw [n1]
          dsimp only
          rw [n2]
          dsimp only
          rw [t1]
          dsimp only
          rw [e1] at q1
          exact q1
theorem sx_go_ok {P : sx_P} {d m : Nat} {K : sx_K} {X0 : sx_X} {n0 nb : Nat} {cuts : List sx_T} {M : Option sx_X} {r0 : Nat → Int} {mv : Int} (IH : ∀ d', d' < d → ∀ c K, P.2.2.2[c]? = some (some K) → sx_M P d' c K) (hX : sx_ev r0 X0 ≤ d) (hX0 : sx_lt n0 X0 = true) (hM : ∀ x, M = some x → sx_lt nb x = true)
    (hcut : ∀ T ∈ cuts, ∀ (r' : Nat → Int) (g' : Nat → Nat) (lv' : mj_L) (h' : mj_H), sx_g P.1 P.2.1 P.2.2.1 r' g' (sx_st T) lv' [] h' → (∀ j, j < n0 → r' j = r0 j) → (∀ x, M = some x → sx_ev r' T.2.2.2.2.2.2.2 + 1 ≤ mv) → sx_R P d m K T.1 lv' [] h') :
    ∀ (n : Nat) (S : sx_S) (r : Nat → Int) (g : Nat → Nat) (lv : mj_L) (st : List Value) (h : mj_H), sx_go P m K X0 n0 cuts M n S = true → sx_g P.1 P.2.1 P.2.2.1 r g S lv st h → n0 ≤ S.2.2.2.1.length → nb ≤ S.2.2.2.1.length → (∀ j, j < n0 → r j = r0 j) → (∀ x, M = some x → sx_ev r x = mv) → sx_R P d m K S.1 lv st h
  | 0, _, _, _, _, _, _, hgo, _, _, _, _, _ => by unfold sx_go at hgo; cases hgo
  | n + 1, S, r, g, lv, st, h, hgo, hg, h0, hb, hr, hv => by
    unfold sx_go at hgo
    split at hgo
    · rename_i T hT
      have m1 := List.mem_of_find?_eq_some hT
      have m2 := List.find?_some hT
      rw [beq_iff_eq] at m2
      obtain ⟨r', g', e0, e1, e2, e3⟩ := sx_mt_ok hgo hg
      subst e0
      rw [← m2]
      exact hcut T m1 r' g' lv h e1 (fun j hj => (e2 j hj).trans (hr j hj)) (fun x hx => by rw [← hv x hx]; exact e3 x hx)
    · exact sx_sp_ok hgo hg (by rw [sx_ev_eq hr hX0]; exact hX) IH (fun S' r' g' lv' st' h' k1 k2 k3 k4 => sx_go_ok IH hX hX0 hM hcut n S' r' g' lv' st' h' k1 k2 (by omega) (by omega) (fun j hj => (k3 j (by omega)).trans (hr j hj)) (fun x hx => by rw [sx_ev_eq (n := nb) (fun j hj => k3 j (by omega)) (hM x hx)]; exact hv x hx))
