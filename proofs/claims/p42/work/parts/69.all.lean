/-! the driver's run -/
/-- one step, then go; q: what was spent -/
def sx_sp (P : sx_P) (m : Nat) (K : sx_K) (X0 : sx_X) (n : Nat) (go : sx_X → sx_S → Bool) (q : sx_X) (S : sx_S) : Bool := match mj_ins m S.1 with
  | none => false
  | some i => sx_ret m K.2.1 i S || (match sx_nx (sx_col P K.2.2.2 n (sx_ib K.2.2.2)) P m X0 K.2.2.2 i S with
    | some L => if sx_cst (sx_ib K.2.2.2) P m i S = 0 then L.all (go q) else sx_le S.2.2.2.1 (q.1 + sx_cst (sx_ib K.2.2.2) P m i S, q.2) (sx_cost K.2.2.2) && L.all (go (q.1 + sx_cst (sx_ib K.2.2.2) P m i S, q.2))
    | none => false)
def sx_go (P : sx_P) (m : Nat) (K : sx_K) (X0 : sx_X) (n0 : Nat) (cuts : List sx_T) (M : Option sx_X) : Nat → sx_X → sx_S → Bool
  | 0, _, _ => false
  | n + 1, q, S => if cuts.any (fun T => T.1 == S.1) then cuts.any (fun T => T.1 == S.1 && sx_mt n0 M q (sx_plT P T S) T) else sx_sp P m K X0 n (sx_go P m K X0 n0 cuts M n) q S
/-- the run from here ends well -/
def sx_R (P : sx_P) (d m : Nat) (K : sx_K) (B : Int) (pc : Nat) (lv : mj_L) (st : List Value) (h : mj_H) : Prop := ∃ f v h', mj_run f d m pc lv st h = some (v, h') ∧ sx_H P.1 P.2.1 P.2.2.1 h' ∧ sx_an P.2.2.1 K.2.1 v ∧ sx_ef P.2.2.1 K.2.2.2 h h' ∧ h'.length = h.length ∧ sx_W P.2.2.1 h' (B + sx_cost K.2.2.2)
/-- what is spent is in bounds -/
def sx_qk (P : sx_P) (K : sx_K) (B : Int) (r : Nat → Int) (n : Nat) (q : sx_X) (h : mj_H) : Prop := sx_W P.2.2.1 h (B + sx_ev r q) ∧ sx_ev r q ≤ sx_cost K.2.2.2 ∧ sx_lt n q = true
theorem sx_sp_ok {P : sx_P} {d m n : Nat} {K : sx_K} {B : Int} {X0 q : sx_X} {go : sx_X → sx_S → Bool} {S : sx_S} {r : Nat → Int} {g : Nat → Nat} {lv : mj_L} {st : List Value} {h : mj_H} (hsp : sx_sp P m K X0 n go q S = true) (hg : sx_g P.1 P.2.1 P.2.2.1 r g S lv st h) (hX : sx_ev r X0 ≤ d) (hXl : sx_lt S.2.2.2.1.length X0 = true) (hB : B + sx_cost K.2.2.2 ≤ sx_mx) (hq : sx_qk P K B r S.2.2.2.1.length q h) (IH : ∀ d', d' < d → ∀ c K, P.2.2.2[c]? = some (some K) → sx_M P d' c K)
    (hgo : ∀ (q' : sx_X) (S' : sx_S) (r' : Nat → Int) (g' : Nat → Nat) (lv' : mj_L) (st' : List Value) (h' : mj_H), go q' S' = true → sx_g P.1 P.2.1 P.2.2.1 r' g' S' lv' st' h' → (∀ j, j < S.2.2.2.1.length → r' j = r j) → S.2.2.2.1.length ≤ S'.2.2.2.1.length → sx_qk P K B r' S'.2.2.2.1.length q' h' → sx_R P d m K B S'.1 lv' st' h') : sx_R P d m K B S.1 lv st h := by
  unfold sx_sp at hsp
  have hE : sx_in S.2.2.2.1 r := hg.2.2.1
  obtain ⟨hW, hq1, hq2⟩ := hq
  cases hi : mj_ins m S.1 with
  | none => rw [hi] at hsp; cases hsp
  | some i =>
    rw [hi] at hsp
    dsimp only at hsp
    rw [Bool.or_eq_true] at hsp
    rcases hsp with hsp | hsp
    · obtain ⟨v, e1, e2⟩ := sx_ret_ok hsp hg
      have hH : sx_H P.1 P.2.1 P.2.2.1 h := hg.2.2.2.2
      refine ⟨1, v, h, ?_, hH, e2, sx_ef_rf, rfl, sx_W_le hW (by omega)⟩
      unfold mj_run
      rw [hi]
      dsimp only
      rw [e1]
    · split at hsp
      · rename_i L hL
        have key : ∀ (q' : sx_X), q'.2 = q.2 → sx_ev r q' = sx_ev r q + sx_cst (sx_ib K.2.2.2) P m i S → sx_ev r q' ≤ sx_cost K.2.2.2 → L.all (go q') = true → sx_R P d m K B S.1 lv st h := by
          intro q' p0 p1 p2 p3
          obtain ⟨pc', lv', st', h', k1, k2, ⟨S', m1, r', g', e1, e2, e3, e4, -, -, e5⟩, k3⟩ := sx_nx_ok (b := sx_ib K.2.2.2) hi hL hg hX hXl hW (by omega) IH (fun d' c X' S' outs r' g' lv' st' h' hd q1 q2 q3 q4 => sx_col_ok (d0 := d) IH n (sx_ib K.2.2.2) d' c X' S' outs r' g' lv' st' h' (by omega) q1 q2 q3 q4)
          have hl' : sx_lt S.2.2.2.1.length q' = true := by
            unfold sx_lt at hq2 ⊢
            rw [p0]
            exact hq2
          have er : sx_ev r' q' = sx_ev r q' := sx_ev_eq e3 hl'
          obtain ⟨f2, v2, h2, q1, q2, q3, q4, q5, q6⟩ := hgo q' S' r' g' lv' st' h' (List.all_eq_true.mp p3 S' m1) e2 e3 e4 ⟨sx_W_le k3 (by omega), by omega, sx_lt_le e4 hl'⟩
          rw [e1] at q1
          obtain ⟨f3, q7⟩ := k1 f2 v2 h2 q1
          exact ⟨f3, v2, h2, q7, q2, q3, sx_ef_tr e5 q4, q5.trans k2, q6⟩
        split at hsp
        · rename_i hc
          exact key q rfl (by rw [hc]; omega) hq1 hsp
        · rw [Bool.and_eq_true] at hsp
          have e : sx_ev r (q.1 + (sx_cst (sx_ib K.2.2.2) P m i S : Int), q.2) = sx_ev r q + sx_cst (sx_ib K.2.2.2) P m i S := by
            unfold sx_ev
            dsimp only
            omega
          exact key (q.1 + (sx_cst (sx_ib K.2.2.2) P m i S : Int), q.2) rfl e (sx_le_ok hE hsp.1) hsp.2
      · cases hsp
theorem sx_go_ok {P : sx_P} {d m : Nat} {K : sx_K} {B : Int} {X0 : sx_X} {n0 nb : Nat} {cuts : List sx_T} {M : Option sx_X} {r0 : Nat → Int} {mv : Int} (IH : ∀ d', d' < d → ∀ c K, P.2.2.2[c]? = some (some K) → sx_M P d' c K) (hX : sx_ev r0 X0 ≤ d) (hX0 : sx_lt n0 X0 = true) (hM : ∀ x, M = some x → sx_lt nb x = true) (hB : B + sx_cost K.2.2.2 ≤ sx_mx)
    (hcut : ∀ T ∈ cuts, ∀ (r' : Nat → Int) (g' : Nat → Nat) (lv' : mj_L) (h' : mj_H), sx_g P.1 P.2.1 P.2.2.1 r' g' (sx_st T) lv' [] h' → (∀ j, j < n0 → r' j = r0 j) → (∀ x, M = some x → sx_ev r' T.2.2.2.2.2.2.2.1 + 1 ≤ mv) → sx_W P.2.2.1 h' (B + sx_ev r' T.2.2.2.2.2.2.2.2) → sx_R P d m K B T.1 lv' [] h') :
    ∀ (n : Nat) (q : sx_X) (S : sx_S) (r : Nat → Int) (g : Nat → Nat) (lv : mj_L) (st : List Value) (h : mj_H), sx_go P m K X0 n0 cuts M n q S = true → sx_g P.1 P.2.1 P.2.2.1 r g S lv st h → n0 ≤ S.2.2.2.1.length → nb ≤ S.2.2.2.1.length → (∀ j, j < n0 → r j = r0 j) → (∀ x, M = some x → sx_ev r x = mv) → sx_qk P K B r S.2.2.2.1.length q h → sx_R P d m K B S.1 lv st h
  | 0, _, _, _, _, _, _, _, hgo, _, _, _, _, _, _ => by unfold sx_go at hgo; cases hgo
  | n + 1, q, S, r, g, lv, st, h, hgo, hg, h0, hb, hr, hv, hq => by
    unfold sx_go at hgo
    split at hgo
    · obtain ⟨T, m1, m2⟩ := List.any_eq_true.mp hgo
      rw [Bool.and_eq_true, beq_iff_eq] at m2
      obtain ⟨m2, hgo⟩ := m2
      obtain ⟨r1, g1, hg1, hr1⟩ := sx_plT_ok (T := T) hg
      obtain ⟨r', g', e0, e1, e2, e3, e4⟩ := sx_mt_ok hgo hg1
      subst e0
      rw [← m2]
      refine hcut T m1 r' g' lv h e1 (fun j hj => (e2 j hj).trans ((hr1 j (by omega)).trans (hr j hj))) (fun x hx => by rw [← hv x hx, ← sx_ev_eq (n := nb) (fun j hj => hr1 j (by omega)) (hM x hx)]; exact e3 x hx) (sx_W_le hq.1 ?_)
      rw [sx_ev_eq hr1 hq.2.2] at e4
      omega
    · exact sx_sp_ok hgo hg (by rw [sx_ev_eq hr hX0]; exact hX) (sx_lt_le h0 hX0) hB hq IH (fun q' S' r' g' lv' st' h' k1 k2 k3 k4 k5 => sx_go_ok IH hX hX0 hM hB hcut n q' S' r' g' lv' st' h' k1 k2 (by omega) (by omega) (fun j hj => (k3 j (by omega)).trans (hr j hj)) (fun x hx => by rw [sx_ev_eq (n := nb) (fun j hj => k3 j (by omega)) (hM x hx)]; exact hv x hx) k5)
