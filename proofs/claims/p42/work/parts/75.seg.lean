/-! from a place to places: what is known there -/
def sx_alls (f : sx_S → Option (List sx_S)) : List sx_S → Option (List sx_S)
  | [] => some []
  | S :: l => match f S, sx_alls f l with
    | some a, some b => some (a ++ b)
    | _, _ => none
theorem sx_alls_ok {f : sx_S → Option (List sx_S)} : ∀ {L outs : List sx_S}, sx_alls f L = some outs → ∀ S ∈ L, ∃ os, f S = some os ∧ ∀ o ∈ os, o ∈ outs
  | [], _, _, S, hS => by cases hS
  | T :: l, outs, ha, S, hS => by
    unfold sx_alls at ha
    split at ha
    · rename_i a b h1 h2
      cases ha
      rcases List.mem_cons.mp hS with e | e
      · subst e
        exact ⟨a, h1, fun o ho => List.mem_append_left _ ho⟩
      · obtain ⟨os, g1, g2⟩ := sx_alls_ok h2 S e
        exact ⟨os, g1, fun o ho => List.mem_append_right _ (g2 o ho)⟩
    · cases ha
/-- the states at the stops, no return on the way, nothing spent -/
def sx_sg (P : sx_P) (mods stops : List Nat) (m : Nat) (X : sx_X) : Nat → Bool → sx_S → Option (List sx_S)
  | 0, _, _ => none
  | n + 1, first, S => if !first && stops.contains S.1 then some [S] else match mj_ins m S.1 with
    | none => none
    | some i => match sx_nx (sx_col P mods n 0) P m X mods i S with
      | some L => if sx_cst 0 P m i S = 0 then sx_alls (sx_sg P mods stops m X n false) L else none
      | none => none
theorem sx_sg_ok {P : sx_P} {mods stops : List Nat} {m d : Nat} {X : sx_X} (IH : sx_IH P d) {B : Int} (hB : B ≤ sx_mx) : ∀ (n : Nat) (first : Bool) (S : sx_S) (outs : List sx_S) (r : Nat → Int) (g : Nat → Nat) (lv : mj_L) (st : List Value) (h : mj_H), sx_sg P mods stops m X n first S = some outs → sx_g P.1 P.2.1 P.2.2.1 r g S lv st h → sx_ev r X ≤ d → sx_lt S.2.2.2.1.length X = true → sx_W P.2.2.1 h B → ∃ S' ∈ outs, ∃ r' g' lv' st' h', (∀ f v h2, mj_run f d m S'.1 lv' st' h' = some (v, h2) → ∃ f', mj_run f' d m S.1 lv st h = some (v, h2)) ∧ sx_g P.1 P.2.1 P.2.2.1 r' g' S' lv' st' h' ∧ (∀ j, j < S.2.2.2.1.length → r' j = r j) ∧ (∀ j, j < S.2.2.2.2.1 → g' j = g j) ∧ sx_ef P.2.2.1 mods h h' ∧ h'.length = h.length ∧ sx_W P.2.2.1 h' B
  | 0, _, _, _, _, _, _, _, _, hc, _, _, _, _ => by unfold sx_sg at hc; cases hc
  | n + 1, first, S, outs, r, g, lv, st, h, hc, hg, hX, hXl, hW => by
    unfold sx_sg at hc
    split at hc
    · cases hc
      exact ⟨S, List.mem_cons_self, r, g, lv, st, h, fun f v h2 q => ⟨f, q⟩, hg, fun _ _ => rfl, fun _ _ => rfl, sx_ef_rf, rfl, hW⟩
    · split at hc
      · cases hc
      · rename_i i hi
        split at hc
        · rename_i L hL
          split at hc
          · rename_i hcst
            obtain ⟨pc', lv', st', h', k1, k2, ⟨S', m1, r', g', e1, e2, e3, e4, e6, e7, e5⟩, k3⟩ := sx_nx_ok (b := 0) hi hL hg hX hXl hW (by rw [hcst]; omega) IH (fun d' c X' S' outs r' g' lv' st' h' hd' q1 q2 q3 q4 => sx_col_ok (d0 := d) IH n 0 d' c X' S' outs r' g' lv' st' h' (by omega) q1 q2 q3 q4)
            rw [hcst, Int.natCast_zero, Int.add_zero] at k3
            obtain ⟨os, a1, a2⟩ := sx_alls_ok hc S' m1
            obtain ⟨S2, n1, r2, g2, lv2, st2, h2, b1, b2, b3, b4, b5, b6, b7⟩ := sx_sg_ok IH hB n false S' os r' g' lv' st' h' a1 e2 (by rw [sx_ev_eq e3 hXl]; exact hX) (sx_lt_le e4 hXl) k3
            refine ⟨S2, a2 S2 n1, r2, g2, lv2, st2, h2, fun f v hh q => ?_, b2, fun j hj => (b3 j (by omega)).trans (e3 j hj), fun j hj => (b4 j (by omega)).trans (e6 j hj), sx_ef_tr e5 b5, b6.trans k2, b7⟩
            obtain ⟨f1, q1⟩ := b1 f v hh q
            rw [e1] at q1
            exact k1 f1 v hh q1
          · cases hc
        · cases hc
