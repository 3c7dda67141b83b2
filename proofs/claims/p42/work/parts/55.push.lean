/-! one step of the checker, sound: what comes onto the stack -/
/-- cells keep what they hold under all keys but those named, arrays stay but those whose type is named -/
def sx_ef (tau : List Nat) (mods : List Nat) (h h' : mj_H) : Prop := (∀ (a kd : Nat) (vs : List Value), h[a]? = some (kd, vs) → ∃ vs', h'[a]? = some (kd, vs') ∧ ∀ key, key ∉ mods → sx_at tau a (kd, vs') key = sx_at tau a (kd, vs) key) ∧ (∀ (a t kd : Nat) (vs : List Value), tau[a]? = some t → 900 ≤ kd → h[a]? = some (kd, vs) → 10000 + t ∉ mods → ∃ vs', h'[a]? = some (kd, vs') ∧ ∀ j, (t = 21 → 16 ≤ j) → vs'[j]? = vs[j]?) ∧ (1000000000 ∉ mods → ∀ B, sx_W tau h B → sx_W tau h' B)
theorem sx_ef_rf {tau mods : List Nat} {h : mj_H} : sx_ef tau mods h h := ⟨fun _ _ vs ha => ⟨vs, ha, fun _ _ => rfl⟩, fun _ _ _ vs _ _ ha _ => ⟨vs, ha, fun _ _ => rfl⟩, fun _ _ hW => hW⟩
theorem sx_ef_tr {tau mods : List Nat} {h h1 h2 : mj_H} (e1 : sx_ef tau mods h h1) (e2 : sx_ef tau mods h1 h2) : sx_ef tau mods h h2 := by
  refine ⟨fun a kd vs ha => ?_, fun a t kd vs ht hk ha hm => ?_, fun hm B hW => e2.2.2 hm B (e1.2.2 hm B hW)⟩
  · obtain ⟨v1, g1, g2⟩ := e1.1 a kd vs ha
    obtain ⟨v2, g3, g4⟩ := e2.1 a kd v1 g1
    exact ⟨v2, g3, fun k hk => (g4 k hk).trans (g2 k hk)⟩
  · obtain ⟨v1, g1, g2⟩ := e1.2.1 a t kd vs ht hk ha hm
    obtain ⟨v2, g3, g4⟩ := e2.2.1 a t kd v1 ht hk g1 hm
    exact ⟨v2, g3, fun k hk => (g4 k hk).trans (g2 k hk)⟩
theorem sx_ef_sub {tau m1 m2 : List Nat} {h h1 : mj_H} (e : sx_ef tau m1 h h1) (hs : ∀ k ∈ m1, k ∈ m2) : sx_ef tau m2 h h1 := by
  refine ⟨fun a kd vs ha => ?_, fun a t kd vs ht hk ha hm => e.2.1 a t kd vs ht hk ha (fun q => hm (hs _ q)), fun hm => e.2.2 (fun q => hm (hs _ q))⟩
  obtain ⟨v1, g1, g2⟩ := e.1 a kd vs ha
  exact ⟨v1, g1, fun k hk => g2 k (fun q => hk (hs k q))⟩
/-- an array's cell is set -/
theorem sx_ef_ar {tau mods : List Nat} {h : mj_H} {b t kd : Nat} {vs ws : List Value} (hb : h[b]? = some (kd, vs)) (ht : tau[b]? = some t) (hk1 : ∀ key, key ∉ mods → sx_at tau b (kd, ws) key = sx_at tau b (kd, vs) key) (hk2 : 900 ≤ kd → 10000 + t ∉ mods → ∀ j, (t = 21 → 16 ≤ j) → ws[j]? = vs[j]?) (hw : ∀ k, sx_sens t k = true → ws[k]? = vs[k]?) : sx_ef tau mods h (h.set b (kd, ws)) := by
  have hlb := (List.getElem?_eq_some_iff.mp hb).1
  refine ⟨fun a ka us ha => ?_, fun a u ka us hu hka ha hm2 => ?_, fun _ B hW => sx_W_set hW ht hb hw⟩
  · by_cases e : b = a
    · subst e
      rw [hb] at ha
      cases ha
      exact ⟨ws, List.getElem?_set_self hlb, hk1⟩
    · exact ⟨us, by rw [List.getElem?_set_ne e]; exact ha, fun _ _ => rfl⟩
  · by_cases e : b = a
    · subst e
      rw [hb] at ha
      cases ha
      rw [ht] at hu
      cases hu
      exact ⟨ws, List.getElem?_set_self hlb, hk2 hka hm2⟩
    · exact ⟨us, by rw [List.getElem?_set_ne e]; exact ha, fun _ _ => rfl⟩
/-- from a state, with concrete data, into one of the states L at pc' -/
def sx_to (P : sx_P) (r : Nat → Int) (g : Nat → Nat) (nr n : Nat) (mods : List Nat) (h0 : mj_H) (L : List sx_S) (pc' : Nat) (lv : mj_L) (st : List Value) (h : mj_H) : Prop := ∃ S' ∈ L, ∃ (r' : Nat → Int) (g' : Nat → Nat), S'.1 = pc' ∧ sx_g P.1 P.2.1 P.2.2.1 r' g' S' lv st h ∧ (∀ j, j < n → r' j = r j) ∧ n ≤ S'.2.2.2.1.length ∧ (∀ j, j < nr → g' j = g j) ∧ nr ≤ S'.2.2.2.2.1 ∧ sx_ef P.2.2.1 mods h0 h
section SXP
variable {P : sx_P} {r : Nat → Int} {g : Nat → Nat} {lv : mj_L} {st : List Value} {h : mj_H} {ls : List (Option sx_A)} {ss : List sx_A} {E : sx_E} {nr : Nat} {C : sx_C} {mods : List Nat}
theorem sx_stay (hl : sx_lr r g P.2.2.1 ls lv) (hs : sx_sr r g P.2.2.1 ss st) (hE : sx_in E r) (hC : sx_cr r g P.2.2.1 C h) (hH : sx_H P.1 P.2.1 P.2.2.1 h) {pc : Nat} : sx_to P r g nr E.length mods h [(pc, ls, ss, E, nr, C)] pc lv st h :=
  ⟨_, List.mem_cons_self, r, g, rfl, ⟨hl, hs, hE, hC, hH⟩, fun _ _ => rfl, Nat.le_refl _, fun _ _ => rfl, Nat.le_refl _, sx_ef_rf⟩
theorem sx_sr_up {n m : Nat} {z : Int} {b : Nat} : ∀ {ss : List sx_A} {st : List Value}, ss.all (sx_lta n m) = true → sx_sr r g P.2.2.1 ss st → sx_sr (sx_upi r n z) (sx_upr g m b) P.2.2.1 ss st
  | [], [], _, _ => trivial
  | a :: l, v :: s, hl, hs => by
    rw [List.all_cons, Bool.and_eq_true] at hl
    exact ⟨sx_vr_up hl.1 hs.1, sx_sr_up hl.2 hs.2⟩
  | [], _ :: _, _, hs => hs.elim
  | _ :: _, [], _, hs => hs.elim
theorem sx_g_up {z : Int} {b : Nat} (hok : sx_ok (0, ls, ss, E, nr, C) = true) (hl : sx_lr r g P.2.2.1 ls lv) (hs : sx_sr r g P.2.2.1 ss st) (hC : sx_cr r g P.2.2.1 C h) : sx_lr (sx_upi r E.length z) (sx_upr g nr b) P.2.2.1 ls lv ∧ sx_sr (sx_upi r E.length z) (sx_upr g nr b) P.2.2.1 ss st ∧ sx_cr (sx_upi r E.length z) (sx_upr g nr b) P.2.2.1 C h := by
  unfold sx_ok at hok
  dsimp only at hok
  rw [Bool.and_eq_true, Bool.and_eq_true] at hok
  obtain ⟨h1, h2, h3⟩ := hok
  refine ⟨⟨hl.1, fun i a ha => ?_⟩, sx_sr_up h2 hs, fun q hq => ?_⟩
  · obtain ⟨v, e1, e2⟩ := hl.2 i a ha
    have := List.all_eq_true.mp h1 (some a) (List.mem_of_getElem? ha)
    exact ⟨v, e1, sx_vr_up this e2⟩
  · obtain ⟨kd, vs, v, e1, e3, e4⟩ := hC q hq
    have := List.all_eq_true.mp h3 q hq
    rw [Bool.and_eq_true] at this
    have hlt : q.1 < nr := of_decide_eq_true this.1
    have eg : sx_upr g nr b q.1 = g q.1 := if_neg (by omega)
    exact ⟨kd, vs, v, by rw [eg]; exact e1, by rw [eg]; exact e3, sx_vr_up this.2 e4⟩
theorem sx_in_upc {z lo hi : Int} {cs : List sx_X} (hE : sx_in E r) (hz : lo ≤ z ∧ z ≤ hi) (hcs : ∀ y ∈ cs, sx_bel (E.length + 1) y = true ∧ 0 ≤ sx_ev (sx_upi r E.length z) y) : sx_in (E ++ [(lo, hi, cs)]) (sx_upi r E.length z) := by
  intro i q hq
  by_cases e : i < E.length
  · rw [List.getElem?_append_left e] at hq
    obtain ⟨h1, h2, h3⟩ := hE i q hq
    have e1 : sx_upi r E.length z i = r i := if_neg (by omega)
    rw [e1]
    refine ⟨h1, h2, fun y hy => ?_⟩
    obtain ⟨k1, k2⟩ := h3 y hy
    refine ⟨k1, ?_⟩
    have e2 : sx_ev (sx_upi r E.length z) y = sx_ev r y := by
      unfold sx_ev
      rw [sx_sum_up r E.length z y.2]
      rw [List.all_eq_true]
      intro u hu
      have := of_decide_eq_true (List.all_eq_true.mp k1 u hu)
      exact decide_eq_true (by omega)
    rw [e2]
    exact k2
  · have e2 : i = E.length := by
      have := (List.getElem?_eq_some_iff.mp hq).1
      rw [List.length_append] at this
      simp only [List.length_cons, List.length_nil] at this
      omega
    subst e2
    rw [List.getElem?_append_right (Nat.le_refl _), Nat.sub_self] at hq
    cases hq
    have e1 : sx_upi r E.length z E.length = z := if_pos rfl
    rw [e1]
    exact ⟨hz.1, hz.2, hcs⟩
theorem sx_in_up {z lo hi : Int} (hE : sx_in E r) (hz : lo ≤ z ∧ z ≤ hi) : sx_in (E ++ [(lo, hi, [])]) (sx_upi r E.length z) := sx_in_upc hE hz (fun y hy => by cases hy)
theorem sx_upi_self (r : Nat → Int) (n : Nat) (z : Int) : sx_ev (sx_upi r n z) (sx_v n) = z := by
  rw [sx_v_ev]
  exact if_pos rfl
theorem sx_upi_lt {r : Nat → Int} {n : Nat} {z : Int} {j : Nat} (h : j < n) : sx_upi r n z j = r j := if_neg (by omega)
theorem sx_upr_lt {g : Nat → Nat} {n : Nat} {z : Nat} {j : Nat} (h : j < n) : sx_upr g n z j = g j := if_neg (by omega)
/-- a fresh int or long -/
theorem sx_pi_ok {S : sx_S} {kd pc : Nat} {lo hi : Int} {L : List sx_S} {S0 : List sx_A} {p0 : Nat} (hS : S = (p0, ls, S0, E, nr, C)) (hp : sx_pi S kd pc ss lo hi = some L) (hl : sx_lr r g P.2.2.1 ls lv) (hs : sx_sr r g P.2.2.1 ss st) (hE : sx_in E r) (hC : sx_cr r g P.2.2.1 C h) (hH : sx_H P.1 P.2.1 P.2.2.1 h) {v : Value} {z : Int} (hz : lo ≤ z ∧ z ≤ hi) (hv : (kd = 0 ∧ ∃ q : Int32, v = .int q ∧ q.toInt = z) ∨ (kd = 1 ∧ ∃ q : Int64, v = .long q ∧ q.toInt = z)) : sx_to P r g nr E.length mods h L pc lv (v :: st) h := by
  subst hS
  unfold sx_pi at hp
  dsimp only at hp
  split at hp
  · rename_i hok
    cases hp
    obtain ⟨g1, g2, g3⟩ := sx_g_up (z := z) (b := 0) hok hl hs hC
    have hgg : sx_vr (sx_upi r E.length z) (sx_upr g nr 0) P.2.2.1 (kd, sx_v E.length) v := by
      rcases hv with ⟨e, q, e1, e2⟩ | ⟨e, q, e1, e2⟩
      · subst e
        exact ⟨q, e1, by rw [e2]; exact (sx_upi_self r _ z).symm⟩
      · subst e
        exact ⟨q, e1, by rw [e2]; exact (sx_upi_self r _ z).symm⟩
    exact ⟨_, List.mem_cons_self, sx_upi r E.length z, sx_upr g nr 0, rfl, ⟨g1, ⟨hgg, g2⟩, sx_in_up hE hz, g3, hH⟩, fun j hj => sx_upi_lt hj, by show E.length ≤ (E ++ [(lo, hi, [])]).length; rw [List.length_append]; omega, fun j hj => sx_upr_lt hj, Nat.le_refl _, sx_ef_rf⟩
  · cases hp
/-- a fresh int or long, below y -/
theorem sx_pic_ok {S : sx_S} {kd pc : Nat} {lo hi : Int} {y : sx_X} {L : List sx_S} {S0 : List sx_A} {p0 : Nat} (hS : S = (p0, ls, S0, E, nr, C)) (hp : sx_pic S kd pc ss lo hi y = some L) (hl : sx_lr r g P.2.2.1 ls lv) (hs : sx_sr r g P.2.2.1 ss st) (hE : sx_in E r) (hC : sx_cr r g P.2.2.1 C h) (hH : sx_H P.1 P.2.1 P.2.2.1 h) {v : Value} {z : Int} (hz : lo ≤ z ∧ z ≤ hi) (hy : z + 1 ≤ sx_ev r y) (hb : sx_bel E.length y = true) (hv : (kd = 0 ∧ ∃ q : Int32, v = .int q ∧ q.toInt = z) ∨ (kd = 1 ∧ ∃ q : Int64, v = .long q ∧ q.toInt = z)) : sx_to P r g nr E.length mods h L pc lv (v :: st) h := by
  subst hS
  unfold sx_pic at hp
  dsimp only at hp
  split at hp
  · rename_i hok
    cases hp
    obtain ⟨g1, g2, g3⟩ := sx_g_up (z := z) (b := 0) hok hl hs hC
    have hgg : sx_vr (sx_upi r E.length z) (sx_upr g nr 0) P.2.2.1 (kd, sx_v E.length) v := by
      rcases hv with ⟨e, q, e1, e2⟩ | ⟨e, q, e1, e2⟩
      · subst e
        exact ⟨q, e1, by rw [e2]; exact (sx_upi_self r _ z).symm⟩
      · subst e
        exact ⟨q, e1, by rw [e2]; exact (sx_upi_self r _ z).symm⟩
    have ey : sx_ev (sx_upi r E.length z) y = sx_ev r y := by
      unfold sx_ev
      rw [sx_sum_up r E.length z y.2 hb]
    refine ⟨_, List.mem_cons_self, sx_upi r E.length z, sx_upr g nr 0, rfl, ⟨g1, ⟨hgg, g2⟩, sx_in_upc hE hz (fun u hu => ?_), g3, hH⟩, fun j hj => sx_upi_lt hj, by rw [List.length_append]; omega, fun j hj => sx_upr_lt hj, Nat.le_refl _, sx_ef_rf⟩
    split at hu
    · cases hu
    · obtain ⟨u1, u2⟩ := List.mem_filter.mp hu
      rw [List.mem_singleton] at u1
      refine ⟨u2, ?_⟩
      rw [u1, sx_sub_ev, sx_sub_ev, sx_c_ev, ey, sx_upi_self]
      omega
  · cases hp
/-- an int as an expression -/
theorem sx_px_ok {S : sx_S} {pc : Nat} {x : sx_X} {L : List sx_S} {S0 : List sx_A} {p0 : Nat} (hS : S = (p0, ls, S0, E, nr, C)) (hp : sx_px S pc ss x = some L) (hl : sx_lr r g P.2.2.1 ls lv) (hs : sx_sr r g P.2.2.1 ss st) (hE : sx_in E r) (hC : sx_cr r g P.2.2.1 C h) (hH : sx_H P.1 P.2.1 P.2.2.1 h) {q : Int32} (hq : sx_mn ≤ sx_ev r x ∧ sx_ev r x ≤ sx_mx → q.toInt = sx_ev r x) : sx_to P r g nr E.length mods h L pc lv (.int q :: st) h := by
  subst hS
  unfold sx_px at hp
  dsimp only at hp
  split at hp
  · rename_i hb
    cases hp
    rw [Bool.and_eq_true] at hb
    have e := hq ⟨sx_ge_ok hE hb.1, sx_le_ok hE hb.2⟩
    exact sx_stay (ss := (0, x) :: ss) (st := .int q :: st) hl ⟨⟨q, rfl, e⟩, hs⟩ hE hC hH
  · exact sx_pi_ok rfl hp hl hs hE hC hH (sx_r32 q) (Or.inl ⟨rfl, q, rfl, rfl⟩)
theorem sx_pX_ok {S : sx_S} {pc : Nat} {x : sx_X} {L : List sx_S} {S0 : List sx_A} {p0 : Nat} (hS : S = (p0, ls, S0, E, nr, C)) (hp : sx_pX S pc ss x = some L) (hl : sx_lr r g P.2.2.1 ls lv) (hs : sx_sr r g P.2.2.1 ss st) (hE : sx_in E r) (hC : sx_cr r g P.2.2.1 C h) (hH : sx_H P.1 P.2.1 P.2.2.1 h) {q : Int64} (hq : sx_Mn ≤ sx_ev r x ∧ sx_ev r x ≤ sx_Mx → q.toInt = sx_ev r x) : sx_to P r g nr E.length mods h L pc lv (.long q :: st) h := by
  subst hS
  unfold sx_pX at hp
  dsimp only at hp
  split at hp
  · rename_i hb
    cases hp
    rw [Bool.and_eq_true] at hb
    have e := hq ⟨sx_ge_ok hE hb.1, sx_le_ok hE hb.2⟩
    exact sx_stay (ss := (1, x) :: ss) (st := .long q :: st) hl ⟨⟨q, rfl, e⟩, hs⟩ hE hC hH
  · exact sx_pi_ok rfl hp hl hs hE hC hH (sx_r64 q) (Or.inr ⟨rfl, q, rfl, rfl⟩)
/-- what a place holds -/
theorem sx_pd_ok {S : sx_S} {pc : Nat} {d : sx_D} {c : Option (Nat × Nat)} {L : List sx_S} {S0 : List sx_A} {p0 : Nat} (hS : S = (p0, ls, S0, E, nr, C)) (hp : sx_pd S pc ss d c = some L) (hl : sx_lr r g P.2.2.1 ls lv) (hs : sx_sr r g P.2.2.1 ss st) (hE : sx_in E r) (hC : sx_cr r g P.2.2.1 C h) (hH : sx_H P.1 P.2.1 P.2.2.1 h) {v : Value} (hv : sx_dr P.2.2.1 d v)
    (hc : ∀ q, c = some q → ∃ (kd : Nat) (vs : List Value), h[g q.1]? = some (kd, vs) ∧ sx_at P.2.2.1 (g q.1) (kd, vs) q.2 = some v) : sx_to P r g nr E.length mods h L pc lv (v :: st) h := by
  subst hS
  unfold sx_pd at hp
  dsimp only at hp
  split at hp
  · rename_i hb
    rw [Bool.and_eq_true] at hb
    obtain ⟨hok, hcc⟩ := hb
    have hcl : ∀ q, c = some q → q.1 < nr := by
      intro q hq
      rw [hq] at hcc
      exact of_decide_eq_true hcc
    have fin : ∀ (z : Int) (b : Nat) (a : sx_A), sx_vr (sx_upi r E.length z) (sx_upr g nr b) P.2.2.1 a v → sx_cr (sx_upi r E.length z) (sx_upr g nr b) P.2.2.1 (sx_cc c a ++ C) h := by
      intro z b a ha
      obtain ⟨g1, g2, g3⟩ := sx_g_up (z := z) (b := b) hok hl hs hC
      intro q hq
      rcases List.mem_append.mp hq with hq | hq
      · cases c with
        | none => cases hq
        | some u =>
          rw [List.mem_singleton.mp hq]
          obtain ⟨kd, vs, e1, e3⟩ := hc u rfl
          have eg : sx_upr g nr b u.1 = g u.1 := if_neg (by have := hcl u rfl; omega)
          exact ⟨kd, vs, v, by rw [eg]; exact e1, by rw [eg]; exact e3, ha⟩
      · exact g3 q hq
    split at hp
    · rename_i lo hi
      cases hp
      obtain ⟨q, e1, e2, e3⟩ := hv
      obtain ⟨g1, g2, g3⟩ := sx_g_up (z := q.toInt) (b := 0) hok hl hs hC
      have hgg : sx_vr (sx_upi r E.length q.toInt) (sx_upr g nr 0) P.2.2.1 (0, sx_v E.length) v := ⟨q, e1, (sx_upi_self r _ _).symm⟩
      exact ⟨_, List.mem_cons_self, _, _, rfl, ⟨g1, ⟨hgg, g2⟩, sx_in_up hE ⟨e2, e3⟩, fin _ _ _ hgg, hH⟩, fun j hj => sx_upi_lt hj, by show E.length ≤ (E ++ [(lo, hi, [])]).length; rw [List.length_append]; omega, fun j hj => sx_upr_lt hj, Nat.le_refl _, sx_ef_rf⟩
    · rename_i lo hi
      cases hp
      obtain ⟨q, e1, e2, e3⟩ := hv
      obtain ⟨g1, g2, g3⟩ := sx_g_up (z := q.toInt) (b := 0) hok hl hs hC
      have hgg : sx_vr (sx_upi r E.length q.toInt) (sx_upr g nr 0) P.2.2.1 (1, sx_v E.length) v := ⟨q, e1, (sx_upi_self r _ _).symm⟩
      exact ⟨_, List.mem_cons_self, _, _, rfl, ⟨g1, ⟨hgg, g2⟩, sx_in_up hE ⟨e2, e3⟩, fin _ _ _ hgg, hH⟩, fun j hj => sx_upi_lt hj, by show E.length ≤ (E ++ [(lo, hi, [])]).length; rw [List.length_append]; omega, fun j hj => sx_upr_lt hj, Nat.le_refl _, sx_ef_rf⟩
    · rename_i t w
      cases hp
      obtain ⟨a, e1, e2⟩ := hv
      obtain ⟨g1, g2, g3⟩ := sx_g_up (z := r E.length) (b := a) hok hl hs hC
      have er : sx_upi r E.length (r E.length) = r := by
        funext j
        unfold sx_upi
        split
        · rename_i e; rw [e]
        · rfl
      have hgg : sx_vr (sx_upi r E.length (r E.length)) (sx_upr g nr a) P.2.2.1 (2, (t, [(0, nr)])) v := by
        have eg : sx_upr g nr a nr = a := if_pos rfl
        show v = .ref (sx_upr g nr a nr) ∧ P.2.2.1[sx_upr g nr a nr]? = some t.toNat
        rw [eg]
        exact ⟨e1, e2⟩
      refine ⟨_, List.mem_cons_self, _, _, rfl, ⟨g1, ⟨hgg, g2⟩, by rw [er]; exact hE, fin _ _ _ hgg, hH⟩, fun j hj => sx_upi_lt hj, Nat.le_refl _, fun j hj => sx_upr_lt hj, Nat.le_succ _, sx_ef_rf⟩
    · cases hp
  · cases hp
end SXP
