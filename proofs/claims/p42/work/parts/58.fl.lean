/-! the checker's locals and fields, sound -/
theorem sx_vr_cat {r : Nat → Int} {g : Nat → Nat} {tau : List Nat} {a : sx_A} {v : Value} (h : sx_vr r g tau a v) : (a.1 = 1 → v.category = 2) ∧ (a.1 ≠ 1 → v.category = 1) := by
  unfold sx_vr at h
  split at h
  · obtain ⟨z, rfl, -⟩ := h
    exact ⟨(fun e => by cases e), fun _ => rfl⟩
  · obtain ⟨z, rfl, -⟩ := h
    exact ⟨fun _ => rfl, fun e => absurd rfl e⟩
  · obtain ⟨rfl, -⟩ := h
    exact ⟨(fun e => by cases e), fun _ => rfl⟩
  · obtain ⟨z, rfl, -⟩ := h
    exact ⟨(fun e => by cases e), fun _ => rfl⟩
  · exact h.elim
theorem sx_clr_len (ls : List (Option sx_A)) (i : Nat) : (sx_clr ls i).length = ls.length := by
  unfold sx_clr
  split
  · rfl
  · split
    · rfl
    · rfl
    · rfl
    · exact List.length_set ..
theorem sx_clr_get {ls : List (Option sx_A)} {i j : Nat} {b : sx_A} (h : (sx_clr ls i)[j]? = some (some b)) : ls[j]? = some (some b) ∧ (j + 1 = i → b.1 ≠ 1) := by
  unfold sx_clr at h
  split at h
  · exact ⟨h, fun e => by omega⟩
  · rename_i k
    have key : ∀ (kd : Nat) (x : sx_X), ls[k]? = some (some (kd, x)) → kd ≠ 1 → ls[j]? = some (some b) → ls[j]? = some (some b) ∧ (j + 1 = k + 1 → b.1 ≠ 1) := by
      intro kd x hk hkd hj
      refine ⟨hj, fun e => ?_⟩
      have e2 : j = k := by omega
      rw [e2, hk] at hj
      cases hj
      exact hkd
    split at h
    · rename_i x hk
      exact key 0 x hk (by decide) h
    · rename_i x hk
      exact key 2 x hk (by decide) h
    · rename_i x hk
      exact key 3 x hk (by decide) h
    · by_cases e : k = j
      · subst e
        rw [List.getElem?_set] at h
        split at h
        · split at h <;> cases h
        · rename_i hne
          exact absurd rfl hne
      · rw [List.getElem?_set_ne e] at h
        exact ⟨h, fun e2 => absurd (by omega) e⟩
theorem sx_ld_lt {lv : mj_L} {i : Nat} {v : Value} (h : mj_ld lv i = some v) : i < lv.length := by
  unfold mj_ld at h
  cases hq : lv[i]? with
  | none => rw [hq] at h; cases h
  | some x => exact (List.getElem?_eq_some_iff.mp hq).1
theorem sx_clr_keep {lv : mj_L} {i j : Nat} {v : Value} (h : mj_ld lv j = some v) (hc : j + 1 = i → v.category ≠ 2) : mj_ld (mj_clr lv i) j = some v := by
  unfold mj_clr
  split
  · exact h
  · rename_i k
    split
    · rename_i w hw
      split
      · rename_i hw2
        rw [mj_ld_set]
        by_cases e : k = j
        · subst e
          rw [hw] at h
          cases h
          exact absurd hw2 (hc rfl)
        · rw [if_neg (fun q => e q.1)]
          exact h
      · exact h
    · exact h
theorem sx_s1_ok {r : Nat → Int} {g : Nat → Nat} {tau : List Nat} {ls : List (Option sx_A)} {lv : mj_L} (hl : sx_lr r g tau ls lv) {i : Nat} {a : sx_A} {v : Value} (hv : sx_vr r g tau a v) (hi : i < ls.length) : sx_lr r g tau (sx_s1 ls i a) (mj_s1 lv i v) := by
  refine ⟨by unfold sx_s1 mj_s1; rw [List.length_set, List.length_set, sx_clr_len, mj_clr_len]; exact hl.1, fun j b hb => ?_⟩
  unfold sx_s1 at hb
  unfold mj_s1
  by_cases e : i = j
  · subst e
    rw [List.getElem?_set_self (by rw [sx_clr_len]; exact hi)] at hb
    cases hb
    exact ⟨v, by rw [mj_ld_set, if_pos ⟨rfl, by rw [mj_clr_len, ← hl.1]; exact hi⟩], hv⟩
  · rw [List.getElem?_set_ne e] at hb
    obtain ⟨h1, h2⟩ := sx_clr_get hb
    obtain ⟨w, g1, g2⟩ := hl.2 j b h1
    refine ⟨w, ?_, g2⟩
    rw [mj_ld_set, if_neg (fun q => e q.1)]
    exact sx_clr_keep g1 (fun q => by rw [(sx_vr_cat g2).2 (h2 q)]; decide)
theorem sx_s2_ok {r : Nat → Int} {g : Nat → Nat} {tau : List Nat} {ls : List (Option sx_A)} {lv : mj_L} (hl : sx_lr r g tau ls lv) {i : Nat} {a : sx_A} {v : Value} (hv : sx_vr r g tau a v) (hi : i + 1 < ls.length) : sx_lr r g tau (sx_s2 ls i a) (mj_s2 lv i v) := by
  refine ⟨by unfold sx_s2 mj_s2; rw [List.length_set, List.length_set, List.length_set, List.length_set, sx_clr_len, mj_clr_len]; exact hl.1, fun j b hb => ?_⟩
  unfold sx_s2 at hb
  unfold mj_s2
  by_cases e0 : i + 1 = j
  · subst e0
    rw [List.getElem?_set_self (by rw [List.length_set, sx_clr_len]; exact hi)] at hb
    cases hb
  · rw [List.getElem?_set_ne e0] at hb
    by_cases e : i = j
    · subst e
      rw [List.getElem?_set_self (by rw [sx_clr_len]; omega)] at hb
      cases hb
      refine ⟨v, ?_, hv⟩
      rw [mj_ld_set, if_neg (fun q => by omega), mj_ld_set, if_pos ⟨rfl, by rw [mj_clr_len, ← hl.1]; omega⟩]
    · rw [List.getElem?_set_ne e] at hb
      obtain ⟨h1, h2⟩ := sx_clr_get hb
      obtain ⟨w, g1, g2⟩ := hl.2 j b h1
      refine ⟨w, ?_, g2⟩
      rw [mj_ld_set, if_neg (fun q => e0 q.1), mj_ld_set, if_neg (fun q => e q.1)]
      exact sx_clr_keep g1 (fun q => by rw [(sx_vr_cat g2).2 (h2 q)]; decide)
theorem sx_sr_len {r : Nat → Int} {g : Nat → Nat} {tau : List Nat} : ∀ {ss : List sx_A} {st : List Value}, sx_sr r g tau ss st → mj_cat st = sx_cat ss ∧ st.length = ss.length
  | [], [], _ => ⟨rfl, rfl⟩
  | a :: l, v :: s, h => by
    obtain ⟨h1, h2⟩ := h
    obtain ⟨e1, e2⟩ := sx_sr_len h2
    refine ⟨?_, by simp [e2]⟩
    unfold mj_cat sx_cat at e1 ⊢
    simp only [List.map_cons, List.sum_cons]
    rw [e1]
    obtain ⟨c1, c2⟩ := sx_vr_cat h1
    by_cases e : a.1 = 1
    · rw [if_pos e, c1 e]
    · rw [if_neg e, c2 e]
  | [], _ :: _, h => h.elim
  | _ :: _, [], h => h.elim
section SXF
variable {P : sx_P} {r : Nat → Int} {g : Nat → Nat} {lv : mj_L} {st : List Value} {h : mj_H} {ls : List (Option sx_A)} {ss : List sx_A} {E : sx_E} {nr : Nat} {C : sx_C} {mods : List Nat}
theorem sx_adr_ok {pc n k : Nat} {L : List sx_S} (hp : sx_adr P (pc, ls, ss, E, nr, C) n k = some L) (hl : sx_lr r g P.2.2.1 ls lv) (hs : sx_sr r g P.2.2.1 ss st) (hE : sx_in E r) (hC : sx_cr r g P.2.2.1 C h) (hH : sx_H P.1 P.2.1 P.2.2.1 h) : sx_to P r g nr E.length mods h L (pc + n) lv (.ref k :: st) h := by
  simp only [sx_adr] at hp
  cases hk : P.2.2.1[k]? with
  | none => rw [hk] at hp; cases hp
  | some t =>
    rw [hk] at hp
    dsimp only at hp
    split at hp
    · rename_i hok
      cases hp
      have hp2 : sx_pd (pc, ls, ss, E, nr, C) (pc + n) ss (2, ((t : Nat) : Int), 0) none = some [(pc + n, ls, (2, ((t : Int), [(0, nr)])) :: ss, E, nr + 1, C)] := by
        unfold sx_pd
        dsimp only
        rw [hok]
        rfl
      exact sx_pd_ok rfl hp2 hl hs hE hC hH ⟨k, rfl, by rw [hk]; rfl⟩ (fun q hq => by cases hq)
    · cases hp
/-- a field is read -/
theorem sx_get_ok {m pc x : Nat} {q : Int} {a : Nat} {t : Int} {L : List sx_S} (hp : sx_i P m (.getfield x) (pc, ls, (2, (t, [(q, a)])) :: ss, E, nr, C) = some L) (hl : sx_lr r g P.2.2.1 ls lv) (hs : sx_sr r g P.2.2.1 ss st) (hE : sx_in E r) (hC : sx_cr r g P.2.2.1 C h) (hH : sx_H P.1 P.2.1 P.2.2.1 h) (ht : P.2.2.1[g a]? = some t.toNat) :
    ∃ v, mj_st m pc (.getfield x) lv (.ref (g a) :: st) h = some (pc + 3, lv, v :: st, h) ∧ sx_to P r g nr E.length mods h L (pc + 3) lv (v :: st) h := by
  simp only [sx_i] at hp
  split at hp
  · rename_i c k ty w kd len l hf hT
    split at hp
    · rename_i hb
      obtain ⟨b1, b2, b4, b3⟩ := hb
      subst b1
      obtain ⟨-, vs, c1, c2, c3, -⟩ := sx_cell hH ht hT
      dsimp only at c1 c2 c3
      have fin : ∀ v, vs[k]? = some v → mj_st m pc (.getfield x) lv (.ref (g a) :: st) h = some (pc + 3, lv, v :: st, h) := by
        intro v hv
        simp only [mj_st, hf, c1, if_true, hv]
      split at hp
      · rename_i z1 z2 av hfind
        cases hp
        have hm := List.mem_of_find?_eq_some hfind
        have hpz := List.find?_some hfind
        simp only [Bool.and_eq_true, beq_iff_eq] at hpz
        obtain ⟨rfl, rfl⟩ := hpz
        obtain ⟨kb, ws, v, e1, e3, e4⟩ := hC _ hm
        dsimp only at e1 e3 e4
        rw [c1] at e1
        cases e1
        rw [sx_at_f b2 b4] at e3
        exact ⟨v, fin v e3, sx_stay (ss := av :: ss) (st := v :: st) hl ⟨e4, hs⟩ hE hC hH⟩
      · split at hp
        · rename_i d hd
          have hk : k < vs.length := by omega
          have hv : vs[k]? = some vs[k] := List.getElem?_eq_getElem hk
          obtain ⟨d0, d1, d2⟩ := c3 _ _ hv
          rw [hd] at d1
          cases d1
          exact ⟨_, fin _ hv, sx_pd_ok rfl hp hl hs hE hC hH d2 (fun u hu => by cases hu; exact ⟨kd, vs, c1, by dsimp only; rw [sx_at_f b2 b4]; exact hv⟩)⟩
        · cases hp
    · cases hp
  · cases hp
end SXF
