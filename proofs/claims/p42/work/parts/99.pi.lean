/-! the shape stays -/
theorem sl_e {c : Int} {w : List Int} : sl (c :: w) = if ck c = 0 then 2 else if ck c = 1 then 4 else if ck c = 2 ∨ ck c = 3 then 3 else if ck c = 4 then 2 else if ck c = 5 then 1 else 0 := rfl
theorem sl_lt {w : List Int} {r : Int} (h : ∀ c w1, w = c :: w1 → ck c < r) : (r ≤ 6 → 1 ≤ sl w) ∧ (r ≤ 5 → 2 ≤ sl w) := by
  cases w with
  | nil => exact ⟨fun _ => by decide, fun _ => by decide⟩
  | cons c w =>
    have hc := h c w rfl
    have hr := ck_r c
    rw [sl_e]
    constructor
    · intro _
      repeat' split
      all_goals omega
    · intro _
      repeat' split
      all_goals omega
theorem shp_t0 {c : Int} {w : List Int} (h : shp (c :: w)) (hb : brn (c :: w) = 0) : ¬ ck c = 0 := fun e => by
  have h2 : brc c = 1 := if_pos (h.2.2.1 e)
  have h3 := brn_0 w
  have h4 : brn w + brc c = 0 := hb
  omega
theorem sl_g {w : List Int} {r : Int} (hs : shp w) (hb : brn w = 0) (h : ∀ c w1, w = c :: w1 → ck c < r) : (r ≤ 4 → 3 ≤ sl w) ∧ (r ≤ 2 → 4 ≤ sl w) := by
  cases w with
  | nil => exact ⟨fun _ => by decide, fun _ => by decide⟩
  | cons c w =>
    have hc := h c w rfl
    have hr := ck_r c
    have h0 := shp_t0 hs hb
    rw [sl_e]
    constructor
    · intro _
      repeat' split
      all_goals omega
    · intro _
      repeat' split
      all_goals omega
def cI (law st : Int) (w : List Int) (ls as_ : Int) : Prop := shp w ∧ opn w ≤ 8 ∧ (as_ = 0 ∨ as_ = 1) ∧ (as_ = 0 → no4 w) ∧ (0 ≤ ls ∧ ls ≤ 6) ∧ (0 ≤ st ∧ st ≤ 5) ∧ (st = 0 → law = 2 ∧ brn w = 0 ∧ 3 ≤ sl w)
theorem no4_cons {c : Int} {w : List Int} (hc : ¬ ck c = 4) (h : no4 w) : no4 (c :: w) := fun x hx => by
  rcases List.mem_cons.mp hx with e | e
  · rw [e]; exact hc
  · exact h x e
theorem opn_cons {c : Int} {w : List Int} : opn (c :: w) = opn w + opc c := rfl
theorem cI_op {law st c : Int} {w : List Int} {ls ls2 as_ : Int} (I : cI law st w ls as_) (hc : c = 40 ∨ c = 91 ∨ c = 110 ∨ (c = 33 ∧ st = 0)) (hl : 0 ≤ ls2 ∧ ls2 ≤ 6) {st2 : Int} {w2 : List Int} {l2 a2 : Int} (e : c_op c w ls2 as_ = .inr (st2, w2, l2, a2)) : cI law st2 w2 l2 a2 := by
  obtain ⟨i1, i2, i3, i4, i5, i6, i7⟩ := I
  unfold c_op at e
  split at e
  · cases e
  · rename_i ho
    have hop := opn_0 w
    cases e
    have hsl := sl_0 w
    have key : shp (c :: w) ∧ opc c = 1 ∧ ¬ ck c = 4 := by
      rcases hc with rfl | rfl | rfl | ⟨rfl, h0⟩
      · exact ⟨⟨i1, by show 2 + 1 - 1 ≤ sl w + 2 * 1; omega, fun _ => Or.inl rfl, fun _ => Or.inl (by decide), Or.inr (Or.inl rfl)⟩, by decide, by decide⟩
      · exact ⟨⟨i1, by show 2 + 1 - 1 ≤ sl w + 2 * 1; omega, fun _ => Or.inr rfl, fun _ => Or.inl (by decide), Or.inr (Or.inr (Or.inl rfl))⟩, by decide, by decide⟩
      · exact ⟨⟨i1, by show 0 + 1 - 1 ≤ sl w + 2 * 0; omega, fun x => absurd x (by decide), fun _ => Or.inr (by decide), Or.inr (Or.inr (Or.inr (Or.inl rfl)))⟩, by decide, by decide⟩
      · have h7 := i7 h0
        exact ⟨⟨i1, by show 3 + 1 - 1 ≤ sl w + 2 * 0; omega, fun x => absurd x (by decide), fun x => by omega, Or.inr (Or.inr (Or.inr (Or.inr rfl)))⟩, by decide, by decide⟩
    refine ⟨key.1, by rw [opn_cons]; omega, i3, fun a => no4_cons key.2.2 (i4 a), hl, by split <;> omega, fun h0 => ?_⟩
    have h33 : c = 33 := by
      by_cases q : c = 33
      · exact q
      · rw [if_neg q] at h0
        omega
    have hst : st = 0 := by omega
    have h7 := i7 hst
    subst h33
    exact ⟨h7.1, by show brn w + 0 = 0; omega, by show (3 : Int) ≤ 3; omega⟩
theorem cI_sg {g r : Int} {w : List Int} (hs : shp w) (hg : ck g = r) (hr : (r = 5 ∨ r = 6) ∨ (brn w = 0 ∧ ((r = 4 ∧ no4 w) ∨ r = 2 ∨ r = 1))) : shp (g :: jwt (if r = 4 then 5 else r) w) ∧ opn (g :: jwt (if r = 4 then 5 else r) w) ≤ opn w ∧ brn (g :: jwt (if r = 4 then 5 else r) w) = brn w := by
  obtain ⟨r', hr'⟩ : ∃ r', (if r = 4 then (5 : Int) else r) = r' := ⟨_, rfl⟩
  have hr2 : (r = 4 ∧ r' = 5) ∨ (¬ r = 4 ∧ r' = r) := by
    by_cases q : r = 4
    · rw [if_pos q] at hr'; exact Or.inl ⟨q, hr'.symm⟩
    · rw [if_neg q] at hr'; exact Or.inr ⟨q, hr'.symm⟩
  rw [hr']
  have hb := brn_jw (r := r') (by omega) w
  have hopj := opn_jw (r := r') w
  have hsj := shp_jw (r := r') hs
  have htop : ∀ c w1, jwt r' w = c :: w1 → ck c < r' := fun c w1 x => jwt_top x
  obtain ⟨ho1, ho2, ho3⟩ := ck_op (g := g) (by omega)
  have hsg : sl (g :: jwt r' w) + 1 ≤ sl (jwt r' w) := by
    have h1 := sl_lt htop
    rw [sl_e, hg]
    rcases hr with hr | ⟨hb0, hr⟩
    · rcases hr with hr | hr
      · subst hr
        have := h1.2 (by omega)
        show (1 : Int) + 1 ≤ _
        omega
      · subst hr
        have := h1.1 (by omega)
        show (0 : Int) + 1 ≤ _
        omega
    · have h2 := sl_g (r := r') hsj (by omega) htop
      rcases hr with ⟨hr, hn⟩ | hr | hr
      · subst hr
        have h3 : 3 ≤ sl (jwt r' w) := by
          refine (sl_g (r := 4) hsj (by omega) (fun c w1 x => ?_)).1 (by omega)
          have h4 := htop c w1 x
          have h5 := no4_jw (r := r') hn c (by rw [x]; exact List.mem_cons_self)
          omega
        show (2 : Int) + 1 ≤ _
        omega
      · subst hr
        have := h2.2 (by omega)
        show (3 : Int) + 1 ≤ _
        omega
      · subst hr
        have h3 := (shp_g hs hb0).2
        rw [show r' = 1 by omega, h3]
        show (4 : Int) + 1 ≤ 5
        omega
  refine ⟨⟨hsj, by rw [ho2, ho3]; omega, fun x => by omega, fun x => ?_, Or.inl ho2⟩, by rw [opn_cons, ho2]; omega, ?_⟩
  · rcases hr with hr | ⟨hb0, hr⟩
    · exact Or.inr (by omega)
    · exfalso
      omega
  · show brn (jwt r' w) + brc g = brn w
    rw [ho3, hb]
    omega
theorem cI_w1 {w : List Int} {c : Int} {w1 : List Int} (hs : shp w) (e : jwt 5 w = c :: w1) : shp w1 ∧ opn w1 ≤ opn w ∧ (no4 w → no4 w1) ∧ brn w1 ≤ brn w := by
  have h1 := shp_jw (r := 5) hs
  have h2 := opn_jw (r := 5) w
  have h3 := brn_jw (r := 5) (by decide) w
  rw [e] at h1 h2 h3
  have hoc : 0 ≤ opc c := by unfold opc; split <;> omega
  have hbc : 0 ≤ brc c := by unfold brc; split <;> omega
  rw [opn_cons] at h2
  have h3 : brn w1 + brc c = brn w := h3
  refine ⟨h1.1, by omega, fun n => ?_, by omega⟩
  have h4 := no4_jw (r := 5) n
  rw [e] at h4
  exact fun x hx => h4 x (List.mem_cons_of_mem _ hx)
theorem cI_step {law k v st : Int} {w : List Int} {ls as_ : Int} (I : cI law st w ls as_) {st2 : Int} {w2 : List Int} {l2 a2 : Int} (e : cstep law k v st w ls as_ = .inr (st2, w2, l2, a2)) : cI law st2 w2 l2 a2 := by
  have I0 := I
  obtain ⟨i1, i2, i3, i4, i5, i6, i7⟩ := I
  unfold cstep at e
  split at e
  · rename_i hst
    unfold c_one at e
    split at e
    · cases e
    · split at e
      · cases e
        exact ⟨i1, i2, i3, i4, i5, by omega, fun x => by omega⟩
      · split at e
        · unfold c_wd at e
          split at e
          · rename_i h15
            exact cI_op I0 (Or.inr (Or.inr (Or.inr ⟨rfl, h15.2⟩))) i5 e
          · split at e
            · cases e
            · split at e
              · cases e
              · cases e
                exact ⟨i1, i2, i3, i4, i5, by omega, fun x => by omega⟩
        · split at e
          · exact cI_op I0 (Or.inl rfl) i5 e
          · split at e
            · exact cI_op I0 (Or.inr (Or.inr (Or.inl rfl))) i5 e
            · cases e
  · split at e
    · unfold c_bk at e
      split at e
      · exact cI_op I0 (Or.inr (Or.inl rfl)) ⟨by decide, by decide⟩ e
      · cases e
    · obtain ⟨g, hg⟩ : ∃ g, sh k v = g := ⟨_, rfl⟩
      rw [hg] at e
      unfold c_sg at e
      split at e
      · rename_i hc
        cases e
        have hs := cI_sg (g := g) (r := ck g) i1 rfl (Or.inl hc.1)
        rw [if_neg (by omega)] at hs
        exact ⟨hs.1, by omega, i3, fun a => no4_cons (by omega) (no4_jw (i4 a)), i5, by omega, fun x => by omega⟩
      · unfold c1 at e
        split at e
        · rename_i hc
          cases e
          have hs := cI_sg (g := g) (r := ck g) i1 rfl (Or.inr ⟨hc.2.1.2, Or.inl ⟨hc.1, i4 hc.2.2⟩⟩)
          rw [if_pos hc.1] at hs
          exact ⟨hs.1, by omega, Or.inr rfl, fun a => by omega, i5, by omega, fun x => by omega⟩
        · unfold c2 at e
          split at e
          · rename_i hc
            cases e
            have := opn_jw (r := 5) w
            exact ⟨shp_jw i1, by omega, Or.inr rfl, fun a => by omega, i5, by omega, fun x => by omega⟩
          · unfold c3 at e
            split at e
            · rename_i hc
              cases e
              have hs := cI_sg (g := g) (r := ck g) i1 rfl (Or.inr ⟨hc.2.1.2, by omega⟩)
              rw [if_neg (by omega)] at hs
              have hg2 := shp_g i1 hc.2.1.2
              have hn : no4 (jwt (ck g) w) := by
                rcases hc.1 with h1 | h1
                · rw [h1, hg2.2]
                  exact fun c hc => (by cases hc)
                · rw [h1]
                  exact hg2.1
              refine ⟨hs.1, by omega, Or.inl rfl, fun a => no4_cons (by omega) hn, i5, by omega, fun x => ⟨hc.2.1.1, by rw [hs.2.2]; exact hc.2.1.2, ?_⟩⟩
              rw [sl_e]
              rcases hc.1 with h1 | h1
              · rw [h1]; decide
              · rw [h1]; decide
            · unfold c4 at e
              split at e
              · unfold c_cl at e
                split at e
                · cases e
                · rename_i c1 w1 hj
                  cases e
                  have hs := cI_w1 i1 hj
                  refine ⟨hs.1, by omega, i3, fun a => hs.2.2.1 (i4 a), i5, by split <;> omega, fun x => ?_⟩
                  split at x <;> omega
              · unfold c5 at e
                split at e
                · split at e
                  · cases e
                  · cases e
                    have := opn_jw (r := 5) w
                    exact ⟨shp_jw i1, by omega, i3, fun a => no4_jw (i4 a), by omega, by omega, fun x => by omega⟩
                · unfold c6 at e
                  split at e
                  · cases e
                    have := opn_jw (r := 1) w
                    exact ⟨shp_jw i1, by omega, i3, fun a => no4_jw (i4 a), i5, by omega, fun x => by omega⟩
                  · cases e
