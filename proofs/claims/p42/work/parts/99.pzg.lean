/-! -/
/-! what is read is one: the fault and its place -/
theorem cst_ls {law k v st : Int} {w : List Int} {ls ls' as_ : Int} (h : 91 ∈ w → ls = ls') : (∃ n, cstep law k v st w ls as_ = .inl n ∧ cstep law k v st w ls' as_ = .inl n) ∨ ∃ st2 w2 l2 l2' a2, cstep law k v st w ls as_ = .inr (st2, w2, l2, a2) ∧ cstep law k v st w ls' as_ = .inr (st2, w2, l2', a2) ∧ (91 ∈ w2 → l2 = l2') := by
  by_cases hm : 91 ∈ w
  · have e := h hm
    subst e
    cases hc : cstep law k v st w ls as_ with
    | inl n => exact Or.inl ⟨n, rfl, rfl⟩
    | inr x => exact Or.inr ⟨x.1, x.2.1, x.2.2.1, x.2.2.1, x.2.2.2, rfl, rfl, fun _ => rfl⟩
  · have hj : ∀ r, ¬ 91 ∈ jwt r w := fun r z => hm (jwt_mem z)
    have op : ∀ (c : Int) (as_ : Int), ¬ c = 91 → (∃ n, c_op c w ls as_ = .inl n ∧ c_op c w ls' as_ = .inl n) ∨ ∃ st2 w2 l2 l2' a2, c_op c w ls as_ = .inr (st2, w2, l2, a2) ∧ c_op c w ls' as_ = .inr (st2, w2, l2', a2) ∧ (91 ∈ w2 → l2 = l2') := by
      intro c as_ hc
      unfold c_op
      by_cases h8 : opn w = 8
      · rw [if_pos h8, if_pos h8]
        exact Or.inl ⟨3, rfl, rfl⟩
      · rw [if_neg h8, if_neg h8]
        exact Or.inr ⟨_, _, _, _, _, rfl, rfl, fun z => by rcases List.mem_cons.mp z with e | e <;> first | (exact absurd e.symm hc) | (exact absurd e hm)⟩
    have same : ∀ {x : cR}, (∃ n, x = .inl n ∧ x = .inl n) ∨ ∃ st2 w2 l2 l2' a2, x = .inr (st2, w2, l2, a2) ∧ x = .inr (st2, w2, l2', a2) ∧ (91 ∈ w2 → l2 = l2') := by
      intro x
      cases x with
      | inl n => exact Or.inl ⟨n, rfl, rfl⟩
      | inr x => exact Or.inr ⟨x.1, x.2.1, x.2.2.1, x.2.2.1, x.2.2.2, rfl, rfl, fun _ => rfl⟩
    unfold cstep
    by_cases h1 : st = 0 ∨ st = 1
    · rw [if_pos h1, if_pos h1]
      unfold c_one
      by_cases h2 : k = 1 ∧ 9999 < v
      · rw [if_pos h2, if_pos h2]; exact same
      · rw [if_neg h2, if_neg h2]
        by_cases h3 : k = 1
        · rw [if_pos h3, if_pos h3]
          exact Or.inr ⟨_, _, _, _, _, rfl, rfl, fun z => absurd z hm⟩
        · rw [if_neg h3, if_neg h3]
          by_cases h4 : k = 0
          · rw [if_pos h4, if_pos h4]
            unfold c_wd
            by_cases h5 : v = 15 ∧ st = 0
            · rw [if_pos h5, if_pos h5]; exact op 33 as_ (by decide)
            · rw [if_neg h5, if_neg h5]
              by_cases h6 : ¬ v = 4 ∧ ¬ v = 9 ∧ v < 17
              · rw [if_pos h6, if_pos h6]; exact same
              · rw [if_neg h6, if_neg h6]
                by_cases h7 : (v = 23 ∧ law = 0) ∨ (v = 24 ∧ law = 1)
                · rw [if_pos h7, if_pos h7]; exact same
                · rw [if_neg h7, if_neg h7]
                  exact Or.inr ⟨_, _, _, _, _, rfl, rfl, fun z => absurd z hm⟩
          · rw [if_neg h4, if_neg h4]
            by_cases h5 : k = 2 ∧ v = 40
            · rw [if_pos h5, if_pos h5]; exact op 40 as_ (by decide)
            · rw [if_neg h5, if_neg h5]
              by_cases h6 : k = 2 ∧ v = 45
              · rw [if_pos h6, if_pos h6]; exact op 110 as_ (by decide)
              · rw [if_neg h6, if_neg h6]; exact same
    · rw [if_neg h1, if_neg h1]
      by_cases h2 : st = 3
      · rw [if_pos h2, if_pos h2]; exact same
      · rw [if_neg h2, if_neg h2]
        obtain ⟨g, hg⟩ : ∃ g, sh k v = g := ⟨_, rfl⟩
        rw [hg]
        have cons : ∀ {st2 a2 r : Int}, ¬ ck g = 0 → (∃ n, (Sum.inr (st2, g :: jwt r w, ls, a2) : cR) = .inl n ∧ (Sum.inr (st2, g :: jwt r w, ls', a2) : cR) = .inl n) ∨ ∃ st3 w2 l2 l2' a3, (Sum.inr (st2, g :: jwt r w, ls, a2) : cR) = .inr (st3, w2, l2, a3) ∧ (Sum.inr (st2, g :: jwt r w, ls', a2) : cR) = .inr (st3, w2, l2', a3) ∧ (91 ∈ w2 → l2 = l2') := by
          intro st2 a2 r hc
          exact Or.inr ⟨_, _, _, _, _, rfl, rfl, fun z => by
            rcases List.mem_cons.mp z with e | e
            · rw [← e] at hc
              exact absurd ck_x.1 hc
            · exact absurd e (hj r)⟩
        unfold c_sg
        by_cases h3 : (ck g = 5 ∨ ck g = 6) ∧ ¬ st = 4
        · rw [if_pos h3, if_pos h3]; exact cons (by omega)
        · rw [if_neg h3, if_neg h3]
          unfold c1
          by_cases h4 : ck g = 4 ∧ (law = 2 ∧ brn w = 0) ∧ as_ = 0
          · rw [if_pos h4, if_pos h4]; exact cons (by omega)
          · rw [if_neg h4, if_neg h4]
            unfold c2
            by_cases h5 : g = 91 ∧ (law = 2 ∧ brn w = 0) ∧ as_ = 0
            · rw [if_pos h5, if_pos h5]
              exact Or.inr ⟨_, _, _, _, _, rfl, rfl, fun z => absurd z (hj 5)⟩
            · rw [if_neg h5, if_neg h5]
              unfold c3
              by_cases h6 : (ck g = 1 ∨ ck g = 2) ∧ (law = 2 ∧ brn w = 0) ∧ ¬ as_ = 0
              · rw [if_pos h6, if_pos h6]; exact cons (by omega)
              · rw [if_neg h6, if_neg h6]
                unfold c4
                by_cases h7 : g = 41 ∧ 0 < brn w
                · rw [if_pos h7, if_pos h7]
                  unfold c_cl
                  cases hq : jwt 5 w with
                  | nil => exact same
                  | cons c w1 =>
                    have hq2 := hj 5
                    rw [hq] at hq2
                    exact Or.inr ⟨_, _, _, _, _, rfl, rfl, fun z => absurd (List.mem_cons_of_mem _ z) hq2⟩
                · rw [if_neg h7, if_neg h7]
                  unfold c5
                  by_cases h8 : g = 44 ∧ brn w = 1 ∧ ¬ as_ = 0 ∧ (jwt 5 w).head? = some 91
                  · exfalso
                    obtain ⟨-, -, -, h8⟩ := h8
                    cases hq : jwt 5 w with
                    | nil => rw [hq] at h8; cases h8
                    | cons x y =>
                      rw [hq] at h8
                      cases h8
                      exact hj 5 (by rw [hq]; exact List.mem_cons_self)
                  · rw [if_neg h8, if_neg h8]
                    unfold c6
                    by_cases h9 : g = 59 ∧ brn w = 0 ∧ (¬ law = 2 ∨ ¬ as_ = 0)
                    · rw [if_pos h9, if_pos h9]
                      exact Or.inr ⟨_, _, _, _, _, rfl, rfl, fun z => absurd z (hj 1)⟩
                    · rw [if_neg h9, if_neg h9]; exact same
theorem lr_u {B : Int → Int} {law : Int} : ∀ {m m' : Nat} {p st : Int} {w : List Int} {ls ls' as_ f q r f' q' r' : Int}, (91 ∈ w → ls = ls') → lr B law m p st w ls as_ f q r → lr B law m' p st w ls' as_ f' q' r' → f = f' ∧ q = q' ∧ r = r'
  | 0, _, _, _, _, _, _, _, _, _, _, _, _, _, _, a, _ => a.elim
  | _ + 1, 0, _, _, _, _, _, _, _, _, _, _, _, _, _, _, b => b.elim
  | m + 1, m' + 1, p, st, w, ls, ls', as_, f, q, r, f', q', r', h, a, b => by
    obtain ⟨k, v, q1, r1, tk, a⟩ := a
    obtain ⟨k2, v2, q2, r2, tk2, b⟩ := b
    obtain ⟨e1, e2, e3, e4⟩ := tok_u tk tk2
    subst e1 e2 e3 e4
    rcases cst_ls (law := law) (k := k) (v := v) (st := st) (as_ := as_) h with ⟨n, c1, c2⟩ | ⟨st2, w2, l2, l2', a2, c1, c2, hh⟩
    · rw [c1] at a
      rw [c2] at b
      obtain ⟨a1, a2, a3⟩ := a
      obtain ⟨b1, b2, b3⟩ := b
      exact ⟨a1.trans b1.symm, a2.trans b2.symm, a3.trans b3.symm⟩
    · rw [c1] at a
      rw [c2] at b
      rcases a with ⟨a0, a1, a2, a3⟩ | ⟨a0, a⟩
      · rcases b with ⟨b0, b1, b2, b3⟩ | ⟨b0, b⟩
        · exact ⟨a1.trans b1.symm, a2.trans b2.symm, a3.trans b3.symm⟩
        · exact absurd a0 b0
      · rcases b with ⟨b0, -⟩ | ⟨b0, b⟩
        · exact absurd b0 a0
        · exact lr_u hh a b
theorem xr_u {B : Int → Int} : ∀ {l : List (Int × Int × Int)} {p q0 f q r f' q' r' : Int}, xr B l p q0 f q r → xr B l p q0 f' q' r' → f = f' ∧ q = q' ∧ r = r'
  | [], _, _, _, _, _, _, _, _, ⟨a1, a2, a3⟩, ⟨b1, b2, b3⟩ => ⟨a1.trans b1.symm, a2.trans b2.symm, a3.trans b3.symm⟩
  | (c, x, y) :: l, _, _, _, _, _, _, _, _, ⟨k, v, q1, r1, tk, a⟩, ⟨k2, v2, q2, r2, tk2, b⟩ => by
    obtain ⟨e1, e2, e3, e4⟩ := tok_u tk tk2
    subst e1 e2 e3 e4
    rcases a with ⟨a0, a1, a2, a3⟩ | ⟨a0, a⟩
    · rcases b with ⟨b0, b1, b2, b3⟩ | ⟨b0, b⟩
      · exact ⟨a1.trans b1.symm, a2.trans b2.symm, a3.trans b3.symm⟩
      · exact absurd b0 a0
    · rcases b with ⟨b0, -⟩ | ⟨b0, b⟩
      · exact absurd a0 b0
      · exact xr_u a b
theorem clr_u {B : Int → Int} {on : Nat → Bool} {cl ls ls' k v s p f q r f' q' r' : Int} (a : clr B on cl ls k v s p f q r) (b : clr B on cl ls' k v s p f' q' r') : f = f' ∧ q = q' ∧ r = r' := by
  rcases a with ⟨a0, a1, a2, a3⟩ | ⟨a0, a⟩
  · rcases b with ⟨b0, b1, b2, b3⟩ | ⟨b0, -⟩
    · exact ⟨a1.trans b1.symm, a2.trans b2.symm, a3.trans b3.symm⟩
    · exfalso; omega
  · rcases b with ⟨b0, -⟩ | ⟨b0, b⟩
    · exfalso; omega
    · rcases a with ⟨c0, a1, a2, a3⟩ | ⟨c0, a⟩
      · rcases b with ⟨-, b1, b2, b3⟩ | ⟨d0, -⟩
        · exact ⟨a1.trans b1.symm, a2.trans b2.symm, a3.trans b3.symm⟩
        · exact absurd c0 d0
      · rcases b with ⟨d0, -⟩ | ⟨-, b⟩
        · exact absurd d0 c0
        · rcases a with ⟨c1, a1, a2, a3⟩ | ⟨c1, a⟩
          · rcases b with ⟨-, b1, b2, b3⟩ | ⟨d0, -⟩
            · exact ⟨a1.trans b1.symm, a2.trans b2.symm, a3.trans b3.symm⟩
            · exact absurd c1 d0
          · rcases b with ⟨d0, -⟩ | ⟨-, b⟩
            · exact absurd d0 c1
            · rcases a with ⟨c2, m, a⟩ | ⟨c2, a⟩
              · rcases b with ⟨-, m', b⟩ | ⟨d2, -⟩
                · exact lr_u (fun z => by cases z) a b
                · exfalso; omega
              · rcases b with ⟨d2, -⟩ | ⟨-, b⟩
                · exfalso; omega
                · exact xr_u a b
theorem tr_u {B : Int → Int} : ∀ {m m' : Nat} {on : Nat → Bool} {cl ls ls' k v s p f q f' q' : Int}, tr B m on cl ls k v s p f q → tr B m' on cl ls' k v s p f' q' → f = f' ∧ q = q'
  | 0, _, _, _, _, _, _, _, _, _, _, _, _, _, a, _ => a.elim
  | _ + 1, 0, _, _, _, _, _, _, _, _, _, _, _, _, _, b => b.elim
  | m + 1, m' + 1, on, cl, ls, ls', k, v, s, p, f, q, f', q', a, b => by
    rcases a with ⟨a0, a1, a2⟩ | ⟨a0, f1, q1, r1, a, a'⟩
    · rcases b with ⟨b0, b1, b2⟩ | ⟨b0, -⟩
      · exact ⟨a1.trans b1.symm, a2.trans b2.symm⟩
      · exact absurd a0 b0
    · rcases b with ⟨b0, -⟩ | ⟨b0, f2, q2, r2, b, b'⟩
      · exact absurd b0 a0
      · obtain ⟨e1, e2, e3⟩ := clr_u a b
        subst e1 e2 e3
        rcases a' with ⟨c0, c1, c2⟩ | ⟨c0, k2, v2, q3, r3, l2, tk, a'⟩
        · rcases b' with ⟨-, d1, d2⟩ | ⟨d0, -⟩
          · exact ⟨c1.trans d1.symm, c2.trans d2.symm⟩
          · exact absurd d0 c0
        · rcases b' with ⟨d0, -⟩ | ⟨-, k3, v3, q4, r4, l3, tk', b'⟩
          · exact absurd c0 d0
          · obtain ⟨e1, e2, e3, e4⟩ := tok_u tk tk'
            subst e1 e2 e3 e4
            exact tr_u a' b'
