/-! -/
/-! what is read is one, with the code; and its length -/
theorem ecl_ls {w : List Int} {ls ls' : Int} (h : 91 ∈ w → ls = ls') : e_cl w ls = e_cl w ls' := by
  unfold e_cl
  cases hj : jwt 5 w with
  | nil => rfl
  | cons c r =>
    show jE 5 w ++ (if c = 91 then [30000 + ls] else []) = jE 5 w ++ (if c = 91 then [30000 + ls'] else [])
    by_cases e : c = 91
    · rw [h (jwt_mem (r := 5) (by rw [hj, e]; exact List.mem_cons_self))]
    · rw [if_neg e, if_neg e]
theorem es_ls {law k v st : Int} {w : List Int} {ls ls' as_ : Int} (h : 91 ∈ w → ls = ls') : estep law k v st w ls as_ = estep law k v st w ls' as_ := by
  unfold estep e_sg eg1 eg2 eg3 eg4 eg5 eg6
  rw [ecl_ls h]
theorem lre_u {B : Int → Int} {law : Int} : ∀ {m m' : Nat} {p st : Int} {w : List Int} {ls ls' as_ : Int} {E E' : List Int} {q r q' r' : Int}, (91 ∈ w → ls = ls') → lre B law m p st w ls as_ E 0 q r → lre B law m' p st w ls' as_ E' 0 q' r' → E = E'
  | 0, _, _, _, _, _, _, _, _, _, _, _, _, _, _, a, _ => a.elim
  | _ + 1, 0, _, _, _, _, _, _, _, _, _, _, _, _, _, _, b => b.elim
  | m + 1, m' + 1, p, st, w, ls, ls', as_, E, E', q, r, q', r', h, a, b => by
    obtain ⟨k, v, q1, r1, tk, a⟩ := a
    obtain ⟨k2, v2, q2, r2, tk2, b⟩ := b
    obtain ⟨e1, e2, e3, e4⟩ := tok_u tk tk2
    subst e1 e2 e3 e4
    have es := es_ls (law := law) (k := k) (v := v) (st := st) (as_ := as_) h
    rcases cst_ls (law := law) (k := k) (v := v) (st := st) (as_ := as_) h with ⟨n, c1, c2⟩ | ⟨st2, w2, l2, l2', a2, c1, c2, hh⟩
    · rw [c1] at a
      obtain ⟨a1, a2, a3⟩ := a
      have := cstep_f c1
      omega
    · rw [c1] at a
      rw [c2] at b
      rcases a with ⟨a0, a1, a2, a3, a4⟩ | ⟨a0, E2, a1, a⟩
      · rcases b with ⟨b0, b1, b2, b3, b4⟩ | ⟨b0, E3, b1, b⟩
        · rw [a4, b4, es]
        · exact absurd a0 b0
      · rcases b with ⟨b0, -⟩ | ⟨b0, E3, b1, b⟩
        · exact absurd b0 a0
        · rw [a1, b1, es, lre_u hh a b]
theorem xre_u {B : Int → Int} : ∀ {l : List (Int × Int × Int)} {p q0 : Int} {N N' : List Int} {q r q' r' : Int}, xre B l p q0 N 0 q r → xre B l p q0 N' 0 q' r' → N = N'
  | [], _, _, _, _, _, _, _, _, ⟨_, _, _, a⟩, ⟨_, _, _, b⟩ => a.trans b.symm
  | (c, x, y) :: l, _, _, _, _, _, _, _, _, ⟨k, v, q1, r1, tk, a⟩, ⟨k2, v2, q2, r2, tk2, b⟩ => by
    obtain ⟨e1, e2, e3, e4⟩ := tok_u tk tk2
    subst e1 e2 e3 e4
    rcases a with ⟨a0, a1, -⟩ | ⟨a0, N2, a1, a⟩
    · exact absurd a1.symm a0
    · rcases b with ⟨b0, b1, -⟩ | ⟨b0, N3, b1, b⟩
      · exact absurd b1.symm b0
      · rw [a1, b1, xre_u a b]
theorem kre_u {B : Int → Int} {on : Nat → Bool} {cl ls ls' k v s p q r q' r' : Int} {C C' : KC} (a : kre B on cl ls k v s p C 0 q r) (b : kre B on cl ls' k v s p C' 0 q' r') : C = C' := by
  rcases a with ⟨-, a1, -⟩ | ⟨a0, ⟨-, a1, -⟩ | ⟨-, ⟨-, a1, -⟩ | ⟨-, ⟨c2, c3, m, a⟩ | ⟨c2, N, c3, a⟩⟩⟩⟩
  · omega
  · omega
  · omega
  · rcases b with ⟨-, b1, -⟩ | ⟨b0, ⟨-, b1, -⟩ | ⟨-, ⟨-, b1, -⟩ | ⟨-, ⟨d2, d3, m', b⟩ | ⟨d2, N', d3, b⟩⟩⟩⟩
    · omega
    · omega
    · omega
    · have e := lre_u (fun z => by cases z) a b
      obtain ⟨C1, C2⟩ := C
      obtain ⟨D1, D2⟩ := C'
      have c3 : C1 = (wdo k v, 0, 0) := c3
      have d3 : D1 = (wdo k v, 0, 0) := d3
      have e : C2 = D2 := e
      rw [c3, d3, e]
    · exfalso; omega
  · rcases b with ⟨-, b1, -⟩ | ⟨b0, ⟨-, b1, -⟩ | ⟨-, ⟨-, b1, -⟩ | ⟨-, ⟨d2, d3, m', b⟩ | ⟨d2, N', d3, b⟩⟩⟩⟩
    · omega
    · omega
    · omega
    · exfalso; omega
    · rw [c3, d3, xre_u a b]
theorem tre_u {B : Int → Int} : ∀ {m m' : Nat} {on : Nat → Bool} {cl ls ls' k v s p : Int} {Cs Cs' : List KC} {q q' : Int}, tre B m on cl ls k v s p Cs 0 q → tre B m' on cl ls' k v s p Cs' 0 q' → Cs = Cs'
  | 0, _, _, _, _, _, _, _, _, _, _, _, _, _, a, _ => a.elim
  | _ + 1, 0, _, _, _, _, _, _, _, _, _, _, _, _, _, b => b.elim
  | m + 1, m' + 1, on, cl, ls, ls', k, v, s, p, Cs, Cs', q, q', a, b => by
    rcases a with ⟨a0, a1, a2, a3⟩ | ⟨a0, C, f1, q1, r1, a, a'⟩
    · rcases b with ⟨b0, b1, b2, b3⟩ | ⟨b0, -⟩
      · rw [a3, b3]
      · exact absurd a0 b0
    · rcases b with ⟨b0, -⟩ | ⟨b0, C', f2, q2, r2, b, b'⟩
      · exact absurd b0 a0
      · obtain ⟨e1, e2, e3⟩ := clr_u (kre_k a) (kre_k b)
        subst e1 e2 e3
        rcases a' with ⟨c0, c1, c2⟩ | ⟨c0, k2, v2, q3, r3, l2, Cs2, tk, ec, a'⟩
        · exact absurd c1.symm c0
        · rcases b' with ⟨d0, d1, d2⟩ | ⟨-, k3, v3, q4, r4, l3, Cs3, tk', ed, b'⟩
          · exact absurd c0 d0
          · obtain ⟨e1, e2, e3, e4⟩ := tok_u tk tk'
            subst e1 e2 e3 e4
            subst c0
            rw [ec, ed, kre_u a b, tre_u a' b']
/-! how much is written -/
theorem jE_len {r : Int} : ∀ w : List Int, (jE r w).length + (jwt r w).length = w.length
  | [] => rfl
  | c :: w => by
    have ih := jE_len (r := r) w
    by_cases h : r ≤ ck c
    · rw [show jE r (c :: w) = (20000 + c) :: jE r w from if_pos h, show jwt r (c :: w) = jwt r w from if_pos h]
      show (jE r w).length + 1 + (jwt r w).length = w.length + 1
      omega
    · rw [show jE r (c :: w) = [] from if_neg h, show jwt r (c :: w) = c :: w from if_neg h]
      show 0 + (c :: w).length = (c :: w).length
      omega
theorem cop_w {c : Int} {w : List Int} {ls as_ st2 : Int} {w2 : List Int} {l2 a2 : Int} (e : c_op c w ls as_ = .inr (st2, w2, l2, a2)) : w2 = c :: w := by
  unfold c_op at e
  split at e
  · cases e
  · cases e
    rfl
theorem esg_len {law g st : Int} {w : List Int} {ls as_ st2 : Int} {w2 : List Int} {l2 a2 : Int} (e : c_sg law g st w ls as_ = .inr (st2, w2, l2, a2)) : (e_sg law g st w ls as_).length + w2.length ≤ w.length + 1 := by
  have j5 := jE_len (r := 5) w
  have jg := jE_len (r := ck g) w
  have j1 := jE_len (r := 1) w
  unfold c_sg at e
  unfold e_sg
  by_cases a : (ck g = 5 ∨ ck g = 6) ∧ ¬ st = 4
  · rw [if_pos a] at e ⊢
    cases e
    show _ + ((jwt (ck g) w).length + 1) ≤ _
    omega
  · rw [if_neg a] at e ⊢
    unfold c1 at e
    unfold eg1
    by_cases a : ck g = 4 ∧ (law = 2 ∧ brn w = 0) ∧ as_ = 0
    · rw [if_pos a] at e ⊢
      cases e
      show _ + ((jwt 5 w).length + 1) ≤ _
      omega
    · rw [if_neg a] at e ⊢
      unfold c2 at e
      unfold eg2
      by_cases a : g = 91 ∧ (law = 2 ∧ brn w = 0) ∧ as_ = 0
      · rw [if_pos a] at e ⊢
        cases e
        omega
      · rw [if_neg a] at e ⊢
        unfold c3 at e
        unfold eg3
        by_cases a : (ck g = 1 ∨ ck g = 2) ∧ (law = 2 ∧ brn w = 0) ∧ ¬ as_ = 0
        · rw [if_pos a] at e ⊢
          cases e
          show _ + ((jwt (ck g) w).length + 1) ≤ _
          omega
        · rw [if_neg a] at e ⊢
          unfold c4 at e
          unfold eg4
          by_cases a : g = 41 ∧ 0 < brn w
          · rw [if_pos a] at e ⊢
            unfold c_cl at e
            unfold e_cl
            cases hj : jwt 5 w with
            | nil =>
              rw [hj] at e
              cases e
            | cons c r =>
              rw [hj] at e j5
              cases e
              have j5 : (jE 5 w).length + (w2.length + 1) = w.length := j5
              show (jE 5 w ++ (if c = 91 then [30000 + ls] else [])).length + w2.length ≤ _
              rw [List.length_append]
              have h1 : (if c = 91 then [30000 + ls] else []).length ≤ 1 := by
                split
                · exact Nat.le_refl _
                · exact Nat.zero_le _
              omega
          · rw [if_neg a] at e ⊢
            unfold c5 at e
            unfold eg5
            by_cases a : g = 44 ∧ brn w = 1 ∧ ¬ as_ = 0 ∧ (jwt 5 w).head? = some 91
            · rw [if_pos a] at e ⊢
              split at e
              · cases e
              · cases e
                omega
            · rw [if_neg a] at e ⊢
              unfold c6 at e
              unfold eg6
              by_cases a : g = 59 ∧ brn w = 0 ∧ (¬ law = 2 ∨ ¬ as_ = 0)
              · rw [if_pos a] at e ⊢
                cases e
                omega
              · rw [if_neg a] at e
                cases e
theorem es_len {law k v st : Int} {w : List Int} {ls as_ st2 : Int} {w2 : List Int} {l2 a2 : Int} (e : cstep law k v st w ls as_ = .inr (st2, w2, l2, a2)) : (estep law k v st w ls as_).length + w2.length ≤ w.length + 1 := by
  have op : ∀ {c ls : Int}, c_op c w ls as_ = .inr (st2, w2, l2, a2) → ([] : List Int).length + w2.length ≤ w.length + 1 := fun z => by
    rw [cop_w z]
    show 0 + (w.length + 1) ≤ _
    omega
  unfold cstep at e
  unfold estep
  by_cases h0 : st = 0 ∨ st = 1
  · rw [if_pos h0] at e ⊢
    unfold c_one at e
    unfold e_one
    by_cases k1 : k = 1
    · rw [if_pos k1]
      by_cases h9 : k = 1 ∧ 9999 < v
      · rw [if_pos h9] at e
        cases e
      · rw [if_neg h9, if_pos k1] at e
        cases e
        show 1 + w.length ≤ _
        omega
    · rw [if_neg (fun z => k1 z.1), if_neg k1] at e
      rw [if_neg k1]
      by_cases k0 : k = 0
      · rw [if_pos k0] at e ⊢
        unfold c_wd at e
        unfold e_wd
        by_cases h15 : v = 15 ∧ st = 0
        · rw [if_pos h15] at e ⊢
          exact op e
        · rw [if_neg h15] at e ⊢
          split at e
          · cases e
          · split at e
            · cases e
            · cases e
              show 1 + w.length ≤ _
              omega
      · rw [if_neg k0] at e ⊢
        split at e
        · exact op e
        · split at e
          · exact op e
          · cases e
  · rw [if_neg h0] at e ⊢
    by_cases h3 : st = 3
    · rw [if_pos h3] at e ⊢
      unfold c_bk at e
      split at e
      · exact op e
      · cases e
    · rw [if_neg h3] at e ⊢
      exact esg_len e
theorem lre_len {bl : List Value} {L law : Int} : ∀ {m : Nat} {p st : Int} {w : List Int} {ls as_ : Int} {E : List Int} {q r : Int}, p ≤ L → lre (bt bl L) law m p st w ls as_ E 0 q r → p ≤ r ∧ r ≤ L ∧ (E.length : Int) ≤ (w.length : Int) + (r - p)
  | 0, _, _, _, _, _, _, _, _, _, h => h.elim
  | m + 1, p, st, w, ls, as_, E, q, r, hp, h => by
    obtain ⟨k, v, q1, r1, tk, h⟩ := h
    have ht := tok_adv tk
    have hL := tok_L hp tk
    cases hc : cstep law k v st w ls as_ with
    | inl n =>
      rw [hc] at h
      have := cstep_f hc
      have := h.1
      omega
    | inr x =>
      obtain ⟨st2, w2, l2, a2⟩ := x
      rw [hc] at h
      have h3 := ht.2.2 (k3_r hc)
      have hl := es_len hc
      rcases h with ⟨h1, h2, h4, h5, h6⟩ | ⟨h1, E2, h2, h4⟩
      · rw [h6, h5]
        exact ⟨by omega, by omega, by omega⟩
      · have ih := lre_len hL h4
        rw [h2, List.length_append]
        exact ⟨by omega, by omega, by omega⟩
theorem xre_len {bl : List Value} {L : Int} : ∀ {l : List (Int × Int × Int)} {p q0 : Int} {N : List Int} {q r : Int}, p ≤ L → xre (bt bl L) l p q0 N 0 q r → p ≤ r ∧ r ≤ L
  | [], p, q0, N, q, r, hp, h => by have := h.2.2.1; omega
  | (c, a, b) :: l, p, q0, N, q, r, hp, h => by
    obtain ⟨k, v, q1, r1, tk, h⟩ := h
    have ht := tok_adv tk
    have hL := tok_L hp tk
    rcases h with ⟨h0, h1, -⟩ | ⟨h0, N2, h1, h⟩
    · exact absurd h1.symm h0
    · have := xre_len hL h
      omega
theorem kre_len {bl : List Value} {L : Int} {on : Nat → Bool} {cl ls k v s p q r : Int} {C : KC} (hp : p ≤ L) (a : kre (bt bl L) on cl ls k v s p C 0 q r) : p ≤ r ∧ r ≤ L ∧ (C.2.length : Int) ≤ r - p := by
  rcases a with ⟨-, a1, -⟩ | ⟨a0, ⟨-, a1, -⟩ | ⟨-, ⟨-, a1, -⟩ | ⟨-, ⟨c2, c3, m, a⟩ | ⟨c2, N, c3, a⟩⟩⟩⟩
  · omega
  · omega
  · omega
  · have := lre_len hp a
    have e : (([] : List Int).length : Int) = 0 := rfl
    omega
  · have := xre_len hp a
    rw [c3]
    show p ≤ r ∧ r ≤ L ∧ ((0 : Nat) : Int) ≤ r - p
    omega
def cdl : List KC → Int
  | [] => 0
  | C :: l => (C.2.length : Int) + cdl l
theorem tre_len {bl : List Value} {L : Int} : ∀ {m : Nat} {on : Nat → Bool} {cl ls k v s p : Int} {Cs : List KC} {q : Int}, p ≤ L → tre (bt bl L) m on cl ls k v s p Cs 0 q → cdl Cs ≤ L - p
  | 0, _, _, _, _, _, _, _, _, _, _, a => a.elim
  | m + 1, on, cl, ls, k, v, s, p, Cs, q, hp, a => by
    rcases a with ⟨a0, a1, a2, a3⟩ | ⟨a0, C, f1, q1, r1, a, a'⟩
    · rw [a3]
      show (0 : Int) ≤ _
      omega
    · rcases a' with ⟨c0, c1, c2⟩ | ⟨c0, k2, v2, q3, r3, l2, Cs2, tk, ec, a'⟩
      · exact absurd c1.symm c0
      · subst c0
        have h1 := kre_len hp a
        have ht := tok_adv tk
        have hL := tok_L h1.2.1 tk
        have ih := tre_len hL a'
        rw [ec]
        show (C.2.length : Int) + cdl Cs2 ≤ _
        omega
