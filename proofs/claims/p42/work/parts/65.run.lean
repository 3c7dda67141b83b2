/-! runs: more steps and more depth change nothing; the checker's steps make no cell -/
theorem mj_run_mono : ∀ {f f' d d' m pc : Nat} {lv : mj_L} {st : List Value} {h : mj_H} {q : Option Value × mj_H}, f ≤ f' → d ≤ d' → mj_run f d m pc lv st h = some q → mj_run f' d' m pc lv st h = some q
  | 0, _, _, _, _, _, _, _, _, _, _, _, hr => by unfold mj_run at hr; cases hr
  | f + 1, 0, _, _, _, _, _, _, _, _, hf, _, _ => by omega
  | f + 1, f' + 1, d, d', m, pc, lv, st, h, q, hf, hd, hr => by
    unfold mj_run at hr ⊢
    cases hi : mj_ins m pc with
    | none => rw [hi] at hr; cases hr
    | some i =>
      rw [hi] at hr
      dsimp only at hr ⊢
      cases he : mj_end m i st with
      | some v => rw [he] at hr; exact hr
      | none =>
        rw [he] at hr
        dsimp only at hr ⊢
        cases hc : mj_call m i st h with
        | none =>
          rw [hc] at hr
          dsimp only at hr ⊢
          cases hs : mj_st m pc i lv st h with
          | none => rw [hs] at hr; cases hr
          | some s =>
            obtain ⟨pc', lv', st', h'⟩ := s
            rw [hs] at hr
            dsimp only at hr ⊢
            exact mj_run_mono (by omega) hd hr
        | some c =>
          obtain ⟨c, as, rr⟩ := c
          rw [hc] at hr
          dsimp only at hr ⊢
          cases d with
          | zero => cases hr
          | succ d =>
            cases d' with
            | zero => omega
            | succ d' =>
              dsimp only at hr ⊢
              cases hn : mj_ent (mj_nl c) as with
              | none => rw [hn] at hr; cases hr
              | some lv0 =>
                rw [hn] at hr
                dsimp only at hr ⊢
                cases h1 : mj_run f d c 0 lv0 [] h with
                | none => rw [h1] at hr; cases hr
                | some q1 =>
                  obtain ⟨v, hh⟩ := q1
                  rw [h1] at hr
                  rw [mj_run_mono (f' := f') (d' := d') (by omega) (by omega) h1]
                  dsimp only at hr ⊢
                  exact mj_run_mono (by omega) (by omega) hr
theorem mj_st_len {m pc : Nat} {i : Instr} {lv : mj_L} {st : List Value} {h : mj_H} {pc' : Nat} {lv' : mj_L} {st' : List Value} {h' : mj_H} (hn : ∀ x, i ≠ .newarray x ∧ ∀ y, i ≠ .anewarray y ∧ i ≠ .new y) (hs : mj_st m pc i lv st h = some (pc', lv', st', h')) : h'.length = h.length := by
  have es : ∀ {a k : Nat} {j : Int32} {v : Value} {h1 : mj_H}, mj_es mj_n0 h a k j v = some h1 → h1.length = h.length := by
    intro a k j v h1 hh
    obtain ⟨vs, e1, e2, e3, rfl⟩ := mj_es_inv hh
    exact List.length_set ..
  cases i <;> simp only [mj_st, mj_ld1, mj_ii, mj_ll, mj_li, mj_lo, mj_la, mj_si, mj_sl, mj_sa, reduceCtorEq] at hs <;> (repeat' (split at hs)) <;> (first | (cases hs; rfl) | (cases hs; exact List.length_set ..) | (cases hs; done) | skip)
  all_goals first
    | (obtain ⟨t, ht, e⟩ := Option.map_eq_some_iff.mp hs; cases e; rfl)
    | (obtain ⟨t, ht, e⟩ := Option.map_eq_some_iff.mp hs; cases e; exact es ht)
    | skip
  all_goals first
    | exact absurd rfl (hn _).1
    | exact absurd rfl ((hn .int).2 _).1
    | exact absurd rfl ((hn .int).2 _).2
    | skip
theorem sx_i_len {P : sx_P} {m pc : Nat} {i : Instr} {S : sx_S} {L : List sx_S} {lv : mj_L} {st : List Value} {h : mj_H} {pc' : Nat} {lv' : mj_L} {st' : List Value} {h' : mj_H} (hp : sx_i P m i S = some L) (hs : mj_st m pc i lv st h = some (pc', lv', st', h')) : h'.length = h.length := by
  obtain ⟨p, ls, ss, E, nr, C⟩ := S
  refine mj_st_len (fun x => ⟨fun e => ?_, fun y => ⟨fun e => ?_, fun e => ?_⟩⟩) hs
  · subst e; simp only [sx_i] at hp; cases hp
  · subst e; simp only [sx_i] at hp; cases hp
  · subst e; simp only [sx_i] at hp; cases hp
