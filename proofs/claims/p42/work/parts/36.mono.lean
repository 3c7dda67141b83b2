theorem mj_mono {m pc : Nat} {i : Instr} {lv : mj_L} {st : List Value} {h : mj_H} {pc' : Nat} {lv' : mj_L} {st' : List Value} {h' : mj_H} (hs : mj_st m pc i lv st h = some (pc', lv', st', h')) : h.length ≤ h'.length ∧ mj_hsz h ≤ mj_hsz h' := by
  have rf : h.length ≤ h.length ∧ mj_hsz h ≤ mj_hsz h := ⟨Nat.le_refl _, Nat.le_refl _⟩
  have ps : ∀ c : mj_C, h.length ≤ (h ++ [c]).length ∧ mj_hsz h ≤ mj_hsz (h ++ [c]) := fun c => ⟨by rw [List.length_append]; omega, by rw [mj_hsz_push]; omega⟩
  have es : ∀ {a k : Nat} {j : Int32} {v : Value} {h1 : mj_H}, mj_es mj_n0 h a k j v = some h1 → h.length ≤ h1.length ∧ mj_hsz h ≤ mj_hsz h1 := by
    intro a k j v h1 hh
    obtain ⟨vs, e1, e2, e3, rfl⟩ := mj_es_inv hh
    exact ⟨by rw [List.length_set]; exact Nat.le_refl _, by rw [mj_hsz_set e1 (List.length_set ..)]; exact Nat.le_refl _⟩
  cases i <;> simp only [mj_st, mj_ld1, mj_ii, mj_ll, mj_li, mj_lo, mj_la, mj_si, mj_sl, mj_sa, reduceCtorEq] at hs <;> (repeat' (split at hs)) <;> (first | (cases hs; exact rf) | (cases hs; exact ps _) | (simp only [reduceCtorEq] at hs; done) | skip)
  all_goals first
    | (obtain ⟨t, ht, e⟩ := Option.map_eq_some_iff.mp hs; cases e; exact rf)
    | (obtain ⟨t, ht, e⟩ := Option.map_eq_some_iff.mp hs; cases e; exact es ht)
    | skip
  all_goals first
    | (cases hs; exact ⟨by rw [List.length_set]; exact Nat.le_refl _, by rw [mj_hsz_set (by assumption) (List.length_set ..)]; exact Nat.le_refl _⟩)
    | (rename_i hq; obtain ⟨-, -, -, -, -, -, g6, g7, -⟩ := hq; cases hs; exact ⟨by rw [List.length_set]; exact Nat.le_refl _, by rw [mj_hsz_set (by assumption) (mj_cpl_len g6 g7)]; exact Nat.le_refl _⟩)
