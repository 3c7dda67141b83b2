/-! constructors: runs that never look at the first cell -/
def cx_Z : mj_C := (2000, [])
def cx_w : Instr → Bool
  | .iconst _ => true
  | .bipush _ => true
  | .sipush _ => true
  | .iload_n _ => true
  | .aload_n _ => true
  | .istore_n _ => true
  | .astore_n _ => true
  | .dup => true
  | .iadd => true
  | .imul => true
  | .iinc _ _ => true
  | .if_icmp _ _ => true
  | .goto _ => true
  | .newarray _ => true
  | .anewarray _ => true
  | .new _ => true
  | .getfield _ => true
  | .putfield _ => true
  | .iastore => true
  | .aastore => true
  | .aaload => true
  | .invokespecial _ => true
  | _ => false
theorem cx_es {t : mj_H} {a k : Nat} {i : Int32} {v : Value} {h' : mj_H} (hs : mj_es mj_n0 (cx_Z :: t) a k i v = some h') (c : mj_C) : ∃ t', h' = cx_Z :: t' ∧ mj_es mj_n0 (c :: t) a k i v = some (c :: t') := by
  cases a with
  | zero =>
    exfalso
    unfold mj_es at hs
    have e : (cx_Z :: t)[0]? = some ((2000, []) : mj_C) := rfl
    rw [e] at hs
    dsimp only at hs
    have n0 : ¬ mj_n0 ≤ 0 := by decide
    rw [if_neg (fun q => n0 q.2)] at hs
    cases hs
  | succ a =>
    unfold mj_es at hs ⊢
    have e : ∀ z : mj_C, (z :: t)[a + 1]? = t[a]? := fun z => List.getElem?_cons_succ
    rw [e] at hs ⊢
    split at hs
    · rename_i k' vs hv
      split at hs
      · rename_i hb
        split at hs
        · rename_i j hj
          cases hs
          refine ⟨t.set a (k, vs.set j v), rfl, ?_⟩
          exact if_pos hb
        · cases hs
      · cases hs
    · cases hs
theorem cx_st {m pc : Nat} {lv : mj_L} {st : List Value} {t : mj_H} {pc' : Nat} {lv' : mj_L} {st' : List Value} {h' : mj_H} (c : mj_C) (i : Instr) (hw : cx_w i = true) (hs : mj_st m pc i lv st (cx_Z :: t) = some (pc', lv', st', h')) : ∃ t', h' = cx_Z :: t' ∧ mj_st m pc i lv st (c :: t) = some (pc', lv', st', c :: t') := by
  have e1 : ∀ (z : mj_C) (a : Nat), (z :: t)[a + 1]? = t[a]? := fun z a => List.getElem?_cons_succ
  have e0 : (cx_Z :: t)[0]? = some ((2000, []) : mj_C) := rfl
  unfold cx_w at hw
  split at hw
  · have hs : some (_, lv, _, cx_Z :: t) = some (pc', lv', st', h') := hs
    cases hs
    exact ⟨t, rfl, rfl⟩
  · have hs : some (_, lv, _, cx_Z :: t) = some (pc', lv', st', h') := hs
    cases hs
    exact ⟨t, rfl, rfl⟩
  · have hs : some (_, lv, _, cx_Z :: t) = some (pc', lv', st', h') := hs
    cases hs
    exact ⟨t, rfl, rfl⟩
  · rename_i n
    have hs : mj_li pc lv st (cx_Z :: t) n 1 = some (pc', lv', st', h') := hs
    show ∃ t', h' = cx_Z :: t' ∧ mj_li pc lv st (c :: t) n 1 = some (pc', lv', st', c :: t')
    unfold mj_li at hs ⊢
    split at hs
    · rename_i x hx
      cases hs
      exact ⟨t, rfl, rfl⟩
    · cases hs
  · rename_i n
    have hs : mj_la pc lv st (cx_Z :: t) n 1 = some (pc', lv', st', h') := hs
    show ∃ t', h' = cx_Z :: t' ∧ mj_la pc lv st (c :: t) n 1 = some (pc', lv', st', c :: t')
    unfold mj_la at hs ⊢
    split at hs
    · rename_i x hx
      cases hs
      exact ⟨t, rfl, rfl⟩
    · cases hs
  · rename_i n
    have hs : mj_si pc lv st (cx_Z :: t) n 1 = some (pc', lv', st', h') := hs
    show ∃ t', h' = cx_Z :: t' ∧ mj_si pc lv st (c :: t) n 1 = some (pc', lv', st', c :: t')
    unfold mj_si at hs ⊢
    split at hs
    · split at hs
      · rename_i hl
        cases hs
        exact ⟨t, rfl, if_pos hl⟩
      · cases hs
    · cases hs
  · rename_i n
    have hs : mj_sa pc lv st (cx_Z :: t) n 1 = some (pc', lv', st', h') := hs
    show ∃ t', h' = cx_Z :: t' ∧ mj_sa pc lv st (c :: t) n 1 = some (pc', lv', st', c :: t')
    unfold mj_sa at hs ⊢
    split at hs
    · split at hs
      · rename_i hl
        cases hs
        exact ⟨t, rfl, if_pos hl⟩
      · cases hs
    · cases hs
  · simp only [mj_st] at hs ⊢
    split at hs
    · split at hs
      · rename_i hl
        cases hs
        exact ⟨t, rfl, if_pos hl⟩
      · cases hs
    · cases hs
  · have hs : mj_ii pc lv st (cx_Z :: t) (fun x y => x + y) = some (pc', lv', st', h') := hs
    show ∃ t', h' = cx_Z :: t' ∧ mj_ii pc lv st (c :: t) (fun x y => x + y) = some (pc', lv', st', c :: t')
    unfold mj_ii at hs ⊢
    split at hs
    · cases hs
      exact ⟨t, rfl, rfl⟩
    · cases hs
  · have hs : mj_ii pc lv st (cx_Z :: t) (fun x y => x * y) = some (pc', lv', st', h') := hs
    show ∃ t', h' = cx_Z :: t' ∧ mj_ii pc lv st (c :: t) (fun x y => x * y) = some (pc', lv', st', c :: t')
    unfold mj_ii at hs ⊢
    split at hs
    · cases hs
      exact ⟨t, rfl, rfl⟩
    · cases hs
  · simp only [mj_st] at hs ⊢
    split at hs
    · rename_i x hx
      split at hs
      · rename_i hl
        cases hs
        exact ⟨t, rfl, if_pos hl⟩
      · cases hs
    · cases hs
  · simp only [mj_st] at hs ⊢
    split at hs
    · rename_i tt y x r hj
      cases hs
      exact ⟨t, rfl, rfl⟩
    · cases hs
  · rename_i off
    simp only [mj_st] at hs ⊢
    cases hj : mj_j pc off with
    | none => rw [hj] at hs; cases hs
    | some tt =>
      rw [hj] at hs
      cases hs
      exact ⟨t, rfl, rfl⟩
  · rename_i ty
    simp only [mj_st] at hs ⊢
    split at hs
    · split at hs
      · rename_i hl
        split at hs
        · cases hs
          exact ⟨_, rfl, if_pos hl⟩
        · cases hs
          exact ⟨_, rfl, if_pos hl⟩
        · cases hs
          exact ⟨_, rfl, if_pos hl⟩
        · cases hs
      · cases hs
    · cases hs
  · simp only [mj_st] at hs ⊢
    split at hs
    · split at hs
      · rename_i cc hc
        split at hs
        · rename_i hl
          cases hs
          exact ⟨_, rfl, if_pos hl⟩
        · cases hs
      · cases hs
    · cases hs
  · simp only [mj_st] at hs ⊢
    split at hs
    · rename_i cc fs hc
      cases hs
      exact ⟨_, rfl, rfl⟩
    · cases hs
  · simp only [mj_st] at hs ⊢
    split at hs
    · rename_i a r
      cases a with
      | zero =>
        exfalso
        rw [e0] at hs
        split at hs
        · rename_i hq
          cases hq
          split at hs
          · cases hs
          · cases hs
        · cases hs
      | succ a =>
        rw [e1] at hs ⊢
        split at hs
        · rename_i cc k ty w c' fs hf ht
          split at hs
          · rename_i hcc
            split at hs
            · rename_i v hv
              cases hs
              exact ⟨t, rfl, if_pos hcc⟩
            · cases hs
          · cases hs
        · cases hs
    · cases hs
  · simp only [mj_st] at hs ⊢
    split at hs
    · rename_i v a r
      cases a with
      | zero =>
        exfalso
        rw [e0] at hs
        split at hs
        · rename_i hq
          cases hq
          split at hs
          · rename_i hb
            exact absurd hb.2.2.1 (by decide)
          · cases hs
        · cases hs
      | succ a =>
        rw [e1] at hs ⊢
        split at hs
        · rename_i cc k ty w c' fs hf ht
          split at hs
          · rename_i hb
            cases hs
            exact ⟨_, rfl, if_pos hb⟩
          · cases hs
        · cases hs
    · cases hs
  · simp only [mj_st] at hs ⊢
    split at hs
    · rename_i x i a r
      cases hq : mj_es mj_n0 (cx_Z :: t) a 1000 i (.int x) with
      | none => rw [hq] at hs; cases hs
      | some hh =>
        rw [hq] at hs
        obtain ⟨t', q1, q2⟩ := cx_es hq c
        subst q1
        cases hs
        exact ⟨t', rfl, by rw [q2]; rfl⟩
    · cases hs
  · simp only [mj_st] at hs ⊢
    split at hs
    · rename_i x i a r
      split at hs
      · rename_i cc fs k us hx ha
        split at hs
        · rename_i hb
          cases hq : mj_es mj_n0 (cx_Z :: t) a k i (.ref x) with
          | none => rw [hq] at hs; cases hs
          | some hh =>
            rw [hq] at hs
            obtain ⟨t', q1, q2⟩ := cx_es hq c
            subst q1
            cases hs
            have hxe : (c :: t)[x]? = some (cc, fs) ∨ x = 0 := by
              cases x with
              | zero => exact Or.inr rfl
              | succ x => exact Or.inl (by rw [e1] at hx ⊢; exact hx)
            have hae : (c :: t)[a]? = some (k, us) ∨ a = 0 := by
              cases a with
              | zero => exact Or.inr rfl
              | succ a => exact Or.inl (by rw [e1] at ha ⊢; exact ha)
            rcases hxe with hxe | hxe
            · rcases hae with hae | hae
              · refine ⟨t', rfl, ?_⟩
                rw [hxe, hae]
                dsimp only
                rw [if_pos hb, q2]
                rfl
              · exfalso
                subst hae
                rw [e0] at ha
                cases ha
                have n0 : ¬ mj_n0 ≤ 0 := by decide
                unfold mj_es at hq
                rw [e0] at hq
                dsimp only at hq
                rw [if_neg (fun q => n0 q.2)] at hq
                cases hq
            · exfalso
              subst hxe
              rw [e0] at hx
              cases hx
              exact absurd hb.2 (by decide)
        · cases hs
      · cases hs
    · cases hs
  · simp only [mj_st] at hs ⊢
    split at hs
    · rename_i i a r
      cases a with
      | zero =>
        exfalso
        rw [e0] at hs
        dsimp only at hs
        rw [if_neg (by decide)] at hs
        cases hs
      | succ a =>
        have ee : ∀ (z : mj_C) (k : Nat), mj_el (z :: t) (a + 1) k i = mj_el (c :: t) (a + 1) k i := fun z k => rfl
        rw [e1] at hs ⊢
        split at hs
        · rename_i k us ha
          split at hs
          · rename_i hb
            rw [ee] at hs
            cases hq : mj_el (c :: t) (a + 1) k i with
            | none => rw [hq] at hs; cases hs
            | some v =>
              rw [hq] at hs
              cases hs
              refine ⟨t, rfl, ?_⟩
              rw [if_pos hb]
              rfl
          · cases hs
        · cases hs
    · cases hs
  · simp only [mj_st] at hs ⊢
    split at hs
    · rename_i q1 q2 b r hc
      split at hs
      · rename_i hl
        cases hs
        exact ⟨t, rfl, if_pos hl⟩
      · cases hs
    · cases hs
  · cases hw
/-- a run over such steps alone -/
def cx_run : Nat → Nat → Nat → Nat → mj_L → List Value → mj_H → Option (Option Value × mj_H)
  | 0, _, _, _, _, _, _ => none
  | f + 1, d, m, pc, lv, st, t => match mj_ins m pc with
    | none => none
    | some i => match mj_end m i st with
      | some r => some (r, t)
      | none => if cx_w i = true then (match mj_call m i st (cx_Z :: t) with
        | some (c, as, r) => match d with
          | 0 => none
          | d' + 1 => match mj_ent (mj_nl c) as with
            | none => none
            | some lv0 => match cx_run f d' c 0 lv0 [] t with
              | none => none
              | some (v, t1) => cx_run f (d' + 1) m (pc + 3) lv (v.toList ++ r) t1
        | none => match mj_st m pc i lv st (cx_Z :: t) with
          | some (pc', lv', st', _ :: t') => cx_run f d m pc' lv' st' t'
          | _ => none) else none
theorem cx_call {m : Nat} {i : Instr} {st : List Value} {t : mj_H} (c : mj_C) (hw : cx_w i = true) : mj_call m i st (c :: t) = mj_call m i st (cx_Z :: t) := by
  unfold cx_w at hw
  split at hw <;> first | rfl | cases hw
theorem cx_run_ok (c0 : mj_C) : ∀ {f d m pc : Nat} {lv : mj_L} {st : List Value} {t : mj_H} {v : Option Value} {t' : mj_H}, cx_run f d m pc lv st t = some (v, t') → mj_run f d m pc lv st (c0 :: t) = some (v, c0 :: t')
  | 0, d, m, pc, lv, st, t, v, t', h => by unfold cx_run at h; cases h
  | f + 1, d, m, pc, lv, st, t, v, t', h => by
    unfold cx_run at h
    unfold mj_run
    split at h
    · cases h
    · rename_i i hi
      rw [hi]
      dsimp only
      split at h
      · rename_i r hr
        cases h
        rw [hr]
      · rename_i hr
        rw [hr]
        dsimp only
        split at h
        · rename_i hw
          rw [cx_call c0 hw]
          split at h
          · rename_i c as r hc
            rw [hc]
            dsimp only
            split at h
            · cases h
            · rename_i d'
              split at h
              · cases h
              · rename_i lv0 hn
                rw [hn]
                dsimp only
                split at h
                · cases h
                · rename_i v1 t1 h1
                  rw [cx_run_ok c0 h1]
                  exact cx_run_ok c0 h
          · rename_i hc
            rw [hc]
            dsimp only
            split at h
            · rename_i pc' lv' st' z t1 hs
              obtain ⟨t2, q1, q2⟩ := cx_st c0 i hw hs
              cases q1
              rw [q2]
              exact cx_run_ok c0 h
            · cases h
        · cases h
/-! change: the contracts -/
set_option maxRecDepth 100000 in
theorem jn_142 : mj_nl 142 = 8 := by decide +kernel
set_option maxRecDepth 100000 in
theorem jn_299 : mj_nl 299 = 8 := by decide +kernel
theorem sx_M142 {d : Nat} (IH : sx_IH sx_PP d) : sx_M sx_PP d 142 sx_K142 := by
  intro vs h hH ha hd B hW hB
  match vs, ha with
  | [v0, v1, v2, v3], ⟨⟨a, e0, ta⟩, ⟨z1, e1, p1, p2⟩, ⟨z2, e2, p3, p4⟩, ⟨z3, e3, p5, p6⟩, _⟩ =>
  subst e0 e1 e2 e3
  have hd9 : (9 : Int) + 0 ≤ d := hd
  have hc : sx_cost sx_K142.2.2.2 = 0 := by decide
  obtain ⟨e, rfl⟩ : ∃ e, d = e + 1 := ⟨d - 1, by omega⟩
  refine ⟨[some (.ref a), some (.int z1), some (.int z2), some (.int z3), none, none, none, none], by unfold mj_ent; rw [jn_142]; rfl, ?_⟩
  have hrun := ws_chg142 (d := e) (h := h) (a := a) (sx_r32 z1) (sx_r32 z2) (sx_r32 z3)
  rw [← wp_iz, ← wp_iz, ← wp_iz] at hrun
  refine wp_mono hrun ?_
  rintro v h1 ⟨rfl, rfl⟩
  refine ⟨hH, ⟨_, rfl, _, rfl, (sx_r32 _).1, (sx_r32 _).2⟩, sx_ef_rf, rfl, ?_⟩
  show sx_W sx_tau h1 (B + sx_cost sx_K142.2.2.2)
  rw [hc, Int.natCast_zero, Int.add_zero]
  exact hW
theorem sx_M299 {d : Nat} (IH : sx_IH sx_PP d) : sx_M sx_PP d 299 sx_K299 := by
  intro vs h hH ha hd B hW hB
  match vs, ha with
  | [v0, v1, v2, v3], ⟨⟨a, e0, ta⟩, ⟨z1, e1, p1, p2⟩, ⟨z2, e2, p3, p4⟩, ⟨z3, e3, p5, p6⟩, _⟩ =>
  subst e0 e1 e2 e3
  have hd9 : (9 : Int) + 0 ≤ d := hd
  have hc : sx_cost sx_K299.2.2.2 = 0 := by decide
  obtain ⟨e, rfl⟩ : ∃ e, d = e + 1 + 1 := ⟨d - 2, by omega⟩
  refine ⟨[some (.ref a), some (.int z1), some (.int z2), some (.int z3), none, none, none, none], by unfold mj_ent; rw [jn_299]; rfl, ?_⟩
  have hrun := ws_chg299 (d := e) (h := h) (a := a) (sx_r32 z1) (sx_r32 z2) (sx_r32 z3)
  rw [← wp_iz, ← wp_iz, ← wp_iz] at hrun
  refine wp_mono hrun ?_
  rintro v h1 ⟨rfl, rfl⟩
  refine ⟨hH, ⟨_, rfl, _, rfl, (sx_r32 _).1, (sx_r32 _).2⟩, sx_ef_rf, rfl, ?_⟩
  show sx_W sx_tau h1 (B + sx_cost sx_K299.2.2.2)
  rw [hc, Int.natCast_zero, Int.add_zero]
  exact hW
