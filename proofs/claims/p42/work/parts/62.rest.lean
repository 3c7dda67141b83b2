/-! the checker's other steps, sound -/
theorem sx_sg_cv (c : ClassFile.Cond) (v : Int) : sx_cv c v.sign = sx_cv c v := by
  have h1 : v.sign = 0 ↔ v = 0 := Int.sign_eq_zero_iff_zero
  have h2 : 0 < v.sign ↔ 0 < v := Int.sign_pos_iff
  have h3 : v.sign < 0 ↔ v < 0 := Int.sign_neg_iff
  cases c <;> simp only [sx_cv] <;> exact decide_eq_decide.mpr (by omega)
theorem sx_cmp_cv (c : ClassFile.Cond) (x y : Int32) : mj_cmp c x y = sx_cv c (x.toInt - y.toInt) := by
  have e : x = y ↔ x.toInt = y.toInt := Int32.toInt_inj.symm
  have l1 : x < y ↔ x.toInt < y.toInt := Int32.lt_iff_toInt_lt
  have l2 : y < x ↔ y.toInt < x.toInt := Int32.lt_iff_toInt_lt
  have l3 : x ≤ y ↔ x.toInt ≤ y.toInt := Int32.le_iff_toInt_le
  have l4 : y ≤ x ↔ y.toInt ≤ x.toInt := Int32.le_iff_toInt_le
  cases c <;> simp only [sx_cv, mj_cmp] <;> refine decide_eq_decide.mpr ?_
  · rw [e]; omega
  · rw [e]; omega
  · rw [l1]; omega
  · rw [l4]; omega
  · rw [l2]; omega
  · rw [l3]; omega
theorem sx_b8 : ∀ n : Int, -128 ≤ n → n ≤ 127 → ((Int8.ofInt n).toInt32).toInt = n := by
  intro n h1 h2
  rw [Int8.toInt_toInt32, Int8.toInt_ofInt, show Int8.size = 256 from rfl]
  exact Int.bmod_eq_of_le (by omega) (by omega)
theorem sx_b16 : ∀ n : Int, -32768 ≤ n → n ≤ 32767 → ((Int16.ofInt n).toInt32).toInt = n := by
  intro n h1 h2
  rw [Int16.toInt_toInt32, Int16.toInt_ofInt, show Int16.size = 65536 from rfl]
  exact Int.bmod_eq_of_le (by omega) (by omega)
section SXR
variable {P : sx_P} {r : Nat → Int} {g : Nat → Nat} {lv : mj_L} {st : List Value} {h : mj_H} {ls : List (Option sx_A)} {ss S0 : List sx_A} {E : sx_E} {nr p0 : Nat} {C : sx_C} {mods : List Nat} {m pc : Nat} {L : List sx_S}
theorem sx_put1 (hl : sx_lr r g P.2.2.1 ls lv) (hs : sx_sr r g P.2.2.1 ss st) (hE : sx_in E r) (hC : sx_cr r g P.2.2.1 C h) (hH : sx_H P.1 P.2.1 P.2.2.1 h) {a : sx_A} {v : Value} {p : Nat} (hv : sx_vr r g P.2.2.1 a v) : sx_to P r g nr E.length mods h [(p, ls, a :: ss, E, nr, C)] p lv (v :: st) h := sx_stay (ss := a :: ss) (st := v :: st) hl ⟨hv, hs⟩ hE hC hH
theorem sx_q_iconst (hl : sx_lr r g P.2.2.1 ls lv) (hs : sx_sr r g P.2.2.1 ss st) (hE : sx_in E r) (hC : sx_cr r g P.2.2.1 C h) (hH : sx_H P.1 P.2.1 P.2.2.1 h) {n : Int} (hp : sx_i P m (.iconst n) (pc, ls, ss, E, nr, C) = some L) : sx_Q P r g nr E.length mods m pc (.iconst n) lv st h L := by
  simp only [sx_i] at hp
  split at hp
  · rename_i hb
    cases hp
    exact ⟨_, _, _, _, rfl, sx_put1 hl hs hE hC hH ⟨_, rfl, by rw [sx_c_ev]; exact sx_oi hb⟩⟩
  · cases hp
theorem sx_q_bipush (hl : sx_lr r g P.2.2.1 ls lv) (hs : sx_sr r g P.2.2.1 ss st) (hE : sx_in E r) (hC : sx_cr r g P.2.2.1 C h) (hH : sx_H P.1 P.2.1 P.2.2.1 h) {n : Int} (hp : sx_i P m (.bipush n) (pc, ls, ss, E, nr, C) = some L) : sx_Q P r g nr E.length mods m pc (.bipush n) lv st h L := by
  simp only [sx_i] at hp
  split at hp
  · rename_i hb
    cases hp
    exact ⟨_, _, _, _, rfl, sx_put1 hl hs hE hC hH ⟨_, rfl, by rw [sx_c_ev]; exact sx_b8 _ hb.1 hb.2⟩⟩
  · cases hp
theorem sx_q_sipush (hl : sx_lr r g P.2.2.1 ls lv) (hs : sx_sr r g P.2.2.1 ss st) (hE : sx_in E r) (hC : sx_cr r g P.2.2.1 C h) (hH : sx_H P.1 P.2.1 P.2.2.1 h) {n : Int} (hp : sx_i P m (.sipush n) (pc, ls, ss, E, nr, C) = some L) : sx_Q P r g nr E.length mods m pc (.sipush n) lv st h L := by
  simp only [sx_i] at hp
  split at hp
  · rename_i hb
    cases hp
    exact ⟨_, _, _, _, rfl, sx_put1 hl hs hE hC hH ⟨_, rfl, by rw [sx_c_ev]; exact sx_b16 _ hb.1 hb.2⟩⟩
  · cases hp
theorem sx_q_lo (hl : sx_lr r g P.2.2.1 ls lv) (hs : sx_sr r g P.2.2.1 ss st) (hE : sx_in E r) (hC : sx_cr r g P.2.2.1 C h) (hH : sx_H P.1 P.2.1 P.2.2.1 h) {i : Instr} {kd k n : Nat} (hp : sx_lo (pc, ls, ss, E, nr, C) kd k n = some L) (hi : ∀ v x, mj_ld lv k = some v → sx_vr r g P.2.2.1 (kd, x) v → mj_st m pc i lv st h = some (pc + n, lv, v :: st, h)) : sx_Q P r g nr E.length mods m pc i lv st h L := by
  unfold sx_lo at hp
  dsimp only at hp
  split at hp
  · rename_i q x hx
    split at hp
    · rename_i e
      subst e
      cases hp
      obtain ⟨v, e1, e2⟩ := hl.2 k _ hx
      exact ⟨_, _, _, _, hi v x e1 e2, sx_put1 hl hs hE hC hH e2⟩
    · cases hp
  · cases hp
theorem sx_vr2 {x : sx_X} {v : Value} (hv : sx_vr r g P.2.2.1 (2, x) v) : ∃ a, v = .ref a := by
  unfold sx_vr at hv
  split at hv
  · rename_i heq; cases heq
  · rename_i heq; cases heq
  · exact ⟨_, hv.1⟩
  · rename_i heq; cases heq
  · exact hv.elim
theorem sx_q_ild (hl : sx_lr r g P.2.2.1 ls lv) (hs : sx_sr r g P.2.2.1 ss st) (hE : sx_in E r) (hC : sx_cr r g P.2.2.1 C h) (hH : sx_H P.1 P.2.1 P.2.2.1 h) {i : Instr} {k n : Nat} (hi : ∀ lv st h, mj_st m pc i lv st h = mj_li pc lv st h k n) (hp : sx_lo (pc, ls, ss, E, nr, C) 0 k n = some L) : sx_Q P r g nr E.length mods m pc i lv st h L := by
  refine sx_q_lo hl hs hE hC hH hp (fun v x e hv => ?_)
  obtain ⟨z, rfl, -⟩ := hv
  rw [hi]
  unfold mj_li
  rw [e]
theorem sx_q_lld (hl : sx_lr r g P.2.2.1 ls lv) (hs : sx_sr r g P.2.2.1 ss st) (hE : sx_in E r) (hC : sx_cr r g P.2.2.1 C h) (hH : sx_H P.1 P.2.1 P.2.2.1 h) {i : Instr} {k n : Nat} (hi : ∀ lv st h, mj_st m pc i lv st h = mj_lo pc lv st h k n) (hp : sx_lo (pc, ls, ss, E, nr, C) 1 k n = some L) : sx_Q P r g nr E.length mods m pc i lv st h L := by
  refine sx_q_lo hl hs hE hC hH hp (fun v x e hv => ?_)
  obtain ⟨z, rfl, -⟩ := hv
  rw [hi]
  unfold mj_lo
  rw [e]
theorem sx_q_ald (hl : sx_lr r g P.2.2.1 ls lv) (hs : sx_sr r g P.2.2.1 ss st) (hE : sx_in E r) (hC : sx_cr r g P.2.2.1 C h) (hH : sx_H P.1 P.2.1 P.2.2.1 h) {i : Instr} {k n : Nat} (hi : ∀ lv st h, mj_st m pc i lv st h = mj_la pc lv st h k n) (hp : sx_lo (pc, ls, ss, E, nr, C) 2 k n = some L) : sx_Q P r g nr E.length mods m pc i lv st h L := by
  refine sx_q_lo hl hs hE hC hH hp (fun v x e hv => ?_)
  obtain ⟨z, rfl⟩ := sx_vr2 hv
  rw [hi]
  unfold mj_la
  rw [e]
theorem sx_q_st (hl : sx_lr r g P.2.2.1 ls lv) (hs : sx_sr r g P.2.2.1 ss st) (hE : sx_in E r) (hC : sx_cr r g P.2.2.1 C h) (hH : sx_H P.1 P.2.1 P.2.2.1 h) {i : Instr} {kd k n : Nat} (hp : sx_sto (pc, ls, ss, E, nr, C) kd k n = some L) (hi : ∀ v t2 x, k < lv.length → sx_vr r g P.2.2.1 (kd, x) v → mj_st m pc i lv (v :: t2) h = some (pc + n, mj_s1 lv k v, t2, h)) : sx_Q P r g nr E.length mods m pc i lv st h L := by
  unfold sx_sto at hp
  split at hp
  · rename_i heq
    cases heq
    split at hp
    · rename_i hb
      obtain ⟨rfl, hk⟩ := hb
      cases hp
      obtain ⟨v, t2, rfl, hv, hs2⟩ := sx_sr1 hs
      exact ⟨_, _, _, _, hi v t2 _ (by rw [← hl.1]; exact hk) hv, sx_stay (sx_s1_ok hl hv hk) hs2 hE hC hH⟩
    · cases hp
  · cases hp
theorem sx_q_ist (hl : sx_lr r g P.2.2.1 ls lv) (hs : sx_sr r g P.2.2.1 ss st) (hE : sx_in E r) (hC : sx_cr r g P.2.2.1 C h) (hH : sx_H P.1 P.2.1 P.2.2.1 h) {i : Instr} {k n : Nat} (hi : ∀ lv st h, mj_st m pc i lv st h = mj_si pc lv st h k n) (hp : sx_sto (pc, ls, ss, E, nr, C) 0 k n = some L) : sx_Q P r g nr E.length mods m pc i lv st h L := by
  refine sx_q_st hl hs hE hC hH hp (fun v t2 x e hv => ?_)
  obtain ⟨z, rfl, -⟩ := hv
  rw [hi]
  unfold mj_si
  dsimp only
  rw [if_pos e]
theorem sx_q_ast (hl : sx_lr r g P.2.2.1 ls lv) (hs : sx_sr r g P.2.2.1 ss st) (hE : sx_in E r) (hC : sx_cr r g P.2.2.1 C h) (hH : sx_H P.1 P.2.1 P.2.2.1 h) {i : Instr} {k n : Nat} (hi : ∀ lv st h, mj_st m pc i lv st h = mj_sa pc lv st h k n) (hp : sx_sto (pc, ls, ss, E, nr, C) 2 k n = some L) : sx_Q P r g nr E.length mods m pc i lv st h L := by
  refine sx_q_st hl hs hE hC hH hp (fun v t2 x e hv => ?_)
  obtain ⟨z, rfl⟩ := sx_vr2 hv
  rw [hi]
  unfold mj_sa
  dsimp only
  rw [if_pos e]
theorem sx_q_lst (hl : sx_lr r g P.2.2.1 ls lv) (hs : sx_sr r g P.2.2.1 ss st) (hE : sx_in E r) (hC : sx_cr r g P.2.2.1 C h) (hH : sx_H P.1 P.2.1 P.2.2.1 h) {i : Instr} {k n : Nat} {x : sx_X} {s2 : List sx_A} (hi : ∀ lv st h, mj_st m pc i lv st h = mj_sl pc lv st h k n) (he : ss = (1, x) :: s2) (hp : (if k + 1 < ls.length then some [(pc + n, sx_s2 ls k (1, x), s2, E, nr, C)] else none) = some L) : sx_Q P r g nr E.length mods m pc i lv st h L := by
  subst he
  split at hp
  · rename_i hk
    cases hp
    obtain ⟨v, t2, rfl, ⟨z, rfl, hz⟩, hs2⟩ := sx_sr1 hs
    have hv : sx_vr r g P.2.2.1 (1, x) (.long z) := ⟨z, rfl, hz⟩
    refine ⟨_, _, _, _, ?_, sx_stay (sx_s2_ok hl hv hk) hs2 hE hC hH⟩
    rw [hi]
    unfold mj_sl
    dsimp only
    rw [if_pos (by rw [← hl.1]; exact hk)]
  · cases hp
theorem sx_q_iinc (hl : sx_lr r g P.2.2.1 ls lv) (hs : sx_sr r g P.2.2.1 ss st) (hE : sx_in E r) (hC : sx_cr r g P.2.2.1 C h) (hH : sx_H P.1 P.2.1 P.2.2.1 h) {k : Nat} {n : Int} (hp : sx_i P m (.iinc k n) (pc, ls, ss, E, nr, C) = some L) : sx_Q P r g nr E.length mods m pc (.iinc k n) lv st h L := by
  simp only [sx_i] at hp
  split at hp
  · rename_i x hx
    split at hp
    · rename_i hb
      obtain ⟨b1, b2, b3⟩ := hb
      rw [Bool.and_eq_true] at b1
      have u1 := sx_ge_ok hE b1.1
      have u2 := sx_le_ok hE b1.2
      rw [sx_add_ev, sx_c_ev] at u1 u2
      cases hp
      obtain ⟨v, e1, z, rfl, hz⟩ := hl.2 k _ hx
      have hk := (List.getElem?_eq_some_iff.mp hx).1
      have eo := sx_oi (n := n) ⟨b2, b3⟩
      have hv : sx_vr r g P.2.2.1 (0, sx_add x (sx_c n)) (.int (z + Int32.ofInt n)) := ⟨_, rfl, by rw [sx_add_ev, sx_c_ev, sx_iadd (by rw [eo, hz]; exact ⟨u1, u2⟩), eo, hz]⟩
      exact ⟨_, _, _, _, by simp only [mj_st, e1]; rw [if_pos (by rw [← hl.1]; exact hk)], sx_stay (sx_s1_ok hl hv hk) hs hE hC hH⟩
    · split at hp
      · rename_i hok
        cases hp
        obtain ⟨v, e1, z, rfl, hz⟩ := hl.2 k _ hx
        have hk := (List.getElem?_eq_some_iff.mp hx).1
        obtain ⟨g1, g2, g3⟩ := sx_g_up (z := (z + Int32.ofInt n).toInt) (b := 0) hok hl hs hC
        have hv : sx_vr (sx_upi r E.length (z + Int32.ofInt n).toInt) (sx_upr g nr 0) P.2.2.1 (0, sx_v E.length) (.int (z + Int32.ofInt n)) := ⟨_, rfl, (sx_upi_self r _ _).symm⟩
        exact ⟨_, _, _, _, by simp only [mj_st, e1]; rw [if_pos (by rw [← hl.1]; exact hk)], _, List.mem_cons_self, _, _, rfl, ⟨sx_s1_ok g1 hv hk, g2, sx_in_up hE (sx_r32 _), g3, hH⟩, fun j hj => sx_upi_lt hj, by show E.length ≤ (E ++ [(sx_mn, sx_mx, [])]).length; rw [List.length_append]; omega, fun j hj => sx_upr_lt hj, Nat.le_refl _, sx_ef_rf⟩
      · cases hp
  · cases hp
theorem sx_q_if (hl : sx_lr r g P.2.2.1 ls lv) (hs : sx_sr r g P.2.2.1 ss st) (hE : sx_in E r) (hC : sx_cr r g P.2.2.1 C h) (hH : sx_H P.1 P.2.1 P.2.2.1 h) {c : ClassFile.Cond} {off : Int} (hp : sx_i P m (.ifCond c off) (pc, ls, ss, E, nr, C) = some L) : sx_Q P r g nr E.length mods m pc (.ifCond c off) lv st h L := by
  simp only [sx_i] at hp
  have z0 : (0 : Int32).toInt = 0 := by decide
  split at hp
  · rename_i t x s2 ht
    cases hp
    obtain ⟨v, t2, rfl, ⟨z, rfl, hz⟩, hs2⟩ := sx_sr1 hs
    have e : mj_cmp c z 0 = sx_cv c (sx_ev r x) := by rw [sx_cmp_cv, z0, hz, Int.sub_zero]
    refine ⟨_, _, _, _, by simp only [mj_st, ht]; rfl, ?_⟩
    rw [e]
    exact sx_if_ok hl hs2 hE hC hH
  · rename_i t x s2 ht
    cases hp
    obtain ⟨v, t2, rfl, ⟨z, rfl, hz⟩, hs2⟩ := sx_sr1 hs
    have e : mj_cmp c z 0 = sx_cv c (sx_ev r x) := by rw [sx_cmp_cv, z0, hz, Int.sub_zero, sx_sg_cv]
    refine ⟨_, _, _, _, by simp only [mj_st, ht]; rfl, ?_⟩
    rw [e]
    exact sx_if_ok hl hs2 hE hC hH
  · cases hp
theorem sx_q_ificmp (hl : sx_lr r g P.2.2.1 ls lv) (hs : sx_sr r g P.2.2.1 ss st) (hE : sx_in E r) (hC : sx_cr r g P.2.2.1 C h) (hH : sx_H P.1 P.2.1 P.2.2.1 h) {c : ClassFile.Cond} {off : Int} (hp : sx_i P m (.if_icmp c off) (pc, ls, ss, E, nr, C) = some L) : sx_Q P r g nr E.length mods m pc (.if_icmp c off) lv st h L := by
  simp only [sx_i] at hp
  split at hp
  · rename_i t y x s2 ht
    cases hp
    obtain ⟨v, t1, rfl, ⟨b, rfl, hb⟩, hs1⟩ := sx_sr1 hs
    obtain ⟨v, t2, rfl, ⟨a, rfl, ha⟩, hs2⟩ := sx_sr1 hs1
    have e : mj_cmp c a b = sx_cv c (sx_ev r (sx_sub x y)) := by rw [sx_cmp_cv, sx_sub_ev, ha, hb]
    refine ⟨_, _, _, _, by simp only [mj_st, ht]; rfl, ?_⟩
    rw [e]
    exact sx_if_ok hl hs2 hE hC hH
  · cases hp
theorem sx_q_goto (hl : sx_lr r g P.2.2.1 ls lv) (hs : sx_sr r g P.2.2.1 ss st) (hE : sx_in E r) (hC : sx_cr r g P.2.2.1 C h) (hH : sx_H P.1 P.2.1 P.2.2.1 h) {off : Int} (hp : sx_i P m (.goto off) (pc, ls, ss, E, nr, C) = some L) : sx_Q P r g nr E.length mods m pc (.goto off) lv st h L := by
  simp only [sx_i] at hp
  cases ht : mj_j pc off with
  | none => rw [ht] at hp; cases hp
  | some t =>
    rw [ht] at hp
    cases hp
    exact ⟨_, _, _, _, by simp only [mj_st, ht]; rfl, sx_stay hl hs hE hC hH⟩
theorem sx_q_tsw (hl : sx_lr r g P.2.2.1 ls lv) (hs : sx_sr r g P.2.2.1 ss st) (hE : sx_in E r) (hC : sx_cr r g P.2.2.1 C h) (hH : sx_H P.1 P.2.1 P.2.2.1 h) {dflt lo hi : Int} {offs : Array Int} (hp : sx_i P m (.tableswitch dflt lo hi offs) (pc, ls, ss, E, nr, C) = some L) : sx_Q P r g nr E.length mods m pc (.tableswitch dflt lo hi offs) lv st h L := by
  simp only [sx_i] at hp
  split at hp
  · rename_i x s2 t ht
    split at hp
    · rename_i hn
      split at hp
      · rename_i L1 hL1
        cases hp
        obtain ⟨v, t2, rfl, ⟨z, rfl, hz⟩, hs2⟩ := sx_sr1 hs
        by_cases h1 : z.toInt < lo
        · obtain ⟨F, g1, g2, g3⟩ := sx_cs_ok hE (y := sx_sub (sx_c (lo - 1)) x) (by rw [sx_sub_ev, sx_c_ev]; omega)
          refine ⟨_, _, _, _, by simp only [mj_st]; rw [if_pos (Or.inl h1), ht]; rfl, ?_⟩
          rw [g1]
          exact sx_w_ok (p0 := pc) (S0 := (0, x) :: s2) (nr := nr) hl hs2 hC hH g2 g3 (fun S' h => List.mem_append_left _ h)
        · by_cases h2 : hi < z.toInt
          · obtain ⟨F, g1, g2, g3⟩ := sx_cs_ok hE (y := sx_sub x (sx_c (hi + 1))) (by rw [sx_sub_ev, sx_c_ev]; omega)
            refine ⟨_, _, _, _, by simp only [mj_st]; rw [if_pos (Or.inr h2), ht]; rfl, ?_⟩
            rw [g1]
            exact sx_w_ok (p0 := pc) (S0 := (0, x) :: s2) (nr := nr) hl hs2 hC hH g2 g3 (fun S' h => List.mem_append_right _ (List.mem_append_left _ h))
          · have hsz : offs.toList.length = offs.size := Array.length_toList
            obtain ⟨off, t', e1, e2, S', m1, e3⟩ := sx_tsw_ok (mods := mods) hl hs2 hE hC hH hL1 (z.toInt - lo).toNat (by omega) (by omega)
            refine ⟨_, _, _, _, ?_, S', List.mem_append_right _ (List.mem_append_right _ m1), e3⟩
            rw [Array.getElem?_toList] at e1
            simp only [mj_st]
            rw [if_neg (by omega), e1]
            dsimp only
            rw [e2]
            rfl
      · cases hp
    · cases hp
  · cases hp
theorem sx_q_lsw (hl : sx_lr r g P.2.2.1 ls lv) (hs : sx_sr r g P.2.2.1 ss st) (hE : sx_in E r) (hC : sx_cr r g P.2.2.1 C h) (hH : sx_H P.1 P.2.1 P.2.2.1 h) {dflt : Int} {ps : Array (Int × Int)} (hp : sx_i P m (.lookupswitch dflt ps) (pc, ls, ss, E, nr, C) = some L) : sx_Q P r g nr E.length mods m pc (.lookupswitch dflt ps) lv st h L := by
  simp only [sx_i] at hp
  split at hp
  · rename_i x s2 t ht
    split at hp
    · rename_i hn
      split at hp
      · rename_i L1 hL1
        cases hp
        obtain ⟨v, t2, rfl, ⟨z, rfl, hz⟩, hs2⟩ := sx_sr1 hs
        obtain ⟨t', e1, e2⟩ := sx_lsw_ok (mods := mods) hl hs2 hE hC hH ht hL1
        have step : mj_st m pc (.lookupswitch dflt ps) lv (.int z :: t2) h = some (t', lv, t2, h) := by
          simp only [mj_st]
          rw [if_pos hn, hz, e1]
          rfl
        refine ⟨_, _, _, _, step, ?_⟩
        rcases e2 with rfl | ⟨S', m1, e3⟩
        · obtain ⟨S', m1, e3⟩ := sx_stay (P := P) (mods := mods) (nr := nr) (pc := t') hl hs2 hE hC hH
          rw [List.mem_singleton] at m1
          subst m1
          exact ⟨_, List.mem_cons_self, e3⟩
        · exact ⟨S', List.mem_cons_of_mem _ m1, e3⟩
      · cases hp
    · cases hp
  · cases hp
end SXR
