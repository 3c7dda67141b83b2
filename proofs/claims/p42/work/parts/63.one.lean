/-! one step of the checker is sound -/
section SXO
variable {P : sx_P} {r : Nat → Int} {g : Nat → Nat} {lv : mj_L} {st : List Value} {h : mj_H} {ls : List (Option sx_A)} {ss S0 : List sx_A} {E : sx_E} {nr p0 : Nat} {C : sx_C} {mods : List Nat} {m pc : Nat} {L : List sx_S}
theorem sx_ald_inv {lo hi : Nat} (hp : sx_ald P (pc, ls, ss, E, nr, C) lo hi = some L) : ∃ i t q a s2, ss = (0, i) :: (2, (t, [(q, a)])) :: s2 := by
  unfold sx_ald at hp
  split at hp
  · rename_i heq
    cases heq
    exact ⟨_, _, _, _, _, rfl⟩
  · cases hp
theorem sx_ast_inv {vk kd : Nat} (hp : sx_ast P (pc, ls, ss, E, nr, C) vk kd = some L) : ∃ k x i t q a s2, ss = (k, x) :: (0, i) :: (2, (t, [(q, a)])) :: s2 := by
  unfold sx_ast at hp
  split at hp
  · rename_i heq
    cases heq
    exact ⟨_, _, _, _, _, _, _, rfl⟩
  · cases hp
theorem sx_q_al (hl : sx_lr r g P.2.2.1 ls lv) (hs : sx_sr r g P.2.2.1 ss st) (hE : sx_in E r) (hC : sx_cr r g P.2.2.1 C h) (hH : sx_H P.1 P.2.1 P.2.2.1 h) {i : Instr} {lo hi : Nat} (hp : sx_ald P (pc, ls, ss, E, nr, C) lo hi = some L) (hi : ∀ a z v kd t2, (∃ vs, h[a]? = some (kd, vs)) → lo ≤ kd → kd ≤ hi → mj_el h a kd z = some v → mj_st m pc i lv (.int z :: .ref a :: t2) h = some (pc + 1, lv, v :: t2, h)) : sx_Q P r g nr E.length mods m pc i lv st h L := by
  obtain ⟨ix, t, q, a, s2, rfl⟩ := sx_ald_inv hp
  obtain ⟨v, t1, rfl, ⟨z, rfl, hz⟩, hs1⟩ := sx_sr1 hs
  obtain ⟨v, t2, rfl, ⟨rfl, ht⟩, hs2⟩ := sx_sr1 hs1
  obtain ⟨kd, v, vs, e1, e2, e3, e4, e5⟩ := sx_ald_ok (mods := mods) hp hl hs2 hE hC hH hz ht
  exact ⟨_, _, _, _, hi _ _ _ _ _ ⟨vs, e1⟩ e2 e3 e4, e5⟩
theorem sx_q_as (hl : sx_lr r g P.2.2.1 ls lv) (hs : sx_sr r g P.2.2.1 ss st) (hE : sx_in E r) (hC : sx_cr r g P.2.2.1 C h) (hH : sx_H P.1 P.2.1 P.2.2.1 h) {i : Instr} {vk kd : Nat} (hm : ∀ k x i t q s2, ss = (k, x) :: (0, i) :: (2, (t, q)) :: s2 → sx_kys E mods t.toNat i = true) (hk : 1000 ≤ kd) (hp : sx_ast P (pc, ls, ss, E, nr, C) vk kd = some L) (hi : ∀ a z v x s2 t2 h', ss = (vk, x) :: s2 → sx_vr r g P.2.2.1 (vk, x) v → mj_es mj_n0 h a kd z v = some h' → mj_st m pc i lv (v :: .int z :: .ref a :: t2) h = some (pc + 1, lv, t2, h')) : sx_Q P r g nr E.length mods m pc i lv st h L := by
  obtain ⟨k, x, ix, t, q, a, s2, rfl⟩ := sx_ast_inv hp
  obtain ⟨v, t0, rfl, hv, hs0⟩ := sx_sr1 hs
  obtain ⟨w, t1, rfl, ⟨z, rfl, hz⟩, hs1⟩ := sx_sr1 hs0
  obtain ⟨w, t2, rfl, ⟨rfl, ht⟩, hs2⟩ := sx_sr1 hs1
  obtain ⟨rfl, h', e1, e2⟩ := sx_ast_ok (mods := mods) hk hp hl hs2 hE hC hH hz ht hv (hm _ _ _ _ _ _ rfl)
  exact ⟨_, _, _, _, hi _ _ _ _ _ _ _ rfl hv e1, e2⟩
theorem sx_q_bast (hl : sx_lr r g P.2.2.1 ls lv) (hs : sx_sr r g P.2.2.1 ss st) (hE : sx_in E r) (hC : sx_cr r g P.2.2.1 C h) (hH : sx_H P.1 P.2.1 P.2.2.1 h) (hm : ∀ k x i t q s2, ss = (k, x) :: (0, i) :: (2, (t, q)) :: s2 → sx_kys E mods t.toNat i = true) (hp : sx_i P m .bastore (pc, ls, ss, E, nr, C) = some L) : sx_Q P r g nr E.length mods m pc .bastore lv st h L := by
  simp only [sx_i] at hp
  split at hp
  · rename_i x s2
    split at hp
    · rename_i hb
      refine sx_q_as hl hs hE hC hH hm (by decide) hp (fun a z v y s3 t2 h' he hv e => ?_)
      cases he
      have e2 := (sx_pf_ok (ty := .boolean) hE (by simp only [sx_pf]; rw [hb]; rfl) hv).1
      obtain ⟨q, rfl, -⟩ := hv
      simp only [mj_st]
      rw [e2, e]
      rfl
    · cases hp
  · cases hp
theorem sx_len32 {n : Nat} (h : n < 2147483648) : (Int32.ofNat n).toInt = (n : Int) := Int32.toInt_ofNat_of_lt h
theorem sx_q_alen (hl : sx_lr r g P.2.2.1 ls lv) (hs : sx_sr r g P.2.2.1 ss st) (hE : sx_in E r) (hC : sx_cr r g P.2.2.1 C h) (hH : sx_H P.1 P.2.1 P.2.2.1 h) (hp : sx_i P m .arraylength (pc, ls, ss, E, nr, C) = some L) : sx_Q P r g nr E.length mods m pc .arraylength lv st h L := by
  simp only [sx_i] at hp
  split at hp
  · rename_i t q a s2
    split at hp
    · rename_i kd len l hT
      split at hp
      · rename_i hb
        cases hp
        obtain ⟨v, t2, rfl, ⟨rfl, ht⟩, hs2⟩ := sx_sr1 hs
        obtain ⟨-, vs, c1, c2, c3, -⟩ := sx_cell hH ht hT
        dsimp only at c1 c2
        refine ⟨_, _, _, _, by simp only [mj_st, c1]; rw [if_pos ⟨hb.1, hb.2.1⟩], sx_put1 hl hs2 hE hC hH ⟨_, rfl, ?_⟩⟩
        rw [sx_c_ev, c2, sx_len32 hb.2.2]
      · cases hp
    · cases hp
  · cases hp
theorem sx_q_get (hl : sx_lr r g P.2.2.1 ls lv) (hs : sx_sr r g P.2.2.1 ss st) (hE : sx_in E r) (hC : sx_cr r g P.2.2.1 C h) (hH : sx_H P.1 P.2.1 P.2.2.1 h) {x : Nat} (hp : sx_i P m (.getfield x) (pc, ls, ss, E, nr, C) = some L) : sx_Q P r g nr E.length mods m pc (.getfield x) lv st h L := by
  have hp' := hp
  simp only [sx_i] at hp'
  split at hp'
  · obtain ⟨v, t2, rfl, ⟨rfl, ht⟩, hs2⟩ := sx_sr1 hs
    obtain ⟨v, e1, e2⟩ := sx_get_ok (mods := mods) hp hl hs2 hE hC hH ht
    exact ⟨_, _, _, _, e1, e2⟩
  · cases hp'
theorem sx_q_put (hl : sx_lr r g P.2.2.1 ls lv) (hs : sx_sr r g P.2.2.1 ss st) (hE : sx_in E r) (hC : sx_cr r g P.2.2.1 C h) (hH : sx_H P.1 P.2.1 P.2.2.1 h) {x : Nat} (hm : ∀ c k ty w, mj_fld m x = some (c, k, ty, w) → 100 * c + k ∈ mods) (hp : sx_i P m (.putfield x) (pc, ls, ss, E, nr, C) = some L) : sx_Q P r g nr E.length mods m pc (.putfield x) lv st h L := by
  have hp' := hp
  simp only [sx_i] at hp'
  split at hp'
  · obtain ⟨v, t1, rfl, hv, hs1⟩ := sx_sr1 hs
    obtain ⟨w, t2, rfl, ⟨rfl, ht⟩, hs2⟩ := sx_sr1 hs1
    obtain ⟨h', e1, e2⟩ := sx_put_ok (mods := mods) hp hl hs2 hE hC hH ht hv hm
    exact ⟨_, _, _, _, e1, e2⟩
  · cases hp'
theorem sx_q_ldc (hl : sx_lr r g P.2.2.1 ls lv) (hs : sx_sr r g P.2.2.1 ss st) (hE : sx_in E r) (hC : sx_cr r g P.2.2.1 C h) (hH : sx_H P.1 P.2.1 P.2.2.1 h) {x : Nat} (hp : sx_i P m (.ldc x) (pc, ls, ss, E, nr, C) = some L) : sx_Q P r g nr E.length mods m pc (.ldc x) lv st h L := by
  simp only [sx_i] at hp
  split at hp
  · rename_i v hv
    cases hp
    exact ⟨_, _, _, _, by simp only [mj_st, hv]; rfl, sx_put1 hl hs hE hC hH ⟨_, rfl, by rw [sx_c_ev]⟩⟩
  · rename_i k hv
    exact ⟨_, _, _, _, by simp only [mj_st, hv]; rfl, sx_adr_ok hp hl hs hE hC hH⟩
  · cases hp
theorem sx_q_ldcw (hl : sx_lr r g P.2.2.1 ls lv) (hs : sx_sr r g P.2.2.1 ss st) (hE : sx_in E r) (hC : sx_cr r g P.2.2.1 C h) (hH : sx_H P.1 P.2.1 P.2.2.1 h) {x : Nat} (hp : sx_i P m (.ldc_w x) (pc, ls, ss, E, nr, C) = some L) : sx_Q P r g nr E.length mods m pc (.ldc_w x) lv st h L := by
  simp only [sx_i] at hp
  split at hp
  · rename_i v hv
    cases hp
    exact ⟨_, _, _, _, by simp only [mj_st, hv]; rfl, sx_put1 hl hs hE hC hH ⟨_, rfl, by rw [sx_c_ev]⟩⟩
  · cases hp
theorem sx_q_ldc2 (hl : sx_lr r g P.2.2.1 ls lv) (hs : sx_sr r g P.2.2.1 ss st) (hE : sx_in E r) (hC : sx_cr r g P.2.2.1 C h) (hH : sx_H P.1 P.2.1 P.2.2.1 h) {x : Nat} (hp : sx_i P m (.ldc2_w x) (pc, ls, ss, E, nr, C) = some L) : sx_Q P r g nr E.length mods m pc (.ldc2_w x) lv st h L := by
  simp only [sx_i] at hp
  split at hp
  · rename_i v hv
    cases hp
    exact ⟨_, _, _, _, by simp only [mj_st, hv]; rfl, sx_put1 hl hs hE hC hH ⟨_, rfl, by rw [sx_c_ev]⟩⟩
  · cases hp
theorem sx_q_gst (hl : sx_lr r g P.2.2.1 ls lv) (hs : sx_sr r g P.2.2.1 ss st) (hE : sx_in E r) (hC : sx_cr r g P.2.2.1 C h) (hH : sx_H P.1 P.2.1 P.2.2.1 h) {x : Nat} (hp : sx_i P m (.getstatic x) (pc, ls, ss, E, nr, C) = some L) : sx_Q P r g nr E.length mods m pc (.getstatic x) lv st h L := by
  simp only [sx_i] at hp
  split at hp
  · rename_i k hv
    exact ⟨_, _, _, _, by simp only [mj_st, hv]; rfl, sx_adr_ok hp hl hs hE hC hH⟩
  · cases hp
theorem sx_q_inv (hl : sx_lr r g P.2.2.1 ls lv) (hs : sx_sr r g P.2.2.1 ss st) (hE : sx_in E r) (hC : sx_cr r g P.2.2.1 C h) (hH : sx_H P.1 P.2.1 P.2.2.1 h) {x : Nat} (hm : ∀ u k y i t q s2, mj_cal m x = some (20, u) → ss = (k, y) :: (0, i) :: (2, (t, q)) :: s2 → sx_kys E mods t.toNat i = true) (hp : sx_i P m (.invokestatic x) (pc, ls, ss, E, nr, C) = some L) : sx_Q P r g nr E.length mods m pc (.invokestatic x) lv st h L := by
  simp only [sx_i] at hp
  split at hp
  · rename_i c1 c2 y x s2 hc
    split at hp
    · rename_i hcat
      cases hp
      obtain ⟨v, t1, rfl, ⟨b, rfl, hb⟩, hs1⟩ := sx_sr1 hs
      obtain ⟨v, t2, rfl, ⟨a, rfl, ha⟩, hs2⟩ := sx_sr1 hs1
      refine ⟨_, _, _, _, by simp only [mj_st, hc]; rw [if_pos (by rw [(sx_sr_len hs2).1]; exact hcat)], sx_two_ok hl hs2 hE hC hH ?_⟩
      by_cases e : a < b
      · rw [if_pos e]
        have := Int32.lt_iff_toInt_lt.mp e
        exact Or.inl ⟨by rw [sx_sub_ev, sx_sub_ev, sx_c_ev]; omega, b, rfl, hb⟩
      · rw [if_neg e]
        have : ¬ a.toInt < b.toInt := fun q => e (Int32.lt_iff_toInt_lt.mpr q)
        exact Or.inr ⟨by rw [sx_sub_ev]; omega, a, rfl, ha⟩
    · cases hp
  · rename_i c1 c2 y x s2 hc
    split at hp
    · rename_i hcat
      cases hp
      obtain ⟨v, t1, rfl, ⟨b, rfl, hb⟩, hs1⟩ := sx_sr1 hs
      obtain ⟨v, t2, rfl, ⟨a, rfl, ha⟩, hs2⟩ := sx_sr1 hs1
      refine ⟨_, _, _, _, by simp only [mj_st, hc]; rw [if_pos (by rw [(sx_sr_len hs2).1]; exact hcat)], sx_two_ok hl hs2 hE hC hH ?_⟩
      by_cases e : b < a
      · rw [if_pos e]
        have := Int32.lt_iff_toInt_lt.mp e
        exact Or.inl ⟨by rw [sx_sub_ev, sx_sub_ev, sx_c_ev]; omega, b, rfl, hb⟩
      · rw [if_neg e]
        have : ¬ b.toInt < a.toInt := fun q => e (Int32.lt_iff_toInt_lt.mpr q)
        exact Or.inr ⟨by rw [sx_sub_ev]; omega, a, rfl, ha⟩
    · cases hp
  · rename_i c1 c2 x s2 hc
    split at hp
    · rename_i hcat
      obtain ⟨v, t2, rfl, ⟨a, rfl, ha⟩, hs2⟩ := sx_sr1 hs
      refine ⟨_, _, _, _, by simp only [mj_st, hc]; rw [if_pos (by rw [(sx_sr_len hs2).1]; exact hcat)], ?_⟩
      split at hp
      · rename_i hge
        cases hp
        have hge := sx_ge_ok hE hge
        have z0 : (0 : Int32).toInt = 0 := by decide
        refine sx_two_ok hl hs2 hE hC hH ?_
        by_cases e : 0 ≤ a
        · rw [if_pos e]
          have := Int32.le_iff_toInt_le.mp e
          exact Or.inl ⟨by omega, a, rfl, ha⟩
        · rw [if_neg e]
          have : ¬ (0 : Int32).toInt ≤ a.toInt := fun q => e (Int32.le_iff_toInt_le.mpr q)
          have hM : sx_mn + sx_mx = -1 := by decide
          have hM0 : sx_mn ≤ 0 := by decide
          refine Or.inr ⟨by rw [sx_sub_ev, sx_mulc_ev, sx_c_ev]; omega, _, rfl, ?_⟩
          rw [sx_isub (by omega), sx_mulc_ev]
          omega
      · exact sx_pi_ok rfl hp hl hs2 hE hC hH (sx_r32 _) (Or.inl ⟨rfl, _, rfl, rfl⟩)
    · cases hp
  · rename_i c1 c2 y x s2 hc
    split at hp
    · rename_i hcat
      cases hp
      obtain ⟨v, t1, rfl, ⟨b, rfl, hb⟩, hs1⟩ := sx_sr1 hs
      obtain ⟨v, t2, rfl, ⟨a, rfl, ha⟩, hs2⟩ := sx_sr1 hs1
      refine ⟨_, _, _, _, by simp only [mj_st, hc]; rw [if_pos (by rw [(sx_sr_len hs2).1]; exact hcat)], sx_two_ok hl hs2 hE hC hH ?_⟩
      by_cases e : b < a
      · rw [if_pos e]
        have := Int64.lt_iff_toInt_lt.mp e
        exact Or.inl ⟨by rw [sx_sub_ev, sx_sub_ev, sx_c_ev]; omega, a, rfl, ha⟩
      · rw [if_neg e]
        have : ¬ b.toInt < a.toInt := fun q => e (Int64.lt_iff_toInt_lt.mpr q)
        exact Or.inr ⟨by rw [sx_sub_ev]; omega, b, rfl, hb⟩
    · cases hp
  · rename_i c1 c2 y x s2 hc
    split at hp
    · rename_i hcat
      cases hp
      obtain ⟨v, t1, rfl, ⟨b, rfl, hb⟩, hs1⟩ := sx_sr1 hs
      obtain ⟨v, t2, rfl, ⟨a, rfl, ha⟩, hs2⟩ := sx_sr1 hs1
      refine ⟨_, _, _, _, by simp only [mj_st, hc]; rw [if_pos (by rw [(sx_sr_len hs2).1]; exact hcat)], sx_two_ok hl hs2 hE hC hH ?_⟩
      by_cases e : b < a
      · rw [if_pos e]
        have := Int64.lt_iff_toInt_lt.mp e
        exact Or.inl ⟨by rw [sx_sub_ev, sx_sub_ev, sx_c_ev]; omega, b, rfl, hb⟩
      · rw [if_neg e]
        have : ¬ b.toInt < a.toInt := fun q => e (Int64.lt_iff_toInt_lt.mpr q)
        exact Or.inr ⟨by rw [sx_sub_ev]; omega, a, rfl, ha⟩
    · cases hp
  · rename_i c1 c2 n dp t1 q1 a1 sp t0 q0 a0 s2 hc
    split at hp
    · rename_i k0 len0 l0 k1 len1 l1 hT0 hT1
      split at hp
      · rename_i hb
        cases hp
        obtain ⟨v, u1, rfl, ⟨zn, rfl, hzn⟩, hs1⟩ := sx_sr1 hs
        obtain ⟨v, u2, rfl, ⟨zd, rfl, hzd⟩, hs2⟩ := sx_sr1 hs1
        obtain ⟨v, u3, rfl, ⟨rfl, ht1⟩, hs3⟩ := sx_sr1 hs2
        obtain ⟨v, u4, rfl, ⟨zs, rfl, hzs⟩, hs4⟩ := sx_sr1 hs3
        obtain ⟨v, u5, rfl, ⟨rfl, ht0⟩, hs5⟩ := sx_sr1 hs4
        obtain ⟨f, f1, e1, e2, e3, e4⟩ := sx_arc_ok (mods := mods) (nr := nr) (pc := pc) hl hs5 hE hC hH hT0 hT1 ht0 ht1 (hzn.trans (by simp [sx_ev, sx_sum])) hzs hzd (hm _ _ _ _ _ _ _ hc rfl) hb.2
        have hcat : mj_cat u5 ≤ 8 := by rw [(sx_sr_len hs5).1]; exact hb.1
        exact ⟨_, _, _, _, by simp only [mj_st, hc, e1, e2]; rw [if_pos ⟨hcat, e3⟩], e4⟩
      · cases hp
    · cases hp
  · cases hp
theorem sx_q_vir (hl : sx_lr r g P.2.2.1 ls lv) (hs : sx_sr r g P.2.2.1 ss st) (hE : sx_in E r) (hC : sx_cr r g P.2.2.1 C h) (hH : sx_H P.1 P.2.1 P.2.2.1 h) {x : Nat} (hp : sx_i P m (.invokevirtual x) (pc, ls, ss, E, nr, C) = some L) : sx_Q P r g nr E.length mods m pc (.invokevirtual x) lv st h L := by
  simp only [sx_i] at hp
  split at hp
  · rename_i c1 c2 t q a s2 hc
    split at hp
    · rename_i kd len l hT
      split at hp
      · rename_i hb
        obtain ⟨rfl, b2, b3⟩ := hb
        cases hp
        obtain ⟨v, t2, rfl, ⟨rfl, ht⟩, hs2⟩ := sx_sr1 hs
        obtain ⟨-, vs, c1, c2, c3, -⟩ := sx_cell hH ht hT
        dsimp only at c1 c2
        have hcat : mj_cat t2 ≤ 8 := by rw [(sx_sr_len hs2).1]; exact b3
        refine ⟨_, _, _, _, by simp only [mj_st, hc, c1]; rw [if_pos ⟨hcat, by omega⟩], sx_put1 hl hs2 hE hC hH ⟨_, rfl, ?_⟩⟩
        rw [sx_c_ev, c2, sx_len32 (by omega)]
      · cases hp
    · cases hp
  · rename_i c1 c2 i t q a s2 hc
    split at hp
    · rename_i kd len l hT
      split at hp
      · rename_i hb
        obtain ⟨rfl, b2, b3, b4⟩ := hb
        split at hp
        · rename_i ds hds
          split at hp
          · rename_i d hd
            obtain ⟨v, t1, rfl, ⟨z, rfl, hz⟩, hs1⟩ := sx_sr1 hs
            obtain ⟨v, t2, rfl, ⟨rfl, ht⟩, hs2⟩ := sx_sr1 hs1
            obtain ⟨-, vs, c1, c2, c3, -⟩ := sx_cell hH ht hT
            obtain ⟨x1, x2, x3⟩ := sx_ixok hE hz b4
            dsimp only at c1 c2 c3
            have hlt : z.toInt.toNat < vs.length := by omega
            have hv : vs[z.toInt.toNat]? = some vs[z.toInt.toNat] := List.getElem?_eq_getElem hlt
            obtain ⟨d0, d1, d2⟩ := c3 _ _ hv
            have hcat : mj_cat t2 ≤ 8 := by rw [(sx_sr_len hs2).1]; exact b3
            have hel : mj_el h (g a) 900 z = some vs[z.toInt.toNat] := by
              unfold mj_el
              rw [c1]
              dsimp only
              rw [if_pos rfl, c2, x1]
              exact hv
            have hth : ∀ c ∈ h[g a]?, c.2.length < 1000 := by
              intro c hcm
              rw [c1] at hcm
              cases hcm
              show vs.length < 1000
              omega
            refine ⟨_, _, _, _, ?_, sx_pd_ok rfl hp hl hs2 hE hC hH (sx_hl_ok hd (sx_dl_ok hE x2 d1 hds) d2) (fun q hq => by cases hq)⟩
            simp only [mj_st, hc, hel]
            rw [if_pos ⟨hcat, hth⟩]
          · cases hp
        · cases hp
      · cases hp
    · cases hp
  · cases hp
end SXO
