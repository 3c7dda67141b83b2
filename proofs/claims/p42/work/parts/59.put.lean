/-! the checker's writes of fields, copies and switches, sound -/
theorem sx_pf_ok {E : sx_E} {r : Nat → Int} (h : sx_in E r) {g : Nat → Nat} {tau : List Nat} {ty : FieldType} {vk : Nat} {vx : sx_X} (hp : sx_pf E ty vk vx = true) {v : Value} (hv : sx_vr r g tau (vk, vx) v) : narrow ty v = v ∧ fits ty v = true := by
  cases ty with
  | int =>
    have e : vk = 0 := by simpa [sx_pf] using hp
    subst e
    obtain ⟨z, rfl, -⟩ := hv
    exact ⟨rfl, rfl⟩
  | boolean =>
    simp only [sx_pf, Bool.and_eq_true, beq_iff_eq] at hp
    obtain ⟨e, h1, h2⟩ := hp
    subst e
    obtain ⟨z, rfl, hz⟩ := hv
    have b1 := sx_ge_ok h h1
    have b2 := sx_le_ok h h2
    have hz2 : z = 0 ∨ z = 1 := by
      rcases (show z.toInt = 0 ∨ z.toInt = 1 by omega) with e | e
      · exact Or.inl (Int32.toInt_inj.mp (e.trans (by decide)))
      · exact Or.inr (Int32.toInt_inj.mp (e.trans (by decide)))
    rcases hz2 with rfl | rfl
    · exact ⟨by decide, by decide⟩
    · exact ⟨by decide, by decide⟩
  | long =>
    have e : vk = 1 := by simpa [sx_pf] using hp
    subst e
    obtain ⟨z, rfl, -⟩ := hv
    exact ⟨rfl, rfl⟩
  | object n =>
    have e : vk = 2 := by simpa [sx_pf] using hp
    subst e
    unfold sx_vr at hv
    split at hv
    · rename_i heq; cases heq
    · rename_i heq; cases heq
    · obtain ⟨rfl, -⟩ := hv
      exact ⟨rfl, rfl⟩
    · rename_i heq; cases heq
    · exact hv.elim
  | _ => simp [sx_pf] at hp
theorem sx_cpl_get {f g : List Value} {sp dp n : Nat} (h1 : sp + n ≤ f.length) (h2 : dp + n ≤ g.length) (j : Nat) : (mj_cpl f g sp dp n)[j]? = if dp ≤ j ∧ j < dp + n then f[sp + (j - dp)]? else g[j]? := by
  unfold mj_cpl
  by_cases a : j < dp
  · rw [List.getElem?_append_left (by rw [List.length_take]; omega), List.getElem?_take_of_lt a, if_neg (by omega)]
  · rw [List.getElem?_append_right (by rw [List.length_take]; omega), List.length_take, Nat.min_eq_left (by omega)]
    by_cases b : j < dp + n
    · rw [List.getElem?_append_left (by rw [List.length_take, List.length_drop]; omega), List.getElem?_take_of_lt (by omega), List.getElem?_drop, if_pos (by omega)]
    · rw [List.getElem?_append_right (by rw [List.length_take, List.length_drop]; omega), List.length_take, List.length_drop, List.getElem?_drop, if_neg (by omega)]
      congr 1
      omega
theorem sx_cpl_len {f g : List Value} {sp dp n : Nat} (h1 : sp + n ≤ f.length) (h2 : dp + n ≤ g.length) : (mj_cpl f g sp dp n).length = g.length := by
  unfold mj_cpl
  simp only [List.length_append, List.length_take, List.length_drop]
  omega
theorem sx_cpy_ok {E : sx_E} {l1 l2 : List (Nat × Nat × List sx_D)} {sp dp : sx_X} {tau : List Nat} : ∀ {n : Nat}, sx_cpy E l1 l2 sp dp n = true → ∀ k, k < n → ∃ a b, sx_dl E (sx_add sp (sx_c k)) l1 = some a ∧ sx_dl E (sx_add dp (sx_c k)) l2 = some b ∧ ∀ d ∈ a, ∀ q ∈ b, ∀ v, sx_dr tau d v → mj_isI v = true ∧ sx_dr tau q v
  | 0, _, k, hk => by omega
  | n + 1, hc, k, hk => by
    unfold sx_cpy at hc
    rw [Bool.and_eq_true] at hc
    by_cases e : k = n
    · subst e
      obtain ⟨h1, -⟩ := hc
      split at h1
      · rename_i a b ha hb
        refine ⟨a, b, ha, hb, fun d hd q hq v hv => ?_⟩
        have h2 := List.all_eq_true.mp (List.all_eq_true.mp h1 d hd) q hq
        split at h2
        · rename_i lo hi lo2 hi2
          rw [Bool.and_eq_true] at h2
          have b1 : lo2 ≤ lo := of_decide_eq_true h2.1
          have b2 : hi ≤ hi2 := of_decide_eq_true h2.2
          obtain ⟨z, rfl, c1, c2⟩ := hv
          exact ⟨rfl, z, rfl, by omega, by omega⟩
        · cases h2
      · cases h1
    · exact sx_cpy_ok hc.2 k (by omega)
section SXQ
variable {P : sx_P} {r : Nat → Int} {g : Nat → Nat} {lv : mj_L} {st : List Value} {h : mj_H} {ls : List (Option sx_A)} {ss S0 : List sx_A} {E : sx_E} {nr p0 : Nat} {C : sx_C} {mods : List Nat}
/-- a field is written -/
theorem sx_put_ok {m pc x vk : Nat} {vx : sx_X} {q : Int} {a : Nat} {t : Int} {v : Value} {L : List sx_S} (hp : sx_i P m (.putfield x) (pc, ls, (vk, vx) :: (2, (t, [(q, a)])) :: ss, E, nr, C) = some L) (hl : sx_lr r g P.2.2.1 ls lv) (hs : sx_sr r g P.2.2.1 ss st) (hE : sx_in E r) (hC : sx_cr r g P.2.2.1 C h) (hH : sx_H P.1 P.2.1 P.2.2.1 h) (ht : P.2.2.1[g a]? = some t.toNat) (hv : sx_vr r g P.2.2.1 (vk, vx) v)
    (hm : ∀ c k ty w, mj_fld m x = some (c, k, ty, w) → 100 * c + k ∈ mods) :
    ∃ h', mj_st m pc (.putfield x) lv (v :: .ref (g a) :: st) h = some (pc + 3, lv, st, h') ∧ sx_to P r g nr E.length mods h L (pc + 3) lv st h' := by
  simp only [sx_i] at hp
  split at hp
  · rename_i c k ty w kd len l hf hT
    split at hp
    · rename_i hb
      obtain ⟨b1, b2, b9, b3, b4, b7, b8, b5, b6⟩ := hb
      subst b1
      split at hp
      · rename_i d hd
        split at hp
        · rename_i hcf
          cases hp
          obtain ⟨c0, vs, c1, c2, c3, -⟩ := sx_cell hH ht hT
          dsimp only at c1 c2 c3
          have hla := sx_lt_of c1
          obtain ⟨n1, n2⟩ := sx_pf_ok hE b6 hv
          have hkl : k < vs.length := by omega
          refine ⟨h.set (g a) (kd, vs.set k v), ?_, ?_⟩
          · simp only [mj_st, hf, c1]
            rw [if_pos ⟨trivial, b3, c0 b4, hkl, n1, n2⟩]
          · have hH' : sx_H P.1 P.2.1 P.2.2.1 (h.set (g a) (kd, vs.set k v)) := by
              refine sx_H_set hH ht hT (by rw [List.length_set]; exact c2) hla (fun j u hu => ?_) (fun e => absurd e b7)
              by_cases e : k = j
              · subst e
                rw [List.getElem?_set_self hkl] at hu
                cases hu
                exact ⟨d, hd, sx_cf_ok hE hcf hv⟩
              · rw [List.getElem?_set_ne e] at hu
                exact c3 j u hu
            have hk : 100 * kd + k ∈ mods := hm _ _ _ _ hf
            have hef : sx_ef P.2.2.1 mods h (h.set (g a) (kd, vs.set k v)) := sx_ef_ar c1 ht (fun key hn => sx_at_fs b2 (fun e => hn (by rw [e]; exact hk))) (fun hk9 _ => absurd hk9 (by omega)) (fun j hj => by rw [sx_nst_ok b8] at hj; cases hj)
            refine ⟨_, List.mem_cons_self, r, g, rfl, ⟨hl, hs, hE, fun u hu => ?_, hH'⟩, fun _ _ => rfl, Nat.le_refl _, fun _ _ => rfl, Nat.le_refl _, hef⟩
            rcases List.mem_cons.mp hu with hu | hu
            · subst hu
              exact ⟨kd, vs.set k v, v, List.getElem?_set_self hla, by dsimp only; rw [sx_at_f b2 b9]; exact List.getElem?_set_self hkl, hv⟩
            · obtain ⟨hu1, hu2⟩ := List.mem_filter.mp hu
              obtain ⟨kb, ws, w2, e1, e3, e4⟩ := hC u hu1
              have hne : u.2.1 ≠ 100 * kd + k := fun e => by
                rw [e] at hu2
                simp at hu2
              by_cases e : g a = g u.1
              · rw [← e] at e1 e3 ⊢
                rw [c1] at e1
                cases e1
                exact ⟨kd, _, w2, List.getElem?_set_self hla, by rw [sx_at_fs b2 hne]; exact e3, e4⟩
              · exact ⟨kb, ws, w2, by rw [List.getElem?_set_ne e]; exact e1, e3, e4⟩
        · cases hp
      · cases hp
    · cases hp
  · cases hp
theorem sx_lsw_ok (hl : sx_lr r g P.2.2.1 ls lv) (hs : sx_sr r g P.2.2.1 ss st) (hE : sx_in E r) (hC : sx_cr r g P.2.2.1 C h) (hH : sx_H P.1 P.2.1 P.2.2.1 h) {pc t0 : Nat} {dflt : Int} (h0 : mj_j pc dflt = some t0) {x : sx_X} : ∀ {ps : List (Int × Int)} {L : List sx_S}, sx_lsw pc (p0, ls, S0, E, nr, C) ss E x ps = some L → ∃ t, mj_j pc (Op.lookupswitch.offset ps dflt (sx_ev r x)) = some t ∧ (t = t0 ∨ sx_to P r g nr E.length mods h L t lv st h)
  | [], L, _ => ⟨t0, h0, Or.inl rfl⟩
  | (k, off) :: l, L, hL => by
    unfold sx_lsw at hL
    split at hL
    · rename_i t L1 ht hL1
      cases hL
      rw [Op.lookupswitch.offset_cons]
      by_cases e : k = sx_ev r x
      · rw [if_pos e]
        obtain ⟨F, g1, g2, g3⟩ := sx_wh_ok hE (c := .eq) (x := sx_sub x (sx_c k)) (decide_eq_true (by rw [sx_sub_ev, sx_c_ev]; omega))
        refine ⟨t, ht, Or.inr ?_⟩
        unfold sx_eqk
        rw [g1]
        exact sx_w_ok (p0 := p0) (S0 := S0) (nr := nr) hl hs hC hH g2 g3 (fun S' h => List.mem_append_left _ h)
      · rw [if_neg e]
        obtain ⟨t', e1, e2⟩ := sx_lsw_ok hl hs hE hC hH h0 hL1
        refine ⟨t', e1, ?_⟩
        rcases e2 with e2 | ⟨S', m1, e3⟩
        · exact Or.inl e2
        · exact Or.inr ⟨S', List.mem_append_right _ m1, e3⟩
    · cases hL
/-- a stretch is copied -/
theorem sx_arc_ok {pc : Nat} {n : Int} {sp dp : sx_X} {t0 t1 : Int} {a0 a1 : Nat} {k0 k1 len0 len1 : Nat} {l0 l1 : List (Nat × Nat × List sx_D)} {zn zs zd : Int32} (hl : sx_lr r g P.2.2.1 ls lv) (hs : sx_sr r g P.2.2.1 ss st) (hE : sx_in E r) (hC : sx_cr r g P.2.2.1 C h) (hH : sx_H P.1 P.2.1 P.2.2.1 h) (hT0 : sx_ty P t0 = some (k0, len0, l0)) (hT1 : sx_ty P t1 = some (k1, len1, l1)) (ht0 : P.2.2.1[g a0]? = some t0.toNat) (ht1 : P.2.2.1[g a1]? = some t1.toNat) (hzn : zn.toInt = n) (hzs : zs.toInt = sx_ev r sp) (hzd : zd.toInt = sx_ev r dp) (hm : sx_kys E mods t1.toNat dp = true)
    (hb : k0 = 1000 ∧ k1 = 1000 ∧ P.2.1 ≤ t0.toNat ∧ P.2.1 ≤ t1.toNat ∧ ¬ t1.toNat = sx_tg ∧ sx_nst t1.toNat = true ∧ 0 ≤ n ∧ (sx_ge E sp 0 && sx_le E (sx_add sp (sx_c n)) len0 && sx_ge E dp 0 && sx_le E (sx_add dp (sx_c n)) len1) = true ∧ ((decide (t0.toNat = t1.toNat ∧ sp = dp) && l0.all fun q => q.2.2.all fun d => d.1 == 0) || sx_cpy E l0 l1 sp dp n.toNat) = true) :
    ∃ (f f1 : List Value), h[g a0]? = some (1000, f) ∧ h[g a1]? = some (1000, f1) ∧ (mj_n0 ≤ g a1 ∧ mj_n0 ≤ g a0 ∧ 0 ≤ zn.toInt ∧ 0 ≤ zs.toInt ∧ 0 ≤ zd.toInt ∧ zs.toInt.toNat + zn.toInt.toNat ≤ f.length ∧ zd.toInt.toNat + zn.toInt.toNat ≤ f1.length ∧ ((f.drop zs.toInt.toNat).take zn.toInt.toNat).all mj_isI = true) ∧ sx_to P r g nr E.length mods h [(pc + 3, ls, ss, E, nr, C)] (pc + 3) lv st (h.set (g a1) (1000, mj_cpl f f1 zs.toInt.toNat zd.toInt.toNat zn.toInt.toNat)) := by
  obtain ⟨rfl, rfl, b3, b4, b8, b9, b5, b6, b7⟩ := hb
  simp only [Bool.and_eq_true] at b6
  obtain ⟨⟨⟨s1, s2⟩, s3⟩, s4⟩ := b6
  have r1 := sx_ge_ok hE s1
  have r2 := sx_le_ok hE s2
  have r3 := sx_ge_ok hE s3
  have r4 := sx_le_ok hE s4
  rw [sx_add_ev, sx_c_ev] at r2 r4
  obtain ⟨c0, f, c1, c2, c3, -⟩ := sx_cell hH ht0 hT0
  obtain ⟨d0, f1, d1, d2, d3, -⟩ := sx_cell hH ht1 hT1
  dsimp only at c1 c2 c3 d1 d2 d3
  have q1 : zs.toInt.toNat + zn.toInt.toNat ≤ f.length := by omega
  have q2 : zd.toInt.toNat + zn.toInt.toNat ≤ f1.length := by omega
  have key : ∀ i, i < zn.toInt.toNat → ∀ v, f[zs.toInt.toNat + i]? = some v → mj_isI v = true ∧ ∀ q, sx_fd l1 (zd.toInt.toNat + i) = some q → sx_dr P.2.2.1 q v := by
    intro i hi v hv
    obtain ⟨d, e1, e2⟩ := c3 _ _ hv
    rw [Bool.or_eq_true] at b7
    rcases b7 with b7 | b7
    · rw [Bool.and_eq_true] at b7
      obtain ⟨u1, u2⟩ := b7
      obtain ⟨u3, u4⟩ := of_decide_eq_true u1
      have el : l0 = l1 := by
        unfold sx_ty at hT0 hT1
        rw [u3, hT1] at hT0
        cases hT0
        rfl
      subst el
      subst u4
      have eq : zs.toInt.toNat = zd.toInt.toNat := by omega
      have hk : d.1 = 0 := by
        unfold sx_fd at e1
        split at e1
        · rename_i s w ds hf
          have hm := List.mem_of_find?_eq_some hf
          have := List.all_eq_true.mp (List.all_eq_true.mp u2 _ hm) d (List.mem_of_getElem? e1)
          simpa using this
        · cases e1
      refine ⟨?_, fun q hq => ?_⟩
      · obtain ⟨dk, lo, hi⟩ := d
        dsimp only at hk
        subst hk
        obtain ⟨z, rfl, -⟩ := e2
        rfl
      · rw [← eq, e1] at hq
        cases hq
        exact e2
    · obtain ⟨a, b, y1, y2, y3⟩ := sx_cpy_ok (tau := P.2.2.1) b7 i (by omega)
      have ha : d ∈ a := sx_dl_ok hE (k := zs.toInt.toNat + i) (by rw [sx_add_ev, sx_c_ev]; omega) e1 y1
      have hlt : zd.toInt.toNat + i < f1.length := by omega
      obtain ⟨p, p1, -⟩ := d3 _ _ (List.getElem?_eq_getElem hlt)
      have hb : p ∈ b := sx_dl_ok hE (k := zd.toInt.toNat + i) (by rw [sx_add_ev, sx_c_ev]; omega) p1 y2
      refine ⟨(y3 d ha p hb v e2).1, fun q hq => ?_⟩
      rw [p1] at hq
      cases hq
      exact (y3 d ha p hb v e2).2
  refine ⟨f, f1, c1, d1, ⟨d0 b4, c0 b3, by omega, by omega, by omega, q1, q2, ?_⟩, ?_⟩
  · rw [List.all_eq_true]
    intro v hv
    obtain ⟨i, hi⟩ := List.mem_iff_getElem?.mp hv
    have hlt : i < zn.toInt.toNat := by
      have := (List.getElem?_eq_some_iff.mp hi).1
      rw [List.length_take] at this
      omega
    rw [List.getElem?_take_of_lt hlt, List.getElem?_drop] at hi
    exact (key i hlt v hi).1
  · have hla := sx_lt_of d1
    have hH' : sx_H P.1 P.2.1 P.2.2.1 (h.set (g a1) (1000, mj_cpl f f1 zs.toInt.toNat zd.toInt.toNat zn.toInt.toNat)) := by
      refine sx_H_set hH ht1 hT1 (by rw [sx_cpl_len q1 q2]; exact d2) hla (fun j w hw => ?_) (fun e => absurd e b8)
      rw [sx_cpl_get q1 q2] at hw
      split at hw
      · rename_i hj
        have hlt : j < f1.length := by omega
        obtain ⟨p, p1, -⟩ := d3 _ _ (List.getElem?_eq_getElem hlt)
        refine ⟨p, p1, (key (j - zd.toInt.toNat) (by omega) w hw).2 p ?_⟩
        rw [show zd.toInt.toNat + (j - zd.toInt.toNat) = j by omega]
        exact p1
      · exact d3 j w hw
    have n21 : t1.toNat ≠ 21 := fun e => by rw [e] at b9; cases b9
    have nta : P.2.2.1[g a1]? ≠ some 21 := fun e => n21 (by rw [ht1] at e; exact Option.some.inj e)
    have hmm : 10000 + t1.toNat ∈ mods := by
      unfold sx_kys at hm
      rw [if_neg n21] at hm
      exact of_decide_eq_true hm
    refine ⟨_, List.mem_cons_self, r, g, rfl, ⟨hl, hs, hE, fun u hu => ?_, hH'⟩, fun _ _ => rfl, Nat.le_refl _, fun _ _ => rfl, Nat.le_refl _, sx_ef_ar d1 ht1 (fun key _ => sx_at_n (by omega) nta) (fun _ hn => absurd hmm hn) (fun j hj => by rw [sx_nst_ok b9] at hj; cases hj)⟩
    obtain ⟨kb, ws, w, e1, e3, e4⟩ := hC u hu
    by_cases e : g a1 = g u.1
    · rw [← e] at e1 e3 ⊢
      rw [d1] at e1
      cases e1
      exact ⟨1000, _, w, List.getElem?_set_self hla, by rw [sx_at_n (by omega) nta]; exact e3, e4⟩
    · exact ⟨kb, ws, w, by rw [List.getElem?_set_ne e]; exact e1, e3, e4⟩
end SXQ
