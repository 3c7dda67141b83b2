/-! the checker's cells, sound -/
theorem sx_sum_mod {r : Nat → Int} {p : Int} : ∀ {l : List (Int × Nat)}, (l.all fun q => decide (q.1 % p = 0)) = true → sx_sum r l % p = 0
  | [], _ => by simp [sx_sum]
  | (a, i) :: l, h => by
    rw [List.all_cons, Bool.and_eq_true] at h
    have ih := sx_sum_mod (r := r) h.2
    have ha : a % p = 0 := of_decide_eq_true h.1
    simp only [sx_sum]
    rw [Int.add_emod, Int.mul_emod, ha, ih]
    simp
theorem sx_dl_ok {E : sx_E} {r : Nat → Int} (h : sx_in E r) {i : sx_X} {k : Nat} (hi : sx_ev r i = (k : Int)) {l : List (Nat × Nat × List sx_D)} {d : sx_D} (hd : sx_fd l k = some d) {ds : List sx_D} (hl : sx_dl E i l = some ds) : d ∈ ds := by
  unfold sx_dl at hl
  split at hl
  · rename_i lo hi2 hb
    cases hl
    obtain ⟨b1, b2⟩ := sx_b_ok h hb
    unfold sx_fd at hd
    split at hd
    · rename_i s n dsl hf
      have hm := List.mem_of_find?_eq_some hf
      have hp := List.find?_some hf
      simp only [Bool.and_eq_true, decide_eq_true_eq] at hp
      refine List.mem_flatMap.mpr ⟨_, List.mem_filter.mpr ⟨hm, ?_⟩, ?_⟩
      · simp only [Bool.and_eq_true, decide_eq_true_eq]
        omega
      · dsimp only
        unfold sx_ds
        split
        · rename_i hq
          obtain ⟨q1, q2⟩ := hq
          have hs := sx_sum_mod (r := r) q2
          have e1 : ((k : Int) - s) % (dsl.length : Int) = (i.1 - s) % (dsl.length : Int) := by
            have e2 : (k : Int) - s = (i.1 - s) + sx_sum r i.2 := by unfold sx_ev at hi; omega
            rw [e2, Int.add_emod, hs]
            simp
          have e3 : ((i.1 - s) % (dsl.length : Int)).toNat = (k - s) % dsl.length := by
            rw [← e1]
            have e4 : (k : Int) - s = ((k - s : Nat) : Int) := by omega
            rw [e4, ← Int.natCast_emod, Int.toNat_natCast]
          rw [e3, hd]
          exact List.mem_cons_self
        · exact List.mem_of_getElem? hd
    · cases hd
  · cases hl
theorem sx_hull_ok {tau : List Nat} {d1 d2 e : sx_D} (h : sx_hull d1 d2 = some e) {v : Value} (hv : sx_dr tau d1 v ∨ sx_dr tau d2 v) : sx_dr tau e v := by
  unfold sx_hull at h
  split at h
  · cases h
    rcases hv with ⟨z, e1, e2, e3⟩ | ⟨z, e1, e2, e3⟩
    · exact ⟨z, e1, by omega, by omega⟩
    · exact ⟨z, e1, by omega, by omega⟩
  · cases h
    rcases hv with ⟨z, e1, e2, e3⟩ | ⟨z, e1, e2, e3⟩
    · exact ⟨z, e1, by omega, by omega⟩
    · exact ⟨z, e1, by omega, by omega⟩
  · split at h
    · rename_i ht
      cases h
      subst ht
      rcases hv with hv | hv
      · exact hv
      · exact hv
    · cases h
  · cases h
theorem sx_hl_ok {tau : List Nat} {v : Value} : ∀ {l : List sx_D} {e d : sx_D}, sx_hl l = some e → d ∈ l → sx_dr tau d v → sx_dr tau e v
  | [], e, d, h, _, _ => by cases h
  | [x], e, d, h, hm, hv => by
    cases h
    rw [List.mem_singleton] at hm
    subst hm
    exact hv
  | x :: y :: l, e, d, h, hm, hv => by
    unfold sx_hl at h
    split at h
    · rename_i u hu
      rcases List.mem_cons.mp hm with hm | hm
      · subst hm
        exact sx_hull_ok h (Or.inl hv)
      · exact sx_hull_ok h (Or.inr (sx_hl_ok hu hm hv))
    · cases h
theorem sx_cf_ok {E : sx_E} {r : Nat → Int} (h : sx_in E r) {g : Nat → Nat} {tau : List Nat} {a : sx_A} {d : sx_D} (hc : sx_cf E a d = true) {v : Value} (hv : sx_vr r g tau a v) : sx_dr tau d v := by
  unfold sx_cf at hc
  split at hc
  · rw [Bool.and_eq_true] at hc
    obtain ⟨z, e1, e2⟩ := hv
    exact ⟨z, e1, by rw [e2]; exact sx_ge_ok h hc.1, by rw [e2]; exact sx_le_ok h hc.2⟩
  · rw [Bool.and_eq_true] at hc
    obtain ⟨z, e1, e2⟩ := hv
    exact ⟨z, e1, by rw [e2]; exact sx_ge_ok h hc.1, by rw [e2]; exact sx_le_ok h hc.2⟩
  · rename_i t q w u x
    have ht : t.toNat = u.toNat := of_decide_eq_true hc
    obtain ⟨e1, e2⟩ := hv
    exact ⟨g w, e1, by rw [e2, ht]⟩
  · cases hc
theorem sx_H_set {P : sx_P} {h : mj_H} (hH : sx_H P.1 P.2.1 P.2.2.1 h) {a t kd len : Nat} {l : List (Nat × Nat × List sx_D)} (ht : P.2.2.1[a]? = some t) (hT : P.1[t]? = some (kd, len, l)) {vs' : List Value} (hlen : vs'.length = len) (hla : a < h.length) (hv : ∀ (k : Nat) (v : Value), vs'[k]? = some v → ∃ d, sx_fd l k = some d ∧ sx_dr P.2.2.1 d v) (hg : t = sx_tg → sx_JT vs') : sx_H P.1 P.2.1 P.2.2.1 (h.set a (kd, vs')) := by
  intro b u ty hb hu
  obtain ⟨h1, vs, h2, h3, h4⟩ := hH b u ty hb hu
  refine ⟨h1, ?_⟩
  by_cases e : a = b
  · subst e
    have eu : u = t := Option.some.inj (hb.symm.trans ht)
    subst eu
    have ety : ty = (kd, len, l) := Option.some.inj (hu.symm.trans hT)
    subst ety
    exact ⟨vs', List.getElem?_set_self hla, hlen, hv, hg⟩
  · exact ⟨vs, by rw [List.getElem?_set_ne e]; exact h2, h3, h4⟩
theorem sx_nos_ok {E : sx_E} {r : Nat → Int} (h : sx_in E r) {t : Nat} {i : sx_X} {k : Nat} (hi : sx_ev r i = (k : Int)) (hn : sx_nos E t i = true) : sx_sens t k = false := by
  unfold sx_nos at hn
  rw [Bool.or_eq_true] at hn
  rcases hn with hn | hn
  · exact sx_nst_ok hn
  · split at hn
    · rename_i lo hi2 hb
      obtain ⟨b1, b2⟩ := sx_b_ok h hb
      simp only [Bool.and_eq_true, Bool.or_eq_true, decide_eq_true_eq, beq_iff_eq, Bool.not_eq_true', beq_eq_false_iff_ne] at hn
      obtain ⟨n1, n2⟩ := hn
      have k12 : (k == 12) = false := by
        rw [beq_eq_false_iff_ne]
        omega
      have k5 : ((t == 21 || t == 22) && (decide (184 ≤ k) && (decide (k < 3484) && (k - 184) % 110 == 5))) = false := by
        rcases n2 with n2 | n2 | n2 | ⟨n2, n3, n4, n5⟩
        · subst n2
          rfl
        · rw [show decide (184 ≤ k) = false from decide_eq_false (by omega)]
          simp
        · rw [show decide (k < 3484) = false from decide_eq_false (by omega)]
          simp
        · have hs := sx_sum_mod (r := r) n4
          have e : ((k - 184) % 110 == 5) = false := by
            rw [beq_eq_false_iff_ne]
            intro e
            apply n5
            have e2 : i.1 - 184 = ((k - 184 : Nat) : Int) - sx_sum r i.2 := by
              unfold sx_ev at hi
              omega
            omega
          rw [e]
          simp
      unfold sx_sens
      rw [k12, k5]
      simp
    · cases hn
theorem sx_lt_of {h : mj_H} {a : Nat} {q : mj_C} (ha : h[a]? = some q) : a < h.length := (List.getElem?_eq_some_iff.mp ha).1
/-- an index that surely is in range -/
theorem sx_ixok {E : sx_E} {r : Nat → Int} (h : sx_in E r) {i : sx_X} {z : Int32} (hz : z.toInt = sx_ev r i) {len : Nat} (hb : (sx_ge E i 0 && sx_le E i ((len : Int) - 1)) = true) : mj_ix z len = some z.toInt.toNat ∧ sx_ev r i = (z.toInt.toNat : Int) ∧ z.toInt.toNat < len := by
  rw [Bool.and_eq_true] at hb
  have h1 := sx_ge_ok h hb.1
  have h2 := sx_le_ok h hb.2
  refine ⟨?_, by omega, by omega⟩
  unfold mj_ix
  rw [if_pos (by omega)]
section SXH
variable {P : sx_P} {r : Nat → Int} {g : Nat → Nat} {lv : mj_L} {st : List Value} {h : mj_H} {ls : List (Option sx_A)} {ss S0 : List sx_A} {E : sx_E} {nr p0 : Nat} {C : sx_C} {mods : List Nat}
/-- the cell behind a reference -/
theorem sx_cell (hH : sx_H P.1 P.2.1 P.2.2.1 h) {t : Int} {a : Nat} (ht : P.2.2.1[g a]? = some t.toNat) {ty : sx_Ty} (hT : sx_ty P t = some ty) : (P.2.1 ≤ t.toNat → mj_n0 ≤ g a) ∧ ∃ vs, h[g a]? = some (ty.1, vs) ∧ vs.length = ty.2.1 ∧ (∀ (k : Nat) (v : Value), vs[k]? = some v → ∃ d, sx_fd ty.2.2 k = some d ∧ sx_dr P.2.2.1 d v) ∧ (t.toNat = sx_tg → sx_JT vs) := hH (g a) t.toNat ty ht hT
/-- an array is read -/
theorem sx_ald_ok {pc lo hi : Nat} {q : Int} {a : Nat} {t : Int} {i : sx_X} {z : Int32} {L : List sx_S} (hp : sx_ald P (pc, ls, (0, i) :: (2, (t, [(q, a)])) :: ss, E, nr, C) lo hi = some L) (hl : sx_lr r g P.2.2.1 ls lv) (hs : sx_sr r g P.2.2.1 ss st) (hE : sx_in E r) (hC : sx_cr r g P.2.2.1 C h) (hH : sx_H P.1 P.2.1 P.2.2.1 h) (hz : z.toInt = sx_ev r i) (ht : P.2.2.1[g a]? = some t.toNat) :
    ∃ (kd : Nat) (v : Value) (vs : List Value), h[g a]? = some (kd, vs) ∧ lo ≤ kd ∧ kd ≤ hi ∧ mj_el h (g a) kd z = some v ∧ sx_to P r g nr E.length mods h L (pc + 1) lv (v :: st) h := by
  simp only [sx_ald] at hp
  split at hp
  · rename_i kd len l hT
    split at hp
    · rename_i hb
      obtain ⟨b1, b2, b4, b3⟩ := hb
      obtain ⟨-, vs, c1, c2, c3, -⟩ := sx_cell hH ht hT
      obtain ⟨x1, x2, x3⟩ := sx_ixok hE hz b3
      dsimp only at c1 c2 c3
      have hlt : z.toInt.toNat < vs.length := by omega
      have hv : vs[z.toInt.toNat]? = some vs[z.toInt.toNat] := List.getElem?_eq_getElem hlt
      obtain ⟨d0, d1, d2⟩ := c3 _ _ hv
      have hel : mj_el h (g a) kd z = some vs[z.toInt.toNat] := by
        unfold mj_el
        rw [c1]
        dsimp only
        rw [if_pos rfl, c2, x1]
        exact hv
      split at hp
      · rename_i key hkey
        have hat : sx_at P.2.2.1 (g a) (kd, vs) key = some vs[z.toInt.toNat] := by
          unfold sx_aky at hkey
          split at hkey
          · rename_i n
            split at hkey
            · rename_i hn
              cases hkey
              have hz2 : z.toInt = n := by rw [hz]; simp [sx_ev, sx_sum]
              have e : n.toNat = z.toInt.toNat := by rw [hz2]
              rw [sx_at_a (by omega) (by rw [ht, hn.1]) (by omega), e]
              exact hv
            · cases hkey
          · cases hkey
        split at hp
        · rename_i z1 z2 av hfind
          cases hp
          have hm := List.mem_of_find?_eq_some hfind
          have hpz := List.find?_some hfind
          simp only [Bool.and_eq_true, beq_iff_eq] at hpz
          obtain ⟨rfl, rfl⟩ := hpz
          obtain ⟨kb, ws, v, e1, e3, e4⟩ := hC _ hm
          dsimp only at e1 e3 e4
          rw [c1] at e1
          cases e1
          rw [hat] at e3
          cases e3
          exact ⟨kd, _, vs, c1, b1, b2, hel, sx_stay (ss := av :: ss) (st := _ :: st) hl ⟨e4, hs⟩ hE hC hH⟩
        · split at hp
          · rename_i ds hds
            split at hp
            · rename_i d hd
              exact ⟨kd, _, vs, c1, b1, b2, hel, sx_pd_ok rfl hp hl hs hE hC hH (sx_hl_ok hd (sx_dl_ok hE x2 d1 hds) d2) (fun q hq => by cases hq; exact ⟨kd, vs, c1, hat⟩)⟩
            · cases hp
          · cases hp
      · split at hp
        · rename_i ds hds
          split at hp
          · rename_i d hd
            exact ⟨kd, _, vs, c1, b1, b2, hel, sx_pd_ok rfl hp hl hs hE hC hH (sx_hl_ok hd (sx_dl_ok hE x2 d1 hds) d2) (fun q hq => by cases hq)⟩
          · cases hp
        · cases hp
    · cases hp
  · cases hp
/-- what a write into an array may touch -/
theorem sx_kys_ok {t : Nat} {i : sx_X} {j : Nat} (hE : sx_in E r) (hi : sx_ev r i = (j : Int)) (hm : sx_kys E mods t i = true) : (t = 21 → j < 16 → 20000 + j ∈ mods) ∧ (t = 21 → 16 ≤ j → 10000 + t ∈ mods) ∧ (t ≠ 21 → 10000 + t ∈ mods) := by
  unfold sx_kys at hm
  split at hm
  · rename_i e
    subst e
    split at hm
    · rename_i lo hi2 hb
      obtain ⟨b1, b2⟩ := sx_b_ok hE hb
      rw [Bool.and_eq_true, Bool.or_eq_true, decide_eq_true_eq, decide_eq_true_eq] at hm
      refine ⟨fun _ hj => ?_, fun _ hj => ?_, fun e => absurd rfl e⟩
      · have := List.all_eq_true.mp hm.2 j (List.mem_range.mpr hj)
        simp only [Bool.or_eq_true, decide_eq_true_eq] at this
        rcases this with h1 | h1 | h1
        · omega
        · omega
        · exact h1
      · rcases hm.1 with h1 | h1
        · omega
        · exact h1
    · cases hm
  · rename_i e
    exact ⟨fun e2 => absurd e2 e, fun e2 => absurd e2 e, fun _ => of_decide_eq_true hm⟩
/-- an array is written -/
theorem sx_ast_ok {pc vk kd0 : Nat} {q : Int} {a : Nat} {t : Int} {i x : sx_X} {k : Nat} {z : Int32} {v : Value} {L : List sx_S} (h1000 : 1000 ≤ kd0) (hp : sx_ast P (pc, ls, (k, x) :: (0, i) :: (2, (t, [(q, a)])) :: ss, E, nr, C) vk kd0 = some L) (hl : sx_lr r g P.2.2.1 ls lv) (hs : sx_sr r g P.2.2.1 ss st) (hE : sx_in E r) (hC : sx_cr r g P.2.2.1 C h) (hH : sx_H P.1 P.2.1 P.2.2.1 h) (hz : z.toInt = sx_ev r i) (ht : P.2.2.1[g a]? = some t.toNat) (hv : sx_vr r g P.2.2.1 (k, x) v) (hm : sx_kys E mods t.toNat i = true) :
    k = vk ∧ ∃ h', mj_es mj_n0 h (g a) kd0 z v = some h' ∧ sx_to P r g nr E.length mods h L (pc + 1) lv st h' := by
  simp only [sx_ast] at hp
  split at hp
  · rename_i kd len l hT
    split at hp
    · rename_i hb
      obtain ⟨b0, b1, b2, b4, b5, b3⟩ := hb
      subst b1
      split at hp
      · rename_i ds hds
        split at hp
        · rename_i hall
          cases hp
          obtain ⟨c0, vs, c1, c2, c3, -⟩ := sx_cell hH ht hT
          obtain ⟨x1, x2, x3⟩ := sx_ixok hE hz b3
          dsimp only at c1 c2 c3
          have hla := sx_lt_of c1
          obtain ⟨m1, m2, m3⟩ := sx_kys_ok hE x2 hm
          refine ⟨b0, h.set (g a) (kd, vs.set z.toInt.toNat v), ?_, ?_⟩
          · unfold mj_es
            rw [c1]
            dsimp only
            rw [if_pos ⟨rfl, c0 b2⟩, c2, x1]
          · have hH' : sx_H P.1 P.2.1 P.2.2.1 (h.set (g a) (kd, vs.set z.toInt.toNat v)) := by
              refine sx_H_set hH ht hT (by rw [List.length_set]; exact c2) hla (fun j w hw => ?_) (fun e => absurd e b4)
              by_cases e : z.toInt.toNat = j
              · subst e
                rw [List.getElem?_set_self (by omega)] at hw
                cases hw
                have hv0 : vs[z.toInt.toNat]? = some vs[z.toInt.toNat] := List.getElem?_eq_getElem (by omega)
                obtain ⟨d0, d1, d2⟩ := c3 _ _ hv0
                exact ⟨d0, d1, sx_cf_ok hE (List.all_eq_true.mp hall d0 (sx_dl_ok hE x2 d1 hds)) hv⟩
              · rw [List.getElem?_set_ne e] at hw
                exact c3 j w hw
            have hef : sx_ef P.2.2.1 mods h (h.set (g a) (kd, vs.set z.toInt.toNat v)) := by
              refine sx_ef_ar c1 ht (fun key hk => sx_at_as (by omega) (fun e1 e2 e3 => hk ?_)) (fun _ hn j hj => ?_) (fun j hj => List.getElem?_set_ne (fun e => by subst e; rw [sx_nos_ok hE x2 b5] at hj; cases hj))
              · rw [ht] at e1
                rw [e3]
                exact m1 (Option.some.inj e1) (by omega)
              · refine List.getElem?_set_ne (fun e => hn ?_)
                subst e
                by_cases h21 : t.toNat = 21
                · exact m2 h21 (hj h21)
                · exact m3 h21
            refine ⟨_, List.mem_cons_self, r, g, rfl, ⟨hl, hs, hE, fun u hu => ?_, hH'⟩, fun _ _ => rfl, Nat.le_refl _, fun _ _ => rfl, Nat.le_refl _, hef⟩
            have old : u ∈ C → (t.toNat = 21 → u.2.1 < 20016 → u.2.1 ≠ 20000 + z.toInt.toNat) → ∃ (kd' : Nat) (vs' : List Value) (w : Value), (h.set (g a) (kd, vs.set z.toInt.toNat v))[g u.1]? = some (kd', vs') ∧ sx_at P.2.2.1 (g u.1) (kd', vs') u.2.1 = some w ∧ sx_vr r g P.2.2.1 u.2.2 w := by
              intro hu hne
              obtain ⟨kb, ws, w, e1, e3, e4⟩ := hC u hu
              by_cases e : g a = g u.1
              · rw [← e] at e1 e3 ⊢
                rw [c1] at e1
                cases e1
                exact ⟨kd, _, w, List.getElem?_set_self hla, by rw [sx_at_as (by omega) (fun q1 q2 => hne (by rw [ht] at q1; exact Option.some.inj q1) q2)]; exact e3, e4⟩
              · exact ⟨kb, ws, w, by rw [List.getElem?_set_ne e]; exact e1, e3, e4⟩
            unfold sx_akl at hu
            split at hu
            · rename_i h21
              split at hu
              · rename_i lo hi2 hb2
                have bz := sx_b_ok hE hb2
                rcases List.mem_append.mp hu with hu | hu
                · split at hu
                  · rename_i key hkey
                    rw [List.mem_singleton] at hu
                    subst hu
                    unfold sx_aky at hkey
                    split at hkey
                    · rename_i n
                      split at hkey
                      · rename_i hn
                        cases hkey
                        have hz2 : z.toInt = n := by rw [hz]; simp [sx_ev, sx_sum]
                        have e : n.toNat = z.toInt.toNat := by rw [hz2]
                        refine ⟨kd, _, v, List.getElem?_set_self hla, ?_, hv⟩
                        dsimp only
                        rw [sx_at_a (by omega) (by rw [ht, h21]) (by omega), e]
                        exact List.getElem?_set_self (by omega)
                      · cases hkey
                    · cases hkey
                  · cases hu
                · obtain ⟨u1, u2⟩ := List.mem_filter.mp hu
                  refine old u1 (fun _ _ e => ?_)
                  rw [Bool.not_eq_true', Bool.and_eq_false_iff, decide_eq_false_iff_not, decide_eq_false_iff_not] at u2
                  omega
              · cases hu
            · rename_i h21
              exact old hu (fun e => absurd e h21)
        · cases hp
      · cases hp
    · cases hp
  · cases hp
end SXH
