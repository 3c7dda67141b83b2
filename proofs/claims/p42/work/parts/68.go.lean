/-! the driver -/
def sx_args (E : sx_E) : List sx_A → List sx_D → Bool
  | [], [] => true
  | a :: l, d :: ds => sx_cf E a d && sx_args E l ds
  | _, _ => false
def sx_lvx : List Int → List sx_A → sx_X
  | f :: l, (0, x) :: as => sx_add (sx_mulc f x) (sx_lvx l as)
  | f :: l, (1, x) :: as => sx_add (sx_mulc f x) (sx_lvx l as)
  | _ :: l, _ :: as => sx_lvx l as
  | _, _ => sx_c 0
def sx_num : Value → Int
  | .int z => z.toInt
  | .long z => z.toInt
  | _ => 0
def sx_lvv : List Int → List Value → Int
  | f :: l, v :: vs => f * sx_num v + sx_lvv l vs
  | _, _ => 0
def sx_lev (K : sx_K) (vs : List Value) : Int := K.2.2.1.1 + sx_lvv K.2.2.1.2 vs
def sx_ag (tau : List Nat) : List sx_D → List Value → Prop
  | [], [] => True
  | d :: l, v :: vs => sx_dr tau d v ∧ sx_ag tau l vs
  | _, _ => False
/-- what a method may add to the places that count: 1000000000 and as much among what it may write -/
def sx_cost (mods : List Nat) : Nat := mods.foldl (fun n k => if 1000000000 ≤ k ∧ k < 2000000000 then max n (k - 1000000000) else n) 0
/-- what each call in place may add: 2000000000 and as much -/
def sx_ib (mods : List Nat) : Nat := mods.foldl (fun n k => if 2000000000 ≤ k then max n (k - 2000000000) else n) 0
/-- what a method promises, with calls d deep -/
def sx_M (P : sx_P) (d c : Nat) (K : sx_K) : Prop := ∀ (vs : List Value) (h : mj_H), sx_H P.1 P.2.1 P.2.2.1 h → sx_ag P.2.2.1 K.1 vs → sx_lev K vs ≤ d → ∀ B : Int, sx_W P.2.2.1 h B → B + sx_cost K.2.2.2 ≤ sx_mx → ∃ lv0, mj_ent (mj_nl c) vs = some lv0 ∧ ∃ f v h', mj_run f d c 0 lv0 [] h = some (v, h') ∧ sx_H P.1 P.2.1 P.2.2.1 h' ∧ sx_an P.2.2.1 K.2.1 v ∧ sx_ef P.2.2.1 K.2.2.2 h h' ∧ h'.length = h.length ∧ sx_W P.2.2.1 h' (B + sx_cost K.2.2.2)
section SXG
variable {P : sx_P} {r : Nat → Int} {g : Nat → Nat}
theorem sx_args_ok {E : sx_E} (hE : sx_in E r) : ∀ {as : List sx_A} {ds : List sx_D} {vs : List Value}, sx_args E as ds = true → sx_sr r g P.2.2.1 as vs → sx_ag P.2.2.1 ds vs ∧ ∀ fs, sx_ev r (sx_lvx fs as) = sx_lvv fs vs
  | [], [], [], _, _ => ⟨trivial, fun fs => by cases fs <;> simp only [sx_lvx, sx_lvv] <;> exact sx_c_ev r 0⟩
  | a :: l, d :: ds, v :: vs, ha, hs => by
    unfold sx_args at ha
    rw [Bool.and_eq_true] at ha
    obtain ⟨i1, i2⟩ := sx_args_ok hE ha.2 hs.2
    have hd := sx_cf_ok hE ha.1 hs.1
    refine ⟨⟨hd, i1⟩, fun fs => ?_⟩
    cases fs with
    | nil => simp only [sx_lvx, sx_lvv]; exact sx_c_ev r 0
    | cons f fs =>
      have hv := hs.1
      have hc := ha.1
      unfold sx_cf at hc
      split at hc
      · obtain ⟨z, rfl, hz⟩ := hv
        simp only [sx_lvx, sx_lvv, sx_num]
        rw [sx_add_ev, sx_mulc_ev, i2, hz]
      · obtain ⟨z, rfl, hz⟩ := hv
        simp only [sx_lvx, sx_lvv, sx_num]
        rw [sx_add_ev, sx_mulc_ev, i2, hz]
      · obtain ⟨rfl, -⟩ := hv
        simp only [sx_lvx, sx_lvv, sx_num]
        rw [i2]
        omega
      · cases hc
  | [], [], _ :: _, _, hs => hs.elim
  | _ :: _, _, [], _, hs => hs.elim
  | [], _ :: _, _, ha, _ => by simp [sx_args] at ha
  | _ :: _, [], _ :: _, ha, _ => by simp [sx_args] at ha
def sx_cK (P : sx_P) (m : Nat) (X0 : sx_X) (mods : List Nat) (i : Instr) (S : sx_S) : Option (List sx_S) := match S with
  | (pc, ls, ss, E, nr, C) => match sx_cl P m i ss with
    | some (c, as, s2) => match P.2.2.2[c]? with
      | some (some K) => if (sx_args E as K.1 && (sx_ge E (sx_add (sx_c K.2.2.1.1) (sx_lvx K.2.2.1.2 as)) 0 && (sx_ge E (sx_sub (sx_sub X0 (sx_add (sx_c K.2.2.1.1) (sx_lvx K.2.2.1.2 as))) (sx_c 1)) 0 && K.2.2.2.all fun k => decide (k ∈ mods)))) = true then
          match K.2.1 with
          | none => some [(pc + 3, ls, s2, E, nr, C.filter fun z => decide (z.2.1 ∉ K.2.2.2))]
          | some d => sx_pd (pc, ls, ss, E, nr, C.filter fun z => decide (z.2.1 ∉ K.2.2.2)) (pc + 3) s2 d none
        else none
      | _ => none
    | none => none
theorem sx_cr_ef {C : sx_C} {h h1 : mj_H} {mods : List Nat} (hC : sx_cr r g P.2.2.1 C h) (he : sx_ef P.2.2.1 mods h h1) : sx_cr r g P.2.2.1 (C.filter fun z => decide (z.2.1 ∉ mods)) h1 := by
  intro q hq
  obtain ⟨q1, q2⟩ := List.mem_filter.mp hq
  have q3 : q.2.1 ∉ mods := of_decide_eq_true q2
  obtain ⟨kd, vs, v, e1, e3, e4⟩ := hC q q1
  obtain ⟨vs', f1, f2⟩ := he.1 _ kd vs e1
  exact ⟨kd, vs', v, f1, by rw [f2 _ q3]; exact e3, e4⟩
theorem sx_to_tr {n : Nat} {mods : List Nat} {h h1 h2 : mj_H} {L : List sx_S} {pc nr : Nat} {lv : mj_L} {st : List Value} (he : sx_ef P.2.2.1 mods h h1) (ht : sx_to P r g nr n mods h1 L pc lv st h2) : sx_to P r g nr n mods h L pc lv st h2 := by
  obtain ⟨S', m1, r', g', e1, e2, e3, e4, e6, e7, e5⟩ := ht
  exact ⟨S', m1, r', g', e1, e2, e3, e4, e6, e7, sx_ef_tr he e5⟩
/-- what a call at this place may add -/
def sx_cst (b : Nat) (P : sx_P) (m : Nat) (i : Instr) (S : sx_S) : Nat := match sx_cl P m i S.2.2.1 with
  | some (c, _, _) => match P.2.2.2[c]? with
    | some (some K) => sx_cost K.2.2.2
    | _ => b
  | none => 0
theorem sx_cK_ok {m pc d b : Nat} {B : Int} {X0 : sx_X} {mods : List Nat} {i : Instr} {ls : List (Option sx_A)} {ss : List sx_A} {E : sx_E} {nr : Nat} {C : sx_C} {L : List sx_S} {lv : mj_L} {st : List Value} {h : mj_H} (hp : sx_cK P m X0 mods i (pc, ls, ss, E, nr, C) = some L) (hl : sx_lr r g P.2.2.1 ls lv) (hs : sx_sr r g P.2.2.1 ss st) (hE : sx_in E r) (hC : sx_cr r g P.2.2.1 C h) (hH : sx_H P.1 P.2.1 P.2.2.1 h) (hX : sx_ev r X0 ≤ d) (hW : sx_W P.2.2.1 h B) (hB : B + sx_cst b P m i (pc, ls, ss, E, nr, C) ≤ sx_mx) (IH : ∀ d', d' < d → ∀ c K, P.2.2.2[c]? = some (some K) → sx_M P d' c K) :
    mj_end m i st = none ∧ ∃ c vs t2 d' lv0 f v h', d = d' + 1 ∧ mj_call m i st h = some (c, vs, t2) ∧ mj_ent (mj_nl c) vs = some lv0 ∧ mj_run f d' c 0 lv0 [] h = some (v, h') ∧ h'.length = h.length ∧ sx_to P r g nr E.length mods h L (pc + 3) lv (v.toList ++ t2) h' ∧ sx_W P.2.2.1 h' (B + sx_cst b P m i (pc, ls, ss, E, nr, C)) := by
  simp only [sx_cK] at hp
  split at hp
  · rename_i c as s2 hcl
    obtain ⟨n1, vs, t2, n2, n3, n4⟩ := sx_cl_ok (h := h) hcl hs hH
    refine ⟨n1, ?_⟩
    split at hp
    · rename_i K hK
      have hcs : sx_cst b P m i (pc, ls, ss, E, nr, C) = sx_cost K.2.2.2 := by
        unfold sx_cst
        dsimp only
        rw [hcl]
        dsimp only
        rw [hK]
      rw [hcs] at hB ⊢
      split at hp
      · rename_i hb
        simp only [Bool.and_eq_true] at hb
        obtain ⟨b1, b2, b3, b4⟩ := hb
        obtain ⟨a1, a2⟩ := sx_args_ok hE b1 n3
        have u2 := sx_ge_ok hE b2
        have u3 := sx_ge_ok hE b3
        rw [sx_sub_ev, sx_sub_ev, sx_c_ev] at u3
        have u4 : sx_ev r (sx_add (sx_c K.2.2.1.1) (sx_lvx K.2.2.1.2 as)) = sx_lev K vs := by
          rw [sx_add_ev, sx_c_ev, a2]
          rfl
        rw [u4] at u2 u3
        cases d with
        | zero => exfalso; omega
        | succ d =>
          obtain ⟨lv0, k1, f, v, h', k2, k3, k4, k5, k6, k7⟩ := IH d (by omega) c K hK vs h hH a1 (by omega) B hW hB
          refine ⟨c, vs, t2, d, lv0, f, v, h', rfl, n2, k1, k2, k6, ?_, k7⟩
          have hC' := sx_cr_ef hC k5
          have he : sx_ef P.2.2.1 mods h h' := sx_ef_sub k5 (fun k hk => of_decide_eq_true (List.all_eq_true.mp b4 k hk))
          refine sx_to_tr he ?_
          unfold sx_an at k4
          split at hp
          · rename_i ho
            rw [ho] at k4
            subst k4
            cases hp
            exact sx_stay hl n4 hE hC' k3
          · rename_i dd ho
            rw [ho] at k4
            obtain ⟨w, rfl, hw⟩ := k4
            exact sx_pd_ok rfl hp hl n4 hE hC' k3 hw (fun q hq => by cases hq)
      · cases hp
    · cases hp
  · cases hp
end SXG
