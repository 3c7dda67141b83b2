/-! cut points: a state is matched with a schema -/
/-- a cut: place, locals, intervals, number of references, cache; how its unknowns are got from a state's slots (locals, then cache); from which local a reference comes; its measure; what was spent at most -/
abbrev sx_T : Type := Nat × List (Option sx_A) × sx_E × Nat × sx_C × List (Int × List (Int × Nat)) × List Nat × sx_X × sx_X
def sx_subl (X : List sx_X) : List (Int × Nat) → sx_X
  | [] => sx_c 0
  | (a, i) :: l => sx_add (sx_mulc a (X.getD i (sx_c 0))) (sx_subl X l)
def sx_subst (X : List sx_X) (x : sx_X) : sx_X := sx_add (sx_c x.1) (sx_subl X x.2)
def sx_rX (r : Nat → Int) (X : List sx_X) : Nat → Int := fun j => sx_ev r (X.getD j (sx_c 0))
def sx_gX (g : Nat → Nat) (rho : List Nat) : Nat → Nat := fun a => g (rho.getD a 0)
theorem sx_subl_ev (r : Nat → Int) (X : List sx_X) : ∀ l, sx_ev r (sx_subl X l) = sx_sum (sx_rX r X) l
  | [] => by simp only [sx_subl, sx_sum]; rw [sx_c_ev]
  | (a, i) :: l => by
    simp only [sx_subl, sx_sum]
    rw [sx_add_ev, sx_mulc_ev, sx_subl_ev r X l]
    rfl
theorem sx_subst_ev (r : Nat → Int) (X : List sx_X) (x : sx_X) : sx_ev r (sx_subst X x) = sx_ev (sx_rX r X) x := by
  unfold sx_subst
  rw [sx_add_ev, sx_c_ev, sx_subl_ev]
  rfl
def sx_z (z : sx_X) : Bool := decide (z.1 = 0) && z.2.isEmpty
theorem sx_z_ok {r : Nat → Int} {x y : sx_X} (h : sx_z (sx_sub x y) = true) : sx_ev r x = sx_ev r y := by
  unfold sx_z at h
  rw [Bool.and_eq_true] at h
  have h1 : (sx_sub x y).1 = 0 := of_decide_eq_true h.1
  have h2 : (sx_sub x y).2 = [] := List.isEmpty_iff.mp h.2
  have h3 : sx_ev r (sx_sub x y) = 0 := by
    unfold sx_ev
    rw [h1, h2]
    rfl
  rw [sx_sub_ev] at h3
  omega
def sx_ma (X : List sx_X) (rho : List Nat) : sx_A → sx_A → Bool
  | (2, (t, [(_, a)])), (2, (u, [(_, b)])) => decide (t.toNat = u.toNat) && decide (rho[a]? = some b)
  | (0, x), (0, y) => sx_z (sx_sub (sx_subst X x) y)
  | (1, x), (1, y) => sx_z (sx_sub (sx_subst X x) y)
  | _, _ => false
theorem sx_ma_ok {X : List sx_X} {rho : List Nat} {r : Nat → Int} {g : Nat → Nat} {tau : List Nat} {a b : sx_A} {v : Value} (h : sx_ma X rho a b = true) (hv : sx_vr r g tau b v) : sx_vr (sx_rX r X) (sx_gX g rho) tau a v := by
  unfold sx_ma at h
  split at h
  · rename_i t q a u q2 b
    rw [Bool.and_eq_true] at h
    have h1 : t.toNat = u.toNat := of_decide_eq_true h.1
    have h2 : rho[a]? = some b := of_decide_eq_true h.2
    have e : sx_gX g rho a = g b := by
      unfold sx_gX
      rw [List.getD_eq_getElem?_getD, h2]
      rfl
    obtain ⟨e1, e2⟩ := hv
    show v = .ref (sx_gX g rho a) ∧ tau[sx_gX g rho a]? = some t.toNat
    rw [e, h1]
    exact ⟨e1, e2⟩
  · obtain ⟨z, e1, e2⟩ := hv
    exact ⟨z, e1, by rw [e2, ← sx_z_ok h, sx_subst_ev]⟩
  · obtain ⟨z, e1, e2⟩ := hv
    exact ⟨z, e1, by rw [e2, ← sx_z_ok h, sx_subst_ev]⟩
  · cases h
def sx_m1 (X : List sx_X) (rho : List Nat) : List (Option sx_A) → List (Option sx_A) → Bool
  | [], [] => true
  | none :: l, _ :: l2 => sx_m1 X rho l l2
  | some a :: l, some b :: l2 => sx_ma X rho a b && sx_m1 X rho l l2
  | _, _ => false
theorem sx_m1_ok {X : List sx_X} {rho : List Nat} : ∀ {l l2 : List (Option sx_A)}, sx_m1 X rho l l2 = true → l.length = l2.length ∧ ∀ (i : Nat) (a : sx_A), l[i]? = some (some a) → ∃ b, l2[i]? = some (some b) ∧ sx_ma X rho a b = true
  | [], [], _ => ⟨rfl, fun i a h => by simp at h⟩
  | none :: l, q :: l2, h => by
    unfold sx_m1 at h
    obtain ⟨e1, e2⟩ := sx_m1_ok h
    refine ⟨by simp [e1], fun i a ha => ?_⟩
    cases i with
    | zero => simp at ha
    | succ i => exact e2 i a (by simpa using ha)
  | some a :: l, some b :: l2, h => by
    unfold sx_m1 at h
    rw [Bool.and_eq_true] at h
    obtain ⟨e1, e2⟩ := sx_m1_ok h.2
    refine ⟨by simp [e1], fun i c hc => ?_⟩
    cases i with
    | zero =>
      simp at hc
      subst hc
      exact ⟨b, rfl, h.1⟩
    | succ i => exact e2 i c (by simpa using hc)
  | some a :: l, none :: l2, h => by simp [sx_m1] at h
  | some a :: l, [], h => by simp [sx_m1] at h
  | none :: l, [], h => by simp [sx_m1] at h
  | [], _ :: _, h => by simp [sx_m1] at h
def sx_mc (X : List sx_X) (rho : List Nat) (C : sx_C) (D : sx_C) : Bool := D.all fun q => match rho[q.1]? with
  | some b => match C.find? (fun z => z.1 == b && z.2.1 == q.2.1) with
    | some z => sx_ma X rho q.2.2 z.2.2
    | none => false
  | none => false
theorem sx_mc_ok {X : List sx_X} {rho : List Nat} {C D : sx_C} {r : Nat → Int} {g : Nat → Nat} {tau : List Nat} {h : mj_H} (hm : sx_mc X rho C D = true) (hC : sx_cr r g tau C h) : sx_cr (sx_rX r X) (sx_gX g rho) tau D h := by
  intro q hq
  have h1 := List.all_eq_true.mp hm q hq
  split at h1
  · rename_i b hb
    split at h1
    · rename_i z hz
      have hz1 := List.mem_of_find?_eq_some hz
      have hz2 := List.find?_some hz
      simp only [Bool.and_eq_true, beq_iff_eq] at hz2
      obtain ⟨kd, vs, v, e1, e3, e4⟩ := hC z hz1
      have e : sx_gX g rho q.1 = g b := by
        unfold sx_gX
        rw [List.getD_eq_getElem?_getD, hb]
        rfl
      exact ⟨kd, vs, v, by rw [e, ← hz2.1]; exact e1, by rw [e, ← hz2.1, ← hz2.2]; exact e3, sx_ma_ok h1 e4⟩
    · cases h1
  · cases h1
def sx_mE (E : sx_E) (X : List sx_X) : Nat → List sx_X → sx_E → Bool
  | _, [], [] => true
  | i, x :: l, (lo, hi, cs) :: F => sx_ge E x lo && (sx_le E x hi && ((cs.all fun y => sx_bel (i + 1) y && sx_ge E (sx_subst X y) 0) && sx_mE E X (i + 1) l F))
  | _, _, _ => false
theorem sx_mE_ok {E : sx_E} {r : Nat → Int} (h : sx_in E r) {X : List sx_X} : ∀ {n : Nat} {Y : List sx_X} {F : sx_E}, sx_mE E X n Y F = true → Y = X.drop n → ∀ (i : Nat) (q : Int × Int × List sx_X), F[i]? = some q → q.1 ≤ sx_rX r X (n + i) ∧ sx_rX r X (n + i) ≤ q.2.1 ∧ ∀ y ∈ q.2.2, sx_bel (n + i + 1) y = true ∧ 0 ≤ sx_ev (sx_rX r X) y
  | n, [], [], _, _ => fun i q hq => by simp at hq
  | n, x :: l, (lo, hi, cs) :: F, hm, hY => by
    unfold sx_mE at hm
    simp only [Bool.and_eq_true] at hm
    have hl : l = X.drop (n + 1) := by
      have := congrArg (List.drop 1) hY
      simpa using this
    have hx : sx_rX r X n = sx_ev r x := by
      unfold sx_rX
      have e : X[n]? = some x := by
        have e1 : (X.drop n)[0]? = some x := by rw [← hY]; rfl
        rw [List.getElem?_drop] at e1
        exact e1
      rw [List.getD_eq_getElem?_getD, e]
      rfl
    have ih := sx_mE_ok h hm.2.2.2 hl
    intro i q hq
    cases i with
    | zero =>
      cases hq
      rw [Nat.add_zero, hx]
      refine ⟨sx_ge_ok h hm.1, sx_le_ok h hm.2.1, fun y hy => ?_⟩
      have h1 := List.all_eq_true.mp hm.2.2.1 y hy
      rw [Bool.and_eq_true] at h1
      refine ⟨h1.1, ?_⟩
      have := sx_ge_ok h h1.2
      rw [sx_subst_ev] at this
      exact this
    | succ i =>
      have := ih i q (by simpa using hq)
      rw [show n + (i + 1) = n + 1 + i by omega]
      exact this
  | n, [], _ :: _, hm, _ => by simp [sx_mE] at hm
  | n, _ :: _, [], hm, _ => by simp [sx_mE] at hm
/-- a state fits a cut; n0 the number of the method's own unknowns; M the measure of the block's start -/
def sx_mt (n0 : Nat) (M : Option sx_X) (q : sx_X) (S : sx_S) (T : sx_T) : Bool := match S, T with
  | (_, ls, ss, E, nr, C), (_, tl, F, _, D, inv, rs, Tm, Tq) =>
    let rho := rs.map fun i => if i < 10000 then (match ls[i]? with
      | some (some (2, (_, [(_, a)]))) => a
      | _ => nr) else match ls[(i - 10000) / 2000]? with
      | some (some (2, (_, [(_, a)]))) => (match C.find? (fun z => z.1 == a && z.2.1 == (i - 10000) % 2000) with
        | some (_, _, (2, (_, [(_, b)]))) => b
        | _ => nr)
      | _ => nr
    let cv : List sx_X := D.map fun q => match C.find? (fun z => z.1 == rho.getD q.1 nr && z.2.1 == q.2.1) with
      | some z => z.2.2.2
      | none => sx_c 0
    let sl : List sx_X := (ls.map fun o => match o with
      | some a => a.2
      | none => sx_c 0) ++ cv
    let X := (List.range n0).map sx_v ++ inv.map fun q => sx_add (sx_c q.1) (sx_subl sl q.2)
    ss.isEmpty && (sx_m1 X rho tl ls && (sx_mc X rho C D && (sx_mE E X 0 X F && ((List.range n0).all (fun j => decide (X[j]? = some (sx_v j))) && (sx_ge E (sx_sub (sx_subst X Tq) q) 0 && (match M with
      | some x => sx_ge E (sx_sub (sx_sub x (sx_subst X Tm)) (sx_c 1)) 0
      | none => true))))))
def sx_st (T : sx_T) : sx_S := match T with
  | (pc, tl, F, nr, D, _, _, _, _) => (pc, tl, [], F, nr, D)
theorem sx_mt_ok {P : sx_P} {r : Nat → Int} {g : Nat → Nat} {lv : mj_L} {st : List Value} {h : mj_H} {S : sx_S} {T : sx_T} {n0 : Nat} {M : Option sx_X} {q : sx_X} (hm : sx_mt n0 M q S T = true) (hg : sx_g P.1 P.2.1 P.2.2.1 r g S lv st h) :
    ∃ r' g', st = [] ∧ sx_g P.1 P.2.1 P.2.2.1 r' g' (sx_st T) lv st h ∧ (∀ j, j < n0 → r' j = r j) ∧ (∀ x, M = some x → sx_ev r' T.2.2.2.2.2.2.2.1 + 1 ≤ sx_ev r x) ∧ sx_ev r q ≤ sx_ev r' T.2.2.2.2.2.2.2.2 := by
  obtain ⟨pc, ls, ss, E, nr, C⟩ := S
  obtain ⟨tp, tl, F, tn, D, inv, rs, Tm, Tq⟩ := T
  unfold sx_mt at hm
  dsimp only at hm
  generalize (rs.map fun i => if i < 10000 then (match ls[i]? with
      | some (some (2, (_, [(_, a)]))) => a
      | _ => nr) else match ls[(i - 10000) / 2000]? with
      | some (some (2, (_, [(_, a)]))) => (match C.find? (fun z => z.1 == a && z.2.1 == (i - 10000) % 2000) with
        | some (_, _, (2, (_, [(_, b)]))) => b
        | _ => nr)
      | _ => nr) = rho at hm
  generalize ((List.range n0).map sx_v ++ inv.map fun q => sx_add (sx_c q.1) (sx_subl ((ls.map fun o => match o with
      | some a => a.2
      | none => sx_c 0) ++ D.map fun q => match C.find? (fun z => z.1 == rho.getD q.1 nr && z.2.1 == q.2.1) with
      | some z => z.2.2.2
      | none => sx_c 0) q.2)) = X at hm
  simp only [Bool.and_eq_true] at hm
  obtain ⟨m1, m2, m3, m4, m5, m7, m6⟩ := hm
  obtain ⟨hl, hs, hE, hC, hH⟩ := hg
  have es : ss = [] := List.isEmpty_iff.mp m1
  subst es
  have est : st = [] := by
    cases st with
    | nil => rfl
    | cons v s => exact hs.elim
  subst est
  obtain ⟨l1, l2⟩ := sx_m1_ok m2
  refine ⟨sx_rX r X, sx_gX g rho, rfl, ⟨⟨l1.trans hl.1, fun i a ha => ?_⟩, trivial, fun i q hq => by have := sx_mE_ok hE m4 rfl i q hq; rwa [Nat.zero_add] at this, sx_mc_ok m3 hC, hH⟩, fun j hj => ?_, fun x hx => ?_, ?_⟩
  · obtain ⟨b, b1, b2⟩ := l2 i a ha
    obtain ⟨v, e1, e2⟩ := hl.2 i b b1
    exact ⟨v, e1, sx_ma_ok b2 e2⟩
  · have := of_decide_eq_true (List.all_eq_true.mp m5 j (List.mem_range.mpr hj))
    unfold sx_rX
    rw [List.getD_eq_getElem?_getD, this]
    exact sx_v_ev r j
  · subst hx
    have := sx_ge_ok hE m6
    rw [sx_sub_ev, sx_sub_ev, sx_c_ev, sx_subst_ev] at this
    show sx_ev (sx_rX r X) Tm + 1 ≤ sx_ev r x
    omega
  · have := sx_ge_ok hE m7
    rw [sx_sub_ev, sx_subst_ev] at this
    show sx_ev r q ≤ sx_ev (sx_rX r X) Tq
    omega
/-! a field that a cut speaks of is read there, if it wasn't -/
def sx_pl (P : sx_P) (S : sx_S) (i k : Nat) : sx_S := match S with
  | (pc, ls, ss, E, nr, C) => match ls[i]? with
    | some (some (2, (t, [(_, a)]))) => if (C.any fun z => z.1 == a && z.2.1 == k) then S else match sx_ty P t with
      | some (kd, len, l) => if kd < 900 ∧ 100 * kd ≤ k ∧ k < 100 * kd + 100 ∧ k - 100 * kd < len then match sx_fd l (k - 100 * kd) with
        | some d => match sx_pd S pc ss d (some (a, k)) with
          | some [(_, ls', _ :: ss', E', nr', C')] => (pc, ls', ss', E', nr', C')
          | _ => S
        | none => S
        else S
      | none => S
    | _ => S
theorem sx_pl_ok {P : sx_P} {r : Nat → Int} {g : Nat → Nat} {lv : mj_L} {st : List Value} {h : mj_H} {S : sx_S} {i k : Nat} (hg : sx_g P.1 P.2.1 P.2.2.1 r g S lv st h) : ∃ r' g', sx_g P.1 P.2.1 P.2.2.1 r' g' (sx_pl P S i k) lv st h ∧ (∀ j, j < S.2.2.2.1.length → r' j = r j) ∧ S.2.2.2.1.length ≤ (sx_pl P S i k).2.2.2.1.length := by
  have triv : ∃ r' g', sx_g P.1 P.2.1 P.2.2.1 r' g' S lv st h ∧ (∀ j, j < S.2.2.2.1.length → r' j = r j) ∧ S.2.2.2.1.length ≤ S.2.2.2.1.length := ⟨r, g, hg, fun _ _ => rfl, Nat.le_refl _⟩
  unfold sx_pl
  split
  rename_i pc ls ss E nr C
  split
  · rename_i t q a hi
    split
    · exact triv
    · split
      · rename_i kd len l hT
        split
        · rename_i hk
          split
          · rename_i d hd
            split
            · rename_i pc' ls' v' ss' E' nr' C' hp
              obtain ⟨hl, hs, hE, hC, hH⟩ := hg
              obtain ⟨v, e1, e2⟩ := hl.2 i _ hi
              obtain ⟨rfl, ht⟩ := e2
              obtain ⟨-, vs, c1, c2, c3, -⟩ := sx_cell hH ht hT
              dsimp only at c1 c2 c3
              have hlt : k - 100 * kd < vs.length := by omega
              have hv : vs[k - 100 * kd]? = some vs[k - 100 * kd] := List.getElem?_eq_getElem hlt
              obtain ⟨d0, d1, d2⟩ := c3 _ _ hv
              rw [hd] at d1
              cases d1
              obtain ⟨S', m1, r', g', f1, f2, f3, f4, -⟩ := sx_pd_ok (mods := []) rfl hp hl hs hE hC hH d2 (fun u hu => by cases hu; exact ⟨kd, vs, c1, by have := sx_at_f (tau := P.2.2.1) (a := g a) (vs := vs) hk.1 (show k - 100 * kd < 100 by omega); rw [show 100 * kd + (k - 100 * kd) = k by omega] at this; dsimp only; rw [this]; exact hv⟩)
              rw [List.mem_singleton] at m1
              subst m1
              obtain ⟨hl', hs', hE', hC', hH'⟩ := f2
              exact ⟨r', g', ⟨hl', hs'.2, hE', hC', hH'⟩, f3, f4⟩
            · exact triv
          · exact triv
        · exact triv
      · exact triv
  · exact triv
def sx_plT (P : sx_P) (T : sx_T) (S : sx_S) : sx_S := T.2.2.2.2.1.foldl (fun S q => match T.2.2.2.2.2.2.1[q.1]? with
  | some i => sx_pl P S i q.2.1
  | none => S) S
theorem sx_plf_ok {P : sx_P} {rs : List Nat} {lv : mj_L} {st : List Value} {h : mj_H} : ∀ (D : sx_C) (S : sx_S) (r : Nat → Int) (g : Nat → Nat), sx_g P.1 P.2.1 P.2.2.1 r g S lv st h → ∃ r' g', sx_g P.1 P.2.1 P.2.2.1 r' g' (D.foldl (fun S q => match rs[q.1]? with
  | some i => sx_pl P S i q.2.1
  | none => S) S) lv st h ∧ (∀ j, j < S.2.2.2.1.length → r' j = r j)
  | [], S, r, g, hg => ⟨r, g, hg, fun _ _ => rfl⟩
  | q :: D, S, r, g, hg => by
    rw [List.foldl_cons]
    cases hq : rs[q.1]? with
    | none =>
      dsimp only
      exact sx_plf_ok D S r g hg
    | some i =>
      dsimp only
      obtain ⟨r1, g1, e1, e2, e3⟩ := sx_pl_ok (i := i) (k := q.2.1) hg
      obtain ⟨r2, g2, f1, f2⟩ := sx_plf_ok (rs := rs) D _ r1 g1 e1
      exact ⟨r2, g2, f1, fun j hj => (f2 j (by omega)).trans (e2 j hj)⟩
theorem sx_plT_ok {P : sx_P} {T : sx_T} {S : sx_S} {r : Nat → Int} {g : Nat → Nat} {lv : mj_L} {st : List Value} {h : mj_H} (hg : sx_g P.1 P.2.1 P.2.2.1 r g S lv st h) : ∃ r' g', sx_g P.1 P.2.1 P.2.2.1 r' g' (sx_plT P T S) lv st h ∧ (∀ j, j < S.2.2.2.1.length → r' j = r j) := sx_plf_ok _ S r g hg
