/-! calls without a contract: the callee is run in place -/
abbrev sx_O : Type := Option sx_A × sx_E × Nat × sx_C
theorem sx_vr_ag {r r' : Nat → Int} {g g' : Nat → Nat} {tau : List Nat} {a : sx_A} {v : Value} {n m : Nat} (hr : ∀ j, j < n → r' j = r j) (hg : ∀ j, j < m → g' j = g j) (hl : sx_lta n m a = true) (h : sx_vr r g tau a v) : sx_vr r' g' tau a v := by
  have key : ∀ {l : List (Int × Nat)}, (l.all fun q => decide (q.2 < n)) = true → sx_sum r' l = sx_sum r l := by
    intro l
    induction l with
    | nil => intro _; rfl
    | cons q l ih =>
      obtain ⟨b, i⟩ := q
      intro h
      rw [List.all_cons, Bool.and_eq_true] at h
      have hi : i < n := of_decide_eq_true h.1
      simp only [sx_sum]
      rw [ih h.2, hr i hi]
  unfold sx_vr at h
  split at h
  · rename_i x
    obtain ⟨q, e1, e2⟩ := h
    refine ⟨q, e1, ?_⟩
    rw [e2]
    unfold sx_ev
    rw [key hl]
  · rename_i x
    obtain ⟨q, e1, e2⟩ := h
    refine ⟨q, e1, ?_⟩
    rw [e2]
    unfold sx_ev
    rw [key hl]
  · rename_i t q k
    have hk : k < m := of_decide_eq_true hl
    have e : g' k = g k := hg k hk
    show v = .ref (g' k) ∧ tau[g' k]? = some t.toNat
    rw [e]
    exact h
  · rename_i x
    obtain ⟨q, e1, e2⟩ := h
    refine ⟨q, e1, ?_⟩
    rw [e2]
    unfold sx_ev
    rw [key hl]
  · exact h.elim
theorem sx_sr_ag {r r' : Nat → Int} {g g' : Nat → Nat} {tau : List Nat} {n m : Nat} (hr : ∀ j, j < n → r' j = r j) (hg : ∀ j, j < m → g' j = g j) : ∀ {ss : List sx_A} {st : List Value}, ss.all (sx_lta n m) = true → sx_sr r g tau ss st → sx_sr r' g' tau ss st
  | [], [], _, _ => trivial
  | a :: l, v :: s, hl, hs => by
    rw [List.all_cons, Bool.and_eq_true] at hl
    exact ⟨sx_vr_ag hr hg hl.1 hs.1, sx_sr_ag hr hg hl.2 hs.2⟩
  | [], _ :: _, _, hs => hs.elim
  | _ :: _, [], _, hs => hs.elim
/-- arguments as locals -/
def sx_avs : List sx_A → List (Option sx_A)
  | [] => []
  | (1, x) :: l => some (1, x) :: none :: sx_avs l
  | a :: l => some a :: sx_avs l
theorem sx_lr_c {r : Nat → Int} {g : Nat → Nat} {tau : List Nat} {ls : List (Option sx_A)} {lv : mj_L} {a : sx_A} {v : Value} (hv : sx_vr r g tau a v) (hl : sx_lr r g tau ls lv) : sx_lr r g tau (some a :: ls) (some v :: lv) := by
  refine ⟨by simp [hl.1], fun i b hb => ?_⟩
  cases i with
  | zero =>
    simp at hb
    subst hb
    exact ⟨v, rfl, hv⟩
  | succ i =>
    obtain ⟨w, e1, e2⟩ := hl.2 i b (by simpa using hb)
    exact ⟨w, by unfold mj_ld at e1 ⊢; simpa using e1, e2⟩
theorem sx_lr_n {r : Nat → Int} {g : Nat → Nat} {tau : List Nat} {ls : List (Option sx_A)} {lv : mj_L} (hl : sx_lr r g tau ls lv) : sx_lr r g tau (none :: ls) (none :: lv) := by
  refine ⟨by simp [hl.1], fun i b hb => ?_⟩
  cases i with
  | zero => simp at hb
  | succ i =>
    obtain ⟨w, e1, e2⟩ := hl.2 i b (by simpa using hb)
    exact ⟨w, by unfold mj_ld at e1 ⊢; simpa using e1, e2⟩
theorem sx_lr_r {r : Nat → Int} {g : Nat → Nat} {tau : List Nat} : ∀ n : Nat, sx_lr r g tau (List.replicate n none) (List.replicate n none)
  | 0 => ⟨rfl, fun i a h => by simp at h⟩
  | n + 1 => by
    rw [List.replicate_succ, List.replicate_succ]
    exact sx_lr_n (sx_lr_r n)
theorem sx_avs_ok {r : Nat → Int} {g : Nat → Nat} {tau : List Nat} {k : Nat} : ∀ {as : List sx_A} {vs : List Value}, sx_sr r g tau as vs → sx_lr r g tau (sx_avs as ++ List.replicate k none) (mj_av vs ++ List.replicate k none) ∧ (sx_avs as).length = (mj_av vs).length
  | [], [], _ => ⟨by simpa [sx_avs, mj_av] using sx_lr_r k, rfl⟩
  | a :: l, v :: s, hs => by
    obtain ⟨i1, i2⟩ := sx_avs_ok (k := k) hs.2
    have hv := hs.1
    unfold sx_avs
    split
    · rename_i heq
      cases heq
    · rename_i x l' heq
      cases heq
      obtain ⟨z, rfl, hz⟩ := hv
      refine ⟨?_, ?_⟩
      · show sx_lr r g tau (some (1, x) :: none :: (sx_avs l ++ List.replicate k none)) (some (Value.long z) :: none :: (mj_av s ++ List.replicate k none))
        exact sx_lr_c hs.1 (sx_lr_n i1)
      · show (sx_avs l).length + 1 + 1 = (mj_av s).length + 1 + 1
        rw [i2]
    · rename_i a' l' hne heq
      cases heq
      have hc : v.category ≠ 2 := by
        unfold sx_vr at hv
        split at hv
        · obtain ⟨z, rfl, -⟩ := hv
          exact (by decide : (1 : Nat) ≠ 2)
        · rename_i x
          exact absurd rfl (hne x)
        · obtain ⟨rfl, -⟩ := hv
          exact (by decide : (1 : Nat) ≠ 2)
        · obtain ⟨z, rfl, -⟩ := hv
          exact (by decide : (1 : Nat) ≠ 2)
        · exact hv.elim
      refine ⟨?_, ?_⟩
      · show sx_lr r g tau (some a :: (sx_avs l ++ List.replicate k none)) (mj_av (v :: s) ++ List.replicate k none)
        unfold mj_av
        rw [if_neg hc]
        exact sx_lr_c hs.1 i1
      · show (sx_avs l).length + 1 = (mj_av (v :: s)).length
        unfold mj_av
        rw [if_neg hc, i2]
        rfl
  | [], _ :: _, hs => hs.elim
  | _ :: _, [], hs => hs.elim
/-- a return's value -/
def sx_rv (m : Nat) (i : Instr) (S : sx_S) : Option (Option sx_A) := match i, S with
  | .return_, (_, _, [], _, _, _) => if (mj_ret m).isNone then some none else none
  | .ireturn, (_, _, [(0, x)], E, _, _) => match mj_ret m with
    | some ty => if sx_pf E ty 0 x then some (some (0, x)) else none
    | none => none
  | .lreturn, (_, _, [(1, x)], _, _, _) => match mj_ret m with
    | some .long => some (some (1, x))
    | _ => none
  | .areturn, (_, _, [(2, (t, [(q, a)]))], _, _, _) => match mj_ret m with
    | some (.object _) => some (some (2, (t, [(q, a)])))
    | _ => none
  | _, _ => none
def sx_lt (n : Nat) (x : sx_X) : Bool := x.2.all fun q => decide (q.2 < n)
theorem sx_sum_eq {r r' : Nat → Int} {n : Nat} (hr : ∀ j, j < n → r' j = r j) : ∀ {l : List (Int × Nat)}, (l.all fun q => decide (q.2 < n)) = true → sx_sum r' l = sx_sum r l
  | [], _ => rfl
  | (a, i) :: l, h => by
    rw [List.all_cons, Bool.and_eq_true] at h
    have hi : i < n := of_decide_eq_true h.1
    simp only [sx_sum]
    rw [sx_sum_eq hr h.2, hr i hi]
theorem sx_ev_eq {r r' : Nat → Int} {n : Nat} (hr : ∀ j, j < n → r' j = r j) {x : sx_X} (h : sx_lt n x = true) : sx_ev r' x = sx_ev r x := by
  unfold sx_ev
  rw [sx_sum_eq hr h]
theorem sx_lt_le {n k : Nat} (hk : n ≤ k) {x : sx_X} (h : sx_lt n x = true) : sx_lt k x = true := by
  unfold sx_lt at h ⊢
  rw [List.all_eq_true] at h ⊢
  intro q hq
  have := of_decide_eq_true (h q hq)
  exact decide_eq_true (by omega)
def sx_dec (X : sx_X) : sx_X := (X.1 - 1, X.2)
theorem sx_dec_ev (r : Nat → Int) (X : sx_X) : sx_ev r (sx_dec X) = sx_ev r X - 1 := by
  unfold sx_ev sx_dec
  dsimp only
  omega
/-- what may be written, but for what adds to the places that count -/
def sx_m0 (mods : List Nat) : List Nat := mods.filter fun k => decide (k < 1000000000)
theorem sx_m0_no {mods : List Nat} : 1000000000 ∉ sx_m0 mods := fun h => by
  have := of_decide_eq_true (List.mem_filter.mp h).2
  omega
theorem sx_m0_sub {mods : List Nat} : ∀ k ∈ sx_m0 mods, k ∈ mods := fun _ h => (List.mem_filter.mp h).1
/-- one step, one call by contract, one call in place: the states behind it -/
def sx_nx (col : Nat → sx_X → sx_S → Option (List sx_O)) (P : sx_P) (m : Nat) (X : sx_X) (mods : List Nat) (i : Instr) (S : sx_S) : Option (List sx_S) := match S with
  | (pc, ls, ss, E, nr, C) => match sx_cK P m X mods i S with
    | some L => some L
    | none => match sx_cl P m i ss with
      | some (c, as, s2) => match P.2.2.2[c]? with
        | some (some _) => none
        | _ => if (decide ((sx_avs as).length ≤ mj_nl c) && (sx_ge E (sx_dec X) 0 && ((ls.all fun o => match o with | some a => sx_lta E.length nr a | none => true) && s2.all (sx_lta E.length nr)))) = true then
            match col c (sx_dec X) (0, sx_avs as ++ List.replicate (mj_nl c - (sx_avs as).length) none, [], E, nr, C) with
            | some outs => some (outs.map fun o => (pc + 3, ls, o.1.toList ++ s2, o.2))
            | none => none
          else none
      | none => match sx_mac P m (sx_m0 mods) S with
        | some L => some L
        | none => if sx_pfm m (sx_m0 mods) i S then sx_i P m i S else none
def sx_all (f : sx_S → Option (List sx_O)) : List sx_S → Option (List sx_O)
  | [] => some []
  | S :: l => match f S, sx_all f l with
    | some a, some b => some (a ++ b)
    | _, _ => none
/-- a run in place, that may add b -/
def sx_col (P : sx_P) (mods : List Nat) : Nat → Nat → Nat → sx_X → sx_S → Option (List sx_O)
  | 0, _, _, _, _ => none
  | n + 1, b, m, X, S => match mj_ins m S.1 with
    | none => none
    | some i => match sx_rv m i S with
      | some o => some [(o, S.2.2.2)]
      | none => match sx_nx (sx_col P mods n b) P m X mods i S with
        | some L => if sx_cst b P m i S ≤ b then sx_all (sx_col P mods n (b - sx_cst b P m i S) m X) L else none
        | none => none
def sx_ov (r : Nat → Int) (g : Nat → Nat) (tau : List Nat) : Option sx_A → Option Value → Prop
  | none, none => True
  | some a, some v => sx_vr r g tau a v
  | _, _ => False
/-- the run from here ends in one of the outcomes -/
def sx_Ok (P : sx_P) (d m : Nat) (mods : List Nat) (B : Int) (r : Nat → Int) (g : Nat → Nat) (n nr pc : Nat) (lv : mj_L) (st : List Value) (h : mj_H) (outs : List sx_O) : Prop := ∃ f v h', mj_run f d m pc lv st h = some (v, h') ∧ h'.length = h.length ∧ sx_ef P.2.2.1 mods h h' ∧ sx_W P.2.2.1 h' B ∧ sx_H P.1 P.2.1 P.2.2.1 h' ∧ ∃ o ∈ outs, ∃ r' g', (∀ j, j < n → r' j = r j) ∧ (∀ j, j < nr → g' j = g j) ∧ n ≤ o.2.1.length ∧ nr ≤ o.2.2.1 ∧ sx_in o.2.1 r' ∧ sx_cr r' g' P.2.2.1 o.2.2.2 h' ∧ sx_ov r' g' P.2.2.1 o.1 v
theorem sx_rv_ok {P : sx_P} {r : Nat → Int} {g : Nat → Nat} {lv : mj_L} {st : List Value} {h : mj_H} {S : sx_S} {m : Nat} {o : Option sx_A} {i : Instr} (hr : sx_rv m i S = some o) (hg : sx_g P.1 P.2.1 P.2.2.1 r g S lv st h) : ∃ v, mj_end m i st = some v ∧ sx_ov r g P.2.2.1 o v := by
  unfold sx_rv at hr
  split at hr
  · obtain ⟨hl, hs, hE, hC, hH⟩ := hg
    split at hr
    · rename_i e1
      cases hr
      have e1 := Option.isNone_iff_eq_none.mp e1
      rw [sx_sr0 hs]
      exact ⟨none, by simp only [mj_end, e1], trivial⟩
    · cases hr
  · obtain ⟨hl, hs, hE, hC, hH⟩ := hg
    obtain ⟨v, t2, rfl, hv, hs2⟩ := sx_sr1 hs
    rw [sx_sr0 hs2]
    split at hr
    · rename_i ty e1
      split at hr
      · rename_i e2
        cases hr
        have f1 := (sx_pf_ok hE e2 hv).1
        have hv' := hv
        obtain ⟨z, rfl, hz⟩ := hv
        exact ⟨some (.int z), by simp only [mj_end, e1]; rw [if_pos f1], hv'⟩
      · cases hr
    · cases hr
  · obtain ⟨hl, hs, hE, hC, hH⟩ := hg
    obtain ⟨v, t2, rfl, hv, hs2⟩ := sx_sr1 hs
    rw [sx_sr0 hs2]
    split at hr
    · rename_i e1
      cases hr
      have hv' := hv
      obtain ⟨z, rfl, hz⟩ := hv
      exact ⟨some (.long z), by simp only [mj_end, e1], hv'⟩
    · cases hr
  · obtain ⟨hl, hs, hE, hC, hH⟩ := hg
    obtain ⟨v, t2, rfl, hv, hs2⟩ := sx_sr1 hs
    rw [sx_sr0 hs2]
    split at hr
    · rename_i n e1
      cases hr
      have hv' := hv
      obtain ⟨rfl, hz⟩ := hv
      exact ⟨some (.ref _), by simp only [mj_end, e1], hv'⟩
    · cases hr
  · cases hr
/-- what is behind one step: the run goes on from there -/
theorem sx_nx_ok {P : sx_P} {d m b : Nat} {X : sx_X} {mods : List Nat} {col : Nat → sx_X → sx_S → Option (List sx_O)} {i : Instr} {S : sx_S} {L : List sx_S} {r : Nat → Int} {g : Nat → Nat} {lv : mj_L} {st : List Value} {h : mj_H} (hi : mj_ins m S.1 = some i) (hn : sx_nx col P m X mods i S = some L) (hg : sx_g P.1 P.2.1 P.2.2.1 r g S lv st h) (hX : sx_ev r X ≤ d) (hXl : sx_lt S.2.2.2.1.length X = true) {B : Int} (hW : sx_W P.2.2.1 h B) (hB : B + sx_cst b P m i S ≤ sx_mx) (IH : ∀ d', d' < d → ∀ c K, P.2.2.2[c]? = some (some K) → sx_M P d' c K)
    (hcol : ∀ (d' c : Nat) (X' : sx_X) (S' : sx_S) (outs : List sx_O) (r' : Nat → Int) (g' : Nat → Nat) (lv' : mj_L) (st' : List Value) (h' : mj_H), d' < d → col c X' S' = some outs → sx_g P.1 P.2.1 P.2.2.1 r' g' S' lv' st' h' → sx_ev r' X' ≤ d' → sx_lt S'.2.2.2.1.length X' = true → ∀ B : Int, sx_W P.2.2.1 h' B → B + b ≤ sx_mx → sx_Ok P d' c mods (B + b) r' g' S'.2.2.2.1.length S'.2.2.2.2.1 S'.1 lv' st' h' outs) :
    ∃ pc' lv' st' h', (∀ f v h2, mj_run f d m pc' lv' st' h' = some (v, h2) → ∃ f', mj_run f' d m S.1 lv st h = some (v, h2)) ∧ h'.length = h.length ∧ sx_to P r g S.2.2.2.2.1 S.2.2.2.1.length mods h L pc' lv' st' h' ∧ sx_W P.2.2.1 h' (B + sx_cst b P m i S) := by
  obtain ⟨pc, ls, ss, E, nr, C⟩ := S
  dsimp only at hi hXl ⊢
  unfold sx_nx at hn
  dsimp only at hn
  obtain ⟨hl, hs, hE, hC, hH⟩ := hg
  split at hn
  · rename_i L1 hk
    cases hn
    obtain ⟨n1, c, vs, t2, d', lv0, f, v, h', rfl, c1, c2, c3, c4, c5, c6⟩ := sx_cK_ok hk hl hs hE hC hH hX hW hB IH
    refine ⟨_, _, _, _, fun f2 v2 h2 q1 => ⟨max f f2 + 1, ?_⟩, c4, c5, c6⟩
    unfold mj_run
    rw [hi]
    dsimp only
    rw [n1]
    dsimp only
    rw [c1]
    dsimp only
    rw [c2]
    dsimp only
    rw [mj_run_mono (Nat.le_max_left f f2) (Nat.le_refl _) c3]
    dsimp only
    exact mj_run_mono (Nat.le_max_right f f2) (Nat.le_refl _) q1
  · split at hn
    · rename_i c as s2 hcl
      split at hn
      · cases hn
      · rename_i hno
        have hcs : sx_cst b P m i (pc, ls, ss, E, nr, C) = b := by
          unfold sx_cst
          dsimp only
          rw [hcl]
          dsimp only
          split
          · rename_i K hK
            exact absurd hK (hno K)
          · rfl
        rw [hcs] at hB ⊢
        split at hn
        · rename_i hb
          simp only [Bool.and_eq_true] at hb
          obtain ⟨b1, b2, b3, b4⟩ := hb
          have b1 := of_decide_eq_true b1
          have b2 := sx_ge_ok hE b2
          rw [sx_dec_ev] at b2
          split at hn
          · rename_i outs ho
            cases hn
            obtain ⟨n1, vs, t2, n2, n3, n4⟩ := sx_cl_ok (h := h) hcl hs hH
            cases d with
            | zero => exfalso; omega
            | succ d =>
              obtain ⟨i1, i2⟩ := sx_avs_ok (k := mj_nl c - (sx_avs as).length) n3
              obtain ⟨f, v, h', k1, k2, k3, k5, k4, o, o1, r', g', o2, o3, o4, o5, o6, o7, o8⟩ := hcol d c _ _ outs r g _ [] h (by omega) ho ⟨i1, trivial, hE, hC, hH⟩ (by rw [sx_dec_ev]; omega) hXl B hW hB
              dsimp only at k1 o2 o3 o4 o5
              refine ⟨pc + 3, lv, v.toList ++ t2, h', fun f2 v2 h2 q1 => ⟨max f f2 + 1, ?_⟩, k2, ?_, k5⟩
              · have e : mj_ent (mj_nl c) vs = some (mj_av vs ++ List.replicate (mj_nl c - (sx_avs as).length) none) := by
                  unfold mj_ent
                  rw [if_pos (by omega), i2]
                unfold mj_run
                rw [hi]
                dsimp only
                rw [n1]
                dsimp only
                rw [n2]
                dsimp only
                rw [e]
                dsimp only
                rw [mj_run_mono (Nat.le_max_left f f2) (Nat.le_refl _) k1]
                dsimp only
                exact mj_run_mono (Nat.le_max_right f f2) (Nat.le_refl _) q1
              · refine ⟨_, List.mem_map.mpr ⟨o, o1, rfl⟩, r', g', rfl, ⟨⟨hl.1, fun j a ha => ?_⟩, ?_, o6, o7, k4⟩, o2, o4, o3, o5, k3⟩
                · obtain ⟨w, e1, e2⟩ := hl.2 j a ha
                  have := List.all_eq_true.mp b3 _ (List.mem_of_getElem? ha)
                  exact ⟨w, e1, sx_vr_ag o2 o3 this e2⟩
                · have hs2 := sx_sr_ag o2 o3 b4 n4
                  unfold sx_ov at o8
                  split at o8
                  · rename_i e1
                    rw [e1]
                    exact hs2
                  · rename_i e1
                    rw [e1]
                    exact ⟨o8, hs2⟩
                  · exact o8.elim
          · cases hn
        · cases hn
    · rename_i hcl
      have hcs : sx_cst b P m i (pc, ls, ss, E, nr, C) = 0 := by
        unfold sx_cst
        dsimp only
        rw [hcl]
      rw [hcs] at hB ⊢
      split at hn
      · rename_i L1 hmac
        cases hn
        obtain ⟨st', h', q1, q2, q3, q4⟩ := sx_mac_ok (d := d) hmac ⟨hl, hs, hE, hC, hH⟩
        obtain ⟨S', m1, r', g', e1, e2, e3, e4, e6, e7, e5⟩ := q3
        exact ⟨pc + 2, lv, st', h', q1, q2, ⟨S', m1, r', g', e1, e2, e3, e4, e6, e7, sx_ef_sub e5 sx_m0_sub⟩, by rw [Int.natCast_zero, Int.add_zero]; exact q4 B hW⟩
      split at hn
      · rename_i hm
        obtain ⟨pc', lv', st', h', t1, S', m1, r', g', e1, e2, e3, e4, e6, e7, e5⟩ := sx_i_ok hl hs hE hC hH hm hn
        obtain ⟨n1, n2⟩ := sx_i_ne hn
        have hlen := sx_i_len hn t1
        refine ⟨pc', lv', st', h', fun f2 v2 h2 q1 => ⟨f2 + 1, ?_⟩, hlen, ⟨S', m1, r', g', e1, e2, e3, e4, e6, e7, sx_ef_sub e5 sx_m0_sub⟩, by rw [Int.natCast_zero, Int.add_zero]; exact e5.2.2 sx_m0_no B hW⟩
        unfold mj_run
        rw [hi]
        dsimp only
        rw [n1]
        dsimp only
        rw [n2]
        dsimp only
        rw [t1]
        dsimp only
        exact q1
      · cases hn
theorem sx_all_ok {f : sx_S → Option (List sx_O)} : ∀ {L : List sx_S} {outs : List sx_O}, sx_all f L = some outs → ∀ S ∈ L, ∃ os, f S = some os ∧ ∀ o ∈ os, o ∈ outs
  | [], _, _, S, hS => by cases hS
  | T :: l, outs, ha, S, hS => by
    unfold sx_all at ha
    split at ha
    · rename_i a b h1 h2
      cases ha
      rcases List.mem_cons.mp hS with e | e
      · subst e
        exact ⟨a, h1, fun o ho => List.mem_append_left _ ho⟩
      · obtain ⟨os, g1, g2⟩ := sx_all_ok h2 S e
        exact ⟨os, g1, fun o ho => List.mem_append_right _ (g2 o ho)⟩
    · cases ha
theorem sx_col_ok {P : sx_P} {mods : List Nat} {d0 : Nat} (IH : ∀ d', d' < d0 → ∀ c K, P.2.2.2[c]? = some (some K) → sx_M P d' c K) : ∀ (n b d m : Nat) (X : sx_X) (S : sx_S) (outs : List sx_O) (r : Nat → Int) (g : Nat → Nat) (lv : mj_L) (st : List Value) (h : mj_H), d ≤ d0 → sx_col P mods n b m X S = some outs → sx_g P.1 P.2.1 P.2.2.1 r g S lv st h → sx_ev r X ≤ d → sx_lt S.2.2.2.1.length X = true → ∀ B : Int, sx_W P.2.2.1 h B → B + b ≤ sx_mx → sx_Ok P d m mods (B + b) r g S.2.2.2.1.length S.2.2.2.2.1 S.1 lv st h outs
  | 0, _, _, _, _, _, _, _, _, _, _, _, _, hc, _, _, _ => by unfold sx_col at hc; cases hc
  | n + 1, b, d, m, X, S, outs, r, g, lv, st, h, hd, hc, hg, hX, hXl => by
    intro B hW hB
    unfold sx_col at hc
    split at hc
    · cases hc
    · rename_i i hi
      split at hc
      · rename_i o ho
        cases hc
        obtain ⟨v, e1, e2⟩ := sx_rv_ok ho hg
        have hE : sx_in S.2.2.2.1 r := hg.2.2.1
        have hC : sx_cr r g P.2.2.1 S.2.2.2.2.2 h := hg.2.2.2.1
        have hH : sx_H P.1 P.2.1 P.2.2.1 h := hg.2.2.2.2
        refine ⟨1, v, h, ?_, rfl, sx_ef_rf, sx_W_le hW (by omega), hH, _, List.mem_cons_self, r, g, fun _ _ => rfl, fun _ _ => rfl, Nat.le_refl _, Nat.le_refl _, hE, hC, e2⟩
        unfold mj_run
        rw [hi]
        dsimp only
        rw [e1]
      · split at hc
        · rename_i L hL
          split at hc
          · rename_i hcb
            obtain ⟨pc', lv', st', h', k1, k2, ⟨S', m1, r', g', e1, e2, e3, e4, e6, e7, e5⟩, k3⟩ := sx_nx_ok (b := b) hi hL hg hX hXl hW (by omega) (fun d' hd' => IH d' (by omega)) (fun d' c X' S' outs r' g' lv' st' h' hd' q1 q2 q3 q4 => sx_col_ok IH n b d' c X' S' outs r' g' lv' st' h' (by omega) q1 q2 q3 q4)
            obtain ⟨os, a1, a2⟩ := sx_all_ok hc S' m1
            obtain ⟨f, v, h2, b1, b2, b3, b5, b4, o, o1, r2, g2, o2, o3, o4, o5, o6, o7, o8⟩ := sx_col_ok IH n (b - sx_cst b P m i S) d m X S' os r' g' lv' st' h' hd a1 e2 (by rw [sx_ev_eq e3 hXl]; exact hX) (sx_lt_le e4 hXl) _ k3 (by omega)
            rw [e1] at b1
            obtain ⟨f3, q6⟩ := k1 f v h2 b1
            exact ⟨f3, v, h2, q6, b2.trans k2, sx_ef_tr e5 b3, sx_W_le b5 (by omega), b4, o, a2 o o1, r2, g2, fun j hj => (o2 j (by omega)).trans (e3 j hj), fun j hj => (o3 j (by omega)).trans (e6 j hj), by omega, by omega, o6, o7, o8⟩
          · cases hc
        · cases hc
