/-! -/
/-! DRAFT, not yet seen by a round: the start: the constructors' heap as numbers, and LAWS of it -/
def st_q (a : Nat) : Nat × List Value × Nat × Value := match (cx_L1 ++ cx_L2)[a - 1]? with
  | some q => q
  | none => (0, [], 0, .int 0)
def st_v (a k : Nat) : Value := match (st_q a).2.1[k]? with
  | some v => v
  | none => (st_q a).2.2.2
def st0 (b : Nat) (j : Int) : Int := if b = 0 then 0 else if 0 ≤ j then vnn (some (st_v b j.toNat)) else 0
def vok (c : Nat) (v : Value) : Bool := match v with
  | .int _ => decide (c = 0)
  | .long _ => decide (c = 1)
  | .ref r => decide (c = 2) || decide (c = r + 3)
  | _ => false
theorem vok_v {c : Nat} {v : Value} (h : vok c v = true) : sh_v c (vnn (some v)) = v ∧ (c = 0 → wp_r (vnn (some v))) := by
  unfold vok at h
  split at h
  · rename_i z
    have e := of_decide_eq_true h
    subst e
    exact ⟨congrArg Value.int (Int32.ofInt_toInt z), fun _ => sx_r32 z⟩
  · rename_i z
    have e := of_decide_eq_true h
    subst e
    exact ⟨congrArg Value.long (Int64.ofInt_toInt z), fun y => absurd y (by decide)⟩
  · rename_i r
    rw [Bool.or_eq_true, decide_eq_true_eq, decide_eq_true_eq] at h
    rcases h with e | e
    · subst e
      exact ⟨congrArg Value.ref (by show ((r : Int)).toNat = r; omega), fun y => absurd y (by decide)⟩
    · subst e
      exact ⟨rfl, fun y => absurd y (by omega)⟩
  · cases h
def st_ck (i : Nat) : Bool := match sh_T[i + 1]?, (cx_L1 ++ cx_L2)[i]? with
  | some q, some x => decide (x.1 = q.1) && (decide (x.2.1.length + x.2.2.1 = q.2.1.length + q.2.2.1) && ((List.range x.2.1.length).all (fun k => match x.2.1[k]? with
    | some v => vok (sh_k q k) v
    | none => false) && (decide (x.2.2.1 = 0) || (decide (q.2.1.length ≤ x.2.1.length) && vok q.2.2.2 x.2.2.2))))
  | _, _ => false
set_option maxRecDepth 1000000 in
theorem st_all : ((List.range 151).all st_ck) = true := by decide +kernel
theorem CS0_st (c0 : mj_C) : CS0 (c0 :: (cx_L1 ++ cx_L2).map cx_x) st0 := by
  intro a q ha hq
  have la : a < 152 := (List.getElem?_eq_some_iff.mp hq).1
  obtain ⟨i, rfl⟩ : ∃ i, a = i + 1 := ⟨a - 1, by omega⟩
  have c := List.all_eq_true.mp st_all i (List.mem_range.mpr (by omega))
  unfold st_ck at c
  rw [hq] at c
  cases hx : (cx_L1 ++ cx_L2)[i]? with
  | none => rw [hx] at c; cases c
  | some x =>
    rw [hx] at c
    dsimp only at c
    rw [Bool.and_eq_true, Bool.and_eq_true, Bool.and_eq_true] at c
    obtain ⟨c1, c2, c3, c4⟩ := c
    have c1 := of_decide_eq_true c1
    have c2 := of_decide_eq_true c2
    have eq_ : st_q (i + 1) = x := by
      unfold st_q
      rw [show i + 1 - 1 = i by omega, hx]
    refine ⟨x.2.1 ++ List.replicate x.2.2.1 x.2.2.2, ?_, by rw [List.length_append, List.length_replicate]; exact c2, fun k hk => ?_⟩
    · rw [List.getElem?_cons_succ, List.getElem?_map, hx, ← c1]
      rfl
    · rw [List.length_append, List.length_replicate] at hk
      have ev : (x.2.1 ++ List.replicate x.2.2.1 x.2.2.2)[k]? = some (st_v (i + 1) k) ∧ vok (sh_k q k) (st_v (i + 1) k) = true := by
        unfold st_v
        rw [eq_]
        by_cases z : k < x.2.1.length
        · have m := List.all_eq_true.mp c3 k (List.mem_range.mpr z)
          rw [List.getElem?_append_left z]
          have g : x.2.1[k]? = some x.2.1[k] := List.getElem?_eq_getElem z
          rw [g] at m ⊢
          exact ⟨rfl, m⟩
        · rw [List.getElem?_append_right (by omega), List.getElem?_replicate, if_pos (by omega), List.getElem?_eq_none (by omega)]
          refine ⟨rfl, ?_⟩
          rw [Bool.or_eq_true, decide_eq_true_eq, Bool.and_eq_true, decide_eq_true_eq] at c4
          rcases c4 with c4 | c4
          · omega
          · have : sh_k q k = q.2.2.2 := by
              unfold sh_k
              rw [List.getElem?_eq_none (by omega)]
            rw [this]
            exact c4.2
      have w := vok_v ev.2
      have es : st0 (i + 1) (k : Int) = vnn (some (st_v (i + 1) k)) := by
        unfold st0
        rw [if_neg (by omega), if_pos (by omega), show ((k : Int)).toNat = k by omega]
      rw [ev.1, es]
      exact ⟨congrArg some w.1.symm, w.2⟩
theorem rg_a {n : Nat} {P : Int → Prop} [∀ j, Decidable (P j)] (h : ((List.range n).all fun k : Nat => decide (P (k : Int))) = true) {j : Int} (h0 : 0 ≤ j) (h1 : j < (n : Int)) : P j := by
  have m := of_decide_eq_true (List.all_eq_true.mp h j.toNat (List.mem_range.mpr (by omega)))
  rw [show ((j.toNat : Nat) : Int) = j by omega] at m
  exact m
theorem rg_b {n k : Nat} {P : Int → Int → Prop} [∀ i j, Decidable (P i j)] (h : ((List.range n).all fun a : Nat => (List.range k).all fun b : Nat => decide (P (a : Int) (b : Int))) = true) {i j : Int} (h0 : 0 ≤ i) (h1 : i < (n : Int)) (h2 : 0 ≤ j) (h3 : j < (k : Int)) : P i j := by
  have m := List.all_eq_true.mp h i.toNat (List.mem_range.mpr (by omega))
  have m := of_decide_eq_true (List.all_eq_true.mp m j.toNat (List.mem_range.mpr (by omega)))
  rw [show ((i.toNat : Nat) : Int) = i by omega, show ((j.toNat : Nat) : Int) = j by omega] at m
  exact m
theorem rg_1 {n : Nat} {P : Int → Prop} [∀ j, Decidable (P j)] (h : ((List.range n).all fun k : Nat => decide (P (k : Int))) = true) : ∀ j : Int, 0 ≤ j → j < (n : Int) → P j := fun j h0 h1 => rg_a (P := P) h h0 h1
theorem rg_2 {n : Nat} {P : Int → Prop} [∀ j, Decidable (P j)] (h : ((List.range n).all fun k : Nat => decide (P (k : Int))) = true) : ∀ j : Int, 0 ≤ j ∧ j < (n : Int) → P j := fun j hj => rg_a (P := P) h hj.1 hj.2
theorem rg_3 {n k : Nat} {P : Int → Int → Prop} [∀ i j, Decidable (P i j)] (h : ((List.range n).all fun a : Nat => (List.range k).all fun b : Nat => decide (P (a : Int) (b : Int))) = true) : ∀ i j : Int, 0 ≤ i ∧ i < (n : Int) → 0 ≤ j ∧ j < (k : Int) → P i j := fun i j hi hj => rg_b (P := P) h hi.1 hi.2 hj.1 hj.2
set_option maxRecDepth 1000000 in
theorem IG_st : IG st0 48 ∧ IG st0 70 := by
  refine ⟨⟨⟨by decide +kernel, by decide +kernel, fun j a b => ?_, fun j a b => ?_, fun j a b => ?_, fun j a b => ?_, by decide +kernel, by decide +kernel, by decide +kernel, by decide +kernel⟩, fun j a b => ?_⟩, ⟨⟨by decide +kernel, by decide +kernel, fun j a b => ?_, fun j a b => ?_, fun j a b => ?_, fun j a b => ?_, by decide +kernel, by decide +kernel, by decide +kernel, by decide +kernel⟩, fun j a b => ?_⟩⟩
  · revert j
    refine rg_1 (n := 8) ?_
    decide +kernel
  · revert j
    refine rg_1 (n := 6) ?_
    decide +kernel
  · revert j
    refine rg_1 (n := 48) ?_
    decide +kernel
  · revert j
    refine rg_1 (n := 48) ?_
    decide +kernel
  · revert j
    refine rg_1 (n := 48) ?_
    decide +kernel
  · revert j
    refine rg_1 (n := 8) ?_
    decide +kernel
  · revert j
    refine rg_1 (n := 6) ?_
    decide +kernel
  · revert j
    refine rg_1 (n := 48) ?_
    decide +kernel
  · revert j
    refine rg_1 (n := 48) ?_
    decide +kernel
  · revert j
    refine rg_1 (n := 48) ?_
    decide +kernel
set_option maxRecDepth 1000000 in
theorem rwOK_st {i : Int} (hi : 0 ≤ i ∧ i < 30) : rwOK st0 60 (i * 190) ∧ rwOK st0 82 (i * 190) := by
  have e : ∀ A : Nat, A = 60 ∨ A = 82 → ∀ j : Int, 0 ≤ j → j < 5700 → st0 A j = 0 := fun A hA j h0 h1 => by
    have h2 : st_v A j.toNat = .int 0 := by
      unfold st_v
      rcases hA with rfl | rfl
      · rw [show st_q 60 = (1000, [], 5700, .int 0) from rfl]
        rfl
      · rw [show st_q 82 = (1000, [], 5700, .int 0) from rfl]
        rfl
    unfold st0
    rw [if_neg (by omega), if_pos h0, h2]
    rfl
  constructor
  · refine ⟨⟨?_, ?_, ?_, ?_, ?_⟩, fun p hp => ?_, fun k hk => ?_⟩ <;> (first | (rw [e 60 (Or.inl rfl) _ (by omega) (by omega)]; decide) | (rw [e 60 (Or.inl rfl) _ (by omega) (by omega), e 60 (Or.inl rfl) _ (by omega) (by omega)]; decide))
  · refine ⟨⟨?_, ?_, ?_, ?_, ?_⟩, fun p hp => ?_, fun k hk => ?_⟩ <;> (first | (rw [e 82 (Or.inr rfl) _ (by omega) (by omega)]; decide) | (rw [e 82 (Or.inr rfl) _ (by omega) (by omega), e 82 (Or.inr rfl) _ (by omega) (by omega)]; decide))
set_option maxRecDepth 1000000 in
theorem ST2_st47 : ST2 st0 st0 47 139 0 := by
  have z12 : st0 (47 + 12) 2 = 0 := by decide +kernel
  have z14 : st0 (47 + 14) 3 = 0 := by decide +kernel
  have z18 : st0 (47 + 18) 3 = 0 := by decide +kernel
  refine ⟨⟨IG_st.1, by decide +kernel, by decide +kernel, by decide +kernel, by decide +kernel, by decide +kernel, ⟨fun p hp => ?_, fun w hw => ?_, fun i hi => (rwOK_st hi).1, ⟨by decide +kernel, fun j a b => ?_⟩, by decide +kernel, by decide +kernel, by decide +kernel⟩⟩, ⟨⟨by decide +kernel, by decide +kernel⟩, fun p hp => ?_, fun w hw => ?_, fun w p hw hp => ?_, by decide +kernel, by decide +kernel, by decide +kernel, by decide +kernel⟩, ⟨by decide +kernel, fun i a b => by exfalso; omega⟩, ⟨⟨by decide +kernel, by decide +kernel⟩, ⟨by decide +kernel, fun k a b => by exfalso; omega⟩, by decide +kernel, fun k a b => by exfalso; omega⟩, fun i hi => ⟨?_, fun k hk => ?_⟩, fun w p hw hp => ?_, by decide +kernel⟩
  · revert p
    refine rg_2 (n := 8) ?_
    decide +kernel
  · revert w
    refine rg_2 (n := 6) ?_
    decide +kernel
  · revert j
    refine rg_1 (n := 8) ?_
    decide +kernel
  · revert p
    refine rg_2 (n := 8) ?_
    decide +kernel
  · revert w
    refine rg_2 (n := 6) ?_
    decide +kernel
  · revert w p
    refine rg_3 (n := 6) (k := 8) ?_
    decide +kernel
  · revert i
    refine rg_2 (n := 30) ?_
    decide +kernel
  · have hx : ∀ i j : Int, 0 ≤ i ∧ i < 30 → 0 ≤ j ∧ j < 48 → 0 ≤ st0 139 (184 + 110 * i + 14 + 2 * j + 1) ∧ st0 139 (184 + 110 * i + 14 + 2 * j + 1) ≤ 199 := by
      refine rg_3 (n := 30) (k := 48) ?_
      decide +kernel
    exact hx i k hi hk
  · revert w p
    refine rg_3 (n := 6) (k := 8) ?_
    decide +kernel
set_option maxRecDepth 1000000 in
theorem ST2_st69 : ST2 st0 st0 69 139 0 := by
  have z12 : st0 (69 + 12) 2 = 0 := by decide +kernel
  have z14 : st0 (69 + 14) 3 = 0 := by decide +kernel
  have z18 : st0 (69 + 18) 3 = 0 := by decide +kernel
  refine ⟨⟨IG_st.2, by decide +kernel, by decide +kernel, by decide +kernel, by decide +kernel, by decide +kernel, ⟨fun p hp => ?_, fun w hw => ?_, fun i hi => (rwOK_st hi).2, ⟨by decide +kernel, fun j a b => ?_⟩, by decide +kernel, by decide +kernel, by decide +kernel⟩⟩, ⟨⟨by decide +kernel, by decide +kernel⟩, fun p hp => ?_, fun w hw => ?_, fun w p hw hp => ?_, by decide +kernel, by decide +kernel, by decide +kernel, by decide +kernel⟩, ⟨by decide +kernel, fun i a b => by exfalso; omega⟩, ⟨⟨by decide +kernel, by decide +kernel⟩, ⟨by decide +kernel, fun k a b => by exfalso; omega⟩, by decide +kernel, fun k a b => by exfalso; omega⟩, fun i hi => ⟨?_, fun k hk => ?_⟩, fun w p hw hp => ?_, by decide +kernel⟩
  · revert p
    refine rg_2 (n := 8) ?_
    decide +kernel
  · revert w
    refine rg_2 (n := 6) ?_
    decide +kernel
  · revert j
    refine rg_1 (n := 8) ?_
    decide +kernel
  · revert p
    refine rg_2 (n := 8) ?_
    decide +kernel
  · revert w
    refine rg_2 (n := 6) ?_
    decide +kernel
  · revert w p
    refine rg_3 (n := 6) (k := 8) ?_
    decide +kernel
  · revert i
    refine rg_2 (n := 30) ?_
    decide +kernel
  · have hx : ∀ i j : Int, 0 ≤ i ∧ i < 30 → 0 ≤ j ∧ j < 48 → 0 ≤ st0 139 (184 + 110 * i + 14 + 2 * j + 1) ∧ st0 139 (184 + 110 * i + 14 + 2 * j + 1) ≤ 199 := by
      refine rg_3 (n := 30) (k := 48) ?_
      decide +kernel
    exact hx i k hi hk
  · revert w p
    refine rg_3 (n := 6) (k := 8) ?_
    decide +kernel
theorem ST2_R {c r r1 : sg_} {G R R1 : Nat} {M : Int} (S : ST2 c r G R M) (er : ∀ j, 0 ≤ j → j < 6044 → r1 R1 j = r R j) : ST2 c r1 G R1 M := by
  obtain ⟨S1, H, L, X, Y, W, w⟩ := S
  have x := S1.2.2.2.2.2.2
  have F : FCP c c (G + 1) (G + 1) := ⟨⟨rfl, rfl⟩, fun _ _ _ => ⟨rfl, rfl, rfl⟩, fun _ _ _ => ⟨rfl, rfl⟩, fun _ _ _ => ⟨rfl, rfl⟩, rfl, rfl, rfl, rfl⟩
  exact ⟨S1, relF_t H F (fun j a b => er j a (by omega)), relK_t L rfl rfl (fun _ _ _ => rfl) er S1.2.2.2.2.1.2, relX_t X x.2.2.2.1.1.2 x.2.2.2.2.1.2 rfl rfl (fun _ _ _ => ⟨rfl, rfl⟩) rfl (fun _ _ _ => ⟨rfl, rfl⟩) rfl (fun j a b => er j a (by omega)), RX_f Y (Int.le_refl _) (fun j a b => er j (by omega) (by omega)), fun w p hw hp => by rw [er _ (by omega) (by omega)]; exact W w p hw hp, by rw [er _ (by omega) (by omega)]; exact w⟩
/-- the state where the turns begin -/
def st1_ : sg_ := cpy st0 139 0 140 0 6044
theorem st1_e {b : Nat} {j : Int} (h : ¬ b = 140) : st1_ b j = st0 b j := cpy_fr h
theorem st1_140 {j : Int} (h0 : 0 ≤ j) (h1 : j < 6044) : st1_ 140 j = st1_ 139 j := by
  exact (cpy_v ⟨h0, h1⟩).trans (st1_e (by decide)).symm
set_option maxRecDepth 1000000 in
theorem LAWS_st : LAWS (fun _ _ => none) (fun _ _ => none) st1_ 0 := by
  have S1 : ST2 st1_ st1_ 47 139 0 := ST2_f ST2_st47 (Int.le_refl _) (fun b j _ h => st1_e (by omega)) (fun j _ _ => st1_e (by decide))
  have S2 : ST2 st1_ st1_ 69 139 0 := ST2_f ST2_st69 (Int.le_refl _) (fun b j _ h => st1_e (by omega)) (fun j _ _ => st1_e (by decide))
  have z6 : st1_ 47 6 = 0 := by rw [st1_e (by decide)]; decide +kernel
  refine ⟨⟨S1, ST2_R S2 (fun j a b => st1_140 a b), by rw [st1_e (by decide), st1_e (by decide)]; decide +kernel, SC_f (fun j => st1_e (by decide)) (fun j => st1_e (by decide)) (by unfold SC; decide +kernel), fun k k4 hk => ?_, fun k hk => by exfalso; omega, fun _ => rfl, fun _ => rfl, by rw [st1_e (by decide)]; decide +kernel⟩, ⟨by rw [st1_e (by decide)]; decide +kernel, by rw [st1_e (by decide), st1_e (by decide)]; decide +kernel, fun j a b => ?_⟩, ⟨by rw [st1_e (by decide)]; decide +kernel, Or.inl (by rw [st1_e (by decide), st1_e (by decide), st1_e (by decide)]; decide +kernel)⟩⟩
  · have e : k = 4 := by omega
    subst e
    intro l l0 l3
    show st1_ (12 + 7 * 4 + 2) l = -1
    rw [st1_e (by decide)]
    revert l
    refine rg_1 (n := 3) ?_
    decide +kernel
  · rw [st1_e (by decide), st1_e (by decide)]
    revert j
    refine rg_1 (n := 300) ?_
    decide +kernel

