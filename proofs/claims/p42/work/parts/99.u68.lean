/-! -/
/-! what else holds of a game: rows of steps, places, told heights -/
def rwOK (c : sg_) (A : Nat) (a : Int) : Prop := ((0 ≤ c A (a + 1) ∧ c A (a + 1) ≤ 9) ∧ (0 ≤ c A (a + 2) ∧ c A (a + 2) ≤ 9999) ∧ (-1 ≤ c A (a + 3) ∧ c A (a + 3) ≤ 5) ∧ (0 ≤ c A (a + 4) ∧ c A (a + 4) ≤ 30306) ∧ 0 ≤ c A (a + 5) ∧ c A (a + 5) ≤ 40) ∧ (∀ p, 0 ≤ p ∧ p < 8 → 0 ≤ c A (a + 6 + p) ∧ c A (a + 6 + p) ≤ 99) ∧ ∀ k, 0 ≤ k ∧ k < 48 → (-1 ≤ c A (a + 14 + k) ∧ c A (a + 14 + k) ≤ 99) ∧ (0 ≤ c A (a + 62 + k) ∧ c A (a + 62 + k) ≤ 199) ∧ (¬ c A (a + 14 + k) = -1 → c A (a + 62 + k) ≤ 99)
/-- of a state at G, in the class -/
def EX (c : sg_) (G : Nat) : Prop := (∀ p, 0 ≤ p ∧ p < 8 → (0 ≤ c (G + 2) p ∧ c (G + 2) p ≤ 99) ∧ 0 ≤ c (G + 4) p ∧ c (G + 4) p ≤ 99) ∧ (∀ w, 0 ≤ w ∧ w < 6 → 0 ≤ c (G + 6) w ∧ c (G + 6) w ≤ 511) ∧ (∀ i, 0 ≤ i ∧ i < 30 → rwOK c (G + 13) (i * 190)) ∧ ((0 ≤ c (G + 14) 3 ∧ c (G + 14) 3 ≤ 8) ∧ ∀ j, 0 ≤ j → j < 8 → c (G + 16) j = 0 ∨ c (G + 16) j = 1) ∧ (0 ≤ c (G + 18) 3 ∧ c (G + 18) 3 ≤ 10) ∧ -1 ≤ c G 7 ∧ c G 7 < c G 6
theorem EX_f {c c1 : sg_} {G : Nat} (x : EX c G) (e : ∀ (b : Nat) (j : Int), b = G ∨ b = G + 2 ∨ b = G + 4 ∨ b = G + 6 ∨ (G + 13 ≤ b ∧ b ≤ G + 20) → c1 b j = c b j) : EX c1 G := by
  unfold EX rwOK at *
  rw [e G 7 (by omega), e G 6 (by omega), e (G + 14) 3 (by omega), e (G + 18) 3 (by omega)]
  refine ⟨fun p hp => by rw [e (G + 2) p (by omega), e (G + 4) p (by omega)]; exact x.1 p hp, fun w hw => by rw [e (G + 6) w (by omega)]; exact x.2.1 w hw, fun i hi => ?_, ⟨x.2.2.2.1.1, fun j a b => by rw [e (G + 16) j (by omega)]; exact x.2.2.2.1.2 j a b⟩, x.2.2.2.2⟩
  have q := x.2.2.1 i hi
  have f : ∀ j, c1 (G + 13) j = c (G + 13) j := fun j => e _ j (by omega)
  simp only [f]
  exact q
/-- of the reference's rows of steps (R: now, or its image) -/
def RX (r : sg_) (R : Nat) (M : Int) : Prop := ∀ i, 0 ≤ i ∧ i < 30 → (0 ≤ r R (184 + 110 * i + 5) ∧ r R (184 + 110 * i + 5) ≤ M) ∧ ∀ k, 0 ≤ k ∧ k < 48 → 0 ≤ r R (184 + 110 * i + 14 + 2 * k + 1) ∧ r R (184 + 110 * i + 14 + 2 * k + 1) ≤ 199
theorem RX_f {r r1 : sg_} {R R1 : Nat} {M M1 : Int} (x : RX r R M) (h : M ≤ M1) (e : ∀ j, 184 ≤ j → j < 3484 → r1 R1 j = r R j) : RX r1 R1 M1 := fun i hi => by
  have q := x i hi
  refine ⟨?_, fun k hk => ?_⟩
  · rw [e _ (by omega) (by omega)]
    exact ⟨q.1.1, Int.le_trans q.1.2 h⟩
  · rw [e _ (by omega) (by omega)]
    exact q.2 k hk
theorem kp_row {c : sg_} {a : Int} (N : IG c 48) (h : c 48 10 ≤ 9999) (b : 0 ≤ c 56 2 ∧ c 56 2 ≤ 40) : rwOK (kpR c a) 60 a := by
  obtain ⟨⟨v0, v1, v2, v3, v4, v5⟩, v6, v8⟩ := kpR_v (s := c) (a := a)
  obtain ⟨⟨i0, i1, i2, i4, i6, i7, i9, i10, i11, i12⟩, g⟩ := N
  refine ⟨⟨by rw [v1]; exact i9, by rw [v2]; exact ⟨i10.1, h⟩, by rw [v3]; exact i11, by rw [v4]; exact i12, by rw [v5]; exact b⟩, fun p hp => by rw [v6 p hp]; exact i2 p hp.1 hp.2, fun k hk => ?_⟩
  rw [(v8 k hk).1, (v8 k hk).2]
  exact ⟨i6 k hk.1 hk.2, i7 k hk.1 hk.2, g k hk.1 hk.2⟩
theorem rwOK_f {c c1 : sg_} {A : Nat} {a : Int} (x : rwOK c A a) (e : ∀ j, a ≤ j → j < a + 110 → c1 A j = c A j) : rwOK c1 A a := by
  obtain ⟨⟨x1, x2, x3, x4, x5⟩, x6, x8⟩ := x
  refine ⟨⟨by rw [e _ (by omega) (by omega)]; exact x1, by rw [e _ (by omega) (by omega)]; exact x2, by rw [e _ (by omega) (by omega)]; exact x3, by rw [e _ (by omega) (by omega)]; exact x4, by rw [e _ (by omega) (by omega)]; exact x5⟩, fun p hp => by rw [e _ (by omega) (by omega)]; exact x6 p hp, fun k hk => ?_⟩
  rw [e _ (by omega) (by omega), e _ (by omega) (by omega)]
  exact x8 k hk
theorem keepC_row {c : sg_} (N : IG c 48) (h : c 48 10 ≤ 9999) (b : 0 ≤ c 56 2 ∧ c 56 2 ≤ 40) (he : 0 ≤ c 59 1 ∧ c 59 1 < 30) (hc : 0 ≤ c 59 2 ∧ c 59 2 ≤ 30) (x : ∀ i, 0 ≤ i ∧ i < 30 → rwOK c 60 (i * 190)) : ∀ i, 0 ≤ i ∧ i < 30 → rwOK (keepC c) 60 (i * 190) := fun i hi => by
  have pf : ∀ (b : Nat) (j : Int), ¬ b = 59 → kpP c b j = c b j := fun b j hb => kpP_fr hb
  have pe : 0 ≤ kpP c 59 1 ∧ kpP c 59 1 < 30 ∧ 0 ≤ kpP c 59 2 ∧ kpP c 59 2 < 30 := by
    unfold kpP
    by_cases q : c 59 2 = 30
    · rw [if_pos q, up_k (by decide), up_e, up_e]
      omega
    · rw [if_neg q]
      omega
  have N1 : IG (kpP c) 48 := IG_f (fun b j h1 h2 => pf b j (by omega)) N
  unfold keepC
  obtain ⟨a, ha⟩ : ∃ a, kpA (kpP c) = a := ⟨_, rfl⟩
  have ea : (kpP c 59 1 + kpP c 59 2) % 30 * 190 = a := ha
  rw [ha]
  by_cases q : i * 190 = a
  · rw [q]
    exact kp_row N1 (by rw [pf _ _ (by decide)]; exact h) (by rw [pf _ _ (by decide)]; exact b)
  · refine rwOK_f (x i hi) (fun j h1 h2 => ?_)
    rw [kpR_o (by omega), pf _ _ (by decide)]
theorem EX_keep {c : sg_} {tc : tcs} (N : NV c tc) (x : EX c 47) : EX (keepC c) 47 := by
  have r := keepC_row N.g N.h N.b N.e N.c x.2.2.1
  have f : ∀ (b : Nat) (j : Int), ¬ b = 59 → ¬ b = 60 → keepC c b j = c b j := fun b j h1 h2 => keepC_fr h1 h2
  refine ⟨fun p hp => by rw [f _ _ (by decide) (by decide), f _ _ (by decide) (by decide)]; exact x.1 p hp, fun w hw => by rw [f _ _ (by decide) (by decide)]; exact x.2.1 w hw, r, ⟨by rw [f _ _ (by decide) (by decide)]; exact x.2.2.2.1.1, fun j a b => by rw [f _ _ (by decide) (by decide)]; exact x.2.2.2.1.2 j a b⟩, by rw [f _ _ (by decide) (by decide)]; exact x.2.2.2.2.1, by rw [f _ _ (by decide) (by decide), f _ _ (by decide) (by decide)]; exact x.2.2.2.2.2⟩
theorem RX_ke {r : sg_} {M : Int} (G : RG r) (b : 0 ≤ r 139 12 ∧ r 139 12 ≤ M) (h4 : 0 ≤ r 139 4 ∧ r 139 4 < 30) (x : RX r 139 M) : RX (keR r) 139 M := fun i hi => by
  have q := x i hi
  have o : ∀ j, 184 ≤ j → j < 3484 → keR r 139 j = if 184 + 110 * r 139 4 ≤ j ∧ j < 184 + 110 * r 139 4 + 110 then rowv r (j - (184 + 110 * r 139 4)) else r 139 j := fun j h1 h2 => by
    unfold keR
    rw [up_k (by omega)]
    unfold rwR
    by_cases c : 184 + 110 * r 139 4 ≤ j ∧ j < 184 + 110 * r 139 4 + 110
    · rw [if_pos ⟨rfl, c⟩, if_pos c]
    · rw [if_neg (fun z => c z.2), if_neg c]
  by_cases c : i = r 139 4
  · refine ⟨?_, fun k hk => ?_⟩
    · rw [o _ (by omega) (by omega), if_pos (by omega), c, show 184 + 110 * r 139 4 + 5 - (184 + 110 * r 139 4) = 5 by omega]
      exact b
    · rw [o _ (by omega) (by omega), if_pos (by omega), c, show 184 + 110 * r 139 4 + 14 + 2 * k + 1 - (184 + 110 * r 139 4) = 15 + 2 * k by omega]
      unfold rowv
      rw [if_neg (by omega), if_neg (by omega), if_neg (by omega)]
      have e := G.e (k / 8) (k % 8) (by omega) (by omega)
      rw [show 52 + 2 * (8 * (k / 8) + k % 8) + 1 = 38 + (15 + 2 * k) by omega] at e
      exact e
  · refine ⟨?_, fun k hk => ?_⟩
    · rw [o _ (by omega) (by omega), if_neg (by omega)]
      exact q.1
    · rw [o _ (by omega) (by omega), if_neg (by omega)]
      exact q.2 k hk
theorem RX_keep {r : sg_} {cr : crs} {M : Int} (T : RT r cr M) (x : RX r 139 M) : RX (keepR r) 139 M := by
  have k := T.k
  unfold keepR
  by_cases h : r 139 4 = 30
  · rw [if_pos h]
    obtain ⟨r1, er1⟩ : ∃ z, up (shR r 3190) 139 4 29 = z := ⟨_, rfl⟩
    rw [er1]
    have bo : ∀ j : Int, j < 184 → ¬ j = 4 → r1 139 j = r 139 j := fun j h1 h2 => by
      rw [← er1, up_k h2]
      exact if_neg (by omega)
    have bs : ∀ j : Int, 184 ≤ j → j < 3374 → r1 139 j = r 139 (j + 110) := fun j h1 h2 => by
      rw [← er1, up_k (by omega)]
      exact if_pos ⟨rfl, h1, by omega⟩
    have bt : ∀ j : Int, 3374 ≤ j → r1 139 j = r 139 j := fun j h1 => by
      rw [← er1, up_k (by omega)]
      exact if_neg (by omega)
    have G1 : RG r1 := RG_e T.rs.g (fun j h1 h2 => bo j (by omega) (by omega)) (bo 0 (by decide) (by decide)) (bo 1 (by decide) (by decide)) (by rw [bo 9 (by decide) (by decide)]; exact T.rs.g.w) (by rw [bo 8 (by decide) (by decide)]; exact T.rs.g.o) (by rw [bo 11 (by decide) (by decide)]; exact T.rs.g.x) (by rw [bo 10 (by decide) (by decide)]; exact T.rs.g.d)
    refine RX_ke G1 (by rw [bo 12 (by decide) (by decide)]; exact T.b) (by rw [← er1, up_e]; decide) (fun i hi => ?_)
    by_cases c : i = 29
    · subst c
      have q := x 29 (by decide)
      refine ⟨by rw [bt _ (by decide)]; exact q.1, fun k hk => ?_⟩
      rw [bt _ (by omega)]
      exact q.2 k hk
    · have q := x (i + 1) (by omega)
      refine ⟨?_, fun k hk => ?_⟩
      · rw [bs _ (by omega) (by omega), show 184 + 110 * i + 5 + 110 = 184 + 110 * (i + 1) + 5 by omega]
        exact q.1
      · rw [bs _ (by omega) (by omega), show 184 + 110 * i + 14 + 2 * k + 1 + 110 = 184 + 110 * (i + 1) + 14 + 2 * k + 1 by omega]
        exact q.2 k hk
  · rw [if_neg h]
    exact RX_ke T.rs.g T.b (by omega) x
/-- the reference's bounds, out of the class's -/
theorem RG_of {c r : sg_} (H : relF c r 48 139) (N : IG c 48) (h : c 48 10 ≤ 9999) (x : ∀ p, 0 ≤ p ∧ p < 8 → 0 ≤ c 51 p ∧ c 51 p ≤ 99) (e : ∀ w p, (0 ≤ w ∧ w < 6) → (0 ≤ p ∧ p < 8) → 0 ≤ r 139 (52 + 2 * (8 * w + p) + 1) ∧ r 139 (52 + 2 * (8 * w + p) + 1) ≤ 199) : RG r := by
  obtain ⟨⟨i0, i1, i2, i4, i6, i7, i9, i10, i11, i12⟩, g⟩ := N
  obtain ⟨⟨h0, h1⟩, h2, h3, h4, h8, h9, hA, hB⟩ := H
  exact RG_mk
    (a_ := fun p hp => by rw [(h2 p hp).1]; exact i2 p hp.1 hp.2)
    (pl_ := fun p hp => by rw [(h2 p hp).2.1]; exact x p hp)
    (n_ := fun w hw => by rw [(h3 w hw).1]; exact i4 w hw.1 hw.2)
    (h_ := fun w p hw hp => by
      unfold htR
      rw [(h4 w p hw hp).1]
      exact i6 _ (by omega) (by omega))
    (e_ := e)
    (f_ := fun w p hw hp z => by
      unfold htR at z
      rw [(h4 w p hw hp).1] at z
      rw [(h4 w p hw hp).2 z]
      exact g _ (by omega) (by omega) z)
    (w_ := by rw [h9]; exact i9)
    (o_ := by rw [h8]; exact ⟨i10.1, by omega⟩)
    (x_ := by rw [hB]; exact i12)
    (d_ := by rw [hA]; exact i11)
    (p0_ := by rw [h0]; exact i0)
    (w0_ := by rw [h1]; exact i1)
theorem back_IG {c : sg_} {tc : tcs} (N : NV c tc) (x : EX c 47) (h1 : 1 ≤ c 59 2) : IG (backC c) 48 ∧ backC c 48 10 ≤ 9999 ∧ 0 ≤ backC c 56 2 ∧ backC c 56 2 ≤ 40 := by
  obtain ⟨⟨i0, i1, i2, i4, i6, i7, i8⟩, g⟩ := N.g
  have he := N.e
  have hc := N.c
  have o : rwOK c 60 (tbA c) := x.2.2.1 ((c 59 1 + (c 59 2 - 1)) % 30) (by omega)
  obtain ⟨a, ha⟩ : ∃ a, tbA c = a := ⟨_, rfl⟩
  rw [ha] at o
  obtain ⟨⟨o1, o2, o3, o4, o5⟩, o6, o8⟩ := o
  obtain ⟨-, ⟨c3, c4, c5, c6, cB⟩, c7, c8, c9⟩ := backC_v ha
  refine ⟨⟨⟨by rw [c9 _ _ (by omega)]; exact i0, by rw [c9 _ _ (by omega)]; exact i1, fun p a1 a2 => ?_, fun w a1 a2 => by rw [c9 _ _ (by omega)]; exact i4 w a1 a2, fun k a1 a2 => ?_, fun k a1 a2 => ?_, by rw [c3]; exact o1, by rw [c4]; omega, by rw [c5]; exact o3, by rw [c6]; exact o4⟩, fun k a1 a2 z => ?_⟩, by rw [c4]; exact o2.2, by rw [cB]; exact o5⟩
  · rw [show backC c (48 + 2) p = _ from c7 p ⟨a1, a2⟩]
    have u1 := i2 p a1 a2
    have u2 := o6 p ⟨a1, a2⟩
    have u3 := (x.1 p ⟨a1, a2⟩).1
    split
    · split
      · exact u2
      · exact u3
    · exact u1
  · rw [show backC c (48 + 6) k = _ from (c8 k ⟨a1, a2⟩).1]
    exact (o8 k ⟨a1, a2⟩).1
  · rw [show backC c (48 + 7) k = _ from (c8 k ⟨a1, a2⟩).2]
    exact (o8 k ⟨a1, a2⟩).2.1
  · rw [show backC c (48 + 6) k = _ from (c8 k ⟨a1, a2⟩).1] at z
    rw [show backC c (48 + 7) k = _ from (c8 k ⟨a1, a2⟩).2]
    exact (o8 k ⟨a1, a2⟩).2.2 z
/-- what else stands in both: texts, finds, claims -/
def relX (c r : sg_) (G R : Nat) : Prop := (r R 2 = c G 6 ∧ r R 3 = c G 7) ∧ (r R 5 = c (G + 14) 3 ∧ ∀ k, 0 ≤ k → k < c (G + 14) 3 → r R (148 + 2 * k) = c (G + 15) k ∧ r R (148 + 2 * k + 1) = c (G + 16) k) ∧ r R 6 = c (G + 18) 3 ∧ ∀ k, 0 ≤ k → k < c (G + 18) 3 → r R (164 + 2 * k) = c (G + 19) k ∧ r R (164 + 2 * k + 1) = c (G + 20) k
theorem relX_f {c r c1 r1 : sg_} (H : relX c r 47 139) (e : ∀ (b : Nat) (j : Int), b = 47 ∨ (61 ≤ b ∧ b ≤ 67) → c1 b j = c b j) (er : ∀ j : Int, j = 2 ∨ j = 3 ∨ j = 5 ∨ j = 6 ∨ (148 ≤ j ∧ j < 184) → r1 139 j = r 139 j) (b1 : c 61 3 ≤ 8) (b2 : c 65 3 ≤ 10) : relX c1 r1 47 139 := by
  obtain ⟨⟨h2, h3⟩, ⟨h5, hf⟩, h6, hk⟩ := H
  refine ⟨⟨by rw [er 2 (by omega), e 47 6 (by omega)]; exact h2, by rw [er 3 (by omega), e 47 7 (by omega)]; exact h3⟩, ⟨by rw [er 5 (by omega), e (47 + 14) 3 (by omega)]; exact h5, fun j a b => ?_⟩, by rw [er 6 (by omega), e (47 + 18) 3 (by omega)]; exact h6, fun j a b => ?_⟩
  · rw [e (47 + 14) 3 (by omega)] at b
    have b : j < c 61 3 := b
    rw [er _ (by omega), er _ (by omega), e (47 + 15) j (by omega), e (47 + 16) j (by omega)]
    exact hf j a b
  · rw [e (47 + 18) 3 (by omega)] at b
    have b : j < c 65 3 := b
    rw [er _ (by omega), er _ (by omega), e (47 + 19) j (by omega), e (47 + 20) j (by omega)]
    exact hk j a b
