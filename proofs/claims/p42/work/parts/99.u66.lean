/-! -/
/-! steps kept and taken back in both -/
/-- a row of steps in both -/
def relW (c r : sg_) (A : Nat) (a : Int) (R : Nat) (b : Int) : Prop := (r R b = c A a ∧ r R (b + 1) = c A (a + 2) ∧ r R (b + 2) = c A (a + 1) ∧ r R (b + 3) = c A (a + 3) ∧ r R (b + 4) = c A (a + 4)) ∧ (∀ p, 0 ≤ p ∧ p < 8 → r R (b + 6 + p) = c A (a + 6 + p)) ∧ ∀ w p, (0 ≤ w ∧ w < 6) → (0 ≤ p ∧ p < 8) → r R (b + 14 + 2 * (8 * w + p)) = c A (a + 14 + (p * 6 + w)) ∧ (¬ c A (a + 14 + (p * 6 + w)) = -1 → r R (b + 14 + 2 * (8 * w + p) + 1) = c A (a + 62 + (p * 6 + w)))
/-- where the i-th step stands, in the class -/
def rwC (e i : Int) : Int := (e + i) % 30 * 190
/-- the steps in both -/
def relK (c r : sg_) (G R : Nat) : Prop := r R 4 = c (G + 12) 2 ∧ ∀ i, 0 ≤ i → i < c (G + 12) 2 → relW c r (G + 13) (rwC (c (G + 12) 1) i) R (184 + 110 * i)
theorem relW_f {c r c1 r1 : sg_} {A R : Nat} {a b : Int} (H : relW c r A a R b) {a1 b1 : Int} (ec : ∀ k, 0 ≤ k → k < 110 → c1 A (a1 + k) = c A (a + k)) (er : ∀ k, 0 ≤ k → k < 110 → r1 R (b1 + k) = r R (b + k)) : relW c1 r1 A a1 R b1 := by
  obtain ⟨⟨h0, h1, h2, h3, h4⟩, hp, hf⟩ := H
  have e0 := ec 0 (by decide) (by decide)
  have f0 := er 0 (by decide) (by decide)
  rw [Int.add_zero, Int.add_zero] at e0 f0
  refine ⟨⟨by rw [e0, f0]; exact h0, by rw [er 1 (by decide) (by decide), ec 2 (by decide) (by decide)]; exact h1, by rw [er 2 (by decide) (by decide), ec 1 (by decide) (by decide)]; exact h2, by rw [er 3 (by decide) (by decide), ec 3 (by decide) (by decide)]; exact h3, by rw [er 4 (by decide) (by decide), ec 4 (by decide) (by decide)]; exact h4⟩, fun p h => ?_, fun w p hw h => ?_⟩
  · have x1 : r1 R (b1 + 6 + p) = r R (b + 6 + p) := by
      rw [show b1 + 6 + p = b1 + (6 + p) by omega, er _ (by omega) (by omega)]
      exact congrArg (r R) (by omega)
    have y1 : c1 A (a1 + 6 + p) = c A (a + 6 + p) := by
      rw [show a1 + 6 + p = a1 + (6 + p) by omega, ec _ (by omega) (by omega)]
      exact congrArg (c A) (by omega)
    rw [x1, y1]
    exact hp p h
  · have x1 : r1 R (b1 + 14 + 2 * (8 * w + p)) = r R (b + 14 + 2 * (8 * w + p)) := by
      rw [show b1 + 14 + 2 * (8 * w + p) = b1 + (14 + 2 * (8 * w + p)) by omega, er _ (by omega) (by omega)]
      exact congrArg (r R) (by omega)
    have x2 : r1 R (b1 + 14 + 2 * (8 * w + p) + 1) = r R (b + 14 + 2 * (8 * w + p) + 1) := by
      rw [show b1 + 14 + 2 * (8 * w + p) + 1 = b1 + (14 + 2 * (8 * w + p) + 1) by omega, er _ (by omega) (by omega)]
      exact congrArg (r R) (by omega)
    have y1 : c1 A (a1 + 14 + (p * 6 + w)) = c A (a + 14 + (p * 6 + w)) := by
      rw [show a1 + 14 + (p * 6 + w) = a1 + (14 + (p * 6 + w)) by omega, ec _ (by omega) (by omega)]
      exact congrArg (c A) (by omega)
    have y2 : c1 A (a1 + 62 + (p * 6 + w)) = c A (a + 62 + (p * 6 + w)) := by
      rw [show a1 + 62 + (p * 6 + w) = a1 + (62 + (p * 6 + w)) by omega, ec _ (by omega) (by omega)]
      exact congrArg (c A) (by omega)
    rw [x1, x2, y1, y2]
    exact hf w p hw h
theorem relK_f {c r c1 r1 : sg_} {G R : Nat} (H : relK c r G R) (e4 : r1 R 4 = r R 4) (e1 : c1 (G + 12) 1 = c (G + 12) 1) (e2 : c1 (G + 12) 2 = c (G + 12) 2) (ec : ∀ j, c1 (G + 13) j = c (G + 13) j) (er : ∀ j, 184 ≤ j → j < 3484 → r1 R j = r R j) (hn : c (G + 12) 2 ≤ 30) : relK c1 r1 G R := by
  refine ⟨by rw [e4, e2]; exact H.1, fun i a b => ?_⟩
  rw [e2] at b
  rw [e1]
  exact relW_f (H.2 i a b) (fun k _ _ => ec _) (fun k h1 h2 => er _ (by omega) (by omega))
theorem kpR_v {s : sg_} {a : Int} : (kpR s a 60 a = s 48 0 ∧ kpR s a 60 (a + 1) = s 48 9 ∧ kpR s a 60 (a + 2) = s 48 10 ∧ kpR s a 60 (a + 3) = s 48 11 ∧ kpR s a 60 (a + 4) = s 48 12 ∧ kpR s a 60 (a + 5) = s 56 2) ∧ (∀ p, 0 ≤ p ∧ p < 8 → kpR s a 60 (a + 6 + p) = s 50 p) ∧ ∀ k, 0 ≤ k ∧ k < 48 → kpR s a 60 (a + 14 + k) = s 54 k ∧ kpR s a 60 (a + 62 + k) = s 55 k := by
  unfold kpR cpy up
  refine ⟨⟨?_, ?_, ?_, ?_, ?_, ?_⟩, fun p hp => ?_, fun k hk => ⟨?_, ?_⟩⟩
  · (repeat (first | rw [if_neg (by omega)] | rw [if_pos (by omega)] | dsimp only))
  · (repeat (first | rw [if_neg (by omega)] | rw [if_pos (by omega)] | dsimp only))
  · (repeat (first | rw [if_neg (by omega)] | rw [if_pos (by omega)] | dsimp only))
  · (repeat (first | rw [if_neg (by omega)] | rw [if_pos (by omega)] | dsimp only))
  · (repeat (first | rw [if_neg (by omega)] | rw [if_pos (by omega)] | dsimp only))
  · (repeat (first | rw [if_neg (by omega)] | rw [if_pos (by omega)] | dsimp only))
  · rw [show a + 6 + p - (a + 6) + 0 = p by omega]
    (repeat (first | rw [if_neg (by omega)] | rw [if_pos (by omega)] | dsimp only))
  · rw [show a + 14 + k - (a + 14) + 0 = k by omega]
    (repeat (first | rw [if_neg (by omega)] | rw [if_pos (by omega)] | dsimp only))
  · rw [show a + 62 + k - (a + 62) + 0 = k by omega]
    (repeat (first | rw [if_neg (by omega)] | rw [if_pos (by omega)] | dsimp only))
theorem kpR_o {s : sg_} {a j : Int} (h : j < a ∨ a + 190 ≤ j) : kpR s a 60 j = s 60 j := by
  unfold kpR cpy up
  (repeat (first | rw [if_neg (by omega)] | rw [if_pos (by omega)] | dsimp only))
/-- a row kept in both -/
theorem relW_new {c r : sg_} (H : relF c r 48 139) {a b : Int} : relW (kpR c a) (rwR r b 110) 60 a 139 b := by
  obtain ⟨⟨v0, v1, v2, v3, v4, -⟩, v6, v8⟩ := kpR_v (s := c) (a := a)
  have w : ∀ k, 0 ≤ k → k < 110 → rwR r b 110 139 (b + k) = rowv r k := fun k h1 h2 => by
    unfold rwR
    rw [if_pos ⟨rfl, by omega, by omega⟩, show b + k - b = k by omega]
  have w0 := w 0 (by decide) (by decide)
  rw [Int.add_zero] at w0
  refine ⟨⟨by rw [w0, v0]; exact H.1.1, by rw [w 1 (by decide) (by decide), v2]; exact H.2.2.2.2.1, by rw [w 2 (by decide) (by decide), v1]; exact H.2.2.2.2.2.1, by rw [w 3 (by decide) (by decide), v3]; exact H.2.2.2.2.2.2.1, by rw [w 4 (by decide) (by decide), v4]; exact H.2.2.2.2.2.2.2⟩, fun p hp => ?_, fun u p hu hp => ?_⟩
  · have x1 : rwR r b 110 139 (b + 6 + p) = r 139 (16 + 3 * p) := by
      rw [show b + 6 + p = b + (6 + p) by omega, w _ (by omega) (by omega)]
      unfold rowv
      rw [if_neg (by omega), if_neg (by omega), if_pos (by omega)]
      exact congrArg (r 139) (by omega)
    rw [x1, v6 p hp]
    exact (H.2.1 p hp).1
  · have f := H.2.2.2.1 u p hu hp
    have x1 : rwR r b 110 139 (b + 14 + 2 * (8 * u + p)) = r 139 (52 + 2 * (8 * u + p) + 0) := by
      rw [show b + 14 + 2 * (8 * u + p) = b + (14 + 2 * (8 * u + p)) by omega, w _ (by omega) (by omega)]
      unfold rowv
      rw [if_neg (by omega), if_neg (by omega), if_neg (by omega)]
      exact congrArg (r 139) (by omega)
    have x2 : rwR r b 110 139 (b + 14 + 2 * (8 * u + p) + 1) = r 139 (52 + 2 * (8 * u + p) + 1) := by
      rw [show b + 14 + 2 * (8 * u + p) + 1 = b + (14 + 2 * (8 * u + p) + 1) by omega, w _ (by omega) (by omega)]
      unfold rowv
      rw [if_neg (by omega), if_neg (by omega), if_neg (by omega)]
      exact congrArg (r 139) (by omega)
    rw [x1, x2, (v8 (p * 6 + u) (by omega)).1, (v8 (p * 6 + u) (by omega)).2]
    exact f
theorem keep_1 {c r : sg_} (H : relF c r 48 139) (K : relK c r 47 139) (he : 0 ≤ c 59 1 ∧ c 59 1 < 30) (hc : 0 ≤ c 59 2 ∧ c 59 2 < 30) : relK (kpR c (kpA c)) (keR r) 47 139 := by
  have e4 : r 139 4 = c 59 2 := K.1
  have q1 : kpR c (kpA c) 59 1 = c 59 1 := by rw [kpR_59, up_k (by decide)]
  have q2 : kpR c (kpA c) 59 2 = c 59 2 + 1 := by rw [kpR_59, up_e]
  refine ⟨?_, fun i a b => ?_⟩
  · show keR r 139 4 = kpR c (kpA c) 59 2
    rw [q2]
    unfold keR
    rw [up_e, e4]
  · have b : i < kpR c (kpA c) 59 2 := b
    rw [q2] at b
    show relW (kpR c (kpA c)) (keR r) 60 (rwC (kpR c (kpA c) 59 1) i) 139 (184 + 110 * i)
    rw [q1]
    by_cases e : i = c 59 2
    · subst e
      have n := relW_new H (a := kpA c) (b := 184 + 110 * r 139 4)
      rw [e4] at n
      exact relW_f n (a1 := kpA c) (b1 := 184 + 110 * c 59 2) (fun k _ _ => rfl) (fun k h1 h2 => by
        unfold keR
        rw [up_k (by omega), e4])
    · have o : relW c r 60 (rwC (c 59 1) i) 139 (184 + 110 * i) := K.2 i a (show i < c 59 2 by omega)
      refine relW_f o (fun k h1 h2 => ?_) (fun k h1 h2 => ?_)
      · refine kpR_o ?_
        unfold rwC kpA
        omega
      · unfold keR
        rw [up_k (by omega)]
        unfold rwR
        exact if_neg (by omega)
theorem keep_eq {c r : sg_} (H : relF c r 48 139) (K : relK c r 47 139) (he : 0 ≤ c 59 1 ∧ c 59 1 < 30) (hc : 0 ≤ c 59 2 ∧ c 59 2 ≤ 30) : relF (keepC c) (keepR r) 48 139 ∧ relK (keepC c) (keepR r) 47 139 := by
  have e4 : r 139 4 = c 59 2 := K.1
  refine ⟨relF_f H (fun b j h1 h2 => keepC_fr (by omega) (by omega)) (fun j h1 h2 h3 h4 h5 h6 => keepR_fr (by omega) (Or.inr ⟨by omega, h5⟩)), ?_⟩
  unfold keepC keepR kpP
  by_cases h : c 59 2 = 30
  · rw [if_pos h, if_pos (by rw [e4]; exact h)]
    obtain ⟨c1, ec1⟩ : ∃ z, up (up c 59 1 ((c 59 1 + 1) % 30)) 59 2 29 = z := ⟨_, rfl⟩
    obtain ⟨r1, er1⟩ : ∃ z, up (shR r 3190) 139 4 29 = z := ⟨_, rfl⟩
    rw [ec1, er1]
    have a1 : c1 59 1 = (c 59 1 + 1) % 30 := by rw [← ec1, up_k (by decide), up_e]
    have a2 : c1 59 2 = 29 := by rw [← ec1, up_e]
    have ao : ∀ (b : Nat) (j : Int), ¬ b = 59 → c1 b j = c b j := fun b j hb => by rw [← ec1, up_a hb, up_a hb]
    have b4 : r1 139 4 = 29 := by rw [← er1, up_e]
    have bo : ∀ j : Int, j < 184 → ¬ j = 4 → r1 139 j = r 139 j := fun j h1 h2 => by
      rw [← er1, up_k h2]
      exact if_neg (by omega)
    have bs : ∀ j : Int, 184 ≤ j → j < 3374 → r1 139 j = r 139 (j + 110) := fun j h1 h2 => by
      rw [← er1, up_k (by omega)]
      exact if_pos ⟨rfl, h1, by omega⟩
    have H1 : relF c1 r1 48 139 := relF_f H (fun b j h1 h2 => ao b j (by omega)) (fun j h1 h2 h3 h4 h5 h6 => bo j (by omega) h5)
    have K1 : relK c1 r1 47 139 := by
      refine ⟨b4.trans a2.symm, fun i x y => ?_⟩
      have y : i < c1 59 2 := y
      rw [a2] at y
      show relW c1 r1 60 (rwC (c1 59 1) i) 139 (184 + 110 * i)
      have o : relW c r 60 (rwC (c 59 1) (i + 1)) 139 (184 + 110 * (i + 1)) := K.2 (i + 1) (by omega) (show i + 1 < c 59 2 by omega)
      have ea : rwC (c1 59 1) i = rwC (c 59 1) (i + 1) := by
        unfold rwC
        rw [a1]
        omega
      rw [ea]
      refine relW_f o (fun k h1 h2 => ao _ _ (by decide)) (fun k h1 h2 => ?_)
      rw [bs _ (by omega) (by omega)]
      exact congrArg (r 139) (by omega)
    exact keep_1 H1 K1 (by omega) (by omega)
  · rw [if_neg h, if_neg (by rw [e4]; exact h)]
    exact keep_1 H K he (by omega)
theorem udR_v {r : sg_} {a : Int} (h4 : 1 ≤ r 139 4 ∧ r 139 4 ≤ 30) (h0 : 0 ≤ r 139 0 ∧ r 139 0 ≤ 8) (ha : 184 + 110 * (r 139 4 - 1) = a) : udR r 139 4 = r 139 4 - 1 ∧ (∀ j, 0 ≤ j → j < 8 → ¬ j = 4 → udR r 139 j = r 139 j) ∧ (∀ k, 0 ≤ k → k < 5 → udR r 139 (8 + k) = r 139 (a + 1 + k)) ∧ (∀ p, 0 ≤ p ∧ p < 8 → udR r 139 (16 + 3 * p) = (if p < r 139 0 then (if p < r 139 a then r 139 (a + 6 + p) else r 139 (16 + 3 * p + 2)) else r 139 (16 + 3 * p)) ∧ udR r 139 (16 + 3 * p + 1) = r 139 (16 + 3 * p + 1) ∧ udR r 139 (16 + 3 * p + 2) = r 139 (16 + 3 * p + 2)) ∧ (∀ j, 40 ≤ j → j < 52 → udR r 139 j = r 139 j) ∧ (∀ k, 0 ≤ k → k < 96 → udR r 139 (52 + k) = r 139 (a + 14 + k)) ∧ ∀ (b : Nat) (j : Int), ¬ b = 139 ∨ 148 ≤ j → udR r b j = r b j := by
  have hA : udA r = a := ha
  unfold udR
  rw [hA]
  obtain ⟨t, et⟩ : ∃ z, up r 139 4 (r 139 4 - 1) = z := ⟨_, rfl⟩
  rw [et]
  have to : ∀ (b : Nat) (j : Int), ¬ b = 139 ∨ ¬ j = 4 → t b j = r b j := fun b j h => by
    rw [← et]
    exact if_neg (by omega)
  obtain ⟨x, ex⟩ : ∃ z, ud1 t a 5 = z := ⟨_, rfl⟩
  rw [ex]
  have x1 : ∀ (b : Nat) (j : Int), (¬ b = 139 ∨ j < 8 ∨ 13 ≤ j) → x b j = t b j := fun b j h => by
    rw [← ex]
    exact ud1_fr (by omega)
  have x2 : ∀ k, 0 ≤ k → k < 5 → x 139 (8 + k) = r 139 (a + 1 + k) := fun k h1 h2 => by
    rw [← ex]
    unfold ud1
    rw [if_pos ⟨rfl, by omega, by omega⟩, to _ _ (by omega)]
    exact congrArg (r 139) (by omega)
  obtain ⟨y, ey⟩ : ∃ z, ud2 x a (r 139 0) = z := ⟨_, rfl⟩
  rw [ey]
  have y1 : ∀ (b : Nat) (j : Int), (¬ b = 139 ∨ j < 16 ∨ 16 + 3 * r 139 0 ≤ j ∨ ¬ (j - 16) % 3 = 0) → y b j = x b j := fun b j h => by
    rw [← ey]
    exact ud2_fr (by omega)
  have y2 : ∀ p, 0 ≤ p → p < r 139 0 → y 139 (16 + 3 * p) = if p < r 139 a then r 139 (a + 6 + p) else r 139 (16 + 3 * p + 2) := fun p h1 h2 => by
    rw [← ey]
    unfold ud2
    rw [if_pos ⟨rfl, by omega, by omega, by omega⟩, show (16 + 3 * p - 16) / 3 = p by omega, x1 139 a (by omega), to 139 a (by omega), x1 139 (a + 6 + p) (by omega), to 139 (a + 6 + p) (by omega), x1 139 (16 + 3 * p + 2) (by omega), to 139 (16 + 3 * p + 2) (by omega)]
  have z1 : ∀ (b : Nat) (j : Int), (¬ b = 139 ∨ j < 52 ∨ 148 ≤ j) → ud3 y a 96 b j = y b j := fun b j h => ud3_fr (by omega)
  refine ⟨?_, fun j h1 h2 h3 => ?_, fun k h1 h2 => ?_, fun p hp => ⟨?_, ?_, ?_⟩, fun j h1 h2 => ?_, fun k h1 h2 => ?_, fun b j h => ?_⟩
  · rw [z1 _ _ (by omega), y1 _ _ (by omega), x1 _ _ (by omega), ← et, up_e]
  · rw [z1 _ _ (by omega), y1 _ _ (by omega), x1 _ _ (by omega), to _ _ (by omega)]
  · rw [z1 _ _ (by omega), y1 _ _ (by omega), x2 k h1 h2]
  · rw [z1 _ _ (by omega)]
    by_cases c : p < r 139 0
    · rw [if_pos c, y2 p hp.1 c]
    · rw [if_neg c, y1 _ _ (by omega), x1 _ _ (by omega), to _ _ (by omega)]
  · rw [z1 _ _ (by omega), y1 _ _ (by omega), x1 _ _ (by omega), to _ _ (by omega)]
  · rw [z1 _ _ (by omega), y1 _ _ (by omega), x1 _ _ (by omega), to _ _ (by omega)]
  · rw [z1 _ _ (by omega), y1 _ _ (by omega), x1 _ _ (by omega), to _ _ (by omega)]
  · unfold ud3
    rw [if_pos ⟨rfl, by omega, by omega⟩, show 52 + k - 38 + a = a + 14 + k by omega, y1 _ _ (by omega), x1 _ _ (by omega), to _ _ (by omega)]
  · rw [z1 _ _ (by omega), y1 _ _ (by omega), x1 _ _ (by omega), to _ _ (by omega)]
theorem backC_v {c : sg_} {a : Int} (ha : tbA c = a) : (backC c 59 2 = c 59 2 - 1 ∧ backC c 59 1 = c 59 1) ∧ (backC c 48 9 = c 60 (a + 1) ∧ backC c 48 10 = c 60 (a + 2) ∧ backC c 48 11 = c 60 (a + 3) ∧ backC c 48 12 = c 60 (a + 4) ∧ backC c 56 2 = c 60 (a + 5)) ∧ (∀ p, 0 ≤ p ∧ p < 8 → backC c 50 p = if p < c 48 0 then (if p < c 60 a then c 60 (a + 6 + p) else c 49 p) else c 50 p) ∧ (∀ k, 0 ≤ k ∧ k < 48 → backC c 54 k = c 60 (a + 14 + k) ∧ backC c 55 k = c 60 (a + 62 + k)) ∧ ∀ (b : Nat) (j : Int), (b < 48 ∨ (b = 48 ∧ j < 9) ∨ b = 49 ∨ b = 51 ∨ b = 52 ∨ b = 53 ∨ 60 ≤ b) → backC c b j = c b j := by
  unfold backC
  rw [ha]
  obtain ⟨t, et⟩ : ∃ z, tb1 c a = z := ⟨_, rfl⟩
  rw [et]
  have t0 : ∀ j, t 60 j = c 60 j := fun j => by rw [← et]; exact tb1_60
  have to : ∀ (b : Nat) (j : Int), (¬ b = 48 ∧ ¬ b = 56 ∧ ¬ b = 59) ∨ (b = 48 ∧ j < 9) → t b j = c b j := fun b j h => by
    rw [← et]
    unfold tb1 up
    (repeat (first | rw [if_neg (by omega)] | rw [if_pos (by omega)] | dsimp only))
  have u : (t 59 2 = c 59 2 - 1 ∧ t 59 1 = c 59 1) ∧ t 48 9 = c 60 (a + 1) ∧ t 48 10 = c 60 (a + 2) ∧ t 48 11 = c 60 (a + 3) ∧ t 48 12 = c 60 (a + 4) ∧ t 56 2 = c 60 (a + 5) := by
    rw [← et]
    unfold tb1 up
    refine ⟨⟨?_, ?_⟩, ?_, ?_, ?_, ?_, ?_⟩ <;> (repeat (first | rw [if_neg (by omega)] | rw [if_pos (by omega)] | dsimp only))
  have v : ∀ (b : Nat) (j : Int), ¬ b = 50 → ¬ b = 54 → ¬ b = 55 → ¬ b = 57 → ¬ b = 58 → tb2 t a b j = t b j := fun b j h1 h2 h3 h4 h5 => by
    unfold tb2
    rw [cpy_fr h5, cpy_fr h4, cpy_fr h3, cpy_fr h2, tlW_fr h1]
  refine ⟨⟨by rw [v _ _ (by decide) (by decide) (by decide) (by decide) (by decide)]; exact u.1.1, by rw [v _ _ (by decide) (by decide) (by decide) (by decide) (by decide)]; exact u.1.2⟩, ⟨by rw [v _ _ (by decide) (by decide) (by decide) (by decide) (by decide)]; exact u.2.1, by rw [v _ _ (by decide) (by decide) (by decide) (by decide) (by decide)]; exact u.2.2.1, by rw [v _ _ (by decide) (by decide) (by decide) (by decide) (by decide)]; exact u.2.2.2.1, by rw [v _ _ (by decide) (by decide) (by decide) (by decide) (by decide)]; exact u.2.2.2.2.1, by rw [v _ _ (by decide) (by decide) (by decide) (by decide) (by decide)]; exact u.2.2.2.2.2⟩, fun p hp => ?_, fun k hk => ⟨?_, ?_⟩, fun b j h => ?_⟩
  · unfold tb2
    rw [cpy_fr (by decide), cpy_fr (by decide), cpy_fr (by decide), cpy_fr (by decide)]
    unfold tlW
    rw [to 48 0 (by omega), t0, t0, to 49 p (by omega), to 50 p (by omega)]
    by_cases e : p < c 48 0
    · rw [if_pos ⟨rfl, hp.1, e⟩, if_pos e]
    · rw [if_neg (fun z => e z.2.2), if_neg e]
  · unfold tb2
    rw [cpy_fr (by decide), cpy_fr (by decide), cpy_fr (by decide)]
    unfold cpy
    rw [if_pos ⟨rfl, by omega, by omega⟩, tlW_fr (by decide), t0]
    exact congrArg (c 60) (by omega)
  · unfold tb2
    rw [cpy_fr (by decide), cpy_fr (by decide)]
    unfold cpy
    rw [if_pos ⟨rfl, by omega, by omega⟩, if_neg (by omega), tlW_fr (by decide), t0]
    exact congrArg (c 60) (by omega)
  · rw [v _ _ (by omega) (by omega) (by omega) (by omega) (by omega), to _ _ (by omega)]
theorem undo_eq {c r : sg_} (H : relF c r 48 139) (K : relK c r 47 139) (he : 0 ≤ c 59 1 ∧ c 59 1 < 30) (hc : 1 ≤ c 59 2 ∧ c 59 2 ≤ 30) (h0 : 0 ≤ c 48 0 ∧ c 48 0 ≤ 8) : relF (backC c) (udR r) 48 139 ∧ relK (backC c) (udR r) 47 139 := by
  have e4 : r 139 4 = c 59 2 := K.1
  have e0 := H.1.1
  have o : relW c r 60 (tbA c) 139 (184 + 110 * (c 59 2 - 1)) := K.2 (c 59 2 - 1) (by omega) (show c 59 2 - 1 < c 59 2 by omega)
  obtain ⟨a, ha⟩ : ∃ a, tbA c = a := ⟨_, rfl⟩
  obtain ⟨b, hb⟩ : ∃ b, 184 + 110 * (r 139 4 - 1) = b := ⟨_, rfl⟩
  rw [← e4, ha, hb] at o
  obtain ⟨⟨c1, c2⟩, ⟨c3, c4, c5, c6, -⟩, c7, c8, c9⟩ := backC_v ha
  obtain ⟨r1, r2, r3, r4, r5, r6, r7⟩ := udR_v (by omega) (by omega) hb
  obtain ⟨⟨o0, o1, o2, o3, o4⟩, o5, o6⟩ := o
  have s0 := r3 0 (by decide) (by decide)
  rw [Int.add_zero, Int.add_zero] at s0
  refine ⟨⟨⟨by rw [r2 0 (by decide) (by decide) (by decide), c9 _ _ (by omega)]; exact e0, by rw [r2 1 (by decide) (by decide) (by decide), c9 _ _ (by omega)]; exact H.1.2⟩, fun p hp => ?_, fun w hw => ?_, fun w p hw hp => ?_, ?_, ?_, ?_, ?_⟩, ?_⟩
  · have d := H.2.1 p hp
    refine ⟨?_, ?_, ?_⟩
    · rw [(r4 p hp).1, show backC c (48 + 2) p = _ from c7 p hp, e0, o0, o5 p hp, show r 139 (16 + 3 * p) = c 50 p from d.1, show r 139 (16 + 3 * p + 2) = c 49 p from d.2.2]
    · rw [(r4 p hp).2.1, c9 _ _ (by omega)]
      exact d.2.1
    · rw [(r4 p hp).2.2, c9 _ _ (by omega)]
      exact d.2.2
  · rw [r5 _ (by omega) (by omega), r5 _ (by omega) (by omega), c9 _ _ (by omega), c9 _ _ (by omega)]
    exact H.2.2.1 w hw
  · have d := o6 w p hw hp
    have k1 := (c8 (p * 6 + w) (by omega)).1
    have k2 := (c8 (p * 6 + w) (by omega)).2
    have x1 : udR r 139 (52 + 2 * (8 * w + p) + 0) = r 139 (b + 14 + 2 * (8 * w + p)) := by
      rw [show 52 + 2 * (8 * w + p) + 0 = 52 + (2 * (8 * w + p)) by omega]
      exact r6 _ (by omega) (by omega)
    have x2 : udR r 139 (52 + 2 * (8 * w + p) + 1) = r 139 (b + 14 + 2 * (8 * w + p) + 1) := by
      rw [show 52 + 2 * (8 * w + p) + 1 = 52 + (2 * (8 * w + p) + 1) by omega, r6 _ (by omega) (by omega)]
      exact congrArg (r 139) (by omega)
    rw [show backC c (48 + 6) (p * 6 + w) = _ from k1, show backC c (48 + 7) (p * 6 + w) = _ from k2, x1, x2]
    exact d
  · rw [show backC c 48 10 = _ from c4, ← o1]
    exact s0
  · rw [show backC c 48 9 = _ from c3, ← o2]
    exact (r3 1 (by decide) (by decide)).trans (congrArg (r 139) (by omega))
  · rw [show backC c 48 11 = _ from c5, ← o3]
    exact (r3 2 (by decide) (by decide)).trans (congrArg (r 139) (by omega))
  · rw [show backC c 48 12 = _ from c6, ← o4]
    exact (r3 3 (by decide) (by decide)).trans (congrArg (r 139) (by omega))
  · refine ⟨by rw [r1]; show r 139 4 - 1 = backC c 59 2; rw [c1, e4], fun i x y => ?_⟩
    have y : i < backC c 59 2 := y
    rw [c1] at y
    show relW (backC c) (udR r) 60 (rwC (backC c 59 1) i) 139 (184 + 110 * i)
    rw [c2]
    have n : relW c r 60 (rwC (c 59 1) i) 139 (184 + 110 * i) := K.2 i x (show i < c 59 2 by omega)
    exact relW_f n (fun k _ _ => c9 _ _ (by omega)) (fun k h1 h2 => r7 _ _ (by omega))
