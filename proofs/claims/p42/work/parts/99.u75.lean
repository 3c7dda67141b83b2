/-! -/
/-! rulers, finds, claims, image and back in both -/
theorem up_n {s : sg_} {a b : Nat} {k j y : Int} (h : ¬ (b = a ∧ j = k)) : up s a k y b j = s b j := if_neg h
def relXn (s : sg_) : Prop := (s 139 2 = s 47 6 ∧ s 139 3 = s 47 7) ∧ (s 139 5 = s 61 3 ∧ ∀ k, 0 ≤ k → k < s 61 3 → s 139 (148 + 2 * k) = s 62 k ∧ s 139 (148 + 2 * k + 1) = s 63 k) ∧ s 139 6 = s 65 3 ∧ ∀ k, 0 ≤ k → k < s 65 3 → s 139 (164 + 2 * k) = s 66 k ∧ s 139 (164 + 2 * k + 1) = s 67 k
theorem relX_n {s : sg_} (h : relX s s 47 139) : relXn s := h
theorem relX_m {s : sg_} (h : relXn s) : relX s s 47 139 := h
/-- what the law needs of finds, claims, rulers -/
def EXn (s : sg_) : Prop := ((0 ≤ s 61 3 ∧ s 61 3 ≤ 8) ∧ ∀ j, 0 ≤ j → j < 8 → s 63 j = 0 ∨ s 63 j = 1) ∧ (0 ≤ s 65 3 ∧ s 65 3 ≤ 10) ∧ -1 ≤ s 47 7 ∧ s 47 7 < s 47 6
theorem INV_EXn {tc : tcs} {tr : Int → crs} {s : sg_} {M : Int} (I : INV tc tr s M) : EXn s := I.1.1.2.2.2.2.2.2.2.2.2
theorem INV_x {tc : tcs} {tr : Int → crs} {s s1 : sg_} {M : Int} (I : INV tc tr s M) (e : ∀ (b : Nat) (j : Int), ¬ b = 139 → ¬ (61 ≤ b ∧ b ≤ 67) → ¬ (b = 47 ∧ j = 7) → s1 b j = s b j) (er : ∀ j, ((0 ≤ j ∧ j < 2) ∨ j = 4 ∨ (8 ≤ j ∧ j < 148) ∨ (184 ≤ j ∧ j < 6044)) → s1 139 j = s 139 j) (x : EXn s1) (X : relXn s1) : INV tc tr s1 M := by
  have e6 : s1 47 6 = s 47 6 := e 47 6 (by decide) (by decide) (by decide)
  have e69 : s1 69 6 = s 69 6 := e 69 6 (by decide) (by decide) (by decide)
  refine INV_of I (ST2_x I.1 (fun b j h1 h2 => e b j (by omega) (by omega) (by omega)) e6 er x (relX_m X)) (ST2_f I.2.1 (Int.le_refl _) (fun b j h1 h2 => e b j (by omega) (by omega) (by omega)) (fun j _ _ => e 140 j (by decide) (by decide) (fun z => absurd z.1 (by decide)))) (by rw [e69, e6]; exact I.2.2.1) (by rw [e6]; exact Int.le_refl _) (fun b j h => e b j (by omega) (by omega) (by omega))
theorem in_By {tc : tcs} {tr : Int → crs} {s : sg_} {M : Int} (I : INV tc tr s M) {x : Int} : (rBy (cBy s x).2 x).1 = (cBy s x).1 ∧ INV tc tr (rBy (cBy s x).2 x).2 M := by
  obtain ⟨⟨X2, X3⟩, ⟨X5, Xf⟩, X6, Xk⟩ := relX_n I.1.2.2.2.1
  have xe := INV_EXn I
  unfold cBy
  by_cases q : -1 ≤ x ∧ x < s 47 6
  · rw [if_pos q]
    unfold rBy
    rw [if_pos (show -1 ≤ x ∧ x < up s 47 7 x 139 2 from ⟨q.1, by rw [up_a (by decide), X2]; exact q.2⟩)]
    refine ⟨rfl, ?_⟩
    obtain ⟨s1, h1⟩ : ∃ z_, up (up s 47 7 x) 139 3 x = z_ := ⟨_, rfl⟩
    show INV tc tr (up (up s 47 7 x) 139 3 x) M
    rw [h1]
    have o : ∀ (b : Nat) (j : Int), ¬ (b = 47 ∧ j = 7) → ¬ (b = 139 ∧ j = 3) → s1 b j = s b j := fun b j a1 a2 => by rw [← h1, up_n a2, up_n a1]
    have v7 : s1 47 7 = x := by rw [← h1, up_a (by decide), up_e]
    have v3 : s1 139 3 = x := by rw [← h1, up_e]
    refine INV_x I (fun b j a1 a2 a3 => o b j a3 (fun z => a1 z.1)) (fun j a => o 139 j (by omega) (by omega)) ⟨⟨by rw [o _ _ (by decide) (by decide)]; exact xe.1.1, fun j a1 a2 => by rw [o _ _ (by omega) (by omega)]; exact xe.1.2 j a1 a2⟩, by rw [o _ _ (by decide) (by decide)]; exact xe.2.1, by rw [v7, o _ _ (by decide) (by decide)]; exact q⟩ ⟨⟨by rw [o _ _ (by decide) (by decide), o _ _ (by decide) (by decide)]; exact X2, by rw [v3, v7]⟩, ⟨by rw [o _ _ (by decide) (by decide), o _ _ (by decide) (by decide)]; exact X5, fun k a1 a2 => ?_⟩, by rw [o _ _ (by decide) (by decide), o _ _ (by decide) (by decide)]; exact X6, fun k a1 a2 => ?_⟩
    · rw [o _ _ (by decide) (by decide)] at a2
      rw [o _ _ (by omega) (by omega), o _ _ (by omega) (by omega), o _ _ (by omega) (by omega), o _ _ (by omega) (by omega)]
      exact Xf k a1 a2
    · rw [o _ _ (by decide) (by decide)] at a2
      rw [o _ _ (by omega) (by omega), o _ _ (by omega) (by omega), o _ _ (by omega) (by omega), o _ _ (by omega) (by omega)]
      exact Xk k a1 a2
  · rw [if_neg q]
    unfold rBy
    rw [if_neg (by show ¬ (-1 ≤ x ∧ x < s 139 2); omega)]
    exact ⟨rfl, I⟩
theorem in_Found {tc : tcs} {tr : Int → crs} {s : sg_} {M : Int} (I : INV tc tr s M) {p b : Int} (hb : b = 0 ∨ b = 1) : (fdR (fdC s p b).2 p b).1 = (fdC s p b).1 ∧ INV tc tr (fdR (fdC s p b).2 p b).2 M := by
  obtain ⟨⟨X2, X3⟩, ⟨X5, Xf⟩, X6, Xk⟩ := relX_n I.1.2.2.2.1
  have x := INV_EXn I
  unfold EXn at x
  unfold fdC
  by_cases q : p = -1
  · rw [if_pos q]
    unfold fdR
    rw [if_pos q]
    refine ⟨rfl, ?_⟩
    obtain ⟨s1, h1⟩ : ∃ z_, up (up s 61 3 0) 139 5 0 = z_ := ⟨_, rfl⟩
    show INV tc tr (up (up s 61 3 0) 139 5 0) M
    rw [h1]
    have o : ∀ (b : Nat) (j : Int), ¬ (b = 61 ∧ j = 3) → ¬ (b = 139 ∧ j = 5) → s1 b j = s b j := fun b j a1 a2 => by rw [← h1, up_n a2, up_n a1]
    have v7 : s1 61 3 = 0 := by rw [← h1, up_a (by decide), up_e]
    have v3 : s1 139 5 = 0 := by rw [← h1, up_e]
    refine INV_x I (fun b j a1 a2 a3 => o b j (by omega) (fun z => a1 z.1)) (fun j a => o 139 j (by omega) (by omega)) ⟨⟨by rw [v7]; decide, fun j a1 a2 => by rw [o _ _ (by omega) (by omega)]; exact x.1.2 j a1 a2⟩, by rw [o _ _ (by decide) (by decide)]; exact x.2.1, by rw [o _ _ (by decide) (by decide), o _ _ (by decide) (by decide)]; exact x.2.2⟩ ⟨⟨by rw [o _ _ (by decide) (by decide), o _ _ (by decide) (by decide)]; exact X2, by rw [o _ _ (by decide) (by decide), o _ _ (by decide) (by decide)]; exact X3⟩, ⟨by rw [v3, v7], fun k a1 a2 => ?_⟩, by rw [o _ _ (by decide) (by decide), o _ _ (by decide) (by decide)]; exact X6, fun k a1 a2 => ?_⟩
    · rw [v7] at a2
      omega
    · rw [o _ _ (by decide) (by decide)] at a2
      rw [o _ _ (by omega) (by omega), o _ _ (by omega) (by omega), o _ _ (by omega) (by omega), o _ _ (by omega) (by omega)]
      exact Xk k a1 a2
  · rw [if_neg q]
    obtain ⟨n, hn⟩ : ∃ n, s 61 3 = n := ⟨_, rfl⟩
    rw [hn] at X5 Xf x ⊢
    by_cases q2 : (0 ≤ p ∧ p ≤ 99) ∧ ¬ n = 8
    · rw [if_pos q2]
      unfold fdR
      rw [if_neg q]
      have en : up (up (up s 62 n p) 63 n b) 61 3 (n + 1) 139 5 = n := by rw [up_a (by decide), up_a (by decide), up_a (by decide)]; exact X5
      dsimp only
      rw [if_pos (show (0 ≤ p ∧ p ≤ 99) ∧ ¬ up (up (up s 62 n p) 63 n b) 61 3 (n + 1) 139 5 = 8 by rw [en]; exact q2), en]
      refine ⟨rfl, ?_⟩
      obtain ⟨s1, h1⟩ : ∃ z_, up (up (up (up (up (up s 62 n p) 63 n b) 61 3 (n + 1)) 139 (148 + 2 * n) p) 139 (148 + 2 * n + 1) b) 139 5 (n + 1) = z_ := ⟨_, rfl⟩
      show INV tc tr (up (up (up (up (up (up s 62 n p) 63 n b) 61 3 (n + 1)) 139 (148 + 2 * n) p) 139 (148 + 2 * n + 1) b) 139 5 (n + 1)) M
      rw [h1]
      have n0 : 0 ≤ n := by have := x.1.1; omega
      have o : ∀ (b : Nat) (j : Int), ¬ ((b = 62 ∨ b = 63) ∧ j = n) → ¬ (b = 61 ∧ j = 3) → ¬ (b = 139 ∧ (j = 148 + 2 * n ∨ j = 148 + 2 * n + 1 ∨ j = 5)) → s1 b j = s b j := fun b j a1 a2 a3 => by rw [← h1, up_n (by omega), up_n (by omega), up_n (by omega), up_n (by omega), up_n (by omega), up_n (by omega)]
      have v61 : s1 61 3 = n + 1 := by rw [← h1, up_a (by decide), up_a (by decide), up_a (by decide), up_e]
      have v62 : s1 62 n = p := by rw [← h1, up_a (by decide), up_a (by decide), up_a (by decide), up_a (by decide), up_a (by decide), up_e]
      have v63 : s1 63 n = b := by rw [← h1, up_a (by decide), up_a (by decide), up_a (by decide), up_a (by decide), up_e]
      have v5 : s1 139 5 = n + 1 := by rw [← h1, up_e]
      have va : s1 139 (148 + 2 * n) = p := by rw [← h1, up_k (by omega), up_k (by omega), up_e]
      have vb : s1 139 (148 + 2 * n + 1) = b := by rw [← h1, up_k (by omega), up_e]
      refine INV_x I (fun b j a1 a2 a3 => o b j (by omega) (by omega) (by omega)) (fun j a => o 139 j (by omega) (by omega) (by omega)) ⟨⟨by rw [v61]; have := x.1.1; omega, fun j a1 a2 => ?_⟩, by rw [o _ _ (by omega) (by omega) (by omega)]; exact x.2.1, by rw [o _ _ (by omega) (by omega) (by omega), o _ _ (by omega) (by omega) (by omega)]; exact x.2.2⟩ ⟨⟨by rw [o _ _ (by omega) (by omega) (by omega), o _ _ (by omega) (by omega) (by omega)]; exact X2, by rw [o _ _ (by omega) (by omega) (by omega), o _ _ (by omega) (by omega) (by omega)]; exact X3⟩, ⟨by rw [v5, v61], fun k a1 a2 => ?_⟩, by rw [o _ _ (by omega) (by omega) (by omega), o _ _ (by omega) (by omega) (by omega)]; exact X6, fun k a1 a2 => ?_⟩
      · by_cases e : j = n
        · rw [e, v63]
          exact hb
        · rw [o _ _ (by omega) (by omega) (by omega)]
          exact x.1.2 j a1 a2
      · rw [v61] at a2
        by_cases e : k = n
        · rw [e, va, vb, v62, v63]
          exact ⟨rfl, rfl⟩
        · rw [o _ _ (by omega) (by omega) (by omega), o _ _ (by omega) (by omega) (by omega), o _ _ (by omega) (by omega) (by omega), o _ _ (by omega) (by omega) (by omega)]
          exact Xf k a1 (by omega)
      · rw [o _ _ (by omega) (by omega) (by omega)] at a2
        have := x.2.1
        rw [o _ _ (by omega) (by omega) (by omega), o _ _ (by omega) (by omega) (by omega), o _ _ (by omega) (by omega) (by omega), o _ _ (by omega) (by omega) (by omega)]
        exact Xk k a1 a2
    · rw [if_neg q2]
      unfold fdR
      rw [if_neg q]
      dsimp only
      rw [if_neg (show ¬ ((0 ≤ p ∧ p ≤ 99) ∧ ¬ s 139 5 = 8) by rw [X5]; exact q2)]
      exact ⟨rfl, I⟩
theorem in_Ahead {tc : tcs} {tr : Int → crs} {s : sg_} {M : Int} (I : INV tc tr s M) {p b : Int} : (adR (adC s p b).2 p b).1 = (adC s p b).1 ∧ INV tc tr (adR (adC s p b).2 p b).2 M := by
  obtain ⟨⟨X2, X3⟩, ⟨X5, Xf⟩, X6, Xk⟩ := relX_n I.1.2.2.2.1
  have x := INV_EXn I
  unfold EXn at x
  have w1 : s 139 1 = s 48 1 := I.1.2.1.1.2
  unfold adC
  by_cases q : p = -1
  · rw [if_pos q]
    unfold adR
    rw [if_pos q]
    refine ⟨rfl, ?_⟩
    obtain ⟨s1, h1⟩ : ∃ z_, up (up s 65 3 0) 139 6 0 = z_ := ⟨_, rfl⟩
    show INV tc tr (up (up s 65 3 0) 139 6 0) M
    rw [h1]
    have o : ∀ (b : Nat) (j : Int), ¬ (b = 65 ∧ j = 3) → ¬ (b = 139 ∧ j = 6) → s1 b j = s b j := fun b j a1 a2 => by rw [← h1, up_n a2, up_n a1]
    have v7 : s1 65 3 = 0 := by rw [← h1, up_a (by decide), up_e]
    have v3 : s1 139 6 = 0 := by rw [← h1, up_e]
    refine INV_x I (fun b j a1 a2 a3 => o b j (by omega) (fun z => a1 z.1)) (fun j a => o 139 j (by omega) (by omega)) ⟨⟨by rw [o _ _ (by decide) (by decide)]; exact x.1.1, fun j a1 a2 => by rw [o _ _ (by omega) (by omega)]; exact x.1.2 j a1 a2⟩, by rw [v7]; decide, by rw [o _ _ (by decide) (by decide), o _ _ (by decide) (by decide)]; exact x.2.2⟩ ⟨⟨by rw [o _ _ (by decide) (by decide), o _ _ (by decide) (by decide)]; exact X2, by rw [o _ _ (by decide) (by decide), o _ _ (by decide) (by decide)]; exact X3⟩, ⟨by rw [o _ _ (by decide) (by decide), o _ _ (by decide) (by decide)]; exact X5, fun k a1 a2 => ?_⟩, by rw [v3, v7], fun k a1 a2 => ?_⟩
    · rw [o _ _ (by decide) (by decide)] at a2
      rw [o _ _ (by omega) (by omega), o _ _ (by omega) (by omega), o _ _ (by omega) (by omega), o _ _ (by omega) (by omega)]
      exact Xf k a1 a2
    · rw [v7] at a2
      omega
  · rw [if_neg q]
    by_cases ok : okA (s 48 1) p b
    · rw [if_pos ok]
      unfold clC
      obtain ⟨n, hn⟩ : ∃ n, s 65 3 = n := ⟨_, rfl⟩
      rw [hn] at X6 Xk x ⊢
      by_cases q2 : n = 10
      · rw [if_pos q2]
        unfold adR
        rw [if_neg q]
        dsimp only
        rw [if_pos (show okA (s 139 1) p b by rw [w1]; exact ok), if_pos (show s 139 6 = 10 by rw [X6]; exact q2)]
        exact ⟨rfl, I⟩
      · rw [if_neg q2]
        unfold adR
        rw [if_neg q]
        have en : up (up (up s 66 n p) 67 n b) 65 3 (n + 1) 139 6 = n := by rw [up_a (by decide), up_a (by decide), up_a (by decide)]; exact X6
        have ew : up (up (up s 66 n p) 67 n b) 65 3 (n + 1) 139 1 = s 48 1 := by rw [up_a (by decide), up_a (by decide), up_a (by decide)]; exact w1
        dsimp only
        rw [if_pos (show okA (up (up (up s 66 n p) 67 n b) 65 3 (n + 1) 139 1) p b by rw [ew]; exact ok), if_neg (show ¬ up (up (up s 66 n p) 67 n b) 65 3 (n + 1) 139 6 = 10 by rw [en]; exact q2), en]
        refine ⟨rfl, ?_⟩
        obtain ⟨s1, h1⟩ : ∃ z_, up (up (up (up (up (up s 66 n p) 67 n b) 65 3 (n + 1)) 139 (164 + 2 * n) p) 139 (164 + 2 * n + 1) b) 139 6 (n + 1) = z_ := ⟨_, rfl⟩
        show INV tc tr (up (up (up (up (up (up s 66 n p) 67 n b) 65 3 (n + 1)) 139 (164 + 2 * n) p) 139 (164 + 2 * n + 1) b) 139 6 (n + 1)) M
        rw [h1]
        have n0 : 0 ≤ n ∧ n ≤ 10 := x.2.1
        have o : ∀ (b : Nat) (j : Int), ¬ ((b = 66 ∨ b = 67) ∧ j = n) → ¬ (b = 65 ∧ j = 3) → ¬ (b = 139 ∧ (j = 164 + 2 * n ∨ j = 164 + 2 * n + 1 ∨ j = 6)) → s1 b j = s b j := fun b j a1 a2 a3 => by rw [← h1, up_n (by omega), up_n (by omega), up_n (by omega), up_n (by omega), up_n (by omega), up_n (by omega)]
        have v65 : s1 65 3 = n + 1 := by rw [← h1, up_a (by decide), up_a (by decide), up_a (by decide), up_e]
        have v66 : s1 66 n = p := by rw [← h1, up_a (by decide), up_a (by decide), up_a (by decide), up_a (by decide), up_a (by decide), up_e]
        have v67 : s1 67 n = b := by rw [← h1, up_a (by decide), up_a (by decide), up_a (by decide), up_a (by decide), up_e]
        have v6 : s1 139 6 = n + 1 := by rw [← h1, up_e]
        have va : s1 139 (164 + 2 * n) = p := by rw [← h1, up_k (by omega), up_k (by omega), up_e]
        have vb : s1 139 (164 + 2 * n + 1) = b := by rw [← h1, up_k (by omega), up_e]
        refine INV_x I (fun b j a1 a2 a3 => o b j (by omega) (by omega) (by omega)) (fun j a => o 139 j (by omega) (by omega) (by omega)) ⟨⟨by rw [o _ _ (by omega) (by omega) (by omega)]; exact x.1.1, fun j a1 a2 => by rw [o _ _ (by omega) (by omega) (by omega)]; exact x.1.2 j a1 a2⟩, by rw [v65]; omega, by rw [o _ _ (by omega) (by omega) (by omega), o _ _ (by omega) (by omega) (by omega)]; exact x.2.2⟩ ⟨⟨by rw [o _ _ (by omega) (by omega) (by omega), o _ _ (by omega) (by omega) (by omega)]; exact X2, by rw [o _ _ (by omega) (by omega) (by omega), o _ _ (by omega) (by omega) (by omega)]; exact X3⟩, ⟨by rw [o _ _ (by omega) (by omega) (by omega), o _ _ (by omega) (by omega) (by omega)]; exact X5, fun k a1 a2 => ?_⟩, by rw [v6, v65], fun k a1 a2 => ?_⟩
        · rw [o _ _ (by omega) (by omega) (by omega)] at a2
          have := x.1.1
          rw [o _ _ (by omega) (by omega) (by omega), o _ _ (by omega) (by omega) (by omega), o _ _ (by omega) (by omega) (by omega), o _ _ (by omega) (by omega) (by omega)]
          exact Xf k a1 a2
        · rw [v65] at a2
          by_cases e : k = n
          · rw [e, va, vb, v66, v67]
            exact ⟨rfl, rfl⟩
          · rw [o _ _ (by omega) (by omega) (by omega), o _ _ (by omega) (by omega) (by omega), o _ _ (by omega) (by omega) (by omega), o _ _ (by omega) (by omega) (by omega)]
            exact Xk k a1 (by omega)
    · rw [if_neg ok]
      unfold adR
      rw [if_neg q]
      dsimp only
      rw [if_neg (show ¬ okA (s 139 1) p b by rw [w1]; exact ok)]
      exact ⟨rfl, I⟩
theorem cpy_o {s : sg_} {a0 a1 : Nat} {sp dp n : Int} {b : Nat} {j : Int} (h : ¬ b = a1) : cpy s a0 sp a1 dp n b j = s b j := if_neg (fun z => h z.1)
theorem in_Image {tc : tcs} {tr : Int → crs} {s t : sg_} {M : Int} (I : INV tc tr s M) (K : CPY s t 47 69) : t 139 8 = s 48 10 ∧ INV tc tr (cpy t 139 0 140 0 6044) M := by
  obtain ⟨s1, h1⟩ : ∃ z_, cpy t 139 0 140 0 6044 = z_ := ⟨_, rfl⟩
  have f : ∀ (b : Nat) (j : Int), ¬ (69 ≤ b ∧ b ≤ 90) → t b j = s b j := K.2.2.2.2.2.2.2.2.2.2.2.2.2.2
  have o : ∀ (b : Nat) (j : Int), ¬ b = 140 → s1 b j = t b j := fun b j h => by rw [← h1]; exact cpy_o h
  have v : ∀ j, 0 ≤ j → j < 6044 → s1 140 j = s 139 j := fun j a b => by rw [← h1, cpy_v ⟨a, b⟩]; exact f _ _ (by decide)
  have e6 : s1 47 6 = s 47 6 := (o _ _ (by decide)).trans (f _ _ (by decide))
  refine ⟨(f _ _ (by decide)).trans I.1.2.1.2.2.2.2.1, ?_⟩
  rw [h1]
  exact INV_of I (ST2_f I.1 (Int.le_refl _) (fun b j a1 a2 => (o b j (by omega)).trans (f b j (by omega))) (fun j _ _ => (o 139 j (by decide)).trans (f 139 j (by decide))))
    (ST2_f (ST2_t (r1 := s1) (R1 := 140) I.1 K v) (Int.le_refl _) (fun b j a1 a2 => o b j (by omega)) (fun j _ _ => rfl))
    (by rw [e6, o _ _ (by decide), K.1.1]; exact Int.le_refl _) (by rw [e6]; exact Int.le_refl _) (fun b j h => (o b j (by omega)).trans (f b j (by omega)))
theorem in_Back {tc : tcs} {tr : Int → crs} {s t : sg_} {M : Int} (I : INV tc tr s M) (K : CPY s t 69 47) : t 140 8 = s 70 10 ∧ INV tc tr (cpy t 140 0 139 0 6044) M := by
  obtain ⟨s1, h1⟩ : ∃ z_, cpy t 140 0 139 0 6044 = z_ := ⟨_, rfl⟩
  have f : ∀ (b : Nat) (j : Int), ¬ (47 ≤ b ∧ b ≤ 68) → t b j = s b j := K.2.2.2.2.2.2.2.2.2.2.2.2.2.2
  have o : ∀ (b : Nat) (j : Int), ¬ b = 139 → s1 b j = t b j := fun b j h => by rw [← h1]; exact cpy_o h
  have v : ∀ j, 0 ≤ j → j < 6044 → s1 139 j = s 140 j := fun j a b => by rw [← h1, cpy_v ⟨a, b⟩]; exact f _ _ (by decide)
  have e6 : s1 47 6 = s 69 6 := (o _ _ (by decide)).trans K.1.1
  refine ⟨(f _ _ (by decide)).trans I.2.1.2.1.2.2.2.2.1, ?_⟩
  rw [h1]
  exact INV_of I (ST2_f (ST2_t (r1 := s1) (R1 := 139) I.2.1 K v) (Int.le_refl _) (fun b j a1 a2 => o b j (by omega)) (fun j _ _ => rfl))
    (ST2_f I.2.1 (Int.le_refl _) (fun b j a1 a2 => (o b j (by omega)).trans (f b j (by omega))) (fun j _ _ => (o 140 j (by decide)).trans (f 140 j (by decide))))
    (by rw [e6, o _ _ (by decide), f _ _ (by decide)]; exact Int.le_refl _) (by rw [e6]; exact I.2.2.1) (fun b j h => (o b j (by omega)).trans (f b j (by omega)))
