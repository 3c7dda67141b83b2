/-! -/
/-! -/
/-! an hour keeps the reference's invariants -/
theorem flWs_RG {cr : crs} {p : Int} (hp : 0 ≤ p ∧ p < 8) {s : sg_} (G : RG s) : ∀ n : Nat, n ≤ 6 → RG (flWs cr p n s)
  | 0, _ => G
  | n + 1, h => flW_RG (flWs_RG hp G n (by omega)) (by omega) hp
theorem flPs_RG {cr : crs} {q : Nat} (hq : q ≤ 6) {s : sg_} (G : RG s) : ∀ m : Nat, m ≤ 8 → RG (flPs cr q m s)
  | 0, _ => G
  | m + 1, h => flWs_RG (by omega) (flPs_RG hq G m (by omega)) q hq
theorem flA_RG {cr : crs} {s : sg_} (G : RG s) : RG (flA cr s) := flPs_RG (by have := G.w0; omega) G _ (by have := G.p0; omega)
theorem flA_j {cr : crs} {s : sg_} {b : Nat} {j : Int} (h : ¬ b = 139 ∨ j < 52) : flA cr s b j = s b j := flPs_fr h _
theorem endR_8 {cr : crs} {t : sg_} : endR cr t 139 8 = t 139 8 + 1 := up_e _ _ _ _
theorem endR_10 {cr : crs} {t : sg_} : endR cr t 139 10 = holdR t cr := by
  unfold endR
  rw [up_k (by decide)]
  split
  · rw [up_e]
  · rw [up_k (by decide), up_k (by omega), up_k (by omega), up_e]
theorem endR_b {cr : crs} {t : sg_} {b : Nat} {j : Int} (h : ¬ b = 139) : endR cr t b j = t b j := by
  unfold endR
  rw [up_a h]
  split
  · rw [up_a h]
  · rw [up_a h, up_a h, up_a h, up_a h]
theorem hourR_8 {cr : crs} {s : sg_} : hourR cr s 139 8 = s 139 8 + 1 := by
  unfold hourR
  (try dsimp only)
  rw [up_k (by decide), up_k (by decide), endR_8, flA_j (Or.inr (by decide))]
theorem hourR_b {cr : crs} {s : sg_} {b : Nat} {j : Int} (h : ¬ b = 139) : hourR cr s b j = s b j := by
  unfold hourR
  (try dsimp only)
  rw [up_a h, up_a h, endR_b h, flA_j (Or.inl h)]
theorem hourR_j {cr : crs} {s : sg_} {j : Int} (h : ¬ j = 8 ∧ ¬ j = 9 ∧ ¬ j = 10 ∧ ¬ j = 11 ∧ ¬ j = 12) (hj : j < 3484) (h12 : 0 ≤ s 139 12) : hourR cr s 139 j = flA cr s 139 j := by
  unfold hourR
  (try dsimp only)
  rw [up_k h.2.2.2.1, up_k h.2.1, endR_j h.1 h.2.2.1 h.2.2.2.2 hj (by rw [flA_j (Or.inr (by decide))]; exact h12)]
theorem hourR_RS {cr : crs} {s : sg_} (H : RS s cr) (h12 : 0 ≤ s 139 12) (h8 : s 139 8 < 20000) : RS (hourR cr s) cr := by
  have G := flA_RG (cr := cr) H.g
  have q : ∀ j, (¬ j = 8 ∧ ¬ j = 9 ∧ ¬ j = 10 ∧ ¬ j = 11 ∧ ¬ j = 12) → j < 3484 → hourR cr s 139 j = flA cr s 139 j := fun j a b => hourR_j a b h12
  have e11 : endR cr (flA cr s) 139 11 = s 139 11 := by rw [endR_j (by decide) (by decide) (by decide) (by decide) (by rw [flA_j (Or.inr (by decide))]; exact h12), flA_j (Or.inr (by decide))]
  have x := H.g.x
  have o := H.g.o
  have hd := holdR_r (s := flA cr s) (cr := cr) G.w0.2
  have q9 : hourR cr s 139 9 = s 139 11 % 10 := by
    unfold hourR
    (try dsimp only)
    rw [up_k (by decide), up_e, e11]
  have q11 : hourR cr s 139 11 = (s 139 11 * 283 + 181) % 30307 := by
    unfold hourR
    (try dsimp only)
    rw [up_e, e11]
  have q10 : hourR cr s 139 10 = holdR (flA cr s) cr := by
    unfold hourR
    (try dsimp only)
    rw [up_k (by decide), up_k (by decide), endR_10]
  refine RS_f H (RG_e G (fun j a b => q j (by omega) (by omega)) (q 0 (by decide) (by decide)) (q 1 (by decide) (by decide)) (by rw [q9]; omega) (by rw [hourR_8]; omega) (by rw [q11]; omega) (by rw [q10]; omega)) ?_ (fun j => hourR_b (by decide))
  rw [q 3 (by decide) (by decide), flA_j (Or.inr (by decide))]
