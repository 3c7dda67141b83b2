/-! -/
/-! what changes the game, in both -/
theorem pl_eq {c r : sg_} (H : relF c r 48 139) (h0 : 0 ≤ c 48 0 ∧ c 48 0 < 8) {x z : Int} : relF (plC c x z) (plR r x z) 48 139 := by
  have e0 := H.1.1
  obtain ⟨v0, v1, v2, v3⟩ := plC_v (s := c) (x := x) (z := z)
  obtain ⟨w0, w1, w2, w3⟩ := plR_v (s := r) (by omega) (x := x) (z := z)
  refine ⟨⟨by rw [w0, v0, e0], by rw [plR_j (by omega), plC_j (by omega)]; exact H.1.2⟩, fun p hp => ?_, fun w hw => ?_, fun w p hw hp => ?_, ?_, ?_, ?_, ?_⟩
  · by_cases e : p = c 48 0
    · rw [e0] at w1 w2 w3
      rw [e, w1, w2, w3]
      exact ⟨v2.symm, v3.symm, v1.symm⟩
    · rw [plR_j (by omega), plR_j (by omega), plR_j (by omega), plC_j (by omega), plC_j (by omega), plC_j (by omega)]
      exact H.2.1 p hp
  · rw [plR_j (by omega), plR_j (by omega), plC_j (by omega), plC_j (by omega)]
    exact H.2.2.1 w hw
  · rw [plR_j (by omega), plR_j (by omega), plC_j (by omega), plC_j (by omega)]
    exact H.2.2.2.1 w p hw hp
  · rw [plR_j (by omega), plC_j (by omega)]; exact H.2.2.2.2.1
  · rw [plR_j (by omega), plC_j (by omega)]; exact H.2.2.2.2.2.1
  · rw [plR_j (by omega), plC_j (by omega)]; exact H.2.2.2.2.2.2.1
  · rw [plR_j (by omega), plC_j (by omega)]; exact H.2.2.2.2.2.2.2
theorem pw_eq {c r : sg_} (H : relF c r 48 139) (h1 : 0 ≤ c 48 1 ∧ c 48 1 < 6) {x z : Int} : relF (pwC c x z) (pwR r x z) 48 139 := by
  have e1 := H.1.2
  obtain ⟨v0, v1, v2⟩ := pwC_v (s := c) (x := x) (z := z)
  obtain ⟨w0, w1, w2⟩ := pwR_v (s := r) (by omega) (x := x) (z := z)
  refine ⟨⟨by rw [pwR_j (by omega), pwC_j (by omega)]; exact H.1.1, by rw [w0, v0, e1]⟩, fun p hp => ?_, fun w hw => ?_, fun w p hw hp => ?_, ?_, ?_, ?_, ?_⟩
  · rw [pwR_j (by omega), pwR_j (by omega), pwR_j (by omega), pwC_j (by omega), pwC_j (by omega), pwC_j (by omega)]
    exact H.2.1 p hp
  · by_cases e : w = c 48 1
    · rw [e1] at w1 w2
      rw [e, w1, w2]
      exact ⟨v1.symm, v2.symm⟩
    · rw [pwR_j (by omega), pwR_j (by omega), pwC_j (by omega), pwC_j (by omega)]
      exact H.2.2.1 w hw
  · rw [pwR_j (by omega), pwR_j (by omega), pwC_j (by omega), pwC_j (by omega)]
    exact H.2.2.2.1 w p hw hp
  · rw [pwR_j (by omega), pwC_j (by omega)]; exact H.2.2.2.2.1
  · rw [pwR_j (by omega), pwC_j (by omega)]; exact H.2.2.2.2.2.1
  · rw [pwR_j (by omega), pwC_j (by omega)]; exact H.2.2.2.2.2.2.1
  · rw [pwR_j (by omega), pwC_j (by omega)]; exact H.2.2.2.2.2.2.2
theorem rs_eq {c r : sg_} (H : relF c r 48 139) {w p : Int} (hw : 0 ≤ w ∧ w < 6) (hp : 0 ≤ p ∧ p < 8) : relF (rsC c w p) (rsR r w p) 48 139 :=
  relF_fl H hw hp (fun b j h => by
    unfold rsC up
    rw [if_neg (by omega), if_neg (by omega)]) (fun j h1 h2 => by
    unfold rsR
    rw [up_k h2, up_k h1]) (by
    unfold rsC rsR
    rw [up_k (by omega), up_e]
    show (0 : Int) = up (up c 54 (p * 6 + w) 0) 55 (p * 6 + w) 0 54 (p * 6 + w)
    rw [up_a (by decide), up_e]) (fun _ => by
    unfold rsC rsR
    rw [up_e]
    exact (up_e _ _ _ _).symm)
theorem dn_eq {c r : sg_} (H : relF c r 48 139) {w p : Int} (hw : 0 ≤ w ∧ w < 6) (hp : 0 ≤ p ∧ p < 8) : relF (up c 54 (p * 6 + w) (-1)) (gnR r w p) 48 139 :=
  relF_fl H hw hp (fun b j h => by
    unfold up
    rw [if_neg (by omega)]) (fun j h1 h2 => by
    unfold gnR
    rw [up_k h2, up_k h1]) (by
    unfold gnR
    rw [up_k (by omega), up_e]
    exact (up_e _ _ _ _).symm) (fun h => absurd (up_e _ _ _ _) h)
theorem prW_v {s : sg_} {p : Int} (hp : 0 ≤ p ∧ p < 8) : ∀ n : Nat, n ≤ 6 → (∀ w q, (0 ≤ w ∧ w < 6) → (0 ≤ q ∧ q < 8) → prW s p n 139 (52 + 2 * (8 * w + q) + 0) = (if q = p ∧ w < n then min (s 139 (52 + 2 * (8 * w + q) + 0)) (s 139 (16 + 3 * p)) else s 139 (52 + 2 * (8 * w + q) + 0))) ∧ ∀ j, (j < 52 ∨ 148 ≤ j ∨ ¬ j % 2 = 0) → prW s p n 139 j = s 139 j
  | 0, _ => ⟨fun w q hw hq => (if_neg (by omega)).symm, fun _ _ => rfl⟩
  | n + 1, hn => by
    have ih := prW_v (s := s) hp n (by omega)
    have it := ih.2 (16 + 3 * p) (by omega)
    have ih1 := ih.1 n p (by omega) hp
    rw [if_neg (by omega)] at ih1
    have e : prW s p (n + 1) = if s 139 (16 + 3 * p) < s 139 (52 + 2 * (8 * (n : Int) + p) + 0) then up (prW s p n) 139 (52 + 2 * (8 * (n : Int) + p) + 0) (s 139 (16 + 3 * p)) else prW s p n := by
      show (if _ < htR _ _ _ then _ else _) = _
      unfold htR
      rw [it, ih1]
    rw [e]
    refine ⟨fun w q hw hq => ?_, fun j hj => ?_⟩
    · have iw := ih.1 w q hw hq
      by_cases c : q = p ∧ w = (n : Int)
      · have c2 : p = p ∧ (n : Int) < ((n + 1 : Nat) : Int) := ⟨rfl, by omega⟩
        rw [c.1, c.2, if_pos c2]
        by_cases d : s 139 (16 + 3 * p) < s 139 (52 + 2 * (8 * (n : Int) + p) + 0)
        · rw [if_pos d, up_e]
          omega
        · rw [if_neg d, ih1]
          omega
      · have o : (if s 139 (16 + 3 * p) < s 139 (52 + 2 * (8 * (n : Int) + p) + 0) then up (prW s p n) 139 (52 + 2 * (8 * (n : Int) + p) + 0) (s 139 (16 + 3 * p)) else prW s p n : sg_) 139 (52 + 2 * (8 * w + q) + 0) = prW s p n 139 (52 + 2 * (8 * w + q) + 0) := by
          split
          · exact up_k (by omega)
          · rfl
        rw [o, iw]
        by_cases d : q = p ∧ w < (n : Int)
        · rw [if_pos d, if_pos ⟨d.1, by omega⟩]
        · rw [if_neg d, if_neg (by omega)]
    · have o : (if s 139 (16 + 3 * p) < s 139 (52 + 2 * (8 * (n : Int) + p) + 0) then up (prW s p n) 139 (52 + 2 * (8 * (n : Int) + p) + 0) (s 139 (16 + 3 * p)) else prW s p n : sg_) 139 j = prW s p n 139 j := by
        split
        · exact up_k (by omega)
        · rfl
      rw [o]
      exact ih.2 j hj
theorem cut_eq {c r : sg_} (H : relF c r 48 139) (i1 : 0 ≤ c 48 1 ∧ c 48 1 ≤ 6) {p n : Int} (hp : 0 ≤ p ∧ p < 8) (hn : 0 ≤ n ∧ n ≤ c 50 p) : relF (cutW c 48 p n (c 48 1)) (prR r p n) 48 139 := by
  have d := H.2.1 p hp
  have d1 : r 139 (16 + 3 * p) = c 50 p := d.1
  have v := prW_v (s := up r 139 (16 + 3 * p) (r 139 (16 + 3 * p) - n)) hp (r 139 1).toNat (by rw [H.1.2]; omega)
  have u : ∀ j, ¬ j = 16 + 3 * p → up r 139 (16 + 3 * p) (r 139 (16 + 3 * p) - n) 139 j = r 139 j := fun j h => up_k h
  have w0 : ∀ j, j < 52 → ¬ j = 16 + 3 * p → prR r p n 139 j = r 139 j := fun j h1 h2 => prR_j hp (Or.inr ⟨h1, h2⟩)
  refine ⟨⟨by rw [w0 _ (by omega) (by omega), cutW_1]; exact H.1.1, by rw [w0 _ (by omega) (by omega), cutW_1]; exact H.1.2⟩, fun q hq => ?_, fun w hw => ?_, fun w q hw hq => ?_, ?_, ?_, ?_, ?_⟩
  · have dq := H.2.1 q hq
    rw [cutW_a (b := 48 + 3) (by decide) (by decide), cutW_a (b := 48 + 1) (by decide) (by decide), cutW_2, w0 (16 + 3 * q + 1) (by omega) (by omega), w0 (16 + 3 * q + 2) (by omega) (by omega)]
    refine ⟨?_, dq.2⟩
    by_cases e : q = p
    · rw [e, if_pos rfl, prR_t hp, d.1]
    · rw [if_neg e, w0 _ (by omega) (by omega)]
      exact dq.1
  · rw [w0 _ (by omega) (by omega), w0 _ (by omega) (by omega), cutW_a (by omega) (by omega), cutW_a (by omega) (by omega)]
    exact H.2.2.1 w hw
  · have f := H.2.2.2.1 w q hw hq
    have a1 : prR r p n 139 (52 + 2 * (8 * w + q) + 0) = _ := v.1 w q hw hq
    have a2 : prR r p n 139 (52 + 2 * (8 * w + q) + 1) = _ := v.2 (52 + 2 * (8 * w + q) + 1) (by omega)
    rw [up_e, u _ (by omega)] at a1
    rw [u _ (by omega)] at a2
    rw [a1, a2, cutW_6, cutW_a (b := 48 + 7) (by decide) (by decide), f.1, d1, H.1.2]
    have ec : (q = p ∧ w < ((c 48 1).toNat : Int)) ↔ (p * 6 ≤ q * 6 + w ∧ q * 6 + w < p * 6 + c 48 1) := by omega
    by_cases e : q = p ∧ w < ((c 48 1).toNat : Int)
    · rw [if_pos e, if_pos (ec.mp e)]
      refine ⟨rfl, fun h => f.2 (fun z => h ?_)⟩
      rw [z]
      show min (-1) (c 50 p - n) = -1
      omega
    · rw [if_neg e, if_neg (fun z => e (ec.mpr z))]
      exact ⟨rfl, f.2⟩
  · rw [w0 _ (by omega) (by omega), cutW_1]; exact H.2.2.2.2.1
  · rw [w0 _ (by omega) (by omega), cutW_1]; exact H.2.2.2.2.2.1
  · rw [w0 _ (by omega) (by omega), cutW_1]; exact H.2.2.2.2.2.2.1
  · rw [w0 _ (by omega) (by omega), cutW_1]; exact H.2.2.2.2.2.2.2
theorem wind_eq {c r : sg_} (H : relF c r 48 139) {y : Int} : relF (up c 48 9 y) (up r 139 9 y) 48 139 :=
  relF_s H (fun b j h1 h2 => up_a (by omega)) (fun j h1 h2 => up_k (by omega)) (by rw [up_k (by decide), up_k (by decide)]; exact H.1.1) (by rw [up_k (by decide), up_k (by decide)]; exact H.1.2) (by rw [up_k (by decide), up_k (by decide)]; exact H.2.2.2.2.1) (by rw [up_e, up_e]) (by rw [up_k (by decide), up_k (by decide)]; exact H.2.2.2.2.2.2.1) (by rw [up_k (by decide), up_k (by decide)]; exact H.2.2.2.2.2.2.2)
theorem x_eq {c r : sg_} (H : relF c r 48 139) {y : Int} : relF (up c 48 12 y) (up r 139 11 y) 48 139 :=
  relF_s H (fun b j h1 h2 => up_a (by omega)) (fun j h1 h2 => up_k (by omega)) (by rw [up_k (by decide), up_k (by decide)]; exact H.1.1) (by rw [up_k (by decide), up_k (by decide)]; exact H.1.2) (by rw [up_k (by decide), up_k (by decide)]; exact H.2.2.2.2.1) (by rw [up_k (by decide), up_k (by decide)]; exact H.2.2.2.2.2.1) (by rw [up_k (by decide), up_k (by decide)]; exact H.2.2.2.2.2.2.1) (by rw [up_e, up_e])
theorem mr_eq {c r : sg_} (H : relF c r 48 139) (i1 : 0 ≤ c 48 1 ∧ c 48 1 ≤ 6) {w p : Int} (hw : 0 ≤ w ∧ w < 6) (hp : 0 ≤ p ∧ p < 8) : mrC c w p ↔ mrR r w p := by
  have f := (H.2.2.2.1 w p hw hp).1
  have e := flg_eq H i1 hp
  unfold mrC mrR fcn
  rw [show r 139 (52 + 2 * (8 * w + p) + 0) = c 54 (p * 6 + w) from f, show flg (fun j => r 139 (52 + 2 * (8 * j + p) + 0)) (r 139 1).toNat = flg (fun j => c 54 (p * 6 + j)) (c 48 1).toNat from e]
