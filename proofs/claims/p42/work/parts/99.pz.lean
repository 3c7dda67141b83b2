/-! what the class does at a token, by what the reference asks -/
section CST
variable {law k v st : Int} {w : List Int} {ls as_ : Int}
theorem nmo_v (k v : Int) : (0 ≤ nmo k v ↔ k = 0 ∧ (v = 9 ∨ v = 4 ∨ (17 ≤ v ∧ v ≤ 24))) ∧ (nmo k v = 8 ↔ k = 0 ∧ v = 23) ∧ (nmo k v = 9 ↔ k = 0 ∧ v = 24) ∧ nmo k v ≤ 9 := by
  unfold nmo
  repeat' split
  all_goals omega
theorem cs_1 (hs : st = 0 ∨ st = 1) (h : k = 1 ∧ 9999 < v) : cstep law k v st w ls as_ = .inl 2 := by
  unfold cstep c_one
  rw [if_pos hs, if_pos h]
theorem cs_2 (hs : st = 0 ∨ st = 1) (h : 0 ≤ nmo k v ∧ ¬ ofc law (nmo k v)) : cstep law k v st w ls as_ = .inl 5 := by
  have hv := nmo_v k v
  have h1 := hv.1.mp h.1
  have h2 : (v = 23 ∧ law = 0) ∨ (v = 24 ∧ law = 1) := by
    have h3 := h.2
    unfold ofc at h3
    omega
  unfold cstep c_one c_wd
  rw [if_pos hs, if_neg (by omega), if_neg (by omega), if_pos h1.1, if_neg (by omega), if_neg (by omega), if_pos h2]
theorem cs_3 (hs : st = 0 ∨ st = 1) (g1 : ¬ (k = 1 ∧ 9999 < v)) (g2 : ¬ (0 ≤ nmo k v ∧ ¬ ofc law (nmo k v))) (h : k = 1 ∨ 0 ≤ nmo k v) : cstep law k v st w ls as_ = .inr (2, w, ls, as_) := by
  have hv := nmo_v k v
  unfold cstep c_one c_wd
  by_cases hk : k = 1
  · rw [if_pos hs, if_neg g1, if_pos hk]
  · have h1 := hv.1.mp (by omega)
    have h2 : ¬ ((v = 23 ∧ law = 0) ∨ (v = 24 ∧ law = 1)) := fun x => g2 ⟨by omega, fun y => by
      unfold ofc at y
      omega⟩
    rw [if_pos hs, if_neg g1, if_neg hk, if_pos h1.1, if_neg (by omega), if_neg (by omega), if_neg h2]
theorem cs_4 (hs : st = 0 ∨ st = 1) (h : k = 2 ∧ v = 40) : cstep law k v st w ls as_ = c_op 40 w ls as_ := by
  unfold cstep c_one
  rw [if_pos hs, if_neg (by omega), if_neg (by omega), if_neg (by omega), if_pos h]
theorem cs_5 (hs : st = 0 ∨ st = 1) (h : k = 2 ∧ v = 45) : cstep law k v st w ls as_ = c_op 110 w ls as_ := by
  unfold cstep c_one
  rw [if_pos hs, if_neg (by omega), if_neg (by omega), if_neg (by omega), if_neg (by omega), if_pos h]
theorem cs_6 (hs : st = 0) (h : k = 0 ∧ v = 15) : cstep law k v st w ls as_ = c_op 33 w ls as_ := by
  unfold cstep c_one c_wd
  rw [if_pos (Or.inl hs), if_neg (by omega), if_neg (by omega), if_pos h.1, if_pos ⟨h.2, hs⟩]
theorem cs_7 (hs : st = 0 ∨ st = 1) (hv24 : k = 0 → v ≤ 24) (g3 : ¬ (k = 1 ∨ 0 ≤ nmo k v)) (g4 : ¬ (k = 2 ∧ v = 40)) (g5 : ¬ (k = 2 ∧ v = 45)) (g6 : ¬ ((k = 0 ∧ v = 15) ∧ st = 0)) : cstep law k v st w ls as_ = .inl 1 := by
  have hv := nmo_v k v
  unfold cstep c_one c_wd
  by_cases hk : k = 0
  · have h24 := hv24 hk
    have h1 : ¬ (v = 9 ∨ v = 4 ∨ (17 ≤ v ∧ v ≤ 24)) := fun x => g3 (Or.inr (hv.1.mpr ⟨hk, x⟩))
    rw [if_pos hs, if_neg (by omega), if_neg (by omega), if_pos hk, if_neg (by omega), if_pos (by omega)]
  · rw [if_pos hs, if_neg (by omega), if_neg (by omega), if_neg hk, if_neg g4, if_neg g5]
/-! behind a ONE, by signs -/
theorem cs_g (hs : st = 2 ∨ st = 4) : cstep law k v st w ls as_ = c_sg law (sh k v) st w ls as_ := by
  unfold cstep
  rw [if_neg (by omega), if_neg (by omega)]
variable {g : Int}
theorem cg_1 (h : ck g = 5 ∨ ck g = 6) (hs : ¬ st = 4) : c_sg law g st w ls as_ = .inr (1, g :: jwt (ck g) w, ls, as_) := if_pos ⟨h, hs⟩
theorem cg_2 (h : ck g = 4) (h2 : law = 2 ∧ brn w = 0) (ha : as_ = 0) : c_sg law g st w ls as_ = .inr (1, g :: jwt 5 w, ls, 1) := by
  unfold c_sg c1
  rw [if_neg (by omega), if_pos ⟨h, h2, ha⟩]
theorem cg_3 (h : ck g = 1 ∨ ck g = 2) (h2 : law = 2 ∧ brn w = 0) (ha : as_ = 1) : c_sg law g st w ls as_ = .inr (0, g :: jwt (ck g) w, ls, 0) := by
  unfold c_sg c1 c2 c3
  rw [if_neg (by omega), if_neg (by omega), if_neg (by omega), if_pos ⟨h, h2, by omega⟩]
theorem ck_x : ck 91 = 0 ∧ ck 44 = 0 ∧ ck 41 = 0 ∧ ck 59 = 0 := by decide
theorem cg_4 (hg : g = 91) (h2 : law = 2 ∧ brn w = 0) (ha : as_ = 0) : c_sg law g st w ls as_ = .inr (3, jwt 5 w, ls, 1) := by
  subst hg
  have hc := ck_x
  unfold c_sg c1 c2
  rw [if_neg (by omega), if_neg (by omega), if_pos ⟨rfl, h2, ha⟩]
theorem cg_5 (hg : g = 44) (hb : brn w = 1) (ha : as_ = 1) (hh : (jwt 5 w).head? = some 91) : c_sg law g st w ls as_ = (if ls = 6 then .inl 7 else .inr (1, jwt 5 w, ls + 1, as_)) := by
  subst hg
  have hc := ck_x
  unfold c_sg c1 c2 c3 c4 c5
  rw [if_neg (by omega), if_neg (by omega), if_neg (by omega), if_neg (by omega), if_neg (by omega), if_pos ⟨rfl, hb, by omega, hh⟩]
theorem cg_6 (hg : g = 41) (hb : 0 < brn w) {c : Int} {w1 : List Int} (hj : jwt 5 w = c :: w1) : c_sg law g st w ls as_ = .inr (if c = 91 then 4 else 2, w1, ls, as_) := by
  subst hg
  have hc := ck_x
  unfold c_sg c1 c2 c3 c4 c_cl
  rw [if_neg (by omega), if_neg (by omega), if_neg (by omega), if_neg (by omega), if_pos ⟨rfl, hb⟩, hj]
theorem cg_7 (h1 : ¬ ((ck g = 5 ∨ ck g = 6) ∧ ¬ st = 4)) (h2 : ¬ (ck g = 4 ∧ (law = 2 ∧ brn w = 0) ∧ as_ = 0)) (h3 : ¬ (g = 91 ∧ (law = 2 ∧ brn w = 0) ∧ as_ = 0)) (h4 : ¬ ((ck g = 1 ∨ ck g = 2) ∧ (law = 2 ∧ brn w = 0) ∧ ¬ as_ = 0)) (h5 : ¬ (g = 41 ∧ 0 < brn w)) (h6 : ¬ (g = 44 ∧ brn w = 1 ∧ ¬ as_ = 0 ∧ (jwt 5 w).head? = some 91)) : c_sg law g st w ls as_ = c6 law g w ls as_ := by
  unfold c_sg c1 c2 c3 c4 c5
  rw [if_neg h1, if_neg h2, if_neg h3, if_neg h4, if_neg h5, if_neg h6]
end CST
