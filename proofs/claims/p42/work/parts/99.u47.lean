/-! -/
/-! -/
/-! n hours of the reference; laid by program (wp_u47.py) -/
/-- the reference's state and its counts -/
def RT (s : sg_) (cr : crs) (M : Int) : Prop := (RS s cr) ∧ (0 ≤ s 139 4 ∧ s 139 4 ≤ 30) ∧ (0 ≤ s 139 12 ∧ s 139 12 ≤ M) ∧ s 139 8 ≤ 9999
theorem RT.rs {s : sg_} {cr : crs} {M : Int} (H_ : RT s cr M) : RS s cr := H_.1
theorem RT.k {s : sg_} {cr : crs} {M : Int} (H_ : RT s cr M) : 0 ≤ s 139 4 ∧ s 139 4 ≤ 30 := H_.2.1
theorem RT.b {s : sg_} {cr : crs} {M : Int} (H_ : RT s cr M) : 0 ≤ s 139 12 ∧ s 139 12 ≤ M := H_.2.2.1
theorem RT.o9 {s : sg_} {cr : crs} {M : Int} (H_ : RT s cr M) : s 139 8 ≤ 9999 := H_.2.2.2
theorem RT_mk {s : sg_} {cr : crs} {M : Int} (rs_ : RS s cr) (k_ : 0 ≤ s 139 4 ∧ s 139 4 ≤ 30) (b_ : 0 ≤ s 139 12 ∧ s 139 12 ≤ M) (o_ : s 139 8 ≤ 9999) : RT s cr M := ⟨rs_, k_, b_, o_⟩
theorem keepR_4 {s : sg_} (h : 0 ≤ s 139 4 ∧ s 139 4 ≤ 30) : 0 ≤ keepR s 139 4 ∧ keepR s 139 4 ≤ 30 := by
  unfold keepR
  split
  · unfold keR
    rw [up_e, up_e]
    decide
  · unfold keR
    rw [up_e]
    omega
theorem endR_12 {cr : crs} {t : sg_} : endR cr t 139 12 = t 139 12 ∨ endR cr t 139 12 = t 139 12 + 1 := by
  unfold endR
  rw [up_k (by decide)]
  split
  · exact Or.inl (up_k (by decide))
  · exact Or.inr (up_e _ _ _ _)
theorem hourR_12 {cr : crs} {s : sg_} : hourR cr s 139 12 = s 139 12 ∨ hourR cr s 139 12 = s 139 12 + 1 := by
  unfold hourR
  (try dsimp only)
  rw [up_k (by decide), up_k (by decide), ← flA_j (cr := cr) (s := s) (Or.inr (by decide))]
  exact endR_12
theorem keepR_RT {s : sg_} {cr : crs} {M : Int} (H : RT s cr M) : RT (keepR s) cr M := ⟨keepR_RS H.rs H.k.1, keepR_4 H.k, by rw [keepR_fr H.k.1 (Or.inr ⟨by decide, by decide⟩)]; exact H.b, by rw [keepR_fr H.k.1 (Or.inr ⟨by decide, by decide⟩)]; exact H.o9⟩
theorem hourR_RT {s : sg_} {cr : crs} {M : Int} (H : RT s cr M) (h8 : s 139 8 < 9999) : RT (hourR cr s) cr (M + 1) := by
  have hb := H.b
  have h12 := hourR_12 (cr := cr) (s := s)
  exact ⟨hourR_RS H.rs hb.1 (by omega), by rw [hourR_j (by decide) (by decide) hb.1, flA_j (Or.inr (by decide))]; exact H.k, by omega, by rw [hourR_8]; omega⟩
def hrsR (cr : crs) (s : sg_) : Nat → sg_
  | 0 => s
  | n + 1 => hourR cr (keepR (hrsR cr s n))
