/-! -/
/-! an hour in both -/
/-- what stands beside the flags changed in both -/
theorem relF_s {c r c1 r1 : sg_} {F R : Nat} (H : relF c r F R) (ec : ∀ (b : Nat) (j : Int), F + 1 ≤ b → b ≤ F + 7 → c1 b j = c b j) (er : ∀ j : Int, 16 ≤ j → j < 148 → r1 R j = r R j) (h0 : r1 R 0 = c1 F 0) (h1 : r1 R 1 = c1 F 1) (h8 : r1 R 8 = c1 F 10) (h9 : r1 R 9 = c1 F 9) (hA : r1 R 10 = c1 F 11) (hB : r1 R 11 = c1 F 12) : relF c1 r1 F R := by
  obtain ⟨-, a2, a3, a4, -⟩ := H
  refine ⟨⟨h0, h1⟩, fun q hq => ?_, fun u hu => ?_, fun u q hu hq => ?_, h8, h9, hA, hB⟩
  · rw [er _ (by omega) (by omega), er _ (by omega) (by omega), er _ (by omega) (by omega), ec _ _ (by omega) (by omega), ec _ _ (by omega) (by omega), ec _ _ (by omega) (by omega)]
    exact a2 q hq
  · rw [er _ (by omega) (by omega), er _ (by omega) (by omega), ec _ _ (by omega) (by omega), ec _ _ (by omega) (by omega)]
    exact a3 u hu
  · rw [er _ (by omega) (by omega), er _ (by omega) (by omega), ec _ _ (by omega) (by omega), ec _ _ (by omega) (by omega)]
    exact a4 u q hu hq
/-- nothing of it changed -/
theorem relF_f {c r c1 r1 : sg_} {F R : Nat} (H : relF c r F R) (ec : ∀ (b : Nat) (j : Int), F ≤ b → b ≤ F + 7 → c1 b j = c b j) (er : ∀ j : Int, 0 ≤ j → j < 148 → ¬ j = 2 → ¬ j = 3 → ¬ j = 4 → ¬ j = 12 → r1 R j = r R j) : relF c1 r1 F R :=
  relF_s H (fun b j h1 h2 => ec b j (by omega) h2) (fun j h1 h2 => er j (by omega) h2 (by omega) (by omega) (by omega) (by omega))
    (by rw [er _ (by omega) (by omega) (by omega) (by omega) (by omega) (by omega), ec _ _ (by omega) (by omega)]; exact H.1.1)
    (by rw [er _ (by omega) (by omega) (by omega) (by omega) (by omega) (by omega), ec _ _ (by omega) (by omega)]; exact H.1.2)
    (by rw [er _ (by omega) (by omega) (by omega) (by omega) (by omega) (by omega), ec _ _ (by omega) (by omega)]; exact H.2.2.2.2.1)
    (by rw [er _ (by omega) (by omega) (by omega) (by omega) (by omega) (by omega), ec _ _ (by omega) (by omega)]; exact H.2.2.2.2.2.1)
    (by rw [er _ (by omega) (by omega) (by omega) (by omega) (by omega) (by omega), ec _ _ (by omega) (by omega)]; exact H.2.2.2.2.2.2.1)
    (by rw [er _ (by omega) (by omega) (by omega) (by omega) (by omega) (by omega), ec _ _ (by omega) (by omega)]; exact H.2.2.2.2.2.2.2)
theorem passC_a {cd : cds} {F : Nat} {s : sg_} {b : Nat} {j : Int} (h : ¬ b = F ∨ (¬ j = 11 ∧ ¬ j = 10)) : passC cd F s b j = passA cd F s b j := by
  unfold passC
  rcases h with h | h
  · rw [up_a h, up_a h]
  · rw [up_k h.2, up_k h.1]
theorem pass_eq {cd : cds} {cr : crs} (E : eqLaw cd cr) (A : askR (cr 2)) {c r : sg_} {F : Nat} (H : relF c r F 139) (G : RG r) (I : IG c F) (h12 : 0 ≤ r 139 12) : relF (passC cd F c) (endR cr (flA cr r)) F 139 := by
  have H1 := flA_eq E H G I
  have G1 := flA_RG (cr := cr) G
  have I1 := passA_IG (cd := cd) I
  have eh := heir_eq E A H1 G1 I1.1
  have q12 : 0 ≤ flA cr r 139 12 := by rw [flA_j (Or.inr (by decide))]; exact h12
  have q8 : flA cr r 139 8 = r 139 8 := flA_j (Or.inr (by decide))
  have ej : ∀ j : Int, ¬ j = 8 → ¬ j = 10 → ¬ j = 12 → j < 3484 → endR cr (flA cr r) 139 j = flA cr r 139 j := fun j a b d e => endR_j a b d e q12
  refine relF_s H1 (fun b j a1 a2 => passC_a (Or.inl (by omega))) (fun j a1 a2 => ej j (by omega) (by omega) (by omega) (by omega)) ?_ ?_ ?_ ?_ ?_ ?_
  · rw [ej _ (by omega) (by omega) (by omega) (by omega), passC_a (Or.inr ⟨by omega, by omega⟩)]
    exact H1.1.1
  · rw [ej _ (by omega) (by omega) (by omega) (by omega), passC_a (Or.inr ⟨by omega, by omega⟩)]
    exact H1.1.2
  · rw [endR_8, q8, passC_10, H.2.2.2.2.1]
  · rw [ej _ (by omega) (by omega) (by omega) (by omega), passC_a (Or.inr ⟨by omega, by omega⟩)]
    exact H1.2.2.2.2.2.1
  · rw [endR_10, passC_11]
    exact eh
  · rw [ej _ (by omega) (by omega) (by omega) (by omega), passC_a (Or.inr ⟨by omega, by omega⟩)]
    exact H1.2.2.2.2.2.2.2
/-- an hour but for the book, in the class -/
theorem hrC_u {tc : tcs} {s : sg_} {b : Nat} {j : Int} (h : ¬ b = 56 ∧ ¬ b = 57 ∧ ¬ b = 58) : hrC tc s b j = up (up (passC (tc (rulT s)) 48 s) 48 12 ((passC (tc (rulT s)) 48 s 48 12 * 283 + 181) % 30307)) 48 9 (passC (tc (rulT s)) 48 s 48 12 % 10) b j := by
  unfold hrC
  (try dsimp only)
  split
  · rfl
  · exact bkC_fr h.1 h.2.1 h.2.2
theorem draw_eq {c r : sg_} {F : Nat} (H : relF c r F 139) : relF (up (up c F 12 ((c F 12 * 283 + 181) % 30307)) F 9 (c F 12 % 10)) (up (up r 139 9 (r 139 11 % 10)) 139 11 ((r 139 11 * 283 + 181) % 30307)) F 139 := by
  refine relF_s H (fun b j a1 a2 => by rw [up_a (by omega), up_a (by omega)]) (fun j a1 a2 => by rw [up_k (by omega), up_k (by omega)]) ?_ ?_ ?_ ?_ ?_ ?_
  · rw [up_k (by decide), up_k (by decide), up_k (by decide), up_k (by decide)]
    exact H.1.1
  · rw [up_k (by decide), up_k (by decide), up_k (by decide), up_k (by decide)]
    exact H.1.2
  · rw [up_k (by decide), up_k (by decide), up_k (by decide), up_k (by decide)]
    exact H.2.2.2.2.1
  · rw [up_k (by decide), up_e, up_e, H.2.2.2.2.2.2.2]
  · rw [up_k (by decide), up_k (by decide), up_k (by decide), up_k (by decide)]
    exact H.2.2.2.2.2.2.1
  · rw [up_e, up_k (by decide), up_e, H.2.2.2.2.2.2.2]
theorem hr_eq {tc : tcs} {cr : crs} {c r : sg_} (E : eqLaw (tc (rulT c)) cr) (A : askR (cr 2)) (H : relF c r 48 139) (G : RG r) (I : IG c 48) (h12 : 0 ≤ r 139 12) : relF (hrC tc c) (hourR cr r) 48 139 := by
  have H1 := draw_eq (pass_eq E A H G I h12)
  exact relF_f H1 (fun b j a1 a2 => hrC_u (by omega)) (fun j _ _ _ _ _ _ => rfl)
