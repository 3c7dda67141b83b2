/-! -/
/-! a state of the game copied to another place, in both -/
/-- the class's forest at F stands at F1 -/
def FCP (c c1 : sg_) (F F1 : Nat) : Prop := (c1 F1 0 = c F 0 ∧ c1 F1 1 = c F 1) ∧ (∀ j, 0 ≤ j → j < 8 → c1 (F1 + 1) j = c (F + 1) j ∧ c1 (F1 + 2) j = c (F + 2) j ∧ c1 (F1 + 3) j = c (F + 3) j) ∧ (∀ j, 0 ≤ j → j < 6 → c1 (F1 + 4) j = c (F + 4) j ∧ c1 (F1 + 5) j = c (F + 5) j) ∧ (∀ j, 0 ≤ j → j < 48 → c1 (F1 + 6) j = c (F + 6) j ∧ c1 (F1 + 7) j = c (F + 7) j) ∧ c1 F1 9 = c F 9 ∧ c1 F1 10 = c F 10 ∧ c1 F1 11 = c F 11 ∧ c1 F1 12 = c F 12
theorem relF_t {c r c1 r1 : sg_} {F F1 R R1 : Nat} (H : relF c r F R) (e : FCP c c1 F F1) (er : ∀ j, 0 ≤ j → j < 148 → r1 R1 j = r R j) : relF c1 r1 F1 R1 := by
  obtain ⟨⟨h0, h1⟩, h2, h3, h4, h8, h9, hA, hB⟩ := H
  obtain ⟨⟨e0, e1⟩, e2, e4, e6, e9, eA, eB, eC⟩ := e
  refine ⟨⟨by rw [er _ (by omega) (by omega), e0]; exact h0, by rw [er _ (by omega) (by omega), e1]; exact h1⟩, fun p hp => ?_, fun w hw => ?_, fun w p hw hp => ?_, by rw [er _ (by omega) (by omega), eA]; exact h8, by rw [er _ (by omega) (by omega), e9]; exact h9, by rw [er _ (by omega) (by omega), eB]; exact hA, by rw [er _ (by omega) (by omega), eC]; exact hB⟩
  · have q := e2 p hp.1 hp.2
    rw [er _ (by omega) (by omega), er _ (by omega) (by omega), er _ (by omega) (by omega), q.1, q.2.1, q.2.2]
    exact h2 p hp
  · have q := e4 w hw.1 hw.2
    rw [er _ (by omega) (by omega), er _ (by omega) (by omega), q.1, q.2]
    exact h3 w hw
  · have q := e6 (p * 6 + w) (by omega) (by omega)
    rw [er _ (by omega) (by omega), er _ (by omega) (by omega), q.1, q.2]
    exact h4 w p hw hp
theorem IG_t {c c1 : sg_} {F F1 : Nat} (N : IG c F) (e : FCP c c1 F F1) : IG c1 F1 := by
  obtain ⟨⟨i0, i1, i2, i4, i6, i7, i9, iA, iB, iC⟩, g⟩ := N
  obtain ⟨⟨e0, e1⟩, e2, e4, e6, e9, eA, eB, eC⟩ := e
  refine ⟨⟨by rw [e0]; exact i0, by rw [e1]; exact i1, fun p a b => by rw [(e2 p a b).2.1]; exact i2 p a b, fun w a b => by rw [(e4 w a b).1]; exact i4 w a b, fun k a b => by rw [(e6 k a b).1]; exact i6 k a b, fun k a b => by rw [(e6 k a b).2]; exact i7 k a b, by rw [e9]; exact i9, by rw [eA]; exact iA, by rw [eB]; exact iB, by rw [eC]; exact iC⟩, fun k a b => ?_⟩
  rw [(e6 k a b).1, (e6 k a b).2]
  exact g k a b
theorem relW_t {c r c1 r1 : sg_} {A A1 R R1 : Nat} {a b : Int} (H : relW c r A a R b) (ec : ∀ k, a ≤ k → k < a + 190 → c1 A1 k = c A k) (er : ∀ k, b ≤ k → k < b + 110 → r1 R1 k = r R k) : relW c1 r1 A1 a R1 b := by
  obtain ⟨⟨h0, h1, h2, h3, h4⟩, hp, hf⟩ := H
  refine ⟨⟨by rw [er _ (by omega) (by omega), ec _ (by omega) (by omega)]; exact h0, by rw [er _ (by omega) (by omega), ec _ (by omega) (by omega)]; exact h1, by rw [er _ (by omega) (by omega), ec _ (by omega) (by omega)]; exact h2, by rw [er _ (by omega) (by omega), ec _ (by omega) (by omega)]; exact h3, by rw [er _ (by omega) (by omega), ec _ (by omega) (by omega)]; exact h4⟩, fun p h => ?_, fun w p hw h => ?_⟩
  · rw [er _ (by omega) (by omega), ec _ (by omega) (by omega)]
    exact hp p h
  · rw [er _ (by omega) (by omega), er _ (by omega) (by omega), ec _ (by omega) (by omega), ec _ (by omega) (by omega)]
    exact hf w p hw h
theorem relK_t {c r c1 r1 : sg_} {G G1 R R1 : Nat} (H : relK c r G R) (e1 : c1 (G1 + 12) 1 = c (G + 12) 1) (e2 : c1 (G1 + 12) 2 = c (G + 12) 2) (ec : ∀ j, 0 ≤ j → j < 5700 → c1 (G1 + 13) j = c (G + 13) j) (er : ∀ j, 0 ≤ j → j < 6044 → r1 R1 j = r R j) (hn : c (G + 12) 2 ≤ 30) : relK c1 r1 G1 R1 := by
  refine ⟨by rw [er _ (by omega) (by omega), e2]; exact H.1, fun i a b => ?_⟩
  rw [e2] at b
  rw [e1]
  refine relW_t (H.2 i a b) (fun k h1 h2 => ec k ?_ ?_) (fun k h1 h2 => er k (by omega) (by omega))
  · unfold rwC at h1
    omega
  · unfold rwC at h2
    omega
theorem relX_t {c r c1 r1 : sg_} {G G1 R R1 : Nat} (H : relX c r G R) (b1 : c (G + 14) 3 ≤ 8) (b2 : c (G + 18) 3 ≤ 10) (e6 : c1 G1 6 = c G 6) (e7 : c1 G1 7 = c G 7) (d : ∀ j, 0 ≤ j → j < 8 → c1 (G1 + 15) j = c (G + 15) j ∧ c1 (G1 + 16) j = c (G + 16) j) (d3 : c1 (G1 + 14) 3 = c (G + 14) 3) (k : ∀ j, 0 ≤ j → j < 10 → c1 (G1 + 19) j = c (G + 19) j ∧ c1 (G1 + 20) j = c (G + 20) j) (k3 : c1 (G1 + 18) 3 = c (G + 18) 3) (er : ∀ j, 0 ≤ j → j < 184 → r1 R1 j = r R j) : relX c1 r1 G1 R1 := by
  obtain ⟨⟨h2, h3⟩, ⟨h5, hf⟩, h6, hk⟩ := H
  refine ⟨⟨by rw [er _ (by omega) (by omega), e6]; exact h2, by rw [er _ (by omega) (by omega), e7]; exact h3⟩, ⟨by rw [er _ (by omega) (by omega), d3]; exact h5, fun j a b => ?_⟩, by rw [er _ (by omega) (by omega), k3]; exact h6, fun j a b => ?_⟩
  · rw [d3] at b
    rw [er _ (by omega) (by omega), er _ (by omega) (by omega), (d j a (by omega)).1, (d j a (by omega)).2]
    exact hf j a b
  · rw [k3] at b
    rw [er _ (by omega) (by omega), er _ (by omega) (by omega), (k j a (by omega)).1, (k j a (by omega)).2]
    exact hk j a b
theorem rwOK_t {c c1 : sg_} {A A1 : Nat} {a : Int} (x : rwOK c A a) (e : ∀ j, a ≤ j → j < a + 110 → c1 A1 j = c A j) : rwOK c1 A1 a := by
  obtain ⟨⟨x1, x2, x3, x4, x5⟩, x6, x8⟩ := x
  refine ⟨⟨by rw [e _ (by omega) (by omega)]; exact x1, by rw [e _ (by omega) (by omega)]; exact x2, by rw [e _ (by omega) (by omega)]; exact x3, by rw [e _ (by omega) (by omega)]; exact x4, by rw [e _ (by omega) (by omega)]; exact x5⟩, fun p hp => by rw [e _ (by omega) (by omega)]; exact x6 p hp, fun k hk => ?_⟩
  rw [e _ (by omega) (by omega), e _ (by omega) (by omega)]
  exact x8 k hk
/-- a state at G, its bounds -/
def ST1 (c : sg_) (G : Nat) : Prop := IG c (G + 1) ∧ c (G + 1) 10 ≤ 9999 ∧ (0 ≤ c (G + 9) 2 ∧ c (G + 9) 2 ≤ 40) ∧ (0 ≤ c (G + 12) 1 ∧ c (G + 12) 1 < 30) ∧ (0 ≤ c (G + 12) 2 ∧ c (G + 12) 2 ≤ 30) ∧ (0 ≤ c G 6 ∧ c G 6 ≤ 4) ∧ EX c G
/-- a state in both -/
def ST2 (c r : sg_) (G R : Nat) (M : Int) : Prop := ST1 c G ∧ relF c r (G + 1) R ∧ relK c r G R ∧ relX c r G R ∧ RX r R M ∧ (∀ w p, (0 ≤ w ∧ w < 6) → (0 ≤ p ∧ p < 8) → 0 ≤ r R (52 + 2 * (8 * w + p) + 1) ∧ r R (52 + 2 * (8 * w + p) + 1) ≤ 199) ∧ 0 ≤ r R 12 ∧ r R 12 ≤ M
theorem ST1_t {c c1 : sg_} {G G1 : Nat} (S : ST1 c G) (K : CPY c c1 G G1) : ST1 c1 G1 := by
  obtain ⟨N, h, b, e, s, t, x1, x2, x3, x4, x5, x6⟩ := S
  obtain ⟨⟨k6, k7⟩, k0, k2, k5, k8, k9, kb, kc, kr, ⟨ke1, ke2⟩, kd, kd3, kk, kk3, -⟩ := K
  have F : FCP c c1 (G + 1) (G1 + 1) := ⟨k0, k2, k5, k8, k9⟩
  refine ⟨IG_t N F, by rw [k9.2.1]; exact h, by rw [kc]; exact b, by rw [ke1]; exact e, by rw [ke2]; exact s, by rw [k6]; exact t, fun p hp => ?_, fun w hw => ?_, fun i hi => ?_, ⟨by rw [kd3]; exact x4.1, fun j a d => ?_⟩, by rw [kk3]; exact x5, by rw [k6, k7]; exact x6⟩
  · have q := k2 p hp.1 hp.2
    rw [q.1, q.2.2]
    exact x1 p hp
  · rw [(k5 w hw.1 hw.2).2]
    exact x2 w hw
  · exact rwOK_t (x3 i hi) (fun j a d => kr j (by omega) (by omega))
  · rw [(kd j a d).2]
    exact x4.2 j a d
theorem ST2_t {c r c1 r1 : sg_} {G G1 R R1 : Nat} {M : Int} (S : ST2 c r G R M) (K : CPY c c1 G G1) (er : ∀ j, 0 ≤ j → j < 6044 → r1 R1 j = r R j) : ST2 c1 r1 G1 R1 M := by
  obtain ⟨S1, H, L, X, Y, W, b⟩ := S
  have S2 := ST1_t S1 K
  obtain ⟨N, h, b9, e, s, t, x1, x2, x3, x4, x5, x6⟩ := S1
  obtain ⟨⟨k6, k7⟩, k0, k2, k5, k8, k9, kb, kc, kr, ⟨ke1, ke2⟩, kd, kd3, kk, kk3, -⟩ := K
  have F : FCP c c1 (G + 1) (G1 + 1) := ⟨k0, k2, k5, k8, k9⟩
  exact ⟨S2, relF_t H F (fun j a b => er j a (by omega)), relK_t L ke1 ke2 kr er s.2, relX_t X x4.1.2 x5.2 k6 k7 kd kd3 kk kk3 (fun j a b => er j a (by omega)), RX_f Y (Int.le_refl _) (fun j a b => er j (by omega) (by omega)), fun w p hw hp => by rw [er _ (by omega) (by omega)]; exact W w p hw hp, by rw [er _ (by omega) (by omega)]; exact b⟩
/-- a state that stays where it is -/
theorem ST1_f {c c1 : sg_} {G : Nat} (S : ST1 c G) (e : ∀ (b : Nat) (j : Int), G ≤ b → b ≤ G + 21 → c1 b j = c b j) : ST1 c1 G := by
  obtain ⟨N, h, b, d, s, t, x⟩ := S
  exact ⟨IG_f (fun b j h1 h2 => e b j (by omega) (by omega)) N, by rw [e _ _ (by omega) (by omega)]; exact h, by rw [e _ _ (by omega) (by omega)]; exact b, by rw [e _ _ (by omega) (by omega)]; exact d, by rw [e _ _ (by omega) (by omega)]; exact s, by rw [e _ _ (by omega) (by omega)]; exact t, EX_f x (fun b j hb => e b j (by omega) (by omega))⟩
theorem ST2_f {c r c1 r1 : sg_} {G R : Nat} {M M1 : Int} (S : ST2 c r G R M) (hM : M ≤ M1) (e : ∀ (b : Nat) (j : Int), G ≤ b → b ≤ G + 21 → c1 b j = c b j) (er : ∀ j, 0 ≤ j → j < 6044 → r1 R j = r R j) : ST2 c1 r1 G R M1 := by
  obtain ⟨S1, H, L, X, Y, W, b⟩ := S
  have s := S1.2.2.2.2.1
  have x := S1.2.2.2.2.2.2
  exact ⟨ST1_f S1 e, relF_f H (fun b j h1 h2 => e b j (by omega) (by omega)) (fun j h1 h2 h3 h4 h5 h6 => er j h1 (by omega)), relK_f L (er _ (by omega) (by omega)) (e _ _ (by omega) (by omega)) (e _ _ (by omega) (by omega)) (fun j => e _ j (by omega) (by omega)) (fun j a b => er j (by omega) (by omega)) s.2, relX_t X x.2.2.2.1.1.2 x.2.2.2.2.1.2 (e _ _ (by omega) (by omega)) (e _ _ (by omega) (by omega)) (fun j a b => ⟨e _ _ (by omega) (by omega), e _ _ (by omega) (by omega)⟩) (e _ _ (by omega) (by omega)) (fun j a b => ⟨e _ _ (by omega) (by omega), e _ _ (by omega) (by omega)⟩) (e _ _ (by omega) (by omega)) (fun j a b => er j a (by omega)), RX_f Y hM (fun j a b => er j (by omega) (by omega)), fun w p hw hp => by rw [er _ (by omega) (by omega)]; exact W w p hw hp, by rw [er _ (by omega) (by omega)]; exact ⟨b.1, Int.le_trans b.2 hM⟩⟩
