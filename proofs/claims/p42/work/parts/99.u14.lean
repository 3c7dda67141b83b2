/-! -/
/-! -/
/-! hours of the state, in the class; laid by program (wp_u14.py) -/
theorem IF_9 {s : sg_} {F : Nat} (I : IF s F) {y : Int} (hy : 0 ≤ y ∧ y ≤ 9) : IF (up s F 9 y) F := by
  obtain ⟨i0, i1, i2, i4, i6, i7, i9, i10, i11, i12⟩ := I
  exact ⟨by rw [up_k (by decide)]; exact i0, by rw [up_k (by decide)]; exact i1, fun p a b => by rw [up_a (by omega)]; exact i2 p a b, fun p a b => by rw [up_a (by omega)]; exact i4 p a b, fun p a b => by rw [up_a (by omega)]; exact i6 p a b, fun p a b => by rw [up_a (by omega)]; exact i7 p a b, by rw [up_e]; exact hy, by rw [up_k (by decide)]; exact i10, by rw [up_k (by decide)]; exact i11, by rw [up_k (by decide)]; exact i12⟩
theorem IG_9 {s : sg_} {F : Nat} (I : IG s F) {y : Int} (hy : 0 ≤ y ∧ y ≤ 9) : IG (up s F 9 y) F := ⟨IF_9 I.1 hy, fun k a b c => by rw [up_a (by omega)] at c ⊢; exact I.2 k a b c⟩
theorem IF_10 {s : sg_} {F : Nat} (I : IF s F) {y : Int} (hy : 0 ≤ y ∧ y ≤ 20000) : IF (up s F 10 y) F := by
  obtain ⟨i0, i1, i2, i4, i6, i7, i9, i10, i11, i12⟩ := I
  exact ⟨by rw [up_k (by decide)]; exact i0, by rw [up_k (by decide)]; exact i1, fun p a b => by rw [up_a (by omega)]; exact i2 p a b, fun p a b => by rw [up_a (by omega)]; exact i4 p a b, fun p a b => by rw [up_a (by omega)]; exact i6 p a b, fun p a b => by rw [up_a (by omega)]; exact i7 p a b, by rw [up_k (by decide)]; exact i9, by rw [up_e]; exact hy, by rw [up_k (by decide)]; exact i11, by rw [up_k (by decide)]; exact i12⟩
theorem IG_10 {s : sg_} {F : Nat} (I : IG s F) {y : Int} (hy : 0 ≤ y ∧ y ≤ 20000) : IG (up s F 10 y) F := ⟨IF_10 I.1 hy, fun k a b c => by rw [up_a (by omega)] at c ⊢; exact I.2 k a b c⟩
theorem IF_11 {s : sg_} {F : Nat} (I : IF s F) {y : Int} (hy : -1 ≤ y ∧ y ≤ 5) : IF (up s F 11 y) F := by
  obtain ⟨i0, i1, i2, i4, i6, i7, i9, i10, i11, i12⟩ := I
  exact ⟨by rw [up_k (by decide)]; exact i0, by rw [up_k (by decide)]; exact i1, fun p a b => by rw [up_a (by omega)]; exact i2 p a b, fun p a b => by rw [up_a (by omega)]; exact i4 p a b, fun p a b => by rw [up_a (by omega)]; exact i6 p a b, fun p a b => by rw [up_a (by omega)]; exact i7 p a b, by rw [up_k (by decide)]; exact i9, by rw [up_k (by decide)]; exact i10, by rw [up_e]; exact hy, by rw [up_k (by decide)]; exact i12⟩
theorem IG_11 {s : sg_} {F : Nat} (I : IG s F) {y : Int} (hy : -1 ≤ y ∧ y ≤ 5) : IG (up s F 11 y) F := ⟨IF_11 I.1 hy, fun k a b c => by rw [up_a (by omega)] at c ⊢; exact I.2 k a b c⟩
theorem IF_12 {s : sg_} {F : Nat} (I : IF s F) {y : Int} (hy : 0 ≤ y ∧ y ≤ 30306) : IF (up s F 12 y) F := by
  obtain ⟨i0, i1, i2, i4, i6, i7, i9, i10, i11, i12⟩ := I
  exact ⟨by rw [up_k (by decide)]; exact i0, by rw [up_k (by decide)]; exact i1, fun p a b => by rw [up_a (by omega)]; exact i2 p a b, fun p a b => by rw [up_a (by omega)]; exact i4 p a b, fun p a b => by rw [up_a (by omega)]; exact i6 p a b, fun p a b => by rw [up_a (by omega)]; exact i7 p a b, by rw [up_k (by decide)]; exact i9, by rw [up_k (by decide)]; exact i10, by rw [up_k (by decide)]; exact i11, by rw [up_e]; exact hy⟩
theorem IG_12 {s : sg_} {F : Nat} (I : IG s F) {y : Int} (hy : 0 ≤ y ∧ y ≤ 30306) : IG (up s F 12 y) F := ⟨IF_12 I.1 hy, fun k a b c => by rw [up_a (by omega)] at c ⊢; exact I.2 k a b c⟩
theorem passC_fr {cd : cds} {F : Nat} {s : sg_} {b : Nat} {j : Int} (h0 : ¬ b = F) (h6 : ¬ b = F + 6) (h7 : ¬ b = F + 7) : passC cd F s b j = s b j := by
  unfold passC
  rw [up_a h0, up_a h0, passA_fr h6 h7]
theorem passC_0 {cd : cds} {F : Nat} {s : sg_} {j : Int} (h1 : ¬ j = 11) (h2 : ¬ j = 10) : passC cd F s F j = s F j := by
  unfold passC
  rw [up_k h2, up_k h1, passA_fr (by omega) (by omega)]
theorem passC_10 {cd : cds} {F : Nat} {s : sg_} : passC cd F s F 10 = s F 10 + 1 := up_e _ _ _ _
theorem passC_11 {cd : cds} {F : Nat} {s : sg_} : passC cd F s F 11 = heirC cd (passA cd F s) F := by
  unfold passC
  rw [up_k (by decide), up_e]
theorem passC_IG {cd : cds} {F : Nat} {s : sg_} (G : IG s F) (h : s F 10 < 20000) : IG (passC cd F s) F := by
  have G1 := passA_IG (cd := cd) G
  have hr := heirC_r (cd := cd) G1.1
  have h10 := G.1.2.2.2.2.2.2.2.1
  exact IG_10 (IG_11 G1 (by omega)) (by omega)
/-- the texts' laws, by their places -/
abbrev tcs : Type := Nat → cds
/-- the state of the game, small invariants -/
def NV (s : sg_) (tc : tcs) : Prop := (IG s 48) ∧ (s 48 10 ≤ 9999) ∧ (SC s) ∧ (∀ k : Nat, k ≤ 4 → (k < s 47 6 ∨ k = 4) → TXC s (12 + 7 * k) (tc (12 + 7 * k))) ∧ (0 ≤ s 47 6 ∧ s 47 6 ≤ 4) ∧ (-1 ≤ s 47 7 ∧ s 47 7 ≤ 3) ∧ (0 ≤ s 56 2 ∧ s 56 2 ≤ 40) ∧ (0 ≤ s 59 1 ∧ s 59 1 < 30) ∧ (0 ≤ s 59 2 ∧ s 59 2 ≤ 30)
theorem NV.g {s : sg_} {tc : tcs} (H_ : NV s tc) : IG s 48 := H_.1
theorem NV.h {s : sg_} {tc : tcs} (H_ : NV s tc) : s 48 10 ≤ 9999 := H_.2.1
theorem NV.sc {s : sg_} {tc : tcs} (H_ : NV s tc) : SC s := H_.2.2.1
theorem NV.tx {s : sg_} {tc : tcs} (H_ : NV s tc) : ∀ k : Nat, k ≤ 4 → (k < s 47 6 ∨ k = 4) → TXC s (12 + 7 * k) (tc (12 + 7 * k)) := H_.2.2.2.1
theorem NV.t {s : sg_} {tc : tcs} (H_ : NV s tc) : 0 ≤ s 47 6 ∧ s 47 6 ≤ 4 := H_.2.2.2.2.1
theorem NV.r {s : sg_} {tc : tcs} (H_ : NV s tc) : -1 ≤ s 47 7 ∧ s 47 7 ≤ 3 := H_.2.2.2.2.2.1
theorem NV.b {s : sg_} {tc : tcs} (H_ : NV s tc) : 0 ≤ s 56 2 ∧ s 56 2 ≤ 40 := H_.2.2.2.2.2.2.1
theorem NV.e {s : sg_} {tc : tcs} (H_ : NV s tc) : 0 ≤ s 59 1 ∧ s 59 1 < 30 := H_.2.2.2.2.2.2.2.1
theorem NV.c {s : sg_} {tc : tcs} (H_ : NV s tc) : 0 ≤ s 59 2 ∧ s 59 2 ≤ 30 := H_.2.2.2.2.2.2.2.2
theorem NV_mk {s : sg_} {tc : tcs} (g_ : IG s 48) (h_ : s 48 10 ≤ 9999) (sc_ : SC s) (tx_ : ∀ k : Nat, k ≤ 4 → (k < s 47 6 ∨ k = 4) → TXC s (12 + 7 * k) (tc (12 + 7 * k))) (t_ : 0 ≤ s 47 6 ∧ s 47 6 ≤ 4) (r_ : -1 ≤ s 47 7 ∧ s 47 7 ≤ 3) (b_ : 0 ≤ s 56 2 ∧ s 56 2 ≤ 40) (e_ : 0 ≤ s 59 1 ∧ s 59 1 < 30) (c_ : 0 ≤ s 59 2 ∧ s 59 2 ≤ 30) : NV s tc := ⟨g_, h_, sc_, tx_, t_, r_, b_, e_, c_⟩
theorem NV_tx {s : sg_} {tc : tcs} (N : NV s tc) : TXC s (rulT s) (tc (rulT s)) := by
  have := N.t
  unfold rulT
  split
  · exact N.tx _ (by omega) (Or.inl (by omega))
  · exact N.tx 4 (by omega) (Or.inr rfl)
/-- invariants stay where only what is listed changes -/
theorem NV_f {s s1 : sg_} {tc : tcs} (N : NV s tc) (e : ∀ (b : Nat) (j : Int), b < 48 → s1 b j = s b j) (g : IG s1 48) (h : s1 48 10 ≤ 9999) (b : 0 ≤ s1 56 2 ∧ s1 56 2 ≤ 40) (c : (0 ≤ s1 59 1 ∧ s1 59 1 < 30) ∧ 0 ≤ s1 59 2 ∧ s1 59 2 ≤ 30) : NV s1 tc := NV_mk
  (g_ := g)
  (h_ := h)
  (sc_ := SC_f (fun j => e 6 j (by decide)) (fun j => e 7 j (by decide)) N.sc)
  (tx_ := fun k k4 hk => TXC_f (fun b j _ _ => e b j (by omega)) (N.tx k k4 (by rw [e 47 6 (by decide)] at hk; exact hk)))
  (t_ := by rw [e 47 6 (by decide)]; exact N.t)
  (r_ := by rw [e 47 7 (by decide)]; exact N.r)
  (b_ := b)
  (e_ := c.1)
  (c_ := c.2)
/-- one hour -/
def hrC (tc : tcs) (s : sg_) : sg_ :=
  let t := passC (tc (rulT s)) 48 s
  let u := up (up t 48 12 ((t 48 12 * 283 + 181) % 30307)) 48 9 (t 48 12 % 10)
  if u 48 11 = s 48 11 then u else bkC u (s 48 10) (u 48 11)
theorem bkC_fr {s : sg_} {x z : Int} {b : Nat} {j : Int} (h6 : ¬ b = 56) (h7 : ¬ b = 57) (h8 : ¬ b = 58) : bkC s x z b j = s b j := by
  unfold bkC
  try dsimp only
  rw [up_a h6, up_a h8, up_a h7]
  split
  · rw [up_a h6]
    unfold cpy
    rw [if_neg (fun z => h8 z.1), if_neg (fun z => h7 z.1)]
  · rfl
theorem bkC_c {s : sg_} {x z : Int} (h : 0 ≤ s 56 2 ∧ s 56 2 ≤ 40) : 0 ≤ bkC s x z 56 2 ∧ bkC s x z 56 2 ≤ 40 := by
  unfold bkC
  try dsimp only
  rw [up_e]
  split
  · rw [up_e]; omega
  · omega
theorem hrC_fr {tc : tcs} {s : sg_} {b : Nat} {j : Int} (h : ¬ b = 48 ∧ ¬ b = 54 ∧ ¬ b = 55 ∧ ¬ b = 56 ∧ ¬ b = 57 ∧ ¬ b = 58) : hrC tc s b j = s b j := by
  unfold hrC
  try dsimp only
  split
  · rw [up_a h.1, up_a h.1, passC_fr h.1 h.2.1 h.2.2.1]
  · rw [bkC_fr h.2.2.2.1 h.2.2.2.2.1 h.2.2.2.2.2, up_a h.1, up_a h.1, passC_fr h.1 h.2.1 h.2.2.1]
theorem hrC_10 {tc : tcs} {s : sg_} : hrC tc s 48 10 = s 48 10 + 1 := by
  unfold hrC
  try dsimp only
  split
  · rw [up_k (by decide), up_k (by decide), passC_10]
  · rw [bkC_fr (by decide) (by decide) (by decide), up_k (by decide), up_k (by decide), passC_10]
theorem hrC_NV {tc : tcs} {s : sg_} (N : NV s tc) (h : s 48 10 < 9999) : NV (hrC tc s) tc := by
  refine NV_f N (fun b j hb => hrC_fr (by omega)) ?_ (by rw [hrC_10]; omega) ?_ ⟨by rw [hrC_fr (by decide)]; exact N.e, by rw [hrC_fr (by decide)]; exact N.c⟩
  · have G1 := passC_IG (cd := tc (rulT s)) N.g (by omega)
    have hx := G1.1.2.2.2.2.2.2.2.2.2
    have G2 := IG_9 (IG_12 G1 (y := (passC (tc (rulT s)) 48 s 48 12 * 283 + 181) % 30307) (by omega)) (y := passC (tc (rulT s)) 48 s 48 12 % 10) (by omega)
    unfold hrC
    try dsimp only
    split
    · exact G2
    · refine ⟨IF_f (fun b j h1 h2 => ?_) G2.1, fun k a b c => ?_⟩
      · exact bkC_fr (by omega) (by omega) (by omega)
      · rw [bkC_fr (by decide) (by decide) (by decide)] at c ⊢
        exact G2.2 k a b c
  · have hb := N.b
    unfold hrC
    try dsimp only
    split
    · rw [up_a (by decide), up_a (by decide), passC_fr (by decide) (by decide) (by decide)]
      exact hb
    · refine bkC_c ?_
      rw [up_a (by decide), up_a (by decide), passC_fr (by decide) (by decide) (by decide)]
      exact hb
