/-! -/
/-! what the law keeps of class and reference together -/
/-- a clause in both, as far as it says something -/
def clE (a b : Int × Int × Int) : Prop := a.1 = b.1 ∧ (3 ≤ a.1 → a.2.1 = b.2.1) ∧ ((a.1 = 3 ∨ a.1 = 5 ∨ a.1 = 6 ∨ a.1 = 7) → a.2.2 = b.2.2)
/-- text k of the class is text k of the reference -/
def TEX1 (tc : tcs) (tr : Int → crs) (c r : sg_) (k : Nat) : Prop := (0 ≤ r 141 (705 * k) ∧ r 141 (705 * k) ≤ 24) ∧ c (12 + 7 * k) 7 = r 141 (705 * k) ∧ (∀ i : Nat, (i : Int) < r 141 (705 * k) → clE (clsC c (12 + 7 * k) i) (clsR r k i)) ∧ clsO (clsR r k) (r 141 (705 * k)).toNat ∧ (∀ l, 0 ≤ l ∧ l < 3 → TRl r k l (tr k l)) ∧ (valR (tr k 0) ∧ valR (tr k 1) ∧ askR (tr k 2)) ∧ eqLaw (tc (12 + 7 * k)) (tr k)
def TEX (tc : tcs) (tr : Int → crs) (c r : sg_) : Prop := (∀ k : Nat, (k : Int) < c 47 6 → TEX1 tc tr c r k) ∧ (∀ l, tr (-1) l = none) ∧ (∀ l, tc 40 l = none) ∧ r 141 (-705) ≤ 24
def TXS (tc : tcs) (c : sg_) : Prop := ∀ k : Nat, k ≤ 4 → ((k : Int) < c 47 6 ∨ k = 4) → TXC c (12 + 7 * k) (tc (12 + 7 * k))
def INV (tc : tcs) (tr : Int → crs) (s : sg_) (M : Int) : Prop := ST2 s s 47 139 M ∧ ST2 s s 69 140 M ∧ s 69 6 ≤ s 47 6 ∧ SC s ∧ TXS tc s ∧ TEX tc tr s s
theorem TRl_k {r r1 : sg_} (e : ∀ j, r1 141 j = r 141 j) {k l : Int} {o : Option (List (Int × Int))} (T : TRl r k l o) : TRl r1 k l o := TRl_f e T
theorem TEX_f {tc : tcs} {tr : Int → crs} {c r c1 r1 : sg_} (T : TEX tc tr c r) (e : ∀ (b : Nat) (j : Int), b < 47 → c1 b j = c b j) (e6 : c1 47 6 = c 47 6) (er : ∀ j, r1 141 j = r 141 j) (h4 : c 47 6 ≤ 4) : TEX tc tr c1 r1 := by
  refine ⟨fun k hk => ?_, T.2.1, T.2.2.1, by rw [er]; exact T.2.2.2⟩
  rw [e6] at hk
  obtain ⟨t0, t1, t2, t3, t4, t5, t6⟩ := T.1 k hk
  have ec : clsR r1 k = clsR r k := by
    unfold clsR
    simp only [er]
  have ed : clsC c1 (12 + 7 * k) = clsC c (12 + 7 * k) := by
    funext i
    unfold clsC
    rw [e _ _ (by omega), e _ _ (by omega), e _ _ (by omega)]
  refine ⟨by rw [er]; exact t0, by rw [er, e _ _ (by omega)]; exact t1, ?_, ?_, fun l hl => TRl_k er (t4 l hl), t5, t6⟩
  · rw [er, ec, ed]
    exact t2
  · rw [er, ec]
    exact t3
theorem TXS_f {tc : tcs} {c c1 : sg_} (T : TXS tc c) (e : ∀ (b : Nat) (j : Int), b < 47 → c1 b j = c b j) (e6 : c1 47 6 = c 47 6) : TXS tc c1 := fun k k4 hk => TXC_f (fun b j _ _ => e b j (by omega)) (T k k4 (by rw [e6] at hk; exact hk))
theorem INV_NV {tc : tcs} {tr : Int → crs} {s : sg_} {M : Int} (I : INV tc tr s M) : NV s tc := by
  obtain ⟨⟨⟨N, h, b, e, c, t, x⟩, -⟩, -, -, sc, tx, -⟩ := I
  have x6 := x.2.2.2.2.2
  exact NV_mk (g_ := N) (h_ := h) (sc_ := sc) (tx_ := tx) (t_ := t) (r_ := by omega) (b_ := b) (e_ := e) (c_ := c)
theorem eqL_none {cd : cds} {cr : crs} (h1 : ∀ l, cd l = none) (h2 : ∀ l, cr l = none) : eqLaw cd cr := by
  unfold eqLaw
  rw [h1 0, h1 1, h1 2, h2 0, h2 1, h2 2]
  exact ⟨trivial, trivial, trivial⟩
theorem INV_RT {tc : tcs} {tr : Int → crs} {s : sg_} {M : Int} (I : INV tc tr s M) : RT s (tr (s 139 3)) M ∧ eqLaw (tc (rulT s)) (tr (s 139 3)) := by
  have N := INV_NV I
  obtain ⟨⟨⟨N0, h, b, e, c, t, x⟩, F, K, X, Y, W, w⟩, -, -, sc, tx, T⟩ := I
  have x6 := x.2.2.2.2.2
  have e3 : s 139 3 = s 47 7 := X.1.2
  have G : RG s := RG_of F N0 h (fun p hp => (x.1 p hp).2) W
  have e4 : s 139 4 = s 59 2 := K.1
  by_cases q : s 47 7 = -1
  · have er : s 139 3 = -1 := by omega
    rw [er]
    have n : ∀ l, tr (-1) l = none := T.2.1
    have vn : valR (tr (-1) 0) ∧ valR (tr (-1) 1) ∧ askR (tr (-1) 2) := by
      rw [n 0, n 1, n 2]
      exact ⟨fun L z => (by cases z), fun L z => (by cases z), fun L z => (by cases z)⟩
    have eru : rulT s = 40 := by
      unfold rulT
      exact if_neg (by omega)
    refine ⟨⟨⟨G, by omega, by rw [er]; exact T.2.2.2, fun l hl => ?_, vn.1, vn.2.1, vn.2.2⟩, by rw [e4]; exact c, w, by rw [F.2.2.2.2.1]; exact h⟩, ?_⟩
    · rw [n l, er]
      exact Or.inl (by decide)
    · rw [eru]
      exact eqL_none T.2.2.1 n
  · have hk : (((s 47 7).toNat : Nat) : Int) = s 47 7 := by omega
    obtain ⟨t0, t1, t2, t3, t4, t5, t6⟩ := T.1 (s 47 7).toNat (by omega)
    rw [hk] at t0 t4 t5 t6
    have eru : rulT s = 12 + 7 * (s 47 7).toNat := by
      unfold rulT
      exact if_pos (by omega)
    rw [e3]
    exact ⟨⟨⟨G, by omega, by rw [e3]; exact t0.2, fun l hl => by rw [e3]; exact t4 l hl, t5.1, t5.2.1, t5.2.2⟩, by rw [e4]; exact c, w, by rw [F.2.2.2.2.1]; exact h⟩, by rw [eru]; exact t6⟩
/-- the reference's part changed alone -/
theorem RT_r {r r1 : sg_} {cr : crs} {M : Int} (T : RT r cr M) (e : ∀ (b : Nat) (j : Int), 138 ≤ b → r1 b j = r b j) : RT r1 cr M := by
  refine ⟨RS_f T.rs (RG_e T.rs.g (fun j _ _ => e _ j (by decide)) (e _ _ (by decide)) (e _ _ (by decide)) (by rw [e _ _ (by decide)]; exact T.rs.g.w) (by rw [e _ _ (by decide)]; exact T.rs.g.o) (by rw [e _ _ (by decide)]; exact T.rs.g.x) (by rw [e _ _ (by decide)]; exact T.rs.g.d)) (e _ _ (by decide)) (fun j => e _ j (by decide)), by rw [e _ _ (by decide)]; exact T.k, by rw [e _ _ (by decide)]; exact T.b, by rw [e _ _ (by decide)]; exact T.o9⟩
theorem GAM_r {tc : tcs} {cr : crs} {c r r1 : sg_} {M : Int} (g : GAM tc cr c r M) (e : ∀ (b : Nat) (j : Int), 138 ≤ b → r1 b j = r b j) : GAM tc cr c r1 M :=
  ⟨⟨relF_f g.1.1 (fun _ _ _ _ => rfl) (fun j _ _ _ _ _ _ => e _ j (by decide)), relK_s g.1.2 g.2.1.c.2 (fun _ _ _ => rfl) (fun j _ => e _ j (by decide))⟩, g.2.1, RT_r g.2.2.1 e, g.l, g.x, RX_f g.y (Int.le_refl _) (fun j _ _ => e _ j (by decide)), GAM_z g (fun _ _ _ => rfl) (fun j _ => e _ j (by decide))⟩
theorem INV_GAM {tc : tcs} {tr : Int → crs} {s : sg_} {M : Int} (I : INV tc tr s M) : GAM tc (tr (s 139 3)) s s M := by
  have N := INV_NV I
  have T := INV_RT I
  obtain ⟨⟨⟨N0, h, b, e, c, t, x⟩, F, K, X, Y, W, w⟩, -⟩ := I
  exact ⟨⟨F, K⟩, N, T.1, T.2, x, Y, X⟩
/-- what a call to the class may change in a game; what one to the reference -/
def frmC (c c1 : sg_) : Prop := ∀ (b : Nat) (j : Int), ¬ (47 ≤ b ∧ b ≤ 68) → c1 b j = c b j
def frmR (r r1 : sg_) : Prop := ∀ (b : Nat) (j : Int), ¬ b = 139 → r1 b j = r b j
/-- behind a call to the class and the like one to the reference -/
theorem INV_game {tc : tcs} {tr : Int → crs} {s c1 s1 : sg_} {M M1 : Int} (I : INV tc tr s M) (hM : M ≤ M1) (f1 : frmC s c1) (f2 : frmR c1 s1) (e6 : c1 47 6 = s 47 6) {cr : crs} (g : GAM tc cr c1 s1 M1) : INV tc tr s1 M1 := by
  obtain ⟨-, S2, h6, sc, tx, T⟩ := I
  have e : ∀ (b : Nat) (j : Int), ¬ b = 139 → ¬ (47 ≤ b ∧ b ≤ 68) → s1 b j = s b j := fun b j h1 h2 => (f2 b j h1).trans (f1 b j h2)
  have ec : s1 47 6 = s 47 6 := (f2 _ _ (by decide)).trans e6
  have N := g.2.1
  have T1 := g.2.2.1
  have S1 : ST2 c1 s1 47 139 M1 := ⟨⟨N.g, N.h, N.b, N.e, N.c, N.t, g.x⟩, g.1.1, g.1.2, g.z, g.y, T1.rs.g.e, T1.b⟩
  exact ⟨ST2_f S1 (Int.le_refl _) (fun b j h1 h2 => f2 b j (by omega)) (fun _ _ _ => rfl), ST2_f S2 hM (fun b j h1 h2 => e b j (by omega) (by omega)) (fun j _ _ => e _ j (by decide) (by decide)), by rw [ec, e 69 6 (by decide) (by decide)]; exact h6, SC_f (fun j => e _ j (by decide) (by decide)) (fun j => e _ j (by decide) (by decide)) sc, TXS_f tx (fun b j h => e b j (by omega) (by omega)) ec, TEX_f T (fun b j h => e b j (by omega) (by omega)) ec (fun j => e _ j (by decide) (by decide)) (by have := N.t; omega)⟩
