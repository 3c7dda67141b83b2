/-! -/
/-! texts played, rulers, found, ahead, image, back in both -/
theorem doC_e {tc : tcs} {s : sg_} {a b : Int × Int × Int} (h : clE a b) : doC tc s a.1 a.2.1 a.2.2 = doC tc s b.1 b.2.1 b.2.2 := by
  obtain ⟨a1, a2, a3⟩ := a
  obtain ⟨b1, b2, b3⟩ := b
  obtain ⟨h1, h2, h3⟩ := h
  have e1 : a1 = b1 := h1
  have e2 : 3 ≤ a1 → a2 = b2 := h2
  have e3 : (a1 = 3 ∨ a1 = 5 ∨ a1 = 6 ∨ a1 = 7) → a3 = b3 := h3
  clear h1 h2 h3
  subst e1
  show doC tc s a1 a2 a3 = doC tc s a1 b2 b3
  by_cases c : 3 ≤ a1
  · rw [e2 c]
    by_cases p : a1 = 3 ∨ a1 = 5 ∨ a1 = 6 ∨ a1 = 7
    · rw [e3 p]
    · unfold doC
      simp only [if_neg (show ¬ a1 = 3 by omega), if_neg (show ¬ a1 = 5 by omega), if_neg (show ¬ a1 = 6 by omega), if_neg (show ¬ a1 = 7 by omega)]
  · unfold doC
    simp only [if_neg (show ¬ a1 = 3 by omega), if_neg (show ¬ a1 = 4 by omega), if_neg (show ¬ a1 = 5 by omega), if_neg (show ¬ a1 = 6 by omega), if_neg (show ¬ a1 = 7 by omega), if_neg (show ¬ a1 = 8 by omega), if_neg (show ¬ a1 = 9 by omega)]
theorem pyC_c {tc : tcs} {cl cm : cls} : ∀ (f k : Nat) (s : sg_), (∀ i, k ≤ i → i < k + f → clE (cl i) (cm i)) → pyC tc cl f k s = pyC tc cm f k s
  | 0, _, _, _ => rfl
  | f + 1, k, s, h => by
    have e := h k (by omega) (by omega)
    show (if (doC tc s (cl k).1 (cl k).2.1 (cl k).2.2).1 = 0 then ((k : Int), (doC tc s (cl k).1 (cl k).2.1 (cl k).2.2).2) else pyC tc cl f (k + 1) (doC tc s (cl k).1 (cl k).2.1 (cl k).2.2).2) = (if (doC tc s (cm k).1 (cm k).2.1 (cm k).2.2).1 = 0 then ((k : Int), (doC tc s (cm k).1 (cm k).2.1 (cm k).2.2).2) else pyC tc cm f (k + 1) (doC tc s (cm k).1 (cm k).2.1 (cm k).2.2).2)
    rw [doC_e e, pyC_c f (k + 1) _ (fun i a b => h i (by omega) (by omega))]
def cPlayed (tc : tcs) (s : sg_) (tx : Int) : Int × sg_ := if 0 ≤ tx ∧ tx < s 47 6 then pyC tc (clsC s (12 + 7 * tx.toNat)) (s (12 + 7 * tx.toNat) 7).toNat 0 s else (-2, s)
def rPlayed (cr : crs) (s : sg_) (tx : Int) : Int × sg_ := if 0 ≤ tx ∧ tx < s 139 2 then pyR cr (clsR s tx) (s 141 (705 * tx)).toNat 0 s else (-2, s)
theorem in_Played {tc : tcs} {tr : Int → crs} {s : sg_} {M : Int} (I : INV tc tr s M) {tx : Int} : (rPlayed (tr (s 139 3)) (cPlayed tc s tx).2 tx).1 = (cPlayed tc s tx).1 ∧ INV tc tr (rPlayed (tr (s 139 3)) (cPlayed tc s tx).2 tx).2 (M + 1440) := by
  have X : s 139 2 = s 47 6 := I.1.2.2.2.1.1.1
  unfold cPlayed
  by_cases q : 0 ≤ tx ∧ tx < s 47 6
  · rw [if_pos q]
    have hk : ((tx.toNat : Nat) : Int) = tx := by omega
    obtain ⟨t0, t1, t2, t3, t4, t5, t6⟩ := I.2.2.2.2.2.1 tx.toNat (by omega)
    rw [hk] at t0 t1 t2 t3
    obtain ⟨n, hn⟩ : ∃ n, (s 141 (705 * tx)).toNat = n := ⟨_, rfl⟩
    rw [t1, hn]
    have ec : pyC tc (clsC s (12 + 7 * tx.toNat)) n 0 s = pyC tc (clsR s tx) n 0 s := pyC_c n 0 s (fun i _ b => t2 i (by omega))
    rw [ec]
    have f1 := gm_py tc (clsR s tx) n 0 s
    have g1 := INV_G I f1
    have hO : ∀ i : Nat, 0 ≤ i → i < 0 + n → (clsR s tx i).1 = 9 → 0 ≤ (clsR s tx i).2.1 ∧ (clsR s tx i).2.1 ≤ 60 := fun i _ b => (t3 i (by omega)).2
    have g2 := GAM_py n 0 s _ M g1 hO
    obtain ⟨t, et⟩ : ∃ z9_, pyC tc (clsR s tx) n 0 s = z9_ := ⟨_, rfl⟩
    rw [et] at f1 g1 g2 ⊢
    have et2 : clsR t.2 tx = clsR s tx := by
      funext i
      unfold clsR
      rw [f1 _ _ (by decide), f1 _ _ (by decide), f1 _ _ (by decide)]
    unfold rPlayed
    rw [if_pos ⟨q.1, by rw [f1 139 2 (by decide), X]; exact q.2⟩, f1 141 _ (by decide), hn, et2]
    exact ⟨g2.1.symm, INV_gm I (by omega) f1 (fr_py _ _ _ _ _) (GAM_m g2.2 (by omega))⟩
  · rw [if_neg q]
    unfold rPlayed
    rw [if_neg (by show ¬ (0 ≤ tx ∧ tx < s 139 2); omega)]
    exact ⟨rfl, INV_m I (by omega)⟩
/-- with as many texts, or fewer -/
theorem TXS_le {tc : tcs} {c c1 : sg_} (T : TXS tc c) (e : ∀ (b : Nat) (j : Int), b < 47 → c1 b j = c b j) (e6 : c1 47 6 ≤ c 47 6) : TXS tc c1 := fun k k4 hk => TXC_f (fun b j _ _ => e b j (by omega)) (T k k4 (by omega))
theorem TEX_le {tc : tcs} {tr : Int → crs} {c r c1 r1 : sg_} (T : TEX tc tr c r) (e : ∀ (b : Nat) (j : Int), b < 47 → c1 b j = c b j) (e6 : c1 47 6 ≤ c 47 6) (er : ∀ j, r1 141 j = r 141 j) (h4 : c 47 6 ≤ 4) : TEX tc tr c1 r1 := by
  have T1 := TEX_f (c1 := fun b j => if b < 47 then c1 b j else c b j) T (fun b j h => (if_pos h).trans (e b j h)) (if_neg (by decide)) er h4
  refine ⟨fun k hk => ?_, T1.2⟩
  have q := T1.1 k (by show (k : Int) < (if (47 : Nat) < 47 then c1 47 6 else c 47 6); rw [if_neg (by decide)]; omega)
  have e1 : ∀ (b : Nat) (j : Int), b < 47 → (fun b j => if b < 47 then c1 b j else c b j : sg_) b j = c1 b j := fun b j h => if_pos h
  obtain ⟨t0, t1, t2, t3⟩ := q
  rw [e1 _ _ (by omega)] at t1
  refine ⟨t0, t1, fun i hi => ?_, t3⟩
  have q2 := t2 i hi
  unfold clsC at q2 ⊢
  rw [e1 _ _ (by omega), e1 _ _ (by omega), e1 _ _ (by omega)] at q2
  exact q2
/-- the law's state, out of its pieces -/
theorem INV_of {tc : tcs} {tr : Int → crs} {s s1 : sg_} {M M1 : Int} (I : INV tc tr s M) (S1 : ST2 s1 s1 47 139 M1) (S2 : ST2 s1 s1 69 140 M1) (h6 : s1 69 6 ≤ s1 47 6) (e6 : s1 47 6 ≤ s 47 6) (e : ∀ (b : Nat) (j : Int), b < 47 ∨ b = 141 → s1 b j = s b j) : INV tc tr s1 M1 := by
  obtain ⟨S0, -, -, sc, tx, T⟩ := I
  exact ⟨S1, S2, h6, SC_f (fun j => e _ _ (Or.inl (by decide))) (fun j => e _ _ (Or.inl (by decide))) sc, TXS_le tx (fun b j h => e _ _ (Or.inl h)) e6, TEX_le T (fun b j h => e _ _ (Or.inl h)) e6 (fun j => e _ _ (Or.inr rfl)) S0.1.2.2.2.2.2.1.2⟩
def cBy (s : sg_) (x : Int) : Int × sg_ := if -1 ≤ x ∧ x < s 47 6 then (1, up s 47 7 x) else (0, s)
def rBy (s : sg_) (x : Int) : Int × sg_ := if -1 ≤ x ∧ x < s 139 2 then (1, up s 139 3 x) else (0, s)
/-- in a state, what texts, finds and claims are changed alone -/
theorem ST2_x {c r c1 r1 : sg_} {M : Int} (S : ST2 c r 47 139 M) (e : ∀ (b : Nat) (j : Int), 48 ≤ b → b ≤ 60 → c1 b j = c b j) (e6 : c1 47 6 = c 47 6) (er : ∀ j, ((0 ≤ j ∧ j < 2) ∨ j = 4 ∨ (8 ≤ j ∧ j < 148) ∨ (184 ≤ j ∧ j < 6044)) → r1 139 j = r 139 j) (x : ((0 ≤ c1 61 3 ∧ c1 61 3 ≤ 8) ∧ ∀ j, 0 ≤ j → j < 8 → c1 63 j = 0 ∨ c1 63 j = 1) ∧ (0 ≤ c1 65 3 ∧ c1 65 3 ≤ 10) ∧ -1 ≤ c1 47 7 ∧ c1 47 7 < c1 47 6) (X : relX c1 r1 47 139) : ST2 c1 r1 47 139 M := by
  obtain ⟨⟨N, h, b, d, s, t, x1, x2, x3, x4⟩, H, L, -, Y, W, w⟩ := S
  exact ⟨⟨IG_f (fun b j h1 h2 => e b j (by omega) (by omega)) N, by rw [e _ _ (by decide) (by decide)]; exact h, by rw [e _ _ (by decide) (by decide)]; exact b, by rw [e _ _ (by decide) (by decide)]; exact d, by rw [e _ _ (by decide) (by decide)]; exact s, by rw [e6]; exact t, fun p hp => by rw [e _ _ (by decide) (by decide), e _ _ (by decide) (by decide)]; exact x1 p hp, fun w hw => by rw [e _ _ (by decide) (by decide)]; exact x2 w hw, fun i hi => rwOK_f (x3 i hi) (fun j _ _ => e _ _ (by decide) (by decide)), x⟩, relF_s H (fun b j h1 h2 => e b j (by omega) (by omega)) (fun j h1 h2 => er j (by omega)) (by rw [er _ (by omega), e _ _ (by decide) (by decide)]; exact H.1.1) (by rw [er _ (by omega), e _ _ (by decide) (by decide)]; exact H.1.2) (by rw [er _ (by omega), e _ _ (by decide) (by decide)]; exact H.2.2.2.2.1) (by rw [er _ (by omega), e _ _ (by decide) (by decide)]; exact H.2.2.2.2.2.1) (by rw [er _ (by omega), e _ _ (by decide) (by decide)]; exact H.2.2.2.2.2.2.1) (by rw [er _ (by omega), e _ _ (by decide) (by decide)]; exact H.2.2.2.2.2.2.2), relK_f L (er _ (by omega)) (e _ _ (by decide) (by decide)) (e _ _ (by decide) (by decide)) (fun j => e _ _ (by decide) (by decide)) (fun j h1 h2 => er j (by omega)) s.2, X, RX_f Y (Int.le_refl _) (fun j h1 h2 => er j (by omega)), fun w p hw hp => by rw [er _ (by omega)]; exact W w p hw hp, by rw [er _ (by omega)]; exact w⟩
