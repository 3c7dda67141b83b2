/-! -/
/-! class and reference in a game: hours, draws, clauses -/
theorem flWs_k {cr : crs} {p j : Int} (hp : 0 ≤ p ∧ p < 8) (hj : 148 ≤ j) {s : sg_} : ∀ n : Nat, n ≤ 6 → flWs cr p n s 139 j = s 139 j
  | 0, _ => rfl
  | n + 1, h => (flW_fr (Or.inr ⟨by omega, by omega⟩)).trans (flWs_k hp hj n (by omega))
theorem flPs_k {cr : crs} {q : Nat} (hq : q ≤ 6) {j : Int} (hj : 148 ≤ j) {s : sg_} : ∀ m : Nat, m ≤ 8 → flPs cr q m s 139 j = s 139 j
  | 0, _ => rfl
  | m + 1, h => (flWs_k (by omega) hj q hq).trans (flPs_k hq hj m (by omega))
theorem flA_k {cr : crs} {s : sg_} (G : RG s) {j : Int} (hj : 148 ≤ j) : flA cr s 139 j = s 139 j := flPs_k (by have := G.w0; omega) hj _ (by have := G.p0; omega)
/-- the game is one in class and reference -/
def REL (c r : sg_) : Prop := relF c r 48 139 ∧ relK c r 47 139
def GAM (tc : tcs) (cr : crs) (c r : sg_) (M : Int) : Prop := REL c r ∧ NV c tc ∧ RT r cr M ∧ eqLaw (tc (rulT c)) cr ∧ EX c 47 ∧ RX r 139 M ∧ relX c r 47 139
theorem GAM.l {tc : tcs} {cr : crs} {c r : sg_} {M : Int} (g : GAM tc cr c r M) : eqLaw (tc (rulT c)) cr := g.2.2.2.1
theorem GAM.x {tc : tcs} {cr : crs} {c r : sg_} {M : Int} (g : GAM tc cr c r M) : EX c 47 := g.2.2.2.2.1
theorem GAM.y {tc : tcs} {cr : crs} {c r : sg_} {M : Int} (g : GAM tc cr c r M) : RX r 139 M := g.2.2.2.2.2.1
theorem GAM.z {tc : tcs} {cr : crs} {c r : sg_} {M : Int} (g : GAM tc cr c r M) : relX c r 47 139 := g.2.2.2.2.2.2
theorem GAM_z {tc : tcs} {cr : crs} {c r c1 r1 : sg_} {M : Int} (g : GAM tc cr c r M) (e : ∀ (b : Nat) (j : Int), b = 47 ∨ (61 ≤ b ∧ b ≤ 67) → c1 b j = c b j) (er : ∀ j : Int, j = 2 ∨ j = 3 ∨ j = 5 ∨ j = 6 ∨ (148 ≤ j ∧ j < 184) → r1 139 j = r 139 j) : relX c1 r1 47 139 := relX_f g.z e er g.x.2.2.2.1.1.2 g.x.2.2.2.2.1.2
theorem rulT_f {c c1 : sg_} (e : ∀ (b : Nat) (j : Int), b < 48 → c1 b j = c b j) : rulT c1 = rulT c := by
  unfold rulT
  rw [e 47 6 (by decide), e 47 7 (by decide)]
theorem GAM_n {tc : tcs} {cr : crs} {c r c1 r1 : sg_} {M M1 : Int} (g : GAM tc cr c r M) (R : REL c1 r1) (N : NV c1 tc) (T : RT r1 cr M1) (e : ∀ (b : Nat) (j : Int), b < 48 → c1 b j = c b j) (x : EX c1 47) (y : RX r1 139 M1) (z : relX c1 r1 47 139) : GAM tc cr c1 r1 M1 := ⟨R, N, T, by rw [rulT_f e]; exact g.l, x, y, z⟩
theorem GAM_keep {tc : tcs} {cr : crs} {c r : sg_} {M : Int} (g : GAM tc cr c r M) : GAM tc cr (keepC c) (keepR r) M := by
  have q := keep_eq g.1.1 g.1.2 g.2.1.e g.2.1.c
  exact GAM_n g q (keepC_NV g.2.1) (keepR_RT g.2.2.1) (fun b j h => keepC_fr (by omega) (by omega)) (EX_keep g.2.1 g.x) (RX_keep g.2.2.1 g.y) (GAM_z g (fun b j h => keepC_fr (by omega) (by omega)) (fun j h => keepR_fr g.2.2.1.k.1 (by omega)))
theorem relK_s {c r c1 r1 : sg_} (K : relK c r 47 139) (hn : c 59 2 ≤ 30) (e : ∀ (b : Nat) (j : Int), b = 59 ∨ b = 60 → c1 b j = c b j) (er : ∀ j : Int, j = 4 ∨ (184 ≤ j ∧ j < 3484) → r1 139 j = r 139 j) : relK c1 r1 47 139 := relK_f K (er 4 (Or.inl rfl)) (e 59 1 (Or.inl rfl)) (e 59 2 (Or.inl rfl)) (fun j => e 60 j (Or.inr rfl)) (fun j a b => er j (Or.inr ⟨a, b⟩)) hn
theorem GAM_hr {tc : tcs} {cr : crs} {c r : sg_} {M : Int} (g : GAM tc cr c r M) (h : c 48 10 < 9999) : GAM tc cr (hrC tc c) (hourR cr r) (M + 1) := by
  have g0 := g
  obtain ⟨R, N, T, E, X, Y, Z⟩ := g
  have h12 := T.b.1
  have G := T.rs.g
  have e8 : r 139 8 = c 48 10 := R.1.2.2.2.2.1
  have o : ∀ j : Int, j = 4 ∨ (184 ≤ j ∧ j < 3484) → hourR cr r 139 j = r 139 j := fun j hj => by
    rw [hourR_j (by omega) (by omega) h12]
    rcases hj with rfl | hj
    · exact flA_j (Or.inr (by decide))
    · exact flA_k G (by omega)
  have o2 : ∀ j : Int, j = 2 ∨ j = 3 ∨ j = 5 ∨ j = 6 ∨ (148 ≤ j ∧ j < 184) → hourR cr r 139 j = r 139 j := fun j hj => by
    rw [hourR_j (by omega) (by omega) h12]
    by_cases q : j < 52
    · exact flA_j (Or.inr q)
    · exact flA_k G (by omega)
  exact GAM_n g0 ⟨hr_eq E T.rs.v2 R.1 G N.g h12, relK_s R.2 N.c.2 (fun b j hb => hrC_fr (by omega)) o⟩ (hrC_NV N h) (hourR_RT T (by omega)) (fun b j hb => hrC_fr (by omega)) (EX_f X (fun b j hb => hrC_fr (by omega))) (RX_f Y (by omega) (fun j a b => o j (Or.inr ⟨a, b⟩))) (GAM_z g0 (fun b j hb => hrC_fr (by omega)) o2)
theorem GAM_m {tc : tcs} {cr : crs} {c r : sg_} {M M1 : Int} (g : GAM tc cr c r M) (h : M ≤ M1) : GAM tc cr c r M1 := ⟨g.1, g.2.1, RT_m g.2.2.1 h, g.l, g.x, RX_f g.y h (fun _ _ _ => rfl), g.z⟩
theorem GAM_hrs {tc : tcs} {cr : crs} {c r : sg_} {M : Int} (g : GAM tc cr c r M) : ∀ n : Nat, c 48 10 + n ≤ 9999 → GAM tc cr (hrsC tc c n) (hrsR cr r n) (M + n)
  | 0, _ => GAM_m g (by omega)
  | n + 1, h => by
    have ih := GAM_hrs g n (by omega)
    have k := GAM_hr (GAM_keep ih) (by rw [keepC_fr (by decide) (by decide), hrsC_10]; omega)
    rw [show M + (n : Int) + 1 = M + ((n + 1 : Nat) : Int) by omega] at k
    exact k
theorem GAM_rs {tc : tcs} {cr : crs} {c r : sg_} {M : Int} (g : GAM tc cr c r M) {w p : Int} (hw : 0 ≤ w ∧ w < 6) (hp : 0 ≤ p ∧ p < 8) : GAM tc cr (rsC c w p) (rsR r w p) M :=
  GAM_n g ⟨rs_eq g.1.1 hw hp, relK_s g.1.2 g.2.1.c.2 (fun b j hb => by
    unfold rsC
    rw [up_a (by omega), up_a (by omega)]) (fun j hj => rsR_j hw hp (by omega))⟩ (rsC_NV g.2.1) (rsR_RT g.2.2.1 hw hp) (fun b j hb => by
    unfold rsC
    rw [up_a (by omega), up_a (by omega)]) (EX_f g.x (fun b j hb => by
    unfold rsC
    rw [up_a (by omega), up_a (by omega)])) (RX_f g.y (Int.le_refl _) (fun j a b => rsR_j hw hp (by omega))) (GAM_z g (fun b j hb => by
    unfold rsC
    rw [up_a (by omega), up_a (by omega)]) (fun j hj => rsR_j hw hp (by omega)))
theorem GAM_dn {tc : tcs} {cr : crs} {c r : sg_} {M : Int} (g : GAM tc cr c r M) {w p : Int} (hw : 0 ≤ w ∧ w < 6) (hp : 0 ≤ p ∧ p < 8) : GAM tc cr (up c 54 (p * 6 + w) (-1)) (gnR r w p) M :=
  GAM_n g ⟨dn_eq g.1.1 hw hp, relK_s g.1.2 g.2.1.c.2 (fun b j hb => up_a (by omega)) (fun j hj => gnR_j hw hp (by omega))⟩ (dnC_NV g.2.1) (gnR_RT g.2.2.1 hw hp) (fun b j hb => up_a (by omega)) (EX_f g.x (fun b j hb => up_a (by omega))) (RX_f g.y (Int.le_refl _) (fun j a b => gnR_j hw hp (by omega))) (GAM_z g (fun b j hb => up_a (by omega)) (fun j hj => gnR_j hw hp (by omega)))
theorem prR_k {r : sg_} {p n : Int} (hp : 0 ≤ p ∧ p < 8) (i1 : 0 ≤ r 139 1 ∧ r 139 1 ≤ 6) {j : Int} (hj : 148 ≤ j) : prR r p n 139 j = r 139 j := by
  unfold prR
  rw [(prW_v hp _ (by omega)).2 j (by omega), up_k (by omega)]
theorem GAM_cut {tc : tcs} {cr : crs} {c r : sg_} {M : Int} (g : GAM tc cr c r M) {p n : Int} (hp : 0 ≤ p ∧ p < 8) (hn : 0 ≤ n ∧ n ≤ c 50 p) : GAM tc cr (cutW c 48 p n (c 48 1)) (prR r p n) M := by
  have d : r 139 (16 + 3 * p) = c 50 p := (g.1.1.2.1 p hp).1
  have o : ∀ j : Int, j = 4 ∨ (184 ≤ j ∧ j < 3484) → prR r p n 139 j = r 139 j := fun j hj => by
    rcases hj with rfl | hj
    · exact prR_j hp (Or.inr ⟨by decide, by omega⟩)
    · exact prR_k hp g.2.2.1.rs.g.w0 (by omega)
  have o2 : ∀ j : Int, j = 2 ∨ j = 3 ∨ j = 5 ∨ j = 6 ∨ (148 ≤ j ∧ j < 184) → prR r p n 139 j = r 139 j := fun j hj => by
    by_cases q : j < 52
    · exact prR_j hp (Or.inr ⟨q, by omega⟩)
    · exact prR_k hp g.2.2.1.rs.g.w0 (by omega)
  exact GAM_n g ⟨cut_eq g.1.1 g.2.1.g.1.2.1 hp hn, relK_s g.1.2 g.2.1.c.2 (fun b j hb => cutW_a (by omega) (by omega)) o⟩ (ctC_NVc g.2.1 hp hn) (prR_RT g.2.2.1 hp hn.1 (by omega)) (fun b j hb => cutW_a (by omega) (by omega)) (EX_f g.x (fun b j hb => cutW_a (by omega) (by omega))) (RX_f g.y (Int.le_refl _) (fun j a b => o j (Or.inr ⟨a, b⟩))) (GAM_z g (fun b j hb => cutW_a (by omega) (by omega)) o2)
theorem GAM_wind {tc : tcs} {cr : crs} {c r : sg_} {M : Int} (g : GAM tc cr c r M) {y : Int} (hy : 0 ≤ y ∧ y ≤ 9) : GAM tc cr (up c 48 9 y) (up r 139 9 y) M :=
  GAM_n g ⟨wind_eq g.1.1, relK_s g.1.2 g.2.1.c.2 (fun b j hb => up_a (by omega)) (fun j hj => up_k (by omega))⟩ (NV_9 g.2.1 hy) (RT_9 g.2.2.1 hy) (fun b j hb => up_a (by omega)) (EX_f g.x (fun b j hb => up_a (by omega))) (RX_f g.y (Int.le_refl _) (fun j a b => up_k (by omega))) (GAM_z g (fun b j hb => up_a (by omega)) (fun j hj => up_k (by omega)))
theorem GAM_x {tc : tcs} {cr : crs} {c r : sg_} {M : Int} (g : GAM tc cr c r M) {y : Int} (hy : 0 ≤ y ∧ y ≤ 30306) : GAM tc cr (up c 48 12 y) (up r 139 11 y) M :=
  GAM_n g ⟨x_eq g.1.1, relK_s g.1.2 g.2.1.c.2 (fun b j hb => up_a (by omega)) (fun j hj => up_k (by omega))⟩ (NV_12 g.2.1 hy) (RT_11 g.2.2.1 hy) (fun b j hb => up_a (by omega)) (EX_f g.x (fun b j hb => up_a (by omega))) (RX_f g.y (Int.le_refl _) (fun j a b => up_k (by omega))) (GAM_z g (fun b j hb => up_a (by omega)) (fun j hj => up_k (by omega)))
theorem EX_pl {c : sg_} (x : EX c 47) {u z : Int} (hu : 1 ≤ u ∧ u ≤ 99) (hz : 0 ≤ z ∧ z ≤ 99) : EX (plC c u z) 47 := by
  obtain ⟨v0, v1, v2, v3⟩ := plC_v (s := c) (x := u) (z := z)
  have o : ∀ (b : Nat) (j : Int), ¬ b = 48 → ¬ b = 49 → ¬ b = 50 → ¬ b = 51 → plC c u z b j = c b j := fun b j h1 h2 h3 h4 => plC_j (Or.inl ⟨h1, h2, h3, h4⟩)
  have y : EX (fun b j => if b = 49 ∨ b = 51 then c b j else plC c u z b j) 47 := EX_f x (fun b j hb => by
    (try dsimp only)
    split
    · rfl
    · exact o b j (by omega) (by omega) (by omega) (by omega))
  refine ⟨fun p hp => ?_, y.2.1, fun i hi => rwOK_f (x.2.2.1 i hi) (fun j _ _ => o _ _ (by decide) (by decide) (by decide) (by decide)), y.2.2.2⟩
  have q := x.1 p hp
  show (0 ≤ plC c u z 49 p ∧ plC c u z 49 p ≤ 99) ∧ 0 ≤ plC c u z 51 p ∧ plC c u z 51 p ≤ 99
  by_cases e : p = c 48 0
  · rw [e, v1, v3]
    omega
  · rw [plC_j (Or.inr (Or.inr ⟨by decide, e⟩)), plC_j (Or.inr (Or.inr ⟨by decide, e⟩))]
    exact q
theorem EX_pw {c : sg_} (x : EX c 47) {u z : Int} (hz : 0 ≤ z ∧ z ≤ 511) : EX (pwC c u z) 47 := by
  obtain ⟨v0, v1, v2⟩ := pwC_v (s := c) (x := u) (z := z)
  have o : ∀ (b : Nat) (j : Int), ¬ b = 48 → ¬ b = 52 → ¬ b = 53 → pwC c u z b j = c b j := fun b j h1 h2 h3 => pwC_j (Or.inl ⟨h1, h2, h3⟩)
  have y : EX (fun b j => if b = 53 then c b j else pwC c u z b j) 47 := EX_f x (fun b j hb => by
    (try dsimp only)
    split
    · rfl
    · exact o b j (by omega) (by omega) (by omega))
  refine ⟨y.1, fun w hw => ?_, fun i hi => rwOK_f (x.2.2.1 i hi) (fun j _ _ => o _ _ (by decide) (by decide) (by decide)), y.2.2.2⟩
  have q := x.2.1 w hw
  show 0 ≤ pwC c u z 53 w ∧ pwC c u z 53 w ≤ 511
  by_cases e : w = c 48 1
  · rw [e, v2]
    exact hz
  · rw [pwC_j (Or.inr (Or.inr ⟨by decide, e⟩))]
    exact q
theorem GAM_pl {tc : tcs} {cr : crs} {c r : sg_} {M : Int} (g : GAM tc cr c r M) (hc : c 48 0 < 8) {x z : Int} (hx : 1 ≤ x ∧ x ≤ 99) (hz : 0 ≤ z ∧ z ≤ 99) : GAM tc cr (plC c x z) (plR r x z) M := by
  have i0 := g.2.1.g.1.1
  have e0 := g.1.1.1.1
  have T := g.2.2.1
  refine GAM_n g ⟨pl_eq g.1.1 (by omega), relK_s g.1.2 g.2.1.c.2 (fun b j hb => plC_j (by omega)) (fun j hj => plR_j (by omega))⟩ (plC_NV g.2.1 hc hx) (RT_h T (plR_RG T.rs.g (by omega) hx hz) (fun b j h => plR_j (by omega))) (fun b j hb => plC_j (by omega)) (EX_pl g.x hx hz) (RX_f g.y (Int.le_refl _) (fun j a b => plR_j (by omega))) (GAM_z g (fun b j hb => plC_j (by omega)) (fun j hj => plR_j (by omega)))
theorem GAM_pw {tc : tcs} {cr : crs} {c r : sg_} {M : Int} (g : GAM tc cr c r M) (hc : c 48 1 < 6) {x z : Int} (hx : 1 ≤ x ∧ x ≤ 9) (hz : 0 ≤ z ∧ z ≤ 511) : GAM tc cr (pwC c x z) (pwR r x z) M := by
  have i1 := g.2.1.g.1.2.1
  have e1 := g.1.1.1.2
  have T := g.2.2.1
  refine GAM_n g ⟨pw_eq g.1.1 (by omega), relK_s g.1.2 g.2.1.c.2 (fun b j hb => pwC_j (by omega)) (fun j hj => pwR_j (by omega))⟩ (pwC_NV g.2.1 hc hx) (RT_h T (pwR_RG T.rs.g (by omega) hx) (fun b j h => pwR_j (by omega))) (fun b j hb => pwC_j (by omega)) (EX_pw g.x hz) (RX_f g.y (Int.le_refl _) (fun j a b => pwR_j (by omega))) (GAM_z g (fun b j hb => pwC_j (by omega)) (fun j hj => pwR_j (by omega)))
theorem GAM_ctD {tc : tcs} {cr : crs} {c r : sg_} {M : Int} (g : GAM tc cr c r M) {q w p n : Int} (hw : 0 ≤ w ∧ w < 6) (hp : 0 ≤ p ∧ p < 8) (hn : 0 ≤ n) : GAM tc cr (ctD tc c q w p n) (hapD cr r q w p n) (M + 1) := by
  have i1 := g.2.1.g.1.2.1
  have em := mr_eq g.1.1 i1 hw hp
  have e5 : r 139 (16 + 3 * p) = c 50 p := (g.1.1.2.1 p hp).1
  have e8 : r 139 8 = c 48 10 := g.1.1.2.2.2.2.1
  have g1 := GAM_m g (show M ≤ M + 1 by omega)
  unfold ctD hapD
  rw [e5, e8]
  by_cases q0 : q = 0 ∨ q = 1
  · rw [if_pos q0, if_pos q0]
    by_cases m : mrC c w p
    · rw [if_pos m, if_pos (em.mp m)]
      exact GAM_rs g1 hw hp
    · rw [if_neg m, if_neg (fun z => m (em.mpr z))]
      exact g1
  · rw [if_neg q0, if_neg q0]
    by_cases q2 : q = 2
    · rw [if_pos q2, if_pos q2]
      exact GAM_dn g1 hw hp
    · rw [if_neg q2, if_neg q2]
      by_cases q3 : q = 3
      · rw [if_pos q3, if_pos q3]
        by_cases t : n < c 50 p
        · rw [if_pos t, if_pos t]
          exact GAM_cut g1 hp (by omega)
        · rw [if_neg t, if_neg t]
          exact g1
      · rw [if_neg q3, if_neg q3]
        by_cases t : c 48 10 < 9999
        · rw [if_pos t, if_pos t]
          exact GAM_hr g t
        · rw [if_neg t, if_neg t]
          exact g1
theorem GAM_ct {tc : tcs} {cr : crs} {c r : sg_} {M : Int} (g : GAM tc cr c r M) (h0 : ¬ c 48 0 = 0) (h1 : ¬ c 48 1 = 0) : GAM tc cr (ctC tc c) (ctR cr r) (M + 1) := by
  have i0 := g.2.1.g.1.1
  have i1 := g.2.1.g.1.2.1
  have i12 := g.2.1.g.1.2.2.2.2.2.2.2.2.2
  have e11 : r 139 11 = c 48 12 := g.1.1.2.2.2.2.2.2.2
  unfold ctC ctR hapR
  rw [if_neg (fun z => by rcases z with z | z; exact h0 z; exact h1 z), e11, up_k (by decide), up_k (by decide), g.1.1.1.1, g.1.1.1.2]
  have wa := Int.emod_nonneg (c 48 12) h1
  have wb := Int.emod_lt_of_pos (c 48 12) (show 0 < c 48 1 by omega)
  have pa := Int.emod_nonneg (c 48 12) h0
  have pb := Int.emod_lt_of_pos (c 48 12) (show 0 < c 48 0 by omega)
  exact GAM_ctD (GAM_x g (by omega)) (by omega) (by omega) (by omega)
theorem ctD_01 {tc : tcs} {s : sg_} {q w p n j : Int} (hj : j < 9) : ctD tc s q w p n 48 j = s 48 j := by
  unfold ctD
  split
  · split
    · unfold rsC
      rw [up_a (by decide), up_a (by decide)]
    · rfl
  · split
    · exact up_a (by decide)
    · split
      · split
        · exact cutW_1
        · rfl
      · split
        · rw [hrC_u (by decide), up_k (by omega), up_k (by omega), passC_0 (by omega) (by omega)]
        · rfl
theorem ctC_01 {tc : tcs} {s : sg_} {j : Int} (hj : j < 9) : ctC tc s 48 j = s 48 j := by
  unfold ctC
  split
  · rfl
  · rw [ctD_01 hj, up_k (by omega)]
theorem GAM_cts {tc : tcs} {cr : crs} {c r : sg_} {M : Int} (g : GAM tc cr c r M) (h0 : ¬ c 48 0 = 0) (h1 : ¬ c 48 1 = 0) : ∀ n : Nat, GAM tc cr (ctsC tc c n) (ctsR cr r n) (M + n) ∧ ∀ j, j < 9 → ctsC tc c n 48 j = c 48 j
  | 0 => ⟨GAM_m g (by omega), fun _ _ => rfl⟩
  | n + 1 => by
    have ih := GAM_cts g h0 h1 n
    refine ⟨?_, fun j hj => (ctC_01 hj).trans (ih.2 j hj)⟩
    have k := GAM_ct ih.1 (by rw [ih.2 0 (by decide)]; exact h0) (by rw [ih.2 1 (by decide)]; exact h1)
    rw [show M + (n : Int) + 1 = M + ((n + 1 : Nat) : Int) by omega] at k
    exact k
/-- centuries in both -/
theorem GAM_ctw {tc : tcs} {cr : crs} {c r : sg_} {M : Int} (g : GAM tc cr c r M) {sd n : Int} (hs : 0 ≤ sd ∧ sd ≤ 9999) (hn : 1 ≤ n ∧ n ≤ 40) (h0 : ¬ c 48 0 = 0) (h1 : ¬ c 48 1 = 0) : GAM tc cr (ctwC tc c sd n) (ctwR cr r sd n) (M + 40) := by
  have k := GAM_x (GAM_keep g) (y := sd * 2 + 79) (by omega)
  have q : ∀ j, j < 9 → up (keepC c) 48 12 (sd * 2 + 79) 48 j = c 48 j := fun j hj => by rw [up_k (by omega), keepC_fr (by decide) (by decide)]
  have m := (GAM_cts k (by rw [q 0 (by decide)]; exact h0) (by rw [q 1 (by decide)]; exact h1) n.toNat).1
  unfold ctwC ctwR
  exact GAM_m m (by omega)
/-- what a clause does in both -/
theorem GAM_do {tc : tcs} {cr : crs} {c r : sg_} {M : Int} (g : GAM tc cr c r M) {k v w : Int} (h9 : k = 9 → 0 ≤ v ∧ v ≤ 60) : (doC tc c k v w).1 = (doR cr r k v w).1 ∧ GAM tc cr (doC tc c k v w).2 (doR cr r k v w).2 (M + 60) := by
  have i0 := g.2.1.g.1.1
  have i1 := g.2.1.g.1.2.1
  have i2 := g.2.1.g.1.2.2.1
  have ho := g.2.1.h
  have e0 := g.1.1.1.1
  have e1 := g.1.1.1.2
  have e8 : r 139 8 = c 48 10 := g.1.1.2.2.2.2.1
  have e9 : r 139 9 = c 48 9 := g.1.1.2.2.2.2.2.1
  have g1 := GAM_m g (show M ≤ M + 60 by omega)
  have gk := GAM_keep g1
  unfold doC doR
  rw [e0, e8, e9]
  by_cases k3 : k = 3
  · rw [if_pos k3, if_pos k3]
    by_cases q : c 48 0 < 8 ∧ (1 ≤ v ∧ v ≤ 99) ∧ (0 ≤ w ∧ w ≤ 99)
    · rw [if_pos q, if_pos q]
      exact ⟨rfl, GAM_pl g1 q.1 q.2.1 q.2.2⟩
    · rw [if_neg q, if_neg q]
      exact ⟨rfl, g1⟩
  rw [if_neg k3, if_neg k3]
  by_cases k4 : k = 4
  · rw [if_pos k4, if_pos k4, e1]
    by_cases q : c 48 1 < 6 ∧ (1 ≤ v ∧ v ≤ 9)
    · rw [if_pos q, if_pos q]
      exact ⟨rfl, GAM_pw g1 q.1 q.2 (by decide)⟩
    · rw [if_neg q, if_neg q]
      exact ⟨rfl, g1⟩
  rw [if_neg k4, if_neg k4]
  by_cases k5 : k = 5
  · rw [if_pos k5, if_pos k5]
    by_cases q : (0 ≤ v ∧ v < c 48 1) ∧ (0 ≤ w ∧ w < c 48 0) ∧ mrC c v w
    · have q1 := q.1
      have q2 := q.2.1
      have em := mr_eq g.1.1 i1 (w := v) (p := w) (by omega) (by omega)
      rw [if_pos q, if_pos ⟨by rw [e1]; exact q.1, q.2.1, em.mp q.2.2⟩]
      exact ⟨rfl, GAM_rs gk (by omega) (by omega)⟩
    · rw [if_neg q, if_neg (fun z => by
        have q1 : 0 ≤ v ∧ v < c 48 1 := by rw [← e1]; exact z.1
        have q2 := z.2.1
        have em := mr_eq g.1.1 i1 (w := v) (p := w) (by omega) (by omega)
        exact q ⟨q1, z.2.1, em.mpr z.2.2⟩)]
      exact ⟨rfl, g1⟩
  rw [if_neg k5, if_neg k5]
  by_cases k6 : k = 6
  · rw [if_pos k6, if_pos k6]
    by_cases q : (0 ≤ v ∧ v < c 48 1) ∧ (0 ≤ w ∧ w < c 48 0) ∧ ¬ c 54 (w * 6 + v) = -1
    · have q1 := q.1
      have q2 := q.2.1
      have f : r 139 (52 + 2 * (8 * v + w) + 0) = c 54 (w * 6 + v) := (g.1.1.2.2.2.1 v w (by omega) (by omega)).1
      rw [if_pos q, if_pos ⟨by rw [e1]; exact q.1, q.2.1, by rw [f]; exact q.2.2⟩]
      exact ⟨rfl, GAM_dn gk (by omega) (by omega)⟩
    · rw [if_neg q, if_neg (fun z => by
        have q1 : 0 ≤ v ∧ v < c 48 1 := by rw [← e1]; exact z.1
        have q2 := z.2.1
        have f : r 139 (52 + 2 * (8 * v + w) + 0) = c 54 (w * 6 + v) := (g.1.1.2.2.2.1 v w (by omega) (by omega)).1
        exact q ⟨q1, z.2.1, by rw [← f]; exact z.2.2⟩)]
      exact ⟨rfl, g1⟩
  rw [if_neg k6, if_neg k6]
  by_cases k7 : k = 7
  · rw [if_pos k7, if_pos k7]
    by_cases q : (0 ≤ v ∧ v < c 48 0) ∧ 1 ≤ w ∧ w < c 50 v
    · have q1 := q.1
      have f : r 139 (16 + 3 * v) = c 50 v := (g.1.1.2.1 v (by omega)).1
      have b : 0 ≤ c 50 v ∧ c 50 v ≤ 99 := i2 v (by omega) (by omega)
      have k5 : keepC c 50 v = c 50 v := keepC_fr (by decide) (by decide)
      rw [if_pos q, if_pos ⟨q.1, q.2.1, by omega, by rw [f]; exact q.2.2⟩]
      exact ⟨rfl, GAM_cut gk (by omega) (by rw [k5]; omega)⟩
    · rw [if_neg q, if_neg (fun z => by
        have q1 := z.1
        have f : r 139 (16 + 3 * v) = c 50 v := (g.1.1.2.1 v (by omega)).1
        exact q ⟨z.1, z.2.1, by rw [← f]; exact z.2.2.2⟩)]
      exact ⟨rfl, g1⟩
  rw [if_neg k7, if_neg k7]
  by_cases k8 : k = 8
  · rw [if_pos k8, if_pos k8]
    by_cases q : (0 ≤ v ∧ v ≤ 9) ∧ ¬ v = c 48 9
    · rw [if_pos q, if_pos q]
      exact ⟨rfl, GAM_wind gk q.1⟩
    · rw [if_neg q, if_neg q]
      exact ⟨rfl, g1⟩
  rw [if_neg k8, if_neg k8]
  by_cases k9 : k = 9
  · rw [if_pos k9, if_pos k9]
    have hv := h9 k9
    exact ⟨rfl, GAM_m (GAM_hrs g _ (by omega)) (by omega)⟩
  rw [if_neg k9, if_neg k9]
  exact ⟨rfl, g1⟩
/-- a text played in both -/
theorem GAM_py {tc : tcs} {cr : crs} {cl : cls} : ∀ (f k : Nat) (c r : sg_) (M : Int), GAM tc cr c r M → (∀ i : Nat, k ≤ i → i < k + f → (cl i).1 = 9 → 0 ≤ (cl i).2.1 ∧ (cl i).2.1 ≤ 60) → (pyC tc cl f k c).1 = (pyR cr cl f k r).1 ∧ GAM tc cr (pyC tc cl f k c).2 (pyR cr cl f k r).2 (M + 60 * (f : Int))
  | 0, k, c, r, M, g, _ => ⟨rfl, GAM_m g (by omega)⟩
  | f + 1, k, c, r, M, g, h => by
    have d := GAM_do g (k := (cl k).1) (v := (cl k).2.1) (w := (cl k).2.2) (h k (by omega) (by omega))
    show (if (doC tc c (cl k).1 (cl k).2.1 (cl k).2.2).1 = 0 then ((k : Int), (doC tc c (cl k).1 (cl k).2.1 (cl k).2.2).2) else pyC tc cl f (k + 1) (doC tc c (cl k).1 (cl k).2.1 (cl k).2.2).2).1 = (if (doR cr r (cl k).1 (cl k).2.1 (cl k).2.2).1 = 0 then ((k : Int), (doR cr r (cl k).1 (cl k).2.1 (cl k).2.2).2) else pyR cr cl f (k + 1) (doR cr r (cl k).1 (cl k).2.1 (cl k).2.2).2).1 ∧ GAM tc cr (if (doC tc c (cl k).1 (cl k).2.1 (cl k).2.2).1 = 0 then ((k : Int), (doC tc c (cl k).1 (cl k).2.1 (cl k).2.2).2) else pyC tc cl f (k + 1) (doC tc c (cl k).1 (cl k).2.1 (cl k).2.2).2).2 (if (doR cr r (cl k).1 (cl k).2.1 (cl k).2.2).1 = 0 then ((k : Int), (doR cr r (cl k).1 (cl k).2.1 (cl k).2.2).2) else pyR cr cl f (k + 1) (doR cr r (cl k).1 (cl k).2.1 (cl k).2.2).2).2 _
    rw [d.1]
    by_cases z : (doR cr r (cl k).1 (cl k).2.1 (cl k).2.2).1 = 0
    · rw [if_pos z, if_pos z]
      exact ⟨rfl, GAM_m d.2 (by omega)⟩
    · rw [if_neg z, if_neg z]
      have ih := GAM_py (tc := tc) (cr := cr) (cl := cl) f (k + 1) _ _ _ d.2 (fun i a b => h i (by omega) (by omega))
      exact ⟨ih.1, GAM_m ih.2 (by omega)⟩
/-- a step taken back in both -/
theorem GAM_undo {tc : tcs} {cr : crs} {c r : sg_} {M : Int} (g : GAM tc cr c r M) (h : ¬ c 59 2 = 0) : GAM tc cr (backC c) (udR r) M := by
  have N := g.2.1
  have hc := N.c
  have T := g.2.2.1
  have i0 : 0 ≤ c 48 0 ∧ c 48 0 ≤ 8 := N.g.1.1
  have e4 : r 139 4 = c 59 2 := g.1.2.1
  have e0 := g.1.1.1.1
  have q := undo_eq g.1.1 g.1.2 N.e (by omega) i0
  have w := back_IG N g.x (by omega)
  obtain ⟨⟨c1, c2⟩, -, -, -, c9⟩ := backC_v (c := c) (a := tbA c) rfl
  obtain ⟨r1, r2, r3, r4, r5, r6, r7⟩ := udR_v (r := r) (a := 184 + 110 * (r 139 4 - 1)) (by omega) (by omega) rfl
  have y := g.y (r 139 4 - 1) (by omega)
  have N1 : NV (backC c) tc := NV_f N (fun b j hb => c9 b j (by omega)) w.1 w.2.1 w.2.2 (by rw [c1, c2]; exact ⟨N.e, by omega⟩)
  have G1 : RG (udR r) := RG_of q.1 w.1 w.2.1 (fun p hp => by rw [c9 _ _ (by omega)]; exact (g.x.1 p hp).2) (fun u p hu hp => by
    have z := y.2 (8 * u + p) (by omega)
    rw [show 52 + 2 * (8 * u + p) + 1 = 52 + (2 * (8 * u + p) + 1) by omega, r6 _ (by omega) (by omega), show 184 + 110 * (r 139 4 - 1) + 14 + (2 * (8 * u + p) + 1) = 184 + 110 * (r 139 4 - 1) + 14 + 2 * (8 * u + p) + 1 by omega]
    exact z)
  have b12 : udR r 139 12 = r 139 (184 + 110 * (r 139 4 - 1) + 5) := (r3 4 (by decide) (by decide)).trans (congrArg (r 139) (by omega))
  exact GAM_n g q N1 ⟨RS_f T.rs G1 (r2 3 (by decide) (by decide) (by decide)) (fun j => r7 _ _ (by omega)), by rw [r1]; omega, by rw [b12]; exact y.1, by have e8 := q.1.2.2.2.2.1; have h8 := N1.h; omega⟩ (fun b j hb => c9 b j (by omega)) (EX_f g.x (fun b j hb => c9 b j (by omega))) (RX_f g.y (Int.le_refl _) (fun j a b => r7 _ _ (by omega))) (GAM_z g (fun b j hb => c9 b j (by omega)) (fun j hj => by
    by_cases q : j < 8
    · exact r2 j (by omega) q (by omega)
    · exact r7 _ _ (by omega)))
