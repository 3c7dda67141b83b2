/-! -/
/-! calls that change a game, in both -/
/-- what a game's call may change in the class -/
def gmC (c c1 : sg_) : Prop := ∀ (b : Nat) (j : Int), ¬ (48 ≤ b ∧ b ≤ 60) → c1 b j = c b j
theorem gmC_t {c c1 c2 : sg_} (f : gmC c c1) (g : gmC c1 c2) : gmC c c2 := fun b j h => (g b j h).trans (f b j h)
theorem gmC_r (c : sg_) : gmC c c := fun _ _ _ => rfl
theorem frmR_t {c c1 c2 : sg_} (f : frmR c c1) (g : frmR c1 c2) : frmR c c2 := fun b j h => (g b j h).trans (f b j h)
theorem frmR_r (c : sg_) : frmR c c := fun _ _ _ => rfl
theorem gm_keep (c : sg_) : gmC c (keepC c) := fun b j h => keepC_fr (by omega) (by omega)
theorem gm_hr (tc : tcs) (c : sg_) : gmC c (hrC tc c) := fun b j h => hrC_fr (by omega)
theorem gm_rs (c : sg_) (w p : Int) : gmC c (rsC c w p) := fun b j h => by
  unfold rsC
  rw [up_a (by omega), up_a (by omega)]
theorem gm_up {c : sg_} {a : Nat} {k y : Int} (h : 48 ≤ a ∧ a ≤ 60) : gmC c (up c a k y) := fun b j z => up_a (by omega)
theorem gm_cut (c : sg_) (p n w : Int) : gmC c (cutW c 48 p n w) := fun b j h => cutW_a (by omega) (by omega)
theorem gm_pl (c : sg_) (x z : Int) : gmC c (plC c x z) := fun b j h => plC_j (by omega)
theorem gm_pw (c : sg_) (x z : Int) : gmC c (pwC c x z) := fun b j h => pwC_j (by omega)
theorem gm_hrs (tc : tcs) (c : sg_) : ∀ n : Nat, gmC c (hrsC tc c n)
  | 0 => gmC_r c
  | n + 1 => gmC_t (gmC_t (gm_hrs tc c n) (gm_keep _)) (gm_hr tc _)
theorem gm_ctD (tc : tcs) (c : sg_) (q w p n : Int) : gmC c (ctD tc c q w p n) := by
  unfold ctD
  split
  · split
    · exact gm_rs _ _ _
    · exact gmC_r c
  · split
    · exact gm_up (by decide)
    · split
      · split
        · exact gm_cut _ _ _ _
        · exact gmC_r c
      · split
        · exact gm_hr _ _
        · exact gmC_r c
theorem gm_ct (tc : tcs) (c : sg_) : gmC c (ctC tc c) := by
  unfold ctC
  split
  · exact gmC_r c
  · exact gmC_t (gm_up (by decide)) (gm_ctD _ _ _ _ _ _)
theorem gm_cts (tc : tcs) (c : sg_) : ∀ n : Nat, gmC c (ctsC tc c n)
  | 0 => gmC_r c
  | n + 1 => gmC_t (gm_cts tc c n) (gm_ct tc _)
theorem gm_ctw (tc : tcs) (c : sg_) (sd n : Int) : gmC c (ctwC tc c sd n) := gmC_t (gmC_t (gm_keep c) (gm_up (by decide))) (gm_cts tc _ _)
theorem gm_do (tc : tcs) (c : sg_) (k v w : Int) : gmC c (doC tc c k v w).2 := by
  unfold doC
  repeat' split
  all_goals first
    | exact gmC_r c
    | exact gm_pl _ _ _
    | exact gm_pw _ _ _
    | exact gmC_t (gm_keep c) (gm_rs _ _ _)
    | exact gmC_t (gm_keep c) (gm_up (by decide))
    | exact gmC_t (gm_keep c) (gm_cut _ _ _ _)
    | exact gm_hrs tc c _
theorem gm_py (tc : tcs) (cl : cls) : ∀ (f k : Nat) (c : sg_), gmC c (pyC tc cl f k c).2
  | 0, _, c => gmC_r c
  | f + 1, k, c => by
    have d := gm_do tc c (cl k).1 (cl k).2.1 (cl k).2.2
    show gmC c (if _ then _ else _ : Int × sg_).2
    split
    · exact d
    · exact gmC_t d (gm_py tc cl f (k + 1) _)
theorem gm_back (c : sg_) : gmC c (backC c) := fun b j h => (backC_v (c := c) (a := tbA c) rfl).2.2.2.2 b j (by omega)
theorem fr_up (c : sg_) (k y : Int) : frmR c (up c 139 k y) := fun b j h => up_a h
theorem fr_rs (c : sg_) (w p : Int) : frmR c (rsR c w p) := frmR_t (fr_up _ _ _) (fr_up _ _ _)
theorem fr_gn (c : sg_) (w p : Int) : frmR c (gnR c w p) := frmR_t (fr_up _ _ _) (fr_up _ _ _)
theorem fr_pl (c : sg_) (x z : Int) : frmR c (plR c x z) := fun b j h => plR_j (Or.inl h)
theorem fr_pw (c : sg_) (x z : Int) : frmR c (pwR c x z) := fun b j h => pwR_j (Or.inl h)
theorem fr_prW (c : sg_) (p : Int) : ∀ n : Nat, frmR c (prW c p n)
  | 0 => frmR_r c
  | n + 1 => by
    show frmR c (if _ then _ else _)
    split
    · exact frmR_t (fr_prW c p n) (fr_up _ _ _)
    · exact fr_prW c p n
theorem fr_pr (c : sg_) (p n : Int) : frmR c (prR c p n) := frmR_t (fr_up _ _ _) (fr_prW _ _ _)
theorem fr_hour (cr : crs) (c : sg_) : frmR c (hourR cr c) := fun b j h => hourR_b h
theorem fr_ke (c : sg_) : frmR c (keR c) := fun b j h => by
  unfold keR
  rw [up_a h]
  exact if_neg (fun z => h z.1)
theorem fr_keep (c : sg_) : frmR c (keepR c) := by
  unfold keepR
  split
  · refine frmR_t (frmR_t ?_ (fr_up _ _ _)) (fr_ke _)
    exact fun b j h => if_neg (fun z => h z.1)
  · exact fr_ke c
theorem fr_hrs (cr : crs) (c : sg_) : ∀ n : Nat, frmR c (hrsR cr c n)
  | 0 => frmR_r c
  | n + 1 => frmR_t (frmR_t (fr_hrs cr c n) (fr_keep _)) (fr_hour cr _)
theorem fr_hap (cr : crs) (c : sg_) (q w p n : Int) : frmR c (hapD cr c q w p n) := by
  unfold hapD
  split
  · split
    · exact fr_rs _ _ _
    · exact frmR_r c
  · split
    · exact fr_gn _ _ _
    · split
      · split
        · exact fr_pr _ _ _
        · exact frmR_r c
      · split
        · exact fr_hour _ _
        · exact frmR_r c
theorem fr_ct (cr : crs) (c : sg_) : frmR c (ctR cr c) := frmR_t (fr_up _ _ _) (fr_hap _ _ _ _ _ _)
theorem fr_cts (cr : crs) (c : sg_) : ∀ n : Nat, frmR c (ctsR cr c n)
  | 0 => frmR_r c
  | n + 1 => frmR_t (fr_cts cr c n) (fr_ct cr _)
theorem fr_ctw (cr : crs) (c : sg_) (sd n : Int) : frmR c (ctwR cr c sd n) := frmR_t (frmR_t (fr_keep c) (fr_up _ _ _)) (fr_cts cr _ _)
theorem fr_do (cr : crs) (c : sg_) (k v w : Int) : frmR c (doR cr c k v w).2 := by
  unfold doR
  repeat' split
  all_goals first
    | exact frmR_r c
    | exact fr_pl _ _ _
    | exact fr_pw _ _ _
    | exact frmR_t (fr_keep c) (fr_rs _ _ _)
    | exact frmR_t (fr_keep c) (fr_gn _ _ _)
    | exact frmR_t (fr_keep c) (fr_pr _ _ _)
    | exact frmR_t (fr_keep c) (fr_up _ _ _)
    | exact fr_hrs cr c _
theorem fr_py (cr : crs) (cl : cls) : ∀ (f k : Nat) (c : sg_), frmR c (pyR cr cl f k c).2
  | 0, _, c => frmR_r c
  | f + 1, k, c => by
    have d := fr_do cr c (cl k).1 (cl k).2.1 (cl k).2.2
    show frmR c (if _ then _ else _ : Int × sg_).2
    split
    · exact d
    · exact frmR_t d (fr_py cr cl f (k + 1) _)
theorem fr_undo (c : sg_) : frmR c (udR c) := fun b j h => by
  unfold udR
  rw [ud3_fr (Or.inl h), ud2_fr (Or.inl h), ud1_fr (Or.inl h), up_a h]
/-- the like call behind the class's -/
theorem INV_gm {tc : tcs} {tr : Int → crs} {s c1 s1 : sg_} {M M1 : Int} (I : INV tc tr s M) (hM : M ≤ M1) (f1 : gmC s c1) (f2 : frmR c1 s1) {cr : crs} (g : GAM tc cr c1 s1 M1) : INV tc tr s1 M1 := INV_game I hM (fun b j h => f1 b j (by omega)) f2 (f1 _ _ (by decide)) g
theorem INV_G {tc : tcs} {tr : Int → crs} {s c1 : sg_} {M : Int} (I : INV tc tr s M) (f1 : gmC s c1) : GAM tc (tr (s 139 3)) s c1 M := GAM_r (INV_GAM I) (fun b j h => f1 b j (by omega))
theorem INV_m {tc : tcs} {tr : Int → crs} {s : sg_} {M M1 : Int} (I : INV tc tr s M) (h : M ≤ M1) : INV tc tr s M1 := INV_gm I h (gmC_r s) (frmR_r s) (GAM_m (INV_GAM I) h)
def cPole (s : sg_) (x z : Int) : Int × sg_ := if s 48 0 < 8 ∧ (1 ≤ x ∧ x ≤ 99) ∧ (0 ≤ z ∧ z ≤ 99) then (s 48 0, plC s x z) else (-1, s)
def rPole (s : sg_) (x z : Int) : Int × sg_ := if s 139 0 < 8 ∧ (1 ≤ x ∧ x ≤ 99) ∧ (0 ≤ z ∧ z ≤ 99) then (s 139 0, plR s x z) else (-1, s)
theorem in_Pole {tc : tcs} {tr : Int → crs} {s : sg_} {M : Int} (I : INV tc tr s M) {x z : Int} : (rPole (cPole s x z).2 x z).1 = (cPole s x z).1 ∧ INV tc tr (rPole (cPole s x z).2 x z).2 (M) := by
  have n0 := INV_NV I
  have q0 : s 48 0 < 8 ∧ (1 ≤ x ∧ x ≤ 99) ∧ (0 ≤ z ∧ z ≤ 99) ↔ s 139 0 < 8 ∧ (1 ≤ x ∧ x ≤ 99) ∧ (0 ≤ z ∧ z ≤ 99) := by
    have g1 := INV_GAM I
    have e0 : s 139 0 = s 48 0 := g1.1.1.1.1
    have e1 : s 139 1 = s 48 1 := g1.1.1.1.2
    have e9 : s 139 9 = s 48 9 := g1.1.1.2.2.2.2.2.1
    have e8 : s 139 8 = s 48 10 := g1.1.1.2.2.2.2.1
    rw [e0]
  unfold cPole
  by_cases q : s 48 0 < 8 ∧ (1 ≤ x ∧ x ≤ 99) ∧ (0 ≤ z ∧ z ≤ 99)
  · rw [if_pos q]
    have f1 : gmC s (plC s x z) := gm_pl s x z
    have g1 := INV_G I f1
    obtain ⟨t, et⟩ : ∃ z9_, plC s x z = z9_ := ⟨_, rfl⟩
    show (rPole (plC s x z) x z).1 = s 48 0 ∧ INV tc tr (rPole (plC s x z) x z).2 (M)
    have q1 := q0.mp q
    unfold rPole
    rw [et] at f1 g1 ⊢
    have q2 : t 139 0 < 8 ∧ (1 ≤ x ∧ x ≤ 99) ∧ (0 ≤ z ∧ z ≤ 99) := by
      have er : ∀ (b : Nat) (j : Int), 138 ≤ b → t b j = s b j := fun b j h => f1 b j (by omega)
      rw [er 139 0 (by decide)]
      exact q1
    rw [if_pos q2]
    have e0 : t 139 0 = s 48 0 := g1.1.1.1.1
    have e1 : t 139 1 = s 48 1 := g1.1.1.1.2
    have g2 := GAM_pl g1 q.1 q.2.1 q.2.2
    rw [et] at g2
    exact ⟨e0, INV_gm I (by omega) f1 (fr_pl _ _ _) g2⟩
  · rw [if_neg q]
    unfold rPole
    rw [if_neg (fun z => q (q0.mpr z))]
    exact ⟨rfl, INV_m I (by omega)⟩
def cPower (s : sg_) (x z : Int) : Int × sg_ := if s 48 1 < 6 ∧ (1 ≤ x ∧ x ≤ 9) ∧ (0 ≤ z ∧ z ≤ 511) then (s 48 1, pwC s x z) else (-1, s)
def rPower (s : sg_) (x z : Int) : Int × sg_ := if s 139 1 < 6 ∧ (1 ≤ x ∧ x ≤ 9) ∧ (0 ≤ z ∧ z ≤ 511) then (s 139 1, pwR s x z) else (-1, s)
theorem in_Power {tc : tcs} {tr : Int → crs} {s : sg_} {M : Int} (I : INV tc tr s M) {x z : Int} : (rPower (cPower s x z).2 x z).1 = (cPower s x z).1 ∧ INV tc tr (rPower (cPower s x z).2 x z).2 (M) := by
  have n0 := INV_NV I
  have q0 : s 48 1 < 6 ∧ (1 ≤ x ∧ x ≤ 9) ∧ (0 ≤ z ∧ z ≤ 511) ↔ s 139 1 < 6 ∧ (1 ≤ x ∧ x ≤ 9) ∧ (0 ≤ z ∧ z ≤ 511) := by
    have g1 := INV_GAM I
    have e0 : s 139 0 = s 48 0 := g1.1.1.1.1
    have e1 : s 139 1 = s 48 1 := g1.1.1.1.2
    have e9 : s 139 9 = s 48 9 := g1.1.1.2.2.2.2.2.1
    have e8 : s 139 8 = s 48 10 := g1.1.1.2.2.2.2.1
    rw [e1]
  unfold cPower
  by_cases q : s 48 1 < 6 ∧ (1 ≤ x ∧ x ≤ 9) ∧ (0 ≤ z ∧ z ≤ 511)
  · rw [if_pos q]
    have f1 : gmC s (pwC s x z) := gm_pw s x z
    have g1 := INV_G I f1
    obtain ⟨t, et⟩ : ∃ z9_, pwC s x z = z9_ := ⟨_, rfl⟩
    show (rPower (pwC s x z) x z).1 = s 48 1 ∧ INV tc tr (rPower (pwC s x z) x z).2 (M)
    have q1 := q0.mp q
    unfold rPower
    rw [et] at f1 g1 ⊢
    have q2 : t 139 1 < 6 ∧ (1 ≤ x ∧ x ≤ 9) ∧ (0 ≤ z ∧ z ≤ 511) := by
      have er : ∀ (b : Nat) (j : Int), 138 ≤ b → t b j = s b j := fun b j h => f1 b j (by omega)
      rw [er 139 1 (by decide)]
      exact q1
    rw [if_pos q2]
    have e0 : t 139 0 = s 48 0 := g1.1.1.1.1
    have e1 : t 139 1 = s 48 1 := g1.1.1.1.2
    have g2 := GAM_pw g1 q.1 q.2.1 q.2.2
    rw [et] at g2
    exact ⟨e1, INV_gm I (by omega) f1 (fr_pw _ _ _) g2⟩
  · rw [if_neg q]
    unfold rPower
    rw [if_neg (fun z => q (q0.mpr z))]
    exact ⟨rfl, INV_m I (by omega)⟩
theorem mrR_r {r r1 : sg_} (e : ∀ j, r1 139 j = r 139 j) {w p : Int} : mrR r1 w p ↔ mrR r w p := by
  unfold mrR
  simp only [e]
def cHoist (s : sg_) (w p : Int) : Int × sg_ := if (0 ≤ w ∧ w < s 48 1) ∧ (0 ≤ p ∧ p < s 48 0) ∧ mrC s w p then (1, rsC (keepC s) w p) else (0, s)
def rHoist (s : sg_) (w p : Int) : Int × sg_ := if (0 ≤ w ∧ w < s 139 1) ∧ (0 ≤ p ∧ p < s 139 0) ∧ mrR s w p then (1, rsR (keepR s) w p) else (0, s)
theorem in_Hoist {tc : tcs} {tr : Int → crs} {s : sg_} {M : Int} (I : INV tc tr s M) {w p : Int} : (rHoist (cHoist s w p).2 w p).1 = (cHoist s w p).1 ∧ INV tc tr (rHoist (cHoist s w p).2 w p).2 (M) := by
  have n0 := INV_NV I
  have q0 : (0 ≤ w ∧ w < s 48 1) ∧ (0 ≤ p ∧ p < s 48 0) ∧ mrC s w p ↔ (0 ≤ w ∧ w < s 139 1) ∧ (0 ≤ p ∧ p < s 139 0) ∧ mrR s w p := by
    have g1 := INV_GAM I
    have e0 : s 139 0 = s 48 0 := g1.1.1.1.1
    have e1 : s 139 1 = s 48 1 := g1.1.1.1.2
    have e9 : s 139 9 = s 48 9 := g1.1.1.2.2.2.2.2.1
    have e8 : s 139 8 = s 48 10 := g1.1.1.2.2.2.2.1
    have i0 := n0.g.1.1
    have i1 := n0.g.1.2.1
    rw [e0, e1]
    constructor
    · intro z
      have z1 := z.1
      have z2 := z.2.1
      exact ⟨z.1, z.2.1, (mr_eq g1.1.1 i1 (by omega) (by omega)).mp z.2.2⟩
    · intro z
      have z1 := z.1
      have z2 := z.2.1
      exact ⟨z.1, z.2.1, (mr_eq g1.1.1 i1 (by omega) (by omega)).mpr z.2.2⟩
  unfold cHoist
  by_cases q : (0 ≤ w ∧ w < s 48 1) ∧ (0 ≤ p ∧ p < s 48 0) ∧ mrC s w p
  · rw [if_pos q]
    have f1 : gmC s (rsC (keepC s) w p) := gmC_t (gm_keep s) (gm_rs _ _ _)
    have g1 := INV_G I f1
    obtain ⟨t, et⟩ : ∃ z9_, rsC (keepC s) w p = z9_ := ⟨_, rfl⟩
    show (rHoist (rsC (keepC s) w p) w p).1 = 1 ∧ INV tc tr (rHoist (rsC (keepC s) w p) w p).2 (M)
    have q1 := q0.mp q
    unfold rHoist
    rw [et] at f1 g1 ⊢
    have q2 : (0 ≤ w ∧ w < t 139 1) ∧ (0 ≤ p ∧ p < t 139 0) ∧ mrR t w p := by
      have er : ∀ (b : Nat) (j : Int), 138 ≤ b → t b j = s b j := fun b j h => f1 b j (by omega)
      rw [er 139 0 (by decide), er 139 1 (by decide)]
      exact ⟨q1.1, q1.2.1, (mrR_r (fun j => er 139 j (by decide))).mpr q1.2.2⟩
    rw [if_pos q2]
    have e0 : t 139 0 = s 48 0 := g1.1.1.1.1
    have e1 : t 139 1 = s 48 1 := g1.1.1.1.2
    have i0 := n0.g.1.1
    have i1 := n0.g.1.2.1
    have g2 := GAM_rs (GAM_keep g1) (w := w) (p := p) (by have := q.1; omega) (by have := q.2.1; omega)
    rw [et] at g2
    exact ⟨rfl, INV_gm I (by omega) f1 (frmR_t (fr_keep _) (fr_rs _ _ _)) g2⟩
  · rw [if_neg q]
    unfold rHoist
    rw [if_neg (fun z => q (q0.mpr z))]
    exact ⟨rfl, INV_m I (by omega)⟩
def cLower (s : sg_) (w p : Int) : Int × sg_ := if (0 ≤ w ∧ w < s 48 1) ∧ (0 ≤ p ∧ p < s 48 0) ∧ ¬ s 54 (p * 6 + w) = -1 then (1, up (keepC s) 54 (p * 6 + w) (-1)) else (0, s)
def rLower (s : sg_) (w p : Int) : Int × sg_ := if (0 ≤ w ∧ w < s 139 1) ∧ (0 ≤ p ∧ p < s 139 0) ∧ ¬ s 139 (52 + 2 * (8 * w + p) + 0) = -1 then (1, gnR (keepR s) w p) else (0, s)
theorem in_Lower {tc : tcs} {tr : Int → crs} {s : sg_} {M : Int} (I : INV tc tr s M) {w p : Int} : (rLower (cLower s w p).2 w p).1 = (cLower s w p).1 ∧ INV tc tr (rLower (cLower s w p).2 w p).2 (M) := by
  have n0 := INV_NV I
  have q0 : (0 ≤ w ∧ w < s 48 1) ∧ (0 ≤ p ∧ p < s 48 0) ∧ ¬ s 54 (p * 6 + w) = -1 ↔ (0 ≤ w ∧ w < s 139 1) ∧ (0 ≤ p ∧ p < s 139 0) ∧ ¬ s 139 (52 + 2 * (8 * w + p) + 0) = -1 := by
    have g1 := INV_GAM I
    have e0 : s 139 0 = s 48 0 := g1.1.1.1.1
    have e1 : s 139 1 = s 48 1 := g1.1.1.1.2
    have e9 : s 139 9 = s 48 9 := g1.1.1.2.2.2.2.2.1
    have e8 : s 139 8 = s 48 10 := g1.1.1.2.2.2.2.1
    have i0 := n0.g.1.1
    have i1 := n0.g.1.2.1
    rw [e0, e1]
    constructor
    · intro z
      have z1 := z.1
      have z2 := z.2.1
      have f : s 139 (52 + 2 * (8 * w + p) + 0) = s 54 (p * 6 + w) := (g1.1.1.2.2.2.1 w p (by omega) (by omega)).1
      exact ⟨z.1, z.2.1, by rw [f]; exact z.2.2⟩
    · intro z
      have z1 := z.1
      have z2 := z.2.1
      have f : s 139 (52 + 2 * (8 * w + p) + 0) = s 54 (p * 6 + w) := (g1.1.1.2.2.2.1 w p (by omega) (by omega)).1
      exact ⟨z.1, z.2.1, by rw [← f]; exact z.2.2⟩
  unfold cLower
  by_cases q : (0 ≤ w ∧ w < s 48 1) ∧ (0 ≤ p ∧ p < s 48 0) ∧ ¬ s 54 (p * 6 + w) = -1
  · rw [if_pos q]
    have f1 : gmC s (up (keepC s) 54 (p * 6 + w) (-1)) := gmC_t (gm_keep s) (gm_up (by decide))
    have g1 := INV_G I f1
    obtain ⟨t, et⟩ : ∃ z9_, up (keepC s) 54 (p * 6 + w) (-1) = z9_ := ⟨_, rfl⟩
    show (rLower (up (keepC s) 54 (p * 6 + w) (-1)) w p).1 = 1 ∧ INV tc tr (rLower (up (keepC s) 54 (p * 6 + w) (-1)) w p).2 (M)
    have q1 := q0.mp q
    unfold rLower
    rw [et] at f1 g1 ⊢
    have q2 : (0 ≤ w ∧ w < t 139 1) ∧ (0 ≤ p ∧ p < t 139 0) ∧ ¬ t 139 (52 + 2 * (8 * w + p) + 0) = -1 := by
      have er : ∀ (b : Nat) (j : Int), 138 ≤ b → t b j = s b j := fun b j h => f1 b j (by omega)
      rw [er 139 0 (by decide), er 139 1 (by decide), er 139 _ (by decide)]
      exact q1
    rw [if_pos q2]
    have e0 : t 139 0 = s 48 0 := g1.1.1.1.1
    have e1 : t 139 1 = s 48 1 := g1.1.1.1.2
    have i0 := n0.g.1.1
    have i1 := n0.g.1.2.1
    have g2 := GAM_dn (GAM_keep g1) (w := w) (p := p) (by have := q.1; omega) (by have := q.2.1; omega)
    rw [et] at g2
    exact ⟨rfl, INV_gm I (by omega) f1 (frmR_t (fr_keep _) (fr_gn _ _ _)) g2⟩
  · rw [if_neg q]
    unfold rLower
    rw [if_neg (fun z => q (q0.mpr z))]
    exact ⟨rfl, INV_m I (by omega)⟩
def cPrune (s : sg_) (p n : Int) : Int × sg_ := if (0 ≤ p ∧ p < s 48 0) ∧ 1 ≤ n ∧ n < s 50 p then (s 50 p - n, cutW (keepC s) 48 p n (keepC s 48 1)) else (-1, s)
def rPrune (s : sg_) (p n : Int) : Int × sg_ := if (0 ≤ p ∧ p < s 139 0) ∧ 1 ≤ n ∧ n ≤ 99 ∧ n < s 139 (16 + 3 * p) then (s 139 (16 + 3 * p) - n, prR (keepR s) p n) else (-1, s)
theorem in_Prune {tc : tcs} {tr : Int → crs} {s : sg_} {M : Int} (I : INV tc tr s M) {p n : Int} : (rPrune (cPrune s p n).2 p n).1 = (cPrune s p n).1 ∧ INV tc tr (rPrune (cPrune s p n).2 p n).2 (M) := by
  have n0 := INV_NV I
  have q0 : (0 ≤ p ∧ p < s 48 0) ∧ 1 ≤ n ∧ n < s 50 p ↔ (0 ≤ p ∧ p < s 139 0) ∧ 1 ≤ n ∧ n ≤ 99 ∧ n < s 139 (16 + 3 * p) := by
    have g1 := INV_GAM I
    have e0 : s 139 0 = s 48 0 := g1.1.1.1.1
    have e1 : s 139 1 = s 48 1 := g1.1.1.1.2
    have e9 : s 139 9 = s 48 9 := g1.1.1.2.2.2.2.2.1
    have e8 : s 139 8 = s 48 10 := g1.1.1.2.2.2.2.1
    have i0 := n0.g.1.1
    have i1 := n0.g.1.2.1
    rw [e0]
    constructor
    · intro z
      have z1 := z.1
      have f : s 139 (16 + 3 * p) = s 50 p := (g1.1.1.2.1 p (by omega)).1
      have b : 0 ≤ s 50 p ∧ s 50 p ≤ 99 := n0.g.1.2.2.1 p (by omega) (by omega)
      exact ⟨z.1, z.2.1, by omega, by rw [f]; exact z.2.2⟩
    · intro z
      have z1 := z.1
      have f : s 139 (16 + 3 * p) = s 50 p := (g1.1.1.2.1 p (by omega)).1
      exact ⟨z.1, z.2.1, by rw [← f]; exact z.2.2.2⟩
  unfold cPrune
  by_cases q : (0 ≤ p ∧ p < s 48 0) ∧ 1 ≤ n ∧ n < s 50 p
  · rw [if_pos q]
    have f1 : gmC s (cutW (keepC s) 48 p n (keepC s 48 1)) := gmC_t (gm_keep s) (gm_cut _ _ _ _)
    have g1 := INV_G I f1
    obtain ⟨t, et⟩ : ∃ z9_, cutW (keepC s) 48 p n (keepC s 48 1) = z9_ := ⟨_, rfl⟩
    show (rPrune (cutW (keepC s) 48 p n (keepC s 48 1)) p n).1 = s 50 p - n ∧ INV tc tr (rPrune (cutW (keepC s) 48 p n (keepC s 48 1)) p n).2 (M)
    have q1 := q0.mp q
    unfold rPrune
    rw [et] at f1 g1 ⊢
    have q2 : (0 ≤ p ∧ p < t 139 0) ∧ 1 ≤ n ∧ n ≤ 99 ∧ n < t 139 (16 + 3 * p) := by
      have er : ∀ (b : Nat) (j : Int), 138 ≤ b → t b j = s b j := fun b j h => f1 b j (by omega)
      rw [er 139 0 (by decide), er 139 _ (by decide)]
      exact q1
    rw [if_pos q2]
    have e0 : t 139 0 = s 48 0 := g1.1.1.1.1
    have e1 : t 139 1 = s 48 1 := g1.1.1.1.2
    have i0 := n0.g.1.1
    have i1 := n0.g.1.2.1
    have qp := q.1
    have f : t 139 (16 + 3 * p) = s 50 p := (g1.1.1.2.1 p (by omega)).1
    have k5 : keepC s 50 p = s 50 p := keepC_fr (by decide) (by decide)
    have g2 := GAM_cut (GAM_keep g1) (p := p) (n := n) (by omega) (by rw [k5]; omega)
    rw [et] at g2
    exact ⟨by show t 139 (16 + 3 * p) - n = s 50 p - n; rw [f], INV_gm I (by omega) f1 (frmR_t (fr_keep _) (fr_pr _ _ _)) g2⟩
  · rw [if_neg q]
    unfold rPrune
    rw [if_neg (fun z => q (q0.mpr z))]
    exact ⟨rfl, INV_m I (by omega)⟩
def cBlow (s : sg_) (w : Int) : Int × sg_ := if (0 ≤ w ∧ w ≤ 9) ∧ ¬ w = s 48 9 then (1, up (keepC s) 48 9 w) else (0, s)
def rBlow (s : sg_) (w : Int) : Int × sg_ := if (0 ≤ w ∧ w ≤ 9) ∧ ¬ w = s 139 9 then (1, up (keepR s) 139 9 w) else (0, s)
theorem in_Blow {tc : tcs} {tr : Int → crs} {s : sg_} {M : Int} (I : INV tc tr s M) {w : Int} : (rBlow (cBlow s w).2 w).1 = (cBlow s w).1 ∧ INV tc tr (rBlow (cBlow s w).2 w).2 (M) := by
  have n0 := INV_NV I
  have q0 : (0 ≤ w ∧ w ≤ 9) ∧ ¬ w = s 48 9 ↔ (0 ≤ w ∧ w ≤ 9) ∧ ¬ w = s 139 9 := by
    have g1 := INV_GAM I
    have e0 : s 139 0 = s 48 0 := g1.1.1.1.1
    have e1 : s 139 1 = s 48 1 := g1.1.1.1.2
    have e9 : s 139 9 = s 48 9 := g1.1.1.2.2.2.2.2.1
    have e8 : s 139 8 = s 48 10 := g1.1.1.2.2.2.2.1
    rw [e9]
  unfold cBlow
  by_cases q : (0 ≤ w ∧ w ≤ 9) ∧ ¬ w = s 48 9
  · rw [if_pos q]
    have f1 : gmC s (up (keepC s) 48 9 w) := gmC_t (gm_keep s) (gm_up (by decide))
    have g1 := INV_G I f1
    obtain ⟨t, et⟩ : ∃ z9_, up (keepC s) 48 9 w = z9_ := ⟨_, rfl⟩
    show (rBlow (up (keepC s) 48 9 w) w).1 = 1 ∧ INV tc tr (rBlow (up (keepC s) 48 9 w) w).2 (M)
    have q1 := q0.mp q
    unfold rBlow
    rw [et] at f1 g1 ⊢
    have q2 : (0 ≤ w ∧ w ≤ 9) ∧ ¬ w = t 139 9 := by
      have er : ∀ (b : Nat) (j : Int), 138 ≤ b → t b j = s b j := fun b j h => f1 b j (by omega)
      rw [er 139 9 (by decide)]
      exact q1
    rw [if_pos q2]
    have e0 : t 139 0 = s 48 0 := g1.1.1.1.1
    have e1 : t 139 1 = s 48 1 := g1.1.1.1.2
    have g2 := GAM_wind (GAM_keep g1) (y := w) q.1
    rw [et] at g2
    exact ⟨rfl, INV_gm I (by omega) f1 (frmR_t (fr_keep _) (fr_up _ _ _)) g2⟩
  · rw [if_neg q]
    unfold rBlow
    rw [if_neg (fun z => q (q0.mpr z))]
    exact ⟨rfl, INV_m I (by omega)⟩
def cHour (tc : tcs) (s : sg_) (n : Int) : Int × sg_ := if (1 ≤ n ∧ n ≤ 60) ∧ s 48 10 + n ≤ 9999 then (hrsC tc s n.toNat 48 11, hrsC tc s n.toNat) else (-2, s)
def rHour (cr : crs) (s : sg_) (n : Int) : Int × sg_ := if (1 ≤ n ∧ n ≤ 60) ∧ s 139 8 + n ≤ 9999 then (hrsR cr s n.toNat 139 10, hrsR cr s n.toNat) else (-2, s)
theorem in_Hour {tc : tcs} {tr : Int → crs} {s : sg_} {M : Int} (I : INV tc tr s M) {n : Int} : (rHour (tr (s 139 3)) (cHour tc s n).2 n).1 = (cHour tc s n).1 ∧ INV tc tr (rHour (tr (s 139 3)) (cHour tc s n).2 n).2 (M + 60) := by
  have n0 := INV_NV I
  have q0 : (1 ≤ n ∧ n ≤ 60) ∧ s 48 10 + n ≤ 9999 ↔ (1 ≤ n ∧ n ≤ 60) ∧ s 139 8 + n ≤ 9999 := by
    have g1 := INV_GAM I
    have e0 : s 139 0 = s 48 0 := g1.1.1.1.1
    have e1 : s 139 1 = s 48 1 := g1.1.1.1.2
    have e9 : s 139 9 = s 48 9 := g1.1.1.2.2.2.2.2.1
    have e8 : s 139 8 = s 48 10 := g1.1.1.2.2.2.2.1
    rw [e8]
  unfold cHour
  by_cases q : (1 ≤ n ∧ n ≤ 60) ∧ s 48 10 + n ≤ 9999
  · rw [if_pos q]
    have f1 : gmC s (hrsC tc s n.toNat) := gm_hrs tc s _
    have g1 := INV_G I f1
    obtain ⟨t, et⟩ : ∃ z9_, hrsC tc s n.toNat = z9_ := ⟨_, rfl⟩
    show (rHour (tr (s 139 3)) (hrsC tc s n.toNat) n).1 = hrsC tc s n.toNat 48 11 ∧ INV tc tr (rHour (tr (s 139 3)) (hrsC tc s n.toNat) n).2 (M + 60)
    have q1 := q0.mp q
    unfold rHour
    rw [et] at f1 g1 ⊢
    have q2 : (1 ≤ n ∧ n ≤ 60) ∧ t 139 8 + n ≤ 9999 := by
      have er : ∀ (b : Nat) (j : Int), 138 ≤ b → t b j = s b j := fun b j h => f1 b j (by omega)
      rw [er 139 8 (by decide)]
      exact q1
    rw [if_pos q2]
    have e0 : t 139 0 = s 48 0 := g1.1.1.1.1
    have e1 : t 139 1 = s 48 1 := g1.1.1.1.2
    have q4 := q.1
    have g2 := GAM_m (M1 := M + 60) (GAM_hrs g1 n.toNat (by omega)) (by omega)
    rw [et] at g2
    exact ⟨g2.1.1.2.2.2.2.2.2.1, INV_gm I (by omega) f1 (fr_hrs _ _ _) g2⟩
  · rw [if_neg q]
    unfold rHour
    rw [if_neg (fun z => q (q0.mpr z))]
    exact ⟨rfl, INV_m I (by omega)⟩
def cCent (tc : tcs) (s : sg_) (sd n : Int) : Int × sg_ := if ctOk sd n (s 48 0) (s 48 1) then (ctwC tc s sd n 48 11, ctwC tc s sd n) else (-2, s)
def rCent (cr : crs) (s : sg_) (sd n : Int) : Int × sg_ := if ctOk sd n (s 139 0) (s 139 1) then (ctwR cr s sd n 139 10, ctwR cr s sd n) else (-2, s)
theorem in_Cent {tc : tcs} {tr : Int → crs} {s : sg_} {M : Int} (I : INV tc tr s M) {sd n : Int} : (rCent (tr (s 139 3)) (cCent tc s sd n).2 sd n).1 = (cCent tc s sd n).1 ∧ INV tc tr (rCent (tr (s 139 3)) (cCent tc s sd n).2 sd n).2 (M + 40) := by
  have n0 := INV_NV I
  have q0 : ctOk sd n (s 48 0) (s 48 1) ↔ ctOk sd n (s 139 0) (s 139 1) := by
    have g1 := INV_GAM I
    have e0 : s 139 0 = s 48 0 := g1.1.1.1.1
    have e1 : s 139 1 = s 48 1 := g1.1.1.1.2
    have e9 : s 139 9 = s 48 9 := g1.1.1.2.2.2.2.2.1
    have e8 : s 139 8 = s 48 10 := g1.1.1.2.2.2.2.1
    rw [e0, e1]
  unfold cCent
  by_cases q : ctOk sd n (s 48 0) (s 48 1)
  · rw [if_pos q]
    have f1 : gmC s (ctwC tc s sd n) := gm_ctw tc s _ _
    have g1 := INV_G I f1
    obtain ⟨t, et⟩ : ∃ z9_, ctwC tc s sd n = z9_ := ⟨_, rfl⟩
    show (rCent (tr (s 139 3)) (ctwC tc s sd n) sd n).1 = ctwC tc s sd n 48 11 ∧ INV tc tr (rCent (tr (s 139 3)) (ctwC tc s sd n) sd n).2 (M + 40)
    have q1 := q0.mp q
    unfold rCent
    rw [et] at f1 g1 ⊢
    have q2 : ctOk sd n (t 139 0) (t 139 1) := by
      have er : ∀ (b : Nat) (j : Int), 138 ≤ b → t b j = s b j := fun b j h => f1 b j (by omega)
      rw [er 139 0 (by decide), er 139 1 (by decide)]
      exact q1
    rw [if_pos q2]
    have e0 : t 139 0 = s 48 0 := g1.1.1.1.1
    have e1 : t 139 1 = s 48 1 := g1.1.1.1.2
    have g2 := GAM_ctw g1 q.1 q.2.1 q.2.2.1 q.2.2.2
    rw [et] at g2
    exact ⟨g2.1.1.2.2.2.2.2.2.1, INV_gm I (by omega) f1 (fr_ctw _ _ _ _) g2⟩
  · rw [if_neg q]
    unfold rCent
    rw [if_neg (fun z => q (q0.mpr z))]
    exact ⟨rfl, INV_m I (by omega)⟩
def cUndo (s : sg_) : Int × sg_ := if s 59 2 = 0 then (-1, s) else (s 59 2 - 1, backC s)
def rUndo (s : sg_) : Int × sg_ := if s 139 4 = 0 then (-1, s) else (s 139 4 - 1, udR s)
theorem in_Undo {tc : tcs} {tr : Int → crs} {s : sg_} {M : Int} (I : INV tc tr s M) : (rUndo (cUndo s).2).1 = (cUndo s).1 ∧ INV tc tr (rUndo (cUndo s).2).2 M := by
  have e4 : s 139 4 = s 59 2 := I.1.2.2.1.1
  unfold cUndo
  by_cases q : s 59 2 = 0
  · rw [if_pos q]
    show (rUndo s).1 = -1 ∧ INV tc tr (rUndo s).2 M
    unfold rUndo
    rw [if_pos (by omega)]
    exact ⟨rfl, I⟩
  · rw [if_neg q]
    have f1 := gm_back s
    have g1 := INV_G I f1
    obtain ⟨t, et⟩ : ∃ z9_, backC s = z9_ := ⟨_, rfl⟩
    show (rUndo (backC s)).1 = s 59 2 - 1 ∧ INV tc tr (rUndo (backC s)).2 M
    rw [et] at f1 g1 ⊢
    have t4 : t 139 4 = s 59 2 := (f1 139 4 (by decide)).trans e4
    unfold rUndo
    rw [if_neg (by omega)]
    have g2 := GAM_undo g1 q
    rw [et] at g2
    exact ⟨by show t 139 4 - 1 = s 59 2 - 1; rw [t4], INV_gm I (by omega) f1 (fr_undo _) g2⟩
