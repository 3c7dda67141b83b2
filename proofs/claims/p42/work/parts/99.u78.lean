/-! -/
/-! tape and fault in both; the law's whole state; what every call does to it -/
def TAP (c r : sg_) : Prop := (0 ≤ c 91 1 ∧ c 91 1 ≤ 300) ∧ r 138 4 = c 91 1 ∧ ∀ j, 0 ≤ j → j < 300 → (0 ≤ c 92 j ∧ c 92 j ≤ 255) ∧ r 142 j = c 92 j
def FLT (c r : sg_) : Prop := (0 ≤ r 138 11 ∧ r 138 11 ≤ 1152921504606846976) ∧ ((c 93 2 = 0 ∧ r 138 5 = -1 ∧ r 138 6 = -1) ∨ (c 93 2 = 1 ∧ r 138 5 = c 93 3 ∧ r 138 6 = c 93 4))
theorem TAP_f {c r c1 r1 : sg_} (H : TAP c r) (e : ∀ (b : Nat) (j : Int), b = 91 ∨ b = 92 → c1 b j = c b j) (er : ∀ (b : Nat) (j : Int), b = 138 ∨ b = 142 → r1 b j = r b j) : TAP c1 r1 := by
  obtain ⟨b, q, f⟩ := H
  refine ⟨by rw [e _ _ (by decide)]; exact b, by rw [e _ _ (by decide), er _ _ (by decide)]; exact q, fun j a d => ?_⟩
  rw [e _ _ (by decide), er _ _ (by decide)]
  exact f j a d
theorem FLT_f {c r c1 r1 : sg_} (H : FLT c r) (e : ∀ j : Int, c1 93 j = c 93 j) (er : ∀ j : Int, r1 138 j = r 138 j) : FLT c1 r1 := by
  unfold FLT
  rw [e, e, e, er, er, er]
  exact H
theorem TAP_ap {v : Int} : ∀ (k : Nat) (c r : sg_), TAP c r → c 91 1 + (k : Int) ≤ 300 → TAP (apC v k c) (apR v k r)
  | 0, _, _, H, _ => H
  | k + 1, c, r, H, hk => by
    obtain ⟨b, e, f⟩ := H
    show TAP (apC v k (up (up c 92 (c 91 1) (bty v k)) 91 1 (c 91 1 + 1))) (apR v k (up (up r 142 (r 138 4) (bty v k)) 138 4 (r 138 4 + 1)))
    obtain ⟨n, hn⟩ : ∃ n, c 91 1 = n := ⟨_, rfl⟩
    rw [hn] at b e hk ⊢
    rw [e]
    refine TAP_ap k _ _ ⟨?_, ?_, fun j a d => ?_⟩ (by rw [up_e]; omega)
    · rw [up_e]
      omega
    · rw [up_e, up_e]
    · have e1 : up (up c 92 n (bty v k)) 91 1 (n + 1) 92 j = up c 92 n (bty v k) 92 j := up_a (by decide)
      have e2 : up (up r 142 n (bty v k)) 138 4 (n + 1) 142 j = up r 142 n (bty v k) 142 j := up_a (by decide)
      rw [e1, e2]
      by_cases q : j = n
      · subst q
        rw [up_e, up_e]
        exact ⟨bty_b v k, rfl⟩
      · rw [up_k q, up_k q]
        exact f j a d
theorem TAP_fv {c r : sg_} (H : TAP c r) {a b x e f : Int} (q : c 91 1 + 20 ≤ 300) : TAP (fvC c a b x e f) (fvR r a b x e f) := by
  unfold fvC fvR
  have q1 := apC_1 (v := a) 4 c
  have h1 := TAP_ap (v := a) 4 c r H (by omega)
  have q2 := apC_1 (v := b) 4 (apC a 4 c)
  have h2 := TAP_ap (v := b) 4 _ _ h1 (by omega)
  have q3 := apC_1 (v := x) 4 (apC b 4 (apC a 4 c))
  have h3 := TAP_ap (v := x) 4 _ _ h2 (by omega)
  have q4 := apC_1 (v := e) 4 (apC x 4 (apC b 4 (apC a 4 c)))
  have h4 := TAP_ap (v := e) 4 _ _ h3 (by omega)
  exact TAP_ap (v := f) 4 _ _ h4 (by omega)
/-- the law's state -/
def LAWS (tc : tcs) (tr : Int → crs) (s : sg_) (M : Int) : Prop := INV tc tr s M ∧ TAP s s ∧ FLT s s
theorem INV_fr {tc : tcs} {tr : Int → crs} {s s1 : sg_} {M : Int} (I : INV tc tr s M) (e : ∀ (b : Nat) (j : Int), (b < 91 ∨ (139 ≤ b ∧ b ≤ 141)) → s1 b j = s b j) : INV tc tr s1 M :=
  INV_of I (ST2_f I.1 (Int.le_refl _) (fun b j _ h => e b j (by omega)) (fun j _ _ => e 139 j (by omega))) (ST2_f I.2.1 (Int.le_refl _) (fun b j _ h => e b j (by omega)) (fun j _ _ => e 140 j (by omega))) (by rw [e 69 6 (by omega), e 47 6 (by omega)]; exact I.2.2.1) (by rw [e 47 6 (by omega)]; exact Int.le_refl _) (fun b j h => e b j (by omega))
theorem LAWS_x {tc : tcs} {tr : Int → crs} {s s1 : sg_} {M M1 : Int} (L : LAWS tc tr s M) (I : INV tc tr s1 M1) (e : ∀ (b : Nat) (j : Int), (91 ≤ b ∧ b ≤ 93) ∨ b = 138 ∨ b = 142 → s1 b j = s b j) : LAWS tc tr s1 M1 :=
  ⟨I, TAP_f L.2.1 (fun b j h => e b j (by omega)) (fun b j h => e b j (by omega)), FLT_f L.2.2 (fun j => e 93 j (by omega)) (fun j => e 138 j (by omega))⟩
theorem frmR_i {P : Prop} [Decidable P] {s : sg_} {a b : Int × sg_} (f : frmR s a.2) (g : frmR s b.2) : frmR s (if P then a else b).2 := by
  by_cases q : P
  · rw [if_pos q]; exact f
  · rw [if_neg q]; exact g
theorem LAWS_g {tc : tcs} {tr : Int → crs} {s c1 s1 : sg_} {M M1 : Int} (L : LAWS tc tr s M) (f1 : frC s c1) (f2 : frmR c1 s1) (I : INV tc tr s1 M1) : LAWS tc tr s1 M1 :=
  LAWS_x L I (fun b j h => (f2 b j (by omega)).trans (f1 b j (by omega)))
theorem lw_Feed {tc : tcs} {tr : Int → crs} {s : sg_} {M : Int} (L : LAWS tc tr s M) {a b x e f : Int} : (rFeed (cFeed s a b x e f).2 a b x e f).1 = (cFeed s a b x e f).1 ∧ LAWS tc tr (rFeed (cFeed s a b x e f).2 a b x e f).2 M := by
  obtain ⟨I, H, F⟩ := L
  unfold cFeed
  by_cases q : s 91 1 + 20 ≤ 300
  · rw [if_pos q]
    have g := fun (y : Nat) (j : Int) (h1 : ¬ (y = 91 ∧ j = 1)) (h2 : ¬ y = 92) => fvC_o (s := s) (a := a) (b := b) (c := x) (e := e) (f := f) y j h1 h2
    have g0 : fvC s a b x e f 138 4 = s 91 1 := (g _ _ (by decide) (by decide)).trans H.2.1
    obtain ⟨c, ec⟩ : ∃ c, fvC s a b x e f = c := ⟨_, rfl⟩
    have T0 : TAP s c := TAP_f H (fun _ _ _ => rfl) (fun y j h => ec ▸ g y j (by omega) (by omega))
    unfold rFeed
    dsimp only
    rw [if_pos (show fvC s a b x e f 138 4 + 20 ≤ 300 by rw [g0]; exact q), g0]
    refine ⟨rfl, ?_⟩
    have T1 := TAP_fv T0 (a := a) (b := b) (x := x) (e := e) (f := f) q
    rw [ec] at T1 ⊢
    have k := fun (y : Nat) (j : Int) (h1 : ¬ (y = 138 ∧ j = 4)) (h2 : ¬ y = 142) => fvR_o (s := c) (a := a) (b := b) (c := x) (e := e) (f := f) y j h1 h2
    have kk : ∀ (y : Nat) (j : Int), ¬ (y = 138 ∧ j = 4) → ¬ y = 142 → ¬ (y = 91 ∧ j = 1) → ¬ y = 92 → fvR c a b x e f y j = s y j := fun y j h1 h2 h3 h4 => (k y j h1 h2).trans (ec ▸ g y j h3 h4)
    refine ⟨INV_fr I (fun y j h => kk y j (by omega) (by omega) (by omega) (by omega)), TAP_f T1 (fun y j h => k y j (by omega) (by omega)) (fun _ _ _ => rfl), ?_⟩
    show FLT (fvR c a b x e f) (fvR c a b x e f)
    unfold FLT
    rw [kk 93 2 (by decide) (by decide) (by decide) (by decide), kk 93 3 (by decide) (by decide) (by decide) (by decide), kk 93 4 (by decide) (by decide) (by decide) (by decide), kk 138 5 (by decide) (by decide) (by decide) (by decide), kk 138 6 (by decide) (by decide) (by decide) (by decide), kk 138 11 (by decide) (by decide) (by decide) (by decide)]
    exact F
  · rw [if_neg q]
    unfold rFeed
    dsimp only
    rw [if_neg (show ¬ s 138 4 + 20 ≤ 300 by rw [H.2.1]; exact q)]
    exact ⟨rfl, I, H, F⟩
theorem lw_End {tc : tcs} {tr : Int → crs} {s : sg_} {M : Int} (L : LAWS tc tr s M) {x : Int} : (rEnd (cEnd s x).2 x).1 = (cEnd s x).1 ∧ LAWS tc tr (rEnd (cEnd s x).2 x).2 M := by
  obtain ⟨I, H, F⟩ := L
  unfold cEnd
  by_cases q : 0 ≤ x ∧ x ≤ s 91 1
  · rw [if_pos q]
    have g0 : up s 91 1 x 138 4 = s 91 1 := (up_a (by decide)).trans H.2.1
    unfold rEnd
    dsimp only
    rw [if_pos (show 0 ≤ x ∧ x ≤ up s 91 1 x 138 4 by rw [g0]; exact q)]
    refine ⟨rfl, ?_⟩
    obtain ⟨s1, h1⟩ : ∃ z_, up (up s 91 1 x) 138 4 x = z_ := ⟨_, rfl⟩
    show LAWS tc tr (up (up s 91 1 x) 138 4 x) M
    rw [h1]
    have o : ∀ (b : Nat) (j : Int), ¬ (b = 91 ∧ j = 1) → ¬ (b = 138 ∧ j = 4) → s1 b j = s b j := fun b j a1 a2 => by rw [← h1, up_n a2, up_n a1]
    have v1 : s1 91 1 = x := by rw [← h1, up_a (by decide), up_e]
    have v4 : s1 138 4 = x := by rw [← h1, up_e]
    have b := H.1
    refine ⟨INV_fr I (fun y j h => o y j (by omega) (by omega)), ⟨by rw [v1]; omega, by rw [v1, v4], fun j a d => ?_⟩, ?_⟩
    · rw [o _ _ (by omega) (by omega), o _ _ (by omega) (by omega)]
      exact H.2.2 j a d
    · unfold FLT
      rw [o 93 2 (by decide) (by decide), o 93 3 (by decide) (by decide), o 93 4 (by decide) (by decide), o 138 5 (by decide) (by decide), o 138 6 (by decide) (by decide), o 138 11 (by decide) (by decide)]
      exact F
  · rw [if_neg q]
    unfold rEnd
    dsimp only
    rw [if_neg (show ¬ (0 ≤ x ∧ x ≤ s 138 4) by rw [H.2.1]; exact q)]
    exact ⟨rfl, I, H, F⟩
theorem lw_Fault {tc : tcs} {tr : Int → crs} {s : sg_} {M : Int} (L : LAWS tc tr s M) {x : Int} : rFault s x = cFault s x := by
  unfold rFault cFault
  rcases L.2.2.2 with ⟨a, b, c⟩ | ⟨a, b, c⟩
  · rw [if_pos a]
    by_cases q : x = 0
    · rw [if_pos q]; exact b
    · rw [if_neg q]
      by_cases q1 : x = 1
      · rw [if_pos q1]; exact c
      · rw [if_neg q1]
  · rw [if_neg (show ¬ s 93 2 = 0 by omega), b, c]
theorem fr_rPole {s : sg_} {x z : Int} : frmR s (rPole s x z).2 := by
  unfold rPole
  exact frmR_i (fr_pl _ _ _) (frmR_r s)
theorem fr_rPower {s : sg_} {x z : Int} : frmR s (rPower s x z).2 := by
  unfold rPower
  exact frmR_i (fr_pw _ _ _) (frmR_r s)
theorem fr_rHoist {s : sg_} {w p : Int} : frmR s (rHoist s w p).2 := by
  unfold rHoist
  exact frmR_i (frmR_t (fr_keep s) (fr_rs _ _ _)) (frmR_r s)
theorem fr_rLower {s : sg_} {w p : Int} : frmR s (rLower s w p).2 := by
  unfold rLower
  exact frmR_i (frmR_t (fr_keep s) (fr_gn _ _ _)) (frmR_r s)
theorem fr_rPrune {s : sg_} {p n : Int} : frmR s (rPrune s p n).2 := by
  unfold rPrune
  exact frmR_i (frmR_t (fr_keep s) (fr_pr _ _ _)) (frmR_r s)
theorem fr_rBlow {s : sg_} {w : Int} : frmR s (rBlow s w).2 := by
  unfold rBlow
  exact frmR_i (frmR_t (fr_keep s) (fr_up _ _ _)) (frmR_r s)
theorem fr_rHour {cr : crs} {s : sg_} {n : Int} : frmR s (rHour cr s n).2 := by
  unfold rHour
  exact frmR_i (fr_hrs _ _ _) (frmR_r s)
theorem fr_rCent {cr : crs} {s : sg_} {x n : Int} : frmR s (rCent cr s x n).2 := by
  unfold rCent
  exact frmR_i (fr_ctw _ _ _ _) (frmR_r s)
theorem fr_rUndo {s : sg_} : frmR s (rUndo s).2 := by
  unfold rUndo
  exact frmR_i (frmR_r s) (fr_undo s)
theorem fr_rBy {s : sg_} {x : Int} : frmR s (rBy s x).2 := by
  unfold rBy
  exact frmR_i (fr_up _ _ _) (frmR_r s)
theorem fr_rFound {s : sg_} {p b : Int} : frmR s (fdR s p b).2 := by
  unfold fdR
  exact frmR_i (fr_up _ _ _) (frmR_i (frmR_t (frmR_t (fr_up _ _ _) (fr_up _ _ _)) (fr_up _ _ _)) (frmR_r s))
theorem fr_rAhead {s : sg_} {x y : Int} : frmR s (adR s x y).2 := by
  unfold adR
  exact frmR_i (fr_up _ _ _) (frmR_i (frmR_i (frmR_r s) (frmR_t (frmR_t (fr_up _ _ _) (fr_up _ _ _)) (fr_up _ _ _))) (frmR_r s))
theorem fr_rPlayed {cr : crs} {s : sg_} {x : Int} : frmR s (rPlayed cr s x).2 := by
  unfold rPlayed
  exact frmR_i (fr_py _ _ _ _ _) (frmR_r s)
theorem lw_Pole {tc : tcs} {tr : Int → crs} {s : sg_} {M : Int} (L : LAWS tc tr s M) {x z : Int} : (rPole (cPole s x z).2 x z).1 = (cPole s x z).1 ∧ LAWS tc tr (rPole (cPole s x z).2 x z).2 M := by
  have q := in_Pole L.1 (x := x) (z := z)
  exact ⟨q.1, LAWS_g L fr_cPole fr_rPole q.2⟩
theorem lw_Power {tc : tcs} {tr : Int → crs} {s : sg_} {M : Int} (L : LAWS tc tr s M) {x z : Int} : (rPower (cPower s x z).2 x z).1 = (cPower s x z).1 ∧ LAWS tc tr (rPower (cPower s x z).2 x z).2 M := by
  have q := in_Power L.1 (x := x) (z := z)
  exact ⟨q.1, LAWS_g L fr_cPower fr_rPower q.2⟩
theorem lw_Hoist {tc : tcs} {tr : Int → crs} {s : sg_} {M : Int} (L : LAWS tc tr s M) {w p : Int} : (rHoist (cHoist s w p).2 w p).1 = (cHoist s w p).1 ∧ LAWS tc tr (rHoist (cHoist s w p).2 w p).2 M := by
  have q := in_Hoist L.1 (w := w) (p := p)
  exact ⟨q.1, LAWS_g L fr_cHoist fr_rHoist q.2⟩
theorem lw_Lower {tc : tcs} {tr : Int → crs} {s : sg_} {M : Int} (L : LAWS tc tr s M) {w p : Int} : (rLower (cLower s w p).2 w p).1 = (cLower s w p).1 ∧ LAWS tc tr (rLower (cLower s w p).2 w p).2 M := by
  have q := in_Lower L.1 (w := w) (p := p)
  exact ⟨q.1, LAWS_g L fr_cLower fr_rLower q.2⟩
theorem lw_Prune {tc : tcs} {tr : Int → crs} {s : sg_} {M : Int} (L : LAWS tc tr s M) {p n : Int} : (rPrune (cPrune s p n).2 p n).1 = (cPrune s p n).1 ∧ LAWS tc tr (rPrune (cPrune s p n).2 p n).2 M := by
  have q := in_Prune L.1 (p := p) (n := n)
  exact ⟨q.1, LAWS_g L fr_cPrune fr_rPrune q.2⟩
theorem lw_Blow {tc : tcs} {tr : Int → crs} {s : sg_} {M : Int} (L : LAWS tc tr s M) {w : Int} : (rBlow (cBlow s w).2 w).1 = (cBlow s w).1 ∧ LAWS tc tr (rBlow (cBlow s w).2 w).2 M := by
  have q := in_Blow L.1 (w := w)
  exact ⟨q.1, LAWS_g L fr_cBlow fr_rBlow q.2⟩
theorem lw_Hour {tc : tcs} {tr : Int → crs} {s : sg_} {M : Int} (L : LAWS tc tr s M) {n : Int} : (rHour (tr (s 139 3)) (cHour tc s n).2 n).1 = (cHour tc s n).1 ∧ LAWS tc tr (rHour (tr (s 139 3)) (cHour tc s n).2 n).2 (M + 60) := by
  have q := in_Hour L.1 (n := n)
  exact ⟨q.1, LAWS_g L fr_cHour fr_rHour q.2⟩
theorem lw_Cent {tc : tcs} {tr : Int → crs} {s : sg_} {M : Int} (L : LAWS tc tr s M) {x n : Int} : (rCent (tr (s 139 3)) (cCent tc s x n).2 x n).1 = (cCent tc s x n).1 ∧ LAWS tc tr (rCent (tr (s 139 3)) (cCent tc s x n).2 x n).2 (M + 40) := by
  have q := in_Cent L.1 (sd := x) (n := n)
  exact ⟨q.1, LAWS_g L fr_cCent fr_rCent q.2⟩
theorem lw_Undo {tc : tcs} {tr : Int → crs} {s : sg_} {M : Int} (L : LAWS tc tr s M) : (rUndo (cUndo s).2).1 = (cUndo s).1 ∧ LAWS tc tr (rUndo (cUndo s).2).2 M := by
  have q := in_Undo L.1
  exact ⟨q.1, LAWS_g L fr_cUndo fr_rUndo q.2⟩
theorem lw_By {tc : tcs} {tr : Int → crs} {s : sg_} {M : Int} (L : LAWS tc tr s M) {x : Int} : (rBy (cBy s x).2 x).1 = (cBy s x).1 ∧ LAWS tc tr (rBy (cBy s x).2 x).2 M := by
  have q := in_By L.1 (x := x)
  exact ⟨q.1, LAWS_g L fr_cBy fr_rBy q.2⟩
theorem lw_Found {tc : tcs} {tr : Int → crs} {s : sg_} {M : Int} (L : LAWS tc tr s M) {p b : Int} (hb : b = 0 ∨ b = 1) : (fdR (fdC s p b).2 p b).1 = (fdC s p b).1 ∧ LAWS tc tr (fdR (fdC s p b).2 p b).2 M := by
  have q := in_Found L.1 hb (p := p) (b := b)
  exact ⟨q.1, LAWS_g L fr_cFound fr_rFound q.2⟩
theorem lw_Ahead {tc : tcs} {tr : Int → crs} {s : sg_} {M : Int} (L : LAWS tc tr s M) {x y : Int} : (adR (adC s x y).2 x y).1 = (adC s x y).1 ∧ LAWS tc tr (adR (adC s x y).2 x y).2 M := by
  have q := in_Ahead L.1 (p := x) (b := y)
  exact ⟨q.1, LAWS_g L fr_cAhead fr_rAhead q.2⟩
theorem lw_Played {tc : tcs} {tr : Int → crs} {s : sg_} {M : Int} (L : LAWS tc tr s M) {x : Int} : (rPlayed (tr (s 139 3)) (cPlayed tc s x).2 x).1 = (cPlayed tc s x).1 ∧ LAWS tc tr (rPlayed (tr (s 139 3)) (cPlayed tc s x).2 x).2 (M + 1440) := by
  have q := in_Played L.1 (tx := x)
  exact ⟨q.1, LAWS_g L fr_cPlayed fr_rPlayed q.2⟩
theorem lw_Image {tc : tcs} {tr : Int → crs} {s t : sg_} {M : Int} (L : LAWS tc tr s M) (K : CPY s t 47 69) : LAWS tc tr (cpy t 139 0 140 0 6044) M :=
  LAWS_x L (in_Image L.1 K).2 (fun b j h => (cpy_o (by omega)).trans (K.2.2.2.2.2.2.2.2.2.2.2.2.2.2 b j (by omega)))
theorem lw_Back {tc : tcs} {tr : Int → crs} {s t : sg_} {M : Int} (L : LAWS tc tr s M) (K : CPY s t 69 47) : LAWS tc tr (cpy t 140 0 139 0 6044) M :=
  LAWS_x L (in_Back L.1 K).2 (fun b j h => (cpy_o (by omega)).trans (K.2.2.2.2.2.2.2.2.2.2.2.2.2.2 b j (by omega)))
