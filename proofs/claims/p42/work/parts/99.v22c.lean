/-! -/
/-! what is told: of powers that are there, and two -/
def HC1 (s : sg_) (G : Nat) : Prop := ∀ k, 0 ≤ k → k < s (G + 18) 3 → (0 ≤ s (G + 19) k ∧ s (G + 19) k < s (G + 1) 1) ∧ (0 ≤ s (G + 20) k ∧ s (G + 20) k < s (G + 1) 1) ∧ ¬ s (G + 19) k = s (G + 20) k
def HT (s : sg_) : Prop := HC1 s 47 ∧ HC1 s 69
theorem HC_m {s s1 : sg_} {G G1 : Nat} (H : HC1 s G) (b : s (G + 18) 3 ≤ 10) (e3 : s1 (G1 + 18) 3 = s (G + 18) 3) (e : ∀ j, 0 ≤ j → j < 10 → s1 (G1 + 19) j = s (G + 19) j ∧ s1 (G1 + 20) j = s (G + 20) j) (n : s (G + 1) 1 ≤ s1 (G1 + 1) 1) : HC1 s1 G1 := by
  intro k h0 h1
  rw [e3] at h1
  obtain ⟨a, c, d⟩ := H k h0 h1
  have q := e k h0 (by omega)
  rw [q.1, q.2]
  exact ⟨by omega, by omega, d⟩
def FQ (s s1 : sg_) : Prop := ∀ (b : Nat) (j : Int), (48 ≤ b ∧ b ≤ 60) ∨ (65 ≤ b ∧ b ≤ 67) ∨ (70 ≤ b ∧ b ≤ 82) ∨ (87 ≤ b ∧ b ≤ 89) → s1 b j = s b j
theorem ht_b {tc : tcs} {tr : Int → crs} {s : sg_} {M : Int} (L : LAWS tc tr s M) : s 65 3 ≤ 10 ∧ s 87 3 ≤ 10 := ⟨(INV_EXn L.1).2.1.2, L.1.2.1.1.2.2.2.2.2.2.2.2.2.2.1.2⟩
theorem HT_q {s s1 : sg_} (H : HT s) (b2 : s 65 3 ≤ 10) (b81 : s 87 3 ≤ 10) (e : FQ s s1) : HT s1 :=
  ⟨HC_m H.1 b2 (e _ _ (by decide)) (fun j _ _ => ⟨e 66 j (by omega), e 67 j (by omega)⟩) (by show s 48 1 ≤ s1 48 1; rw [e 48 1 (by decide)]; exact Int.le_refl _), HC_m H.2 b81 (e _ _ (by decide)) (fun j _ _ => ⟨e 88 j (by omega), e 89 j (by omega)⟩) (by show s 70 1 ≤ s1 70 1; rw [e 70 1 (by decide)]; exact Int.le_refl _)⟩
theorem HT_g {tc : tcs} {tr : Int → crs} {s c s1 : sg_} {M : Int} (L : LAWS tc tr s M) (H : HT s) (f1 : gmC s c) (f2 : frmR c s1) (n : s 48 1 ≤ c 48 1) : HT s1 := by
  have g : ∀ (b : Nat) (j : Int), 61 ≤ b → b ≤ 90 → s1 b j = s b j := fun b j h1 h2 => (f2 b j (by omega)).trans (f1 b j (by omega))
  have n1 : s1 48 1 = c 48 1 := f2 48 1 (by decide)
  exact ⟨HC_m H.1 (ht_b L).1 (g _ _ (by decide) (by decide)) (fun j _ _ => ⟨g _ _ (by decide) (by decide), g _ _ (by decide) (by decide)⟩) (by show s 48 1 ≤ s1 48 1; omega), HC_m H.2 (ht_b L).2 (g _ _ (by decide) (by decide)) (fun j _ _ => ⟨g _ _ (by decide) (by decide), g _ _ (by decide) (by decide)⟩) (by show s 70 1 ≤ s1 70 1; rw [g 70 1 (by decide) (by decide)]; exact Int.le_refl _)⟩
theorem pn_keep {s : sg_} : keepC s 48 1 = s 48 1 := keepC_fr (by decide) (by decide)
theorem pn_hr {tc : tcs} {s : sg_} : hrC tc s 48 1 = s 48 1 := by rw [hrC_u (by decide), up_k (by decide), up_k (by decide), passC_0 (by decide) (by decide)]
theorem pn_hrs {tc : tcs} {s : sg_} : ∀ n : Nat, hrsC tc s n 48 1 = s 48 1
  | 0 => rfl
  | n + 1 => (pn_hr).trans ((pn_keep).trans (pn_hrs n))
theorem pn_cts {tc : tcs} {s : sg_} : ∀ n : Nat, ctsC tc s n 48 1 = s 48 1
  | 0 => rfl
  | n + 1 => (ctC_01 (by decide)).trans (pn_cts n)
theorem pn_pl {s : sg_} {x z : Int} : plC s x z 48 1 = s 48 1 := by
  unfold plC
  rw [up_k (by decide), up_a (by decide), up_a (by decide), up_a (by decide)]
theorem pn_pw {s : sg_} {x z : Int} : pwC s x z 48 1 = s 48 1 + 1 := up_e _ _ _ _
theorem pn_rs {s : sg_} {w p : Int} : rsC s w p 48 1 = s 48 1 := by
  unfold rsC
  rw [up_a (by decide), up_a (by decide)]
theorem pn_do {tc : tcs} {s : sg_} {k v w : Int} : s 48 1 ≤ (doC tc s k v w).2 48 1 := by
  have kk := pn_keep (s := s)
  unfold doC
  repeat' split
  all_goals first
    | exact Int.le_refl _
    | (dsimp only; rw [pn_pl]; exact Int.le_refl _)
    | (dsimp only; rw [pn_pw]; omega)
    | (dsimp only; rw [pn_rs, kk]; exact Int.le_refl _)
    | (dsimp only; rw [up_a (by decide), kk]; exact Int.le_refl _)
    | (dsimp only; rw [up_k (by decide), kk]; exact Int.le_refl _)
    | (dsimp only; rw [cutW_1, kk]; exact Int.le_refl _)
    | (dsimp only; rw [pn_hrs]; exact Int.le_refl _)
theorem pn_py {tc : tcs} {cl : cls} : ∀ (f k : Nat) (s : sg_), s 48 1 ≤ (pyC tc cl f k s).2 48 1
  | 0, _, _ => Int.le_refl _
  | f + 1, k, s => by
    have d := pn_do (tc := tc) (s := s) (k := (cl k).1) (v := (cl k).2.1) (w := (cl k).2.2)
    show s 48 1 ≤ (if _ then _ else _ : Int × sg_).2 48 1
    split
    · exact d
    · exact Int.le_trans d (pn_py f (k + 1) _)
section HTL
variable {tc : tcs} {tr : Int → crs} {s : sg_} {M : Int}
theorem ht_Pole (L : LAWS tc tr s M) (H : HT s) {x z : Int} : HT (rPole (cPole s x z).2 x z).2 := by
  have h : gmC s (cPole s x z).2 ∧ s 48 1 ≤ (cPole s x z).2 48 1 := by
    unfold cPole
    split
    · exact ⟨gm_pl _ _ _, by show s 48 1 ≤ plC s x z 48 1; rw [pn_pl]; exact Int.le_refl _⟩
    · exact ⟨gmC_r _, Int.le_refl _⟩
  refine HT_g L H h.1 ?_ h.2
  unfold rPole
  split
  · exact fr_pl _ _ _
  · exact frmR_r _
theorem ht_Power (L : LAWS tc tr s M) (H : HT s) {x z : Int} : HT (rPower (cPower s x z).2 x z).2 := by
  have h : gmC s (cPower s x z).2 ∧ s 48 1 ≤ (cPower s x z).2 48 1 := by
    unfold cPower
    split
    · exact ⟨gm_pw _ _ _, by show s 48 1 ≤ pwC s x z 48 1; rw [pn_pw]; omega⟩
    · exact ⟨gmC_r _, Int.le_refl _⟩
  refine HT_g L H h.1 ?_ h.2
  unfold rPower
  split
  · exact fr_pw _ _ _
  · exact frmR_r _
theorem ht_Hoist (L : LAWS tc tr s M) (H : HT s) {w p : Int} : HT (rHoist (cHoist s w p).2 w p).2 := by
  have h : gmC s (cHoist s w p).2 ∧ s 48 1 ≤ (cHoist s w p).2 48 1 := by
    unfold cHoist
    split
    · exact ⟨gmC_t (gm_keep s) (gm_rs _ _ _), by show s 48 1 ≤ rsC (keepC s) w p 48 1; rw [pn_rs, pn_keep]; exact Int.le_refl _⟩
    · exact ⟨gmC_r _, Int.le_refl _⟩
  refine HT_g L H h.1 ?_ h.2
  unfold rHoist
  split
  · exact frmR_t (fr_keep _) (fr_rs _ _ _)
  · exact frmR_r _
theorem ht_Lower (L : LAWS tc tr s M) (H : HT s) {w p : Int} : HT (rLower (cLower s w p).2 w p).2 := by
  have h : gmC s (cLower s w p).2 ∧ s 48 1 ≤ (cLower s w p).2 48 1 := by
    unfold cLower
    split
    · exact ⟨gmC_t (gm_keep s) (gm_up (by decide)), by show s 48 1 ≤ up (keepC s) 54 (p * 6 + w) (-1) 48 1; rw [up_a (by decide), pn_keep]; exact Int.le_refl _⟩
    · exact ⟨gmC_r _, Int.le_refl _⟩
  refine HT_g L H h.1 ?_ h.2
  unfold rLower
  split
  · exact frmR_t (fr_keep _) (fr_gn _ _ _)
  · exact frmR_r _
theorem ht_Prune (L : LAWS tc tr s M) (H : HT s) {p n : Int} : HT (rPrune (cPrune s p n).2 p n).2 := by
  have h : gmC s (cPrune s p n).2 ∧ s 48 1 ≤ (cPrune s p n).2 48 1 := by
    unfold cPrune
    split
    · exact ⟨gmC_t (gm_keep _) (gm_cut _ _ _ _), by show s 48 1 ≤ cutW (keepC s) 48 p n (keepC s 48 1) 48 1; rw [cutW_1, pn_keep]; exact Int.le_refl _⟩
    · exact ⟨gmC_r _, Int.le_refl _⟩
  refine HT_g L H h.1 ?_ h.2
  unfold rPrune
  split
  · exact frmR_t (fr_keep _) (fr_pr _ _ _)
  · exact frmR_r _
theorem ht_Blow (L : LAWS tc tr s M) (H : HT s) {w : Int} : HT (rBlow (cBlow s w).2 w).2 := by
  have h : gmC s (cBlow s w).2 ∧ s 48 1 ≤ (cBlow s w).2 48 1 := by
    unfold cBlow
    split
    · exact ⟨gmC_t (gm_keep s) (gm_up (by decide)), by show s 48 1 ≤ up (keepC s) 48 9 w 48 1; rw [up_k (by decide), pn_keep]; exact Int.le_refl _⟩
    · exact ⟨gmC_r _, Int.le_refl _⟩
  refine HT_g L H h.1 ?_ h.2
  unfold rBlow
  split
  · exact frmR_t (fr_keep _) (fr_up _ _ _)
  · exact frmR_r _
theorem ht_Hour (L : LAWS tc tr s M) (H : HT s) {n : Int} : HT (rHour (tr (s 139 3)) (cHour tc s n).2 n).2 := by
  have h : gmC s (cHour tc s n).2 ∧ s 48 1 ≤ (cHour tc s n).2 48 1 := by
    unfold cHour
    split
    · exact ⟨gm_hrs _ _ _, by show s 48 1 ≤ hrsC tc s n.toNat 48 1; rw [pn_hrs]; exact Int.le_refl _⟩
    · exact ⟨gmC_r _, Int.le_refl _⟩
  refine HT_g L H h.1 ?_ h.2
  unfold rHour
  split
  · exact fr_hrs _ _ _
  · exact frmR_r _
theorem ht_Cent (L : LAWS tc tr s M) (H : HT s) {x n : Int} : HT (rCent (tr (s 139 3)) (cCent tc s x n).2 x n).2 := by
  have h : gmC s (cCent tc s x n).2 ∧ s 48 1 ≤ (cCent tc s x n).2 48 1 := by
    unfold cCent
    split
    · refine ⟨gm_ctw _ _ _ _, ?_⟩
      show s 48 1 ≤ ctsC tc (up (keepC s) 48 12 (x * 2 + 79)) n.toNat 48 1
      rw [pn_cts, up_k (by decide), pn_keep]
      exact Int.le_refl _
    · exact ⟨gmC_r _, Int.le_refl _⟩
  refine HT_g L H h.1 ?_ h.2
  unfold rCent
  split
  · exact fr_ctw _ _ _ _
  · exact frmR_r _
theorem ht_Undo (L : LAWS tc tr s M) (H : HT s) : HT (rUndo (cUndo s).2).2 := by
  have h : gmC s (cUndo s).2 ∧ s 48 1 ≤ (cUndo s).2 48 1 := by
    unfold cUndo
    split
    · exact ⟨gmC_r _, Int.le_refl _⟩
    · refine ⟨gm_back _, ?_⟩
      show s 48 1 ≤ backC s 48 1
      rw [(backC_v (c := s) (a := tbA s) rfl).2.2.2.2 48 1 (by omega)]
      exact Int.le_refl _
  refine HT_g L H h.1 ?_ h.2
  unfold rUndo
  split
  · exact frmR_r _
  · exact fr_undo _
theorem ht_Played (L : LAWS tc tr s M) (H : HT s) {x : Int} : HT (rPlayed (tr (s 139 3)) (cPlayed tc s x).2 x).2 := by
  have h : gmC s (cPlayed tc s x).2 ∧ s 48 1 ≤ (cPlayed tc s x).2 48 1 := by
    unfold cPlayed
    split
    · exact ⟨gm_py _ _ _ _ _, pn_py _ _ _⟩
    · exact ⟨gmC_r _, Int.le_refl _⟩
  refine HT_g L H h.1 ?_ h.2
  unfold rPlayed
  split
  · exact fr_py _ _ _ _ _
  · exact frmR_r _
theorem ht_By (L : LAWS tc tr s M) (H : HT s) {x : Int} : HT (rBy (cBy s x).2 x).2 := by
  refine HT_q H (ht_b L).1 (ht_b L).2 (fun b j hb => ?_)
  unfold rBy cBy
  (repeat' split) <;> (first | rfl | (dsimp only; repeat rw [up_n (by omega)]))
theorem ht_Found (L : LAWS tc tr s M) (H : HT s) {p b : Int} : HT (fdR (fdC s p b).2 p b).2 := by
  refine HT_q H (ht_b L).1 (ht_b L).2 (fun b j hb => ?_)
  unfold fdR fdC
  (repeat' split) <;> (first | rfl | (dsimp only; repeat rw [up_n (by omega)]))
theorem ht_Ahead (L : LAWS tc tr s M) (H : HT s) {x y : Int} : HT (adR (adC s x y).2 x y).2 := by
  have b6 := (INV_EXn L.1).2.1
  have fr : ∀ (c : sg_) (b : Nat) (j : Int), ¬ b = 139 → (adR c x y).2 b j = c b j := fun c b j h => by
    unfold adR
    (repeat' split) <;> (first | rfl | (dsimp only; repeat rw [up_a h]))
  have key : HC1 (adC s x y).2 47 ∧ ∀ (b : Nat) (j : Int), ¬ b = 65 → ¬ b = 66 → ¬ b = 67 → (adC s x y).2 b j = s b j := by
    unfold adC
    by_cases c1 : x = -1
    · rw [if_pos c1]
      refine ⟨fun k h0 h1 => ?_, fun b j h _ _ => up_a h⟩
      have h1 : k < up s 65 3 0 65 3 := h1
      rw [up_e] at h1
      exfalso
      omega
    · rw [if_neg c1]
      by_cases c2 : okA (s 48 1) x y
      · rw [if_pos c2]
        unfold clC
        by_cases c3 : s 65 3 = 10
        · rw [if_pos c3]
          exact ⟨H.1, fun _ _ _ _ _ => rfl⟩
        · rw [if_neg c3]
          obtain ⟨n, hn⟩ : ∃ n, s 65 3 = n := ⟨_, rfl⟩
          rw [hn]
          refine ⟨fun k h0 h1 => ?_, fun b j h1 h2 h3 => by show up (up (up s 66 n x) 67 n y) 65 3 (n + 1) b j = s b j; rw [up_a h1, up_a h3, up_a h2]⟩
          have h1 : k < up (up (up s 66 n x) 67 n y) 65 3 (n + 1) 65 3 := h1
          rw [up_e] at h1
          show (0 ≤ up (up (up s 66 n x) 67 n y) 65 3 (n + 1) 66 k ∧ up (up (up s 66 n x) 67 n y) 65 3 (n + 1) 66 k < up (up (up s 66 n x) 67 n y) 65 3 (n + 1) 48 1) ∧ (0 ≤ up (up (up s 66 n x) 67 n y) 65 3 (n + 1) 67 k ∧ up (up (up s 66 n x) 67 n y) 65 3 (n + 1) 67 k < up (up (up s 66 n x) 67 n y) 65 3 (n + 1) 48 1) ∧ ¬ up (up (up s 66 n x) 67 n y) 65 3 (n + 1) 66 k = up (up (up s 66 n x) 67 n y) 65 3 (n + 1) 67 k
          rw [up_a (show ¬ (66 : Nat) = 65 by decide), up_a (show ¬ (66 : Nat) = 67 by decide), up_a (show ¬ (67 : Nat) = 65 by decide), up_a (show ¬ (48 : Nat) = 65 by decide), up_a (show ¬ (48 : Nat) = 67 by decide), up_a (show ¬ (48 : Nat) = 66 by decide)]
          by_cases e : k = n
          · subst e
            rw [up_e, up_e]
            exact ⟨c2.1, c2.2.1, c2.2.2⟩
          · rw [up_k e, up_k e, up_a (show ¬ (67 : Nat) = 66 by decide)]
            exact H.1 k h0 (by show k < s 65 3; omega)
      · rw [if_neg c2]
        exact ⟨H.1, fun _ _ _ _ _ => rfl⟩
  have b1 : (adC s x y).2 65 3 ≤ 10 := by
    unfold adC clC
    (repeat' split) <;> (first | omega | (dsimp only; omega) | (dsimp only; rw [up_e]; omega))
  refine ⟨HC_m key.1 b1 (fr _ _ _ (by decide)) (fun j _ _ => ⟨fr _ _ _ (by decide), fr _ _ _ (by decide)⟩) (by rw [fr _ _ _ (by decide)]; exact Int.le_refl _), HC_m H.2 (ht_b L).2 ((fr _ _ _ (by decide)).trans (key.2 _ _ (by decide) (by decide) (by decide))) (fun j _ _ => ⟨(fr _ _ _ (by decide)).trans (key.2 _ _ (by decide) (by decide) (by decide)), (fr _ _ _ (by decide)).trans (key.2 _ _ (by decide) (by decide) (by decide))⟩) (by rw [(fr _ (69 + 1) 1 (by decide)).trans (key.2 _ _ (by decide) (by decide) (by decide))]; exact Int.le_refl _)⟩
theorem ht_Image (L : LAWS tc tr s M) (H : HT s) {t : sg_} (K : CPY s t 47 69) : HT (cpy t 139 0 140 0 6044) := by
  obtain ⟨-, ⟨k0, k1⟩, -, -, -, -, -, -, -, -, -, -, k19, k18, o⟩ := K
  have f : ∀ (b : Nat) (j : Int), ¬ b = 140 → cpy t 139 0 140 0 6044 b j = t b j := fun b j h => cpy_fr h
  have lo : ∀ (b : Nat) (j : Int), b < 69 → cpy t 139 0 140 0 6044 b j = s b j := fun b j h => (f b j (by omega)).trans (o b j (by omega))
  refine ⟨HC_m H.1 (ht_b L).1 (lo _ _ (by decide)) (fun j _ _ => ⟨lo _ _ (by decide), lo _ _ (by decide)⟩) (by rw [lo (47 + 1) 1 (by decide)]; exact Int.le_refl _), HC_m H.1 (ht_b L).1 ((f _ _ (by decide)).trans k18) (fun j a b => ⟨(f _ _ (by decide)).trans (k19 j a b).1, (f _ _ (by decide)).trans (k19 j a b).2⟩) (by rw [f (69 + 1) 1 (by decide), k1]; exact Int.le_refl _)⟩
theorem ht_Back (L : LAWS tc tr s M) (H : HT s) {t : sg_} (K : CPY s t 69 47) : HT (cpy t 140 0 139 0 6044) := by
  obtain ⟨-, ⟨k0, k1⟩, -, -, -, -, -, -, -, -, -, -, k19, k18, o⟩ := K
  have f : ∀ (b : Nat) (j : Int), ¬ b = 139 → cpy t 140 0 139 0 6044 b j = t b j := fun b j h => cpy_fr h
  have hi : ∀ (b : Nat) (j : Int), 69 ≤ b → b ≤ 90 → cpy t 140 0 139 0 6044 b j = s b j := fun b j h1 h2 => (f b j (by omega)).trans (o b j (by omega))
  refine ⟨HC_m H.2 (ht_b L).2 ((f _ _ (by decide)).trans k18) (fun j a b => ⟨(f _ _ (by decide)).trans (k19 j a b).1, (f _ _ (by decide)).trans (k19 j a b).2⟩) (by rw [f (47 + 1) 1 (by decide), k1]; exact Int.le_refl _), HC_m H.2 (ht_b L).2 (hi _ _ (by decide) (by decide)) (fun j _ _ => ⟨hi _ _ (by decide) (by decide), hi _ _ (by decide) (by decide)⟩) (by rw [hi (69 + 1) 1 (by decide) (by decide)]; exact Int.le_refl _)⟩
end HTL
