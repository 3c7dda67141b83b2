/-! the check of a method -/
/-- the entry: locals, the arguments, intervals, number of references -/
def sx_en : List sx_D → Nat → Nat → List (Option sx_A) × List sx_A × sx_E × Nat
  | [], _, m => ([], [], [], m)
  | (0, lo, hi) :: l, n, m => (some (0, sx_v n) :: (sx_en l (n + 1) m).1, (0, sx_v n) :: (sx_en l (n + 1) m).2.1, (lo, hi, []) :: (sx_en l (n + 1) m).2.2.1, (sx_en l (n + 1) m).2.2.2)
  | (1, lo, hi) :: l, n, m => (some (1, sx_v n) :: none :: (sx_en l (n + 1) m).1, (1, sx_v n) :: (sx_en l (n + 1) m).2.1, (lo, hi, []) :: (sx_en l (n + 1) m).2.2.1, (sx_en l (n + 1) m).2.2.2)
  | (_, t, _) :: l, n, m => (some (2, (t, [(0, m)])) :: (sx_en l n (m + 1)).1, (2, (t, [(0, m)])) :: (sx_en l n (m + 1)).2.1, (sx_en l n (m + 1)).2.2.1, (sx_en l n (m + 1)).2.2.2)
/-- the entry fits -/
theorem sx_en_ok {tau : List Nat} : ∀ (l : List sx_D) (vs : List Value) (n m k : Nat) (r : Nat → Int) (g : Nat → Nat), sx_ag tau l vs → ∃ r' g', (∀ j, j < n → r' j = r j) ∧ (∀ j, j < m → g' j = g j) ∧ sx_lr r' g' tau ((sx_en l n m).1 ++ List.replicate k none) (mj_av vs ++ List.replicate k none) ∧ (sx_en l n m).1.length = (mj_av vs).length ∧ sx_sr r' g' tau (sx_en l n m).2.1 vs ∧ ∀ (i : Nat) (q : Int × Int × List sx_X), (sx_en l n m).2.2.1[i]? = some q → q.1 ≤ r' (n + i) ∧ r' (n + i) ≤ q.2.1 ∧ q.2.2 = []
  | [], [], n, m, k, r, g, _ => ⟨r, g, fun _ _ => rfl, fun _ _ => rfl, by simpa [sx_en, mj_av] using sx_lr_r k, rfl, trivial, fun i q hq => by simp [sx_en] at hq⟩
  | d :: l, v :: vs, n, m, k, r, g, ha => by
    obtain ⟨hd, ht⟩ := ha
    unfold sx_dr at hd
    split at hd
    · rename_i lo hi
      obtain ⟨z, rfl, z1, z2⟩ := hd
      obtain ⟨r', g', a1, a2, a3, a4, a5, a6⟩ := sx_en_ok l vs (n + 1) m k (sx_upi r n z.toInt) g ht
      have rn : r' n = z.toInt := by rw [a1 n (by omega)]; exact if_pos rfl
      have hv : sx_vr r' g' tau (0, sx_v n) (.int z) := ⟨z, rfl, by rw [sx_v_ev, rn]⟩
      refine ⟨r', g', fun j hj => ?_, a2, ?_, ?_, ⟨hv, a5⟩, fun i q hq => ?_⟩
      · rw [a1 j (by omega)]
        exact if_neg (by omega)
      · show sx_lr r' g' tau (some (0, sx_v n) :: ((sx_en l (n + 1) m).1 ++ List.replicate k none)) (some (Value.int z) :: (mj_av vs ++ List.replicate k none))
        exact sx_lr_c hv a3
      · show (sx_en l (n + 1) m).1.length + 1 = (mj_av vs).length + 1
        rw [a4]
      · cases i with
        | zero =>
          cases hq
          rw [Nat.add_zero, rn]
          exact ⟨z1, z2, rfl⟩
        | succ i =>
          have := a6 i q hq
          rw [show n + (i + 1) = n + 1 + i by omega]
          exact this
    · rename_i lo hi
      obtain ⟨z, rfl, z1, z2⟩ := hd
      obtain ⟨r', g', a1, a2, a3, a4, a5, a6⟩ := sx_en_ok l vs (n + 1) m k (sx_upi r n z.toInt) g ht
      have rn : r' n = z.toInt := by rw [a1 n (by omega)]; exact if_pos rfl
      have hv : sx_vr r' g' tau (1, sx_v n) (.long z) := ⟨z, rfl, by rw [sx_v_ev, rn]⟩
      refine ⟨r', g', fun j hj => ?_, a2, ?_, ?_, ⟨hv, a5⟩, fun i q hq => ?_⟩
      · rw [a1 j (by omega)]
        exact if_neg (by omega)
      · show sx_lr r' g' tau (some (1, sx_v n) :: none :: ((sx_en l (n + 1) m).1 ++ List.replicate k none)) (some (Value.long z) :: none :: (mj_av vs ++ List.replicate k none))
        exact sx_lr_c hv (sx_lr_n a3)
      · show (sx_en l (n + 1) m).1.length + 1 + 1 = (mj_av vs).length + 1 + 1
        rw [a4]
      · cases i with
        | zero =>
          cases hq
          rw [Nat.add_zero, rn]
          exact ⟨z1, z2, rfl⟩
        | succ i =>
          have := a6 i q hq
          rw [show n + (i + 1) = n + 1 + i by omega]
          exact this
    · rename_i t q
      obtain ⟨a, rfl, ht2⟩ := hd
      obtain ⟨r', g', a1, a2, a3, a4, a5, a6⟩ := sx_en_ok l vs n (m + 1) k r (sx_upr g m a) ht
      have gm : g' m = a := by rw [a2 m (by omega)]; exact if_pos rfl
      have hv : sx_vr r' g' tau (2, (t, [(0, m)])) (.ref a) := by
        show Value.ref a = .ref (g' m) ∧ tau[g' m]? = some t.toNat
        rw [gm]
        exact ⟨rfl, ht2⟩
      refine ⟨r', g', a1, fun j hj => ?_, ?_, ?_, ⟨hv, a5⟩, a6⟩
      · rw [a2 j (by omega)]
        exact if_neg (by omega)
      · show sx_lr r' g' tau (some (2, (t, [(0, m)])) :: ((sx_en l n (m + 1)).1 ++ List.replicate k none)) (some (Value.ref a) :: (mj_av vs ++ List.replicate k none))
        exact sx_lr_c hv a3
      · show (sx_en l n (m + 1)).1.length + 1 = (mj_av vs).length + 1
        rw [a4]
    · exact hd.elim
  | [], _ :: _, _, _, _, _, _, ha => ha.elim
  | _ :: _, [], _, _, _, _, _, ha => ha.elim
def sx_X0 (K : sx_K) : sx_X := sx_add (sx_c K.2.2.1.1) (sx_lvx K.2.2.1.2 (sx_en K.1 0 0).2.1)
/-- one cut's block -/
def sx_ck1 (P : sx_P) (m : Nat) (K : sx_K) (cuts : List sx_T) (n : Nat) (T : sx_T) : Bool :=
  decide ((sx_en K.1 0 0).2.2.1.length ≤ T.2.2.1.length) && (sx_lt T.2.2.1.length T.2.2.2.2.2.2.2.1 && (sx_ge T.2.2.1 T.2.2.2.2.2.2.2.1 0 && (sx_lt T.2.2.1.length T.2.2.2.2.2.2.2.2 && (sx_le T.2.2.1 T.2.2.2.2.2.2.2.2 (sx_cost K.2.2.2) && sx_sp P m K (sx_X0 K) n (sx_go P m K (sx_X0 K) (sx_en K.1 0 0).2.2.1.length cuts (some T.2.2.2.2.2.2.2.1) n) T.2.2.2.2.2.2.2.2 (sx_st T)))))
def sx_ch0 (P : sx_P) (m : Nat) (K : sx_K) (cuts : List sx_T) (n : Nat) : Bool :=
  decide ((sx_en K.1 0 0).1.length ≤ mj_nl m) && (sx_args (sx_en K.1 0 0).2.2.1 (sx_en K.1 0 0).2.1 K.1 && (sx_lt (sx_en K.1 0 0).2.2.1.length (sx_X0 K) && sx_go P m K (sx_X0 K) (sx_en K.1 0 0).2.2.1.length cuts none n (sx_c 0) (0, (sx_en K.1 0 0).1 ++ List.replicate (mj_nl m - (sx_en K.1 0 0).1.length) none, [], (sx_en K.1 0 0).2.2.1, (sx_en K.1 0 0).2.2.2, [])))
def sx_chk (P : sx_P) (m : Nat) (K : sx_K) (cuts : List sx_T) (n : Nat) : Bool := sx_ch0 P m K cuts n && cuts.all (sx_ck1 P m K cuts n)
/-- all contracts hold below d -/
def sx_IH (P : sx_P) (d : Nat) : Prop := ∀ d', d' < d → ∀ c K, P.2.2.2[c]? = some (some K) → sx_M P d' c K
/-- a cut from which the run is shown by hand -/
def sx_hd (P : sx_P) (d m : Nat) (K : sx_K) (cuts : List sx_T) (T : sx_T) : Prop := ∀ (B : Int) (r : Nat → Int) (g : Nat → Nat) (lv : mj_L) (h : mj_H), B + sx_cost K.2.2.2 ≤ sx_mx → sx_g P.1 P.2.1 P.2.2.1 r g (sx_st T) lv [] h → sx_ev r (sx_X0 K) ≤ d → sx_W P.2.2.1 h (B + sx_ev r T.2.2.2.2.2.2.2.2) → (∀ U ∈ cuts, ∀ (r' : Nat → Int) (g' : Nat → Nat) (lv' : mj_L) (h' : mj_H), sx_g P.1 P.2.1 P.2.2.1 r' g' (sx_st U) lv' [] h' → (∀ j, j < (sx_en K.1 0 0).2.2.1.length → r' j = r j) → sx_ev r' U.2.2.2.2.2.2.2.1 + 1 ≤ sx_ev r T.2.2.2.2.2.2.2.1 → sx_W P.2.2.1 h' (B + sx_ev r' U.2.2.2.2.2.2.2.2) → sx_R P d m K B U.1 lv' [] h') → sx_R P d m K B T.1 lv [] h
theorem sx_cuts_ok {P : sx_P} {d m : Nat} {K : sx_K} {B : Int} {cuts : List sx_T} {n : Nat} {r0 : Nat → Int} (IH : sx_IH P d) (hX : sx_ev r0 (sx_X0 K) ≤ d) (hX0 : sx_lt (sx_en K.1 0 0).2.2.1.length (sx_X0 K) = true) (hB : B + sx_cost K.2.2.2 ≤ sx_mx) (hc : ∀ T ∈ cuts, sx_ck1 P m K cuts n T = true ∨ (sx_ge T.2.2.1 T.2.2.2.2.2.2.2.1 0 = true ∧ sx_hd P d m K cuts T)) :
    ∀ (k : Nat), ∀ T ∈ cuts, ∀ (r' : Nat → Int) (g' : Nat → Nat) (lv' : mj_L) (h' : mj_H), sx_g P.1 P.2.1 P.2.2.1 r' g' (sx_st T) lv' [] h' → (∀ j, j < (sx_en K.1 0 0).2.2.1.length → r' j = r0 j) → sx_ev r' T.2.2.2.2.2.2.2.1 < k → sx_W P.2.2.1 h' (B + sx_ev r' T.2.2.2.2.2.2.2.2) → sx_R P d m K B T.1 lv' [] h'
  | k, T, hT, r', g', lv', h', hg, hr, hk, hW => by
    have hin : sx_in T.2.2.1 r' := hg.2.2.1
    rcases hc T hT with h1 | ⟨h1, h2⟩
    · unfold sx_ck1 at h1
      simp only [Bool.and_eq_true] at h1
      obtain ⟨b1, b2, b3, b5, b6, b4⟩ := h1
      have b1 := of_decide_eq_true b1
      have b3 := sx_ge_ok hin b3
      have b6 := sx_le_ok hin b6
      cases k with
      | zero => exfalso; omega
      | succ k =>
        refine sx_sp_ok (S := sx_st T) b4 hg (by rw [sx_ev_eq hr hX0]; exact hX) (sx_lt_le b1 hX0) hB ⟨hW, b6, b5⟩ IH (fun q' S' r2 g2 lv2 st2 h2 k1 k2 k3 k4 k5 => ?_)
        have k3 : ∀ j, j < T.2.2.1.length → r2 j = r' j := k3
        have k4 : T.2.2.1.length ≤ S'.2.2.2.1.length := k4
        refine sx_go_ok (r0 := r0) (mv := sx_ev r' T.2.2.2.2.2.2.2.1) (nb := T.2.2.1.length) IH hX hX0 (fun x hx => by cases hx; exact b2) hB (fun U hU r3 g3 lv3 h3 q1 q2 q3 q4 => ?_) n q' S' r2 g2 lv2 st2 h2 k1 k2 (by omega) (by omega) (fun j hj => (k3 j (by omega)).trans (hr j hj)) (fun x hx => by cases hx; exact sx_ev_eq k3 b2) k5
        have := q3 _ rfl
        exact sx_cuts_ok IH hX hX0 hB hc k U hU r3 g3 lv3 h3 q1 q2 (by omega) q4
    · have b3 := sx_ge_ok hin h1
      cases k with
      | zero => exfalso; omega
      | succ k =>
        refine h2 B r' g' lv' h' hB hg (by rw [sx_ev_eq hr hX0]; exact hX) hW (fun U hU r3 g3 lv3 h3 q1 q2 q3 q4 => ?_)
        exact sx_cuts_ok IH hX hX0 hB hc k U hU r3 g3 lv3 h3 q1 (fun j hj => (q2 j hj).trans (hr j hj)) (by omega) q4
theorem sx_ch0_ok {P : sx_P} {d m : Nat} {K : sx_K} {cuts : List sx_T} {n : Nat} (IH : sx_IH P d) (h0 : sx_ch0 P m K cuts n = true) (hc : ∀ T ∈ cuts, sx_ck1 P m K cuts n T = true ∨ (sx_ge T.2.2.1 T.2.2.2.2.2.2.2.1 0 = true ∧ sx_hd P d m K cuts T)) : sx_M P d m K := by
  intro vs h hH ha hd B hW hB
  unfold sx_ch0 at h0
  simp only [Bool.and_eq_true] at h0
  obtain ⟨c1, c2, c3, c4⟩ := h0
  have c1 := of_decide_eq_true c1
  obtain ⟨r, g, -, -, a3, a4, a5, a6⟩ := sx_en_ok (tau := P.2.2.1) K.1 vs 0 0 (mj_nl m - (mj_av vs).length) (fun _ => 0) (fun _ => 0) ha
  have hE : sx_in (sx_en K.1 0 0).2.2.1 r := fun i q hq => by
    have := a6 i q hq
    rw [Nat.zero_add] at this
    exact ⟨this.1, this.2.1, fun y hy => by rw [this.2.2] at hy; cases hy⟩
  have hl := (sx_args_ok hE c2 a5).2 K.2.2.1.2
  have hX : sx_ev r (sx_X0 K) ≤ d := by
    unfold sx_X0
    rw [sx_add_ev, sx_c_ev, hl]
    exact hd
  have h0 : sx_ev r (sx_c 0) = 0 := sx_c_ev r 0
  refine ⟨mj_av vs ++ List.replicate (mj_nl m - (mj_av vs).length) none, ?_, ?_⟩
  · unfold mj_ent
    rw [if_pos (by omega)]
  · rw [a4] at c4
    refine sx_go_ok (r0 := r) (mv := 0) (nb := 0) (M := none) IH hX c3 (fun x hx => by cases hx) hB (fun T hT r' g' lv' h' q1 q2 q3 q4 => ?_) n (sx_c 0) _ r g _ [] h c4 ⟨a3, trivial, hE, (fun q hq => by cases hq), hH⟩ (Nat.le_refl _) (Nat.zero_le _) (fun _ _ => rfl) (fun x hx => by cases hx) ⟨by rw [h0, Int.add_zero]; exact hW, by omega, rfl⟩
    exact sx_cuts_ok IH hX c3 hB hc ((sx_ev r' T.2.2.2.2.2.2.2.1).toNat + 1) T hT r' g' lv' h' q1 q2 (by omega) q4
theorem sx_chk_ok {P : sx_P} {d m : Nat} {K : sx_K} {cuts : List sx_T} {n : Nat} (IH : sx_IH P d) (hc : sx_chk P m K cuts n = true) : sx_M P d m K := by
  unfold sx_chk at hc
  rw [Bool.and_eq_true] at hc
  exact sx_ch0_ok IH hc.1 (fun T hT => Or.inl (List.all_eq_true.mp hc.2 T hT))
/-- all methods: each is checked, or shown by hand -/
theorem sx_every {P : sx_P} (hall : ∀ c K, P.2.2.2[c]? = some (some K) → ∀ d, sx_IH P d → sx_M P d c K) : ∀ d c K, P.2.2.2[c]? = some (some K) → sx_M P d c K := by
  intro d
  induction d using Nat.strongRecOn with
  | _ d ih =>
    intro c K hK
    exact hall c K hK d ih
