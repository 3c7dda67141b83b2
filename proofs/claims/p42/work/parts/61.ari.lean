/-! the checker's arithmetic, sound, 2 -/
theorem sx_msk_big {n : Int} (hn : ¬ n ≤ sx_mx) : ∀ k : Nat, k ≤ 30 → sx_mx ≤ sx_msk k n := by
  intro k
  induction k with
  | zero => intro _; exact Int.le_refl _
  | succ k ih =>
    intro hk
    unfold sx_msk
    split
    · rename_i hq
      have : (2 : Int) ^ (31 - (k + 1)) ≤ 2 ^ 31 := by
        have h1 := Nat.pow_le_pow_right (n := 2) (by decide) (show 31 - (k + 1) ≤ 31 by omega)
        exact_mod_cast h1
      unfold sx_mx at hn ⊢
      omega
    · exact ih (by omega)
theorem sx_bits {a b : Int32} {n : Int} (ha : 0 ≤ a.toInt) (hb : 0 ≤ b.toInt) (h1 : a.toInt ≤ n) (h2 : b.toInt ≤ n) : (0 ≤ (a ||| b).toInt ∧ (a ||| b).toInt ≤ sx_msk 30 n) ∧ (0 ≤ (a ^^^ b).toInt ∧ (a ^^^ b).toInt ≤ sx_msk 30 n) := by
  by_cases hc : n ≤ sx_mx
  · obtain ⟨j, j1, j2, j3⟩ := sx_mskok 30 n (by decide) hc
    exact sx_ibit ha hb j1 j2 (by omega) (by omega)
  · have f1 := sx_ibit (x := a) (y := b) (M := sx_mx) (j := 31) ha hb (by decide) (by decide) (sx_r32 a).2 (sx_r32 b).2
    have f2 := sx_msk_big hc 30 (by decide)
    omega
theorem sx_pow_le {c d : Int} (h0 : 0 ≤ c) (h : c ≤ d) : (2 : Int) ^ c.toNat ≤ 2 ^ d.toNat := by
  have h1 := Nat.pow_le_pow_right (n := 2) (by decide) (show c.toNat ≤ d.toNat by omega)
  exact_mod_cast h1
theorem sx_cmp_sg (x y : Int64) : (lg_cmp x y).toInt = (x.toInt - y.toInt).sign := by
  unfold lg_cmp
  split
  · rename_i hc
    have : y.toInt < x.toInt := Int64.lt_iff_toInt_lt.mp hc
    rw [Int.sign_eq_one_of_pos (by omega)]
    decide
  · rename_i hc
    have hc2 : ¬ y.toInt < x.toInt := fun e => hc (Int64.lt_iff_toInt_lt.mpr e)
    split
    · rename_i e
      rw [e, Int.sub_self]
      decide
    · rename_i e
      have e2 : x.toInt ≠ y.toInt := fun q => e (Int64.toInt_inj.mp q)
      rw [Int.sign_eq_neg_one_of_neg (by omega)]
      decide
section SXA
variable {P : sx_P} {r : Nat → Int} {g : Nat → Nat} {lv : mj_L} {st : List Value} {h : mj_H} {ls : List (Option sx_A)} {ss S0 : List sx_A} {E : sx_E} {nr p0 : Nat} {C : sx_C} {mods : List Nat} {m pc : Nat} {L : List sx_S}
theorem sx_q_ixor (hl : sx_lr r g P.2.2.1 ls lv) (hs : sx_sr r g P.2.2.1 ss st) (hE : sx_in E r) (hC : sx_cr r g P.2.2.1 C h) (hH : sx_H P.1 P.2.1 P.2.2.1 h) (hp : sx_i P m .ixor (pc, ls, ss, E, nr, C) = some L) : sx_Q P r g nr E.length mods m pc .ixor lv st h L := by
  simp only [sx_i] at hp
  refine sx_ii_q (fun _ _ _ => rfl) hp hs (fun x y s2 a b t2 hs2 ha hb hp => ?_)
  split at hp
  · rename_i x1 x2 y1 y2 hx hy
    have bx := sx_b_ok hE hx
    have bz := sx_b_ok hE hy
    split at hp
    · exact sx_rng hl hs hE hC hH hs2 hp (sx_bits (a := a) (b := b) (n := max x2 y2) (by omega) (by omega) (by omega) (by omega)).2
    · exact sx_any hl hs hE hC hH hs2 hp
  · cases hp
theorem sx_q_ishl (hl : sx_lr r g P.2.2.1 ls lv) (hs : sx_sr r g P.2.2.1 ss st) (hE : sx_in E r) (hC : sx_cr r g P.2.2.1 C h) (hH : sx_H P.1 P.2.1 P.2.2.1 h) (hp : sx_i P m .ishl (pc, ls, ss, E, nr, C) = some L) : sx_Q P r g nr E.length mods m pc .ishl lv st h L := by
  simp only [sx_i] at hp
  refine sx_ii_q (fun _ _ _ => rfl) hp hs (fun x y s2 a b t2 hs2 ha hb hp => ?_)
  split at hp
  · rename_i x1 x2 y1 y2 hx hy
    have bx := sx_b_ok hE hx
    have bz := sx_b_ok hE hy
    split at hp
    · rename_i hc
      obtain ⟨c1, c2, c3, c4⟩ := hc
      have p1 := sx_pow_le (c := y1) (d := b.toInt) c2 (by omega)
      have p2 := sx_pow_le (c := b.toInt) (d := y2) (by omega) (by omega)
      have p0 : ∀ n : Nat, (0 : Int) ≤ 2 ^ n := fun n => by
        have := Nat.two_pow_pos n
        have e : ((2 ^ n : Nat) : Int) = (2 : Int) ^ n := by simp
        omega
      have u1 : x1 * 2 ^ y1.toNat ≤ a.toInt * 2 ^ b.toInt.toNat := Int.mul_le_mul (by omega) p1 (p0 _) (by omega)
      have u2 : a.toInt * 2 ^ b.toInt.toNat ≤ x2 * 2 ^ y2.toNat := Int.mul_le_mul (by omega) p2 (p0 _) (by omega)
      have e := sx_ishl (x := a) (y := b) (by omega) (by omega) (by omega) (by omega)
      exact sx_rng hl hs hE hC hH hs2 hp (by rw [e]; exact ⟨u1, u2⟩)
    · exact sx_any hl hs hE hC hH hs2 hp
  · cases hp
theorem sx_q_ishr (hl : sx_lr r g P.2.2.1 ls lv) (hs : sx_sr r g P.2.2.1 ss st) (hE : sx_in E r) (hC : sx_cr r g P.2.2.1 C h) (hH : sx_H P.1 P.2.1 P.2.2.1 h) (hp : sx_i P m .ishr (pc, ls, ss, E, nr, C) = some L) : sx_Q P r g nr E.length mods m pc .ishr lv st h L := by
  simp only [sx_i] at hp
  refine sx_ii_q (fun _ _ _ => rfl) hp hs (fun x y s2 a b t2 hs2 ha hb hp => ?_)
  split at hp
  · rename_i x1 x2 y1 hx hy
    have bx := sx_b_ok hE hx
    have e := sx_ishr a b
    exact sx_rng hl hs hE hC hH hs2 hp (by omega)
  · cases hp
theorem sx_q_iushr (hl : sx_lr r g P.2.2.1 ls lv) (hs : sx_sr r g P.2.2.1 ss st) (hE : sx_in E r) (hC : sx_cr r g P.2.2.1 C h) (hH : sx_H P.1 P.2.1 P.2.2.1 h) (hp : sx_i P m .iushr (pc, ls, ss, E, nr, C) = some L) : sx_Q P r g nr E.length mods m pc .iushr lv st h L := by
  simp only [sx_i] at hp
  exact sx_ii_q (fun _ _ _ => rfl) hp hs (fun x y s2 a b t2 hs2 ha hb hp => sx_any hl hs hE hC hH hs2 hp)
theorem sx_ii_d {i : Instr} {op : Int32 → Int32 → Int32} {f : List sx_A → sx_X → sx_X → Option (List sx_S)} (hi : ∀ a b t2 lv h, b ≠ 0 → mj_st m pc i lv (.int b :: .int a :: t2) h = some (pc + 1, lv, .int (op a b) :: t2, h)) (hp : sx_ii (pc, ls, ss, E, nr, C) f = some L) (hs : sx_sr r g P.2.2.1 ss st) (hf : ∀ (x y : sx_X) (s2 : List sx_A) (a b : Int32) (t2 : List Value), sx_sr r g P.2.2.1 s2 t2 → a.toInt = sx_ev r x → b.toInt = sx_ev r y → f s2 x y = some L → b ≠ 0 ∧ sx_to P r g nr E.length mods h L (pc + 1) lv (.int (op a b) :: t2) h) : sx_Q P r g nr E.length mods m pc i lv st h L := by
  unfold sx_ii at hp
  split at hp
  · rename_i heq
    cases heq
    obtain ⟨v1, t1, rfl, ⟨b, rfl, hb⟩, hs1⟩ := sx_sr1 hs
    obtain ⟨v2, t2, rfl, ⟨a, rfl, ha⟩, hs2⟩ := sx_sr1 hs1
    obtain ⟨f1, f2⟩ := hf _ _ _ a b t2 hs2 ha hb hp
    exact ⟨_, _, _, _, hi a b t2 lv h f1, f2⟩
  · cases hp
theorem sx_nz {b : Int32} (h : 1 ≤ b.toInt) : b ≠ 0 := fun e => by
  rw [e] at h
  revert h
  decide
theorem sx_nz64 {b : Int64} (h : 1 ≤ b.toInt ∨ b.toInt ≤ -1) : b ≠ 0 := fun e => by
  rw [e] at h
  revert h
  decide
theorem sx_nzn {b : Int32} (h : b.toInt ≤ -1) : b ≠ 0 := fun e => by
  rw [e] at h
  revert h
  decide
theorem sx_q_irem (hl : sx_lr r g P.2.2.1 ls lv) (hs : sx_sr r g P.2.2.1 ss st) (hE : sx_in E r) (hC : sx_cr r g P.2.2.1 C h) (hH : sx_H P.1 P.2.1 P.2.2.1 h) (hp : sx_i P m .irem (pc, ls, ss, E, nr, C) = some L) : sx_Q P r g nr E.length mods m pc .irem lv st h L := by
  simp only [sx_i] at hp
  refine sx_ii_d (op := fun x y => x - x / y * y) (fun a b t2 lv h hb => by simp only [mj_st]; rw [if_neg hb]) hp hs (fun x y s2 a b t2 hs2 ha hb hp => ?_)
  split at hp
  · rename_i x1 x2 y1 y2 hx hy
    have bx := sx_b_ok hE hx
    have bz := sx_b_ok hE hy
    split at hp
    · have hb1 : 1 ≤ b.toInt := by omega
      have e := sx_irem (x := a) hb1
      have t := sx_tm (a := a.toInt) hb1
      refine ⟨sx_nz hb1, ?_⟩
      split at hp
      · have t1 := t.1 (by omega)
        exact sx_pic_ok rfl hp hl hs2 hE hC hH (z := (a - a / b * b).toInt) (by rw [e]; omega) (by rw [e]; omega) (sx_b_bel hy) (Or.inl ⟨rfl, _, rfl, rfl⟩)
      · have t1 := t.2
        exact sx_rng hl hs hE hC hH hs2 hp (by rw [e]; omega)
    · split at hp
      · exact ⟨sx_nzn (by omega), sx_any hl hs hE hC hH hs2 hp⟩
      · cases hp
  · cases hp
theorem sx_q_idiv (hl : sx_lr r g P.2.2.1 ls lv) (hs : sx_sr r g P.2.2.1 ss st) (hE : sx_in E r) (hC : sx_cr r g P.2.2.1 C h) (hH : sx_H P.1 P.2.1 P.2.2.1 h) (hp : sx_i P m .idiv (pc, ls, ss, E, nr, C) = some L) : sx_Q P r g nr E.length mods m pc .idiv lv st h L := by
  simp only [sx_i] at hp
  refine sx_ii_d (op := fun x y => x / y) (fun a b t2 lv h hb => by simp only [mj_st]; rw [if_neg hb]) hp hs (fun x y s2 a b t2 hs2 ha hb hp => ?_)
  split at hp
  · rename_i x1 x2 y1 y2 hx hy
    have bx := sx_b_ok hE hx
    have bz := sx_b_ok hE hy
    split at hp
    · have hb1 : 1 ≤ b.toInt := by omega
      have e := sx_idiv (x := a) hb1
      have t := sx_td (a := a.toInt) hb1
      exact ⟨sx_nz hb1, sx_rng hl hs hE hC hH hs2 hp (by rw [e]; omega)⟩
    · split at hp
      · exact ⟨sx_nzn (by omega), sx_any hl hs hE hC hH hs2 hp⟩
      · cases hp
  · cases hp
theorem sx_q_ineg (hl : sx_lr r g P.2.2.1 ls lv) (hs : sx_sr r g P.2.2.1 ss st) (hE : sx_in E r) (hC : sx_cr r g P.2.2.1 C h) (hH : sx_H P.1 P.2.1 P.2.2.1 h) (hp : sx_i P m .ineg (pc, ls, ss, E, nr, C) = some L) : sx_Q P r g nr E.length mods m pc .ineg lv st h L := by
  simp only [sx_i] at hp
  split at hp
  · obtain ⟨v, t2, rfl, ⟨a, rfl, ha⟩, hs2⟩ := sx_sr1 hs
    refine ⟨_, _, _, _, rfl, sx_px_ok rfl hp hl hs2 hE hC hH (fun q => ?_)⟩
    rw [sx_mulc_ev, ← ha] at q ⊢
    rw [sx_ineg ⟨by omega, by omega⟩]
    omega
  · cases hp
theorem sx_q_ladd (hl : sx_lr r g P.2.2.1 ls lv) (hs : sx_sr r g P.2.2.1 ss st) (hE : sx_in E r) (hC : sx_cr r g P.2.2.1 C h) (hH : sx_H P.1 P.2.1 P.2.2.1 h) (hp : sx_i P m .ladd (pc, ls, ss, E, nr, C) = some L) : sx_Q P r g nr E.length mods m pc .ladd lv st h L := by
  simp only [sx_i] at hp
  exact sx_LL_q (op := fun a b => .long (a + b)) hp hs (fun x y s2 a b t2 hs2 ha hb hp => ⟨rfl, sx_pX_ok rfl hp hl hs2 hE hC hH (fun q => by rw [sx_add_ev, ← ha, ← hb] at q ⊢; exact sx_ladd q)⟩)
theorem sx_q_lsub (hl : sx_lr r g P.2.2.1 ls lv) (hs : sx_sr r g P.2.2.1 ss st) (hE : sx_in E r) (hC : sx_cr r g P.2.2.1 C h) (hH : sx_H P.1 P.2.1 P.2.2.1 h) (hp : sx_i P m .lsub (pc, ls, ss, E, nr, C) = some L) : sx_Q P r g nr E.length mods m pc .lsub lv st h L := by
  simp only [sx_i] at hp
  exact sx_LL_q (op := fun a b => .long (a - b)) hp hs (fun x y s2 a b t2 hs2 ha hb hp => ⟨rfl, sx_pX_ok rfl hp hl hs2 hE hC hH (fun q => by rw [sx_sub_ev, ← ha, ← hb] at q ⊢; exact sx_lsub q)⟩)
theorem sx_q_lmul (hl : sx_lr r g P.2.2.1 ls lv) (hs : sx_sr r g P.2.2.1 ss st) (hE : sx_in E r) (hC : sx_cr r g P.2.2.1 C h) (hH : sx_H P.1 P.2.1 P.2.2.1 h) (hp : sx_i P m .lmul (pc, ls, ss, E, nr, C) = some L) : sx_Q P r g nr E.length mods m pc .lmul lv st h L := by
  simp only [sx_i] at hp
  refine sx_LL_q (op := fun a b => .long (a * b)) hp hs (fun x y s2 a b t2 hs2 ha hb hp => ⟨rfl, ?_⟩)
  split at hp
  · rename_i z hz
    have e := (sx_mul_ok hE hz).1 z rfl
    exact sx_pX_ok rfl hp hl hs2 hE hC hH (fun q => by rw [e, ← ha, ← hb] at q ⊢; exact sx_lmul q)
  · rename_i lo hi hz
    have e := (sx_mul_ok hE hz).2 lo hi rfl
    rw [← ha, ← hb] at e
    split at hp
    · rename_i hc
      exact sx_rng64 hl hs hE hC hH hs2 hp (by rw [sx_lmul ⟨by omega, by omega⟩]; exact e)
    · exact sx_any64 hl hs hE hC hH hs2 hp
  · cases hp
theorem sx_q_land (hl : sx_lr r g P.2.2.1 ls lv) (hs : sx_sr r g P.2.2.1 ss st) (hE : sx_in E r) (hC : sx_cr r g P.2.2.1 C h) (hH : sx_H P.1 P.2.1 P.2.2.1 h) (hp : sx_i P m .land (pc, ls, ss, E, nr, C) = some L) : sx_Q P r g nr E.length mods m pc .land lv st h L := by
  simp only [sx_i] at hp
  exact sx_LL_q (op := fun a b => .long (a &&& b)) hp hs (fun x y s2 a b t2 hs2 ha hb hp => ⟨rfl, sx_any64 hl hs hE hC hH hs2 hp⟩)
theorem sx_q_lor (hl : sx_lr r g P.2.2.1 ls lv) (hs : sx_sr r g P.2.2.1 ss st) (hE : sx_in E r) (hC : sx_cr r g P.2.2.1 C h) (hH : sx_H P.1 P.2.1 P.2.2.1 h) (hp : sx_i P m .lor (pc, ls, ss, E, nr, C) = some L) : sx_Q P r g nr E.length mods m pc .lor lv st h L := by
  simp only [sx_i] at hp
  exact sx_LL_q (op := fun a b => .long (a ||| b)) hp hs (fun x y s2 a b t2 hs2 ha hb hp => ⟨rfl, sx_any64 hl hs hE hC hH hs2 hp⟩)
theorem sx_q_lxor (hl : sx_lr r g P.2.2.1 ls lv) (hs : sx_sr r g P.2.2.1 ss st) (hE : sx_in E r) (hC : sx_cr r g P.2.2.1 C h) (hH : sx_H P.1 P.2.1 P.2.2.1 h) (hp : sx_i P m .lxor (pc, ls, ss, E, nr, C) = some L) : sx_Q P r g nr E.length mods m pc .lxor lv st h L := by
  simp only [sx_i] at hp
  exact sx_LL_q (op := fun a b => .long (a ^^^ b)) hp hs (fun x y s2 a b t2 hs2 ha hb hp => ⟨rfl, sx_any64 hl hs hE hC hH hs2 hp⟩)
theorem sx_q_ldiv (hl : sx_lr r g P.2.2.1 ls lv) (hs : sx_sr r g P.2.2.1 ss st) (hE : sx_in E r) (hC : sx_cr r g P.2.2.1 C h) (hH : sx_H P.1 P.2.1 P.2.2.1 h) (hp : sx_i P m .ldiv (pc, ls, ss, E, nr, C) = some L) : sx_Q P r g nr E.length mods m pc .ldiv lv st h L := by
  simp only [sx_i] at hp
  refine sx_LL_q (op := fun a b => .long (a / b)) hp hs (fun x y s2 a b t2 hs2 ha hb hp => ?_)
  split at hp
  · rename_i x1 x2 y1 y2 hx hy
    have bx := sx_b_ok hE hx
    have bz := sx_b_ok hE hy
    have step : b ≠ 0 → mj_st m pc .ldiv lv (.long b :: .long a :: t2) h = some (pc + 1, lv, .long (a / b) :: t2, h) := fun hb => by simp only [mj_st]; rw [if_neg hb]
    split at hp
    · have hb1 : 1 ≤ b.toInt := by omega
      have e := sx_ldiv (x := a) hb1
      have t := sx_td (a := a.toInt) hb1
      exact ⟨step (sx_nz64 (Or.inl hb1)), sx_rng64 hl hs hE hC hH hs2 hp (by rw [e]; omega)⟩
    · split at hp
      · exact ⟨step (sx_nz64 (Or.inr (by omega))), sx_any64 hl hs hE hC hH hs2 hp⟩
      · cases hp
  · cases hp
theorem sx_q_lrem (hl : sx_lr r g P.2.2.1 ls lv) (hs : sx_sr r g P.2.2.1 ss st) (hE : sx_in E r) (hC : sx_cr r g P.2.2.1 C h) (hH : sx_H P.1 P.2.1 P.2.2.1 h) (hp : sx_i P m .lrem (pc, ls, ss, E, nr, C) = some L) : sx_Q P r g nr E.length mods m pc .lrem lv st h L := by
  simp only [sx_i] at hp
  refine sx_LL_q (op := fun a b => .long (a - a / b * b)) hp hs (fun x y s2 a b t2 hs2 ha hb hp => ?_)
  split at hp
  · rename_i x1 x2 y1 y2 hx hy
    have bx := sx_b_ok hE hx
    have bz := sx_b_ok hE hy
    split at hp
    · have hb1 : 1 ≤ b.toInt := by omega
      have e1 := sx_ldiv (x := a) hb1
      have t := sx_tm (a := a.toInt) hb1
      have e0 : a.toInt.tmod b.toInt = a.toInt - a.toInt.tdiv b.toInt * b.toInt := by
        have := Int.tmod_add_mul_tdiv a.toInt b.toInt
        rw [Int.mul_comm] at this
        omega
      have ra := sx_r64 a
      have rb := sx_r64 b
      have hM : sx_Mn + sx_Mx = -1 := by decide
      have hM0 : sx_Mn ≤ 0 := by decide
      have d := sx_td (a := a.toInt) hb1
      have e2 : (a / b * b).toInt = a.toInt - a.toInt.tmod b.toInt := by
        rw [sx_lmul, e1]
        · omega
        · rw [e1]
          have tm := Int.tmod_add_mul_tdiv a.toInt b.toInt
          rw [Int.mul_comm] at tm
          have t2 := t.2
          rcases Int.le_total 0 a.toInt with hc | hc
          · have t1 := t.1 hc
            omega
          · have : a.toInt.tmod b.toInt ≤ 0 := by
              rw [← Int.neg_neg a.toInt, Int.neg_tmod]
              have := Int.tmod_nonneg (a := -a.toInt) b.toInt (by omega)
              omega
            have h3 : a.toInt ≤ a.toInt.tmod b.toInt := by
              have h4 : a.toInt.tdiv b.toInt * b.toInt ≤ 0 := Int.mul_nonpos_of_nonpos_of_nonneg (by omega) (by omega)
              omega
            omega
      have e : (a - a / b * b).toInt = a.toInt.tmod b.toInt := by
        rw [sx_lsub, e2]
        · omega
        · rw [e2]
          have := t.2
          omega
      refine ⟨by simp only [mj_st]; rw [if_neg (sx_nz64 (Or.inl hb1))], ?_⟩
      split at hp
      · have t1 := t.1 (by omega)
        exact sx_pic_ok rfl hp hl hs2 hE hC hH (z := (a - a / b * b).toInt) (by rw [e]; omega) (by rw [e]; omega) (sx_b_bel hy) (Or.inr ⟨rfl, _, rfl, rfl⟩)
      · have t1 := t.2
        exact sx_rng64 hl hs hE hC hH hs2 hp (by rw [e]; omega)
    · cases hp
  · cases hp
theorem sx_q_lshl (hl : sx_lr r g P.2.2.1 ls lv) (hs : sx_sr r g P.2.2.1 ss st) (hE : sx_in E r) (hC : sx_cr r g P.2.2.1 C h) (hH : sx_H P.1 P.2.1 P.2.2.1 h) (hp : sx_i P m .lshl (pc, ls, ss, E, nr, C) = some L) : sx_Q P r g nr E.length mods m pc .lshl lv st h L := by
  simp only [sx_i] at hp
  split at hp
  · obtain ⟨v, t1, rfl, ⟨b, rfl, hb⟩, hs1⟩ := sx_sr1 hs
    obtain ⟨v, t2, rfl, ⟨a, rfl, ha⟩, hs2⟩ := sx_sr1 hs1
    exact ⟨_, _, _, _, rfl, sx_any64 hl hs hE hC hH hs2 hp⟩
  · cases hp
theorem sx_q_lshr (hl : sx_lr r g P.2.2.1 ls lv) (hs : sx_sr r g P.2.2.1 ss st) (hE : sx_in E r) (hC : sx_cr r g P.2.2.1 C h) (hH : sx_H P.1 P.2.1 P.2.2.1 h) (hp : sx_i P m .lshr (pc, ls, ss, E, nr, C) = some L) : sx_Q P r g nr E.length mods m pc .lshr lv st h L := by
  simp only [sx_i] at hp
  split at hp
  · obtain ⟨v, t1, rfl, ⟨b, rfl, hb⟩, hs1⟩ := sx_sr1 hs
    obtain ⟨v, t2, rfl, ⟨a, rfl, ha⟩, hs2⟩ := sx_sr1 hs1
    exact ⟨_, _, _, _, rfl, sx_any64 hl hs hE hC hH hs2 hp⟩
  · cases hp
theorem sx_q_lneg (hl : sx_lr r g P.2.2.1 ls lv) (hs : sx_sr r g P.2.2.1 ss st) (hE : sx_in E r) (hC : sx_cr r g P.2.2.1 C h) (hH : sx_H P.1 P.2.1 P.2.2.1 h) (hp : sx_i P m .lneg (pc, ls, ss, E, nr, C) = some L) : sx_Q P r g nr E.length mods m pc .lneg lv st h L := by
  simp only [sx_i] at hp
  split at hp
  · obtain ⟨v, t2, rfl, ⟨a, rfl, ha⟩, hs2⟩ := sx_sr1 hs
    refine ⟨_, _, _, _, rfl, sx_pX_ok rfl hp hl hs2 hE hC hH (fun q => ?_)⟩
    rw [sx_mulc_ev, ← ha] at q ⊢
    rw [sx_lneg ⟨by omega, by omega⟩]
    omega
  · cases hp
theorem sx_q_lcmp (hl : sx_lr r g P.2.2.1 ls lv) (hs : sx_sr r g P.2.2.1 ss st) (hE : sx_in E r) (hC : sx_cr r g P.2.2.1 C h) (hH : sx_H P.1 P.2.1 P.2.2.1 h) (hp : sx_i P m .lcmp (pc, ls, ss, E, nr, C) = some L) : sx_Q P r g nr E.length mods m pc .lcmp lv st h L := by
  simp only [sx_i] at hp
  refine sx_LL_q (op := fun a b => .int (lg_cmp a b)) hp hs (fun x y s2 a b t2 hs2 ha hb hp => ⟨rfl, ?_⟩)
  cases hp
  exact sx_stay (ss := (3, sx_sub x y) :: s2) (st := .int (lg_cmp a b) :: t2) hl ⟨⟨_, rfl, by rw [sx_cmp_sg, sx_sub_ev, ha, hb]⟩, hs2⟩ hE hC hH
theorem sx_q_i2l (hl : sx_lr r g P.2.2.1 ls lv) (hs : sx_sr r g P.2.2.1 ss st) (hE : sx_in E r) (hC : sx_cr r g P.2.2.1 C h) (hH : sx_H P.1 P.2.1 P.2.2.1 h) (hp : sx_i P m .i2l (pc, ls, ss, E, nr, C) = some L) : sx_Q P r g nr E.length mods m pc .i2l lv st h L := by
  simp only [sx_i] at hp
  split at hp
  · rename_i x s2
    obtain ⟨v, t2, rfl, ⟨a, rfl, ha⟩, hs2⟩ := sx_sr1 hs
    cases hp
    exact ⟨_, _, _, _, rfl, sx_stay (ss := (1, x) :: s2) (st := .long a.toInt64 :: t2) hl ⟨⟨_, rfl, by rw [sx_i2l, ha]⟩, hs2⟩ hE hC hH⟩
  · cases hp
theorem sx_q_l2i (hl : sx_lr r g P.2.2.1 ls lv) (hs : sx_sr r g P.2.2.1 ss st) (hE : sx_in E r) (hC : sx_cr r g P.2.2.1 C h) (hH : sx_H P.1 P.2.1 P.2.2.1 h) (hp : sx_i P m .l2i (pc, ls, ss, E, nr, C) = some L) : sx_Q P r g nr E.length mods m pc .l2i lv st h L := by
  simp only [sx_i] at hp
  split at hp
  · obtain ⟨v, t2, rfl, ⟨a, rfl, ha⟩, hs2⟩ := sx_sr1 hs
    exact ⟨_, _, _, _, rfl, sx_px_ok rfl hp hl hs2 hE hC hH (fun q => by rw [← ha] at q ⊢; exact sx_l2i q)⟩
  · cases hp
theorem sx_q_dup (hl : sx_lr r g P.2.2.1 ls lv) (hs : sx_sr r g P.2.2.1 ss st) (hE : sx_in E r) (hC : sx_cr r g P.2.2.1 C h) (hH : sx_H P.1 P.2.1 P.2.2.1 h) (hp : sx_i P m .dup (pc, ls, ss, E, nr, C) = some L) : sx_Q P r g nr E.length mods m pc .dup lv st h L := by
  simp only [sx_i] at hp
  split at hp
  · rename_i k x s2
    split at hp
    · rename_i hk
      obtain ⟨v, t2, rfl, hv, hs2⟩ := sx_sr1 hs
      cases hp
      exact ⟨_, _, _, _, by simp only [mj_st]; rw [if_pos ((sx_vr_cat hv).2 hk)], sx_stay (ss := (k, x) :: (k, x) :: s2) (st := v :: v :: t2) hl ⟨hv, hv, hs2⟩ hE hC hH⟩
    · cases hp
  · cases hp
theorem sx_q_pop (hl : sx_lr r g P.2.2.1 ls lv) (hs : sx_sr r g P.2.2.1 ss st) (hE : sx_in E r) (hC : sx_cr r g P.2.2.1 C h) (hH : sx_H P.1 P.2.1 P.2.2.1 h) (hp : sx_i P m .pop (pc, ls, ss, E, nr, C) = some L) : sx_Q P r g nr E.length mods m pc .pop lv st h L := by
  simp only [sx_i] at hp
  split at hp
  · rename_i k x s2
    split at hp
    · rename_i hk
      obtain ⟨v, t2, rfl, hv, hs2⟩ := sx_sr1 hs
      cases hp
      exact ⟨_, _, _, _, by simp only [mj_st]; rw [if_pos ((sx_vr_cat hv).2 hk)], sx_stay hl hs2 hE hC hH⟩
    · cases hp
  · cases hp
theorem sx_q_pop2 (hl : sx_lr r g P.2.2.1 ls lv) (hs : sx_sr r g P.2.2.1 ss st) (hE : sx_in E r) (hC : sx_cr r g P.2.2.1 C h) (hH : sx_H P.1 P.2.1 P.2.2.1 h) (hp : sx_i P m .pop2 (pc, ls, ss, E, nr, C) = some L) : sx_Q P r g nr E.length mods m pc .pop2 lv st h L := by
  simp only [sx_i] at hp
  split at hp
  · obtain ⟨v, t2, rfl, hv, hs2⟩ := sx_sr1 hs
    cases hp
    exact ⟨_, _, _, _, by simp only [mj_st]; rw [if_pos ((sx_vr_cat hv).1 rfl)], sx_stay hl hs2 hE hC hH⟩
  · cases hp
theorem sx_q_dup2 (hl : sx_lr r g P.2.2.1 ls lv) (hs : sx_sr r g P.2.2.1 ss st) (hE : sx_in E r) (hC : sx_cr r g P.2.2.1 C h) (hH : sx_H P.1 P.2.1 P.2.2.1 h) (hp : sx_i P m .dup2 (pc, ls, ss, E, nr, C) = some L) : sx_Q P r g nr E.length mods m pc .dup2 lv st h L := by
  simp only [sx_i] at hp
  split at hp
  · rename_i k x q y s2
    split at hp
    · rename_i hk
      obtain ⟨v, t1, rfl, hv, hs1⟩ := sx_sr1 hs
      obtain ⟨w, t2, rfl, hw, hs2⟩ := sx_sr1 hs1
      cases hp
      exact ⟨_, _, _, _, by simp only [mj_st]; rw [if_pos ⟨(sx_vr_cat hv).2 hk.1, (sx_vr_cat hw).2 hk.2⟩], sx_stay (ss := (k, x) :: (q, y) :: (k, x) :: (q, y) :: s2) (st := v :: w :: v :: w :: t2) hl ⟨hv, hw, hv, hw, hs2⟩ hE hC hH⟩
    · cases hp
  · cases hp
end SXA
