/-! the machine's numbers as integers -/
theorem sx_r32 (z : Int32) : sx_mn ≤ z.toInt ∧ z.toInt ≤ sx_mx := by
  have h1 := Int32.le_toInt z
  have h2 := Int32.toInt_lt z
  unfold sx_mn sx_mx
  omega
theorem sx_r64 (z : Int64) : sx_Mn ≤ z.toInt ∧ z.toInt ≤ sx_Mx := by
  have h1 := Int64.le_toInt z
  have h2 := Int64.toInt_lt z
  unfold sx_Mn sx_Mx
  omega
theorem sx_bm {z : Int} (h : sx_mn ≤ z ∧ z ≤ sx_mx) : z.bmod (2 ^ 32) = z := by
  unfold sx_mn sx_mx at h
  rw [Int.bmod_eq_of_le] <;> omega
theorem sx_bM {z : Int} (h : sx_Mn ≤ z ∧ z ≤ sx_Mx) : z.bmod (2 ^ 64) = z := by
  unfold sx_Mn sx_Mx at h
  rw [Int.bmod_eq_of_le] <;> omega
theorem sx_iadd {x y : Int32} (h : sx_mn ≤ x.toInt + y.toInt ∧ x.toInt + y.toInt ≤ sx_mx) : (x + y).toInt = x.toInt + y.toInt := by
  rw [Int32.toInt_add]; exact sx_bm h
theorem sx_isub {x y : Int32} (h : sx_mn ≤ x.toInt - y.toInt ∧ x.toInt - y.toInt ≤ sx_mx) : (x - y).toInt = x.toInt - y.toInt := by
  rw [Int32.toInt_sub]; exact sx_bm h
theorem sx_imul {x y : Int32} (h : sx_mn ≤ x.toInt * y.toInt ∧ x.toInt * y.toInt ≤ sx_mx) : (x * y).toInt = x.toInt * y.toInt := by
  rw [Int32.toInt_mul]; exact sx_bm h
theorem sx_ineg {x : Int32} (h : sx_mn ≤ -x.toInt ∧ -x.toInt ≤ sx_mx) : (-x).toInt = -x.toInt := by
  rw [Int32.toInt_neg]; exact sx_bm h
theorem sx_ladd {x y : Int64} (h : sx_Mn ≤ x.toInt + y.toInt ∧ x.toInt + y.toInt ≤ sx_Mx) : (x + y).toInt = x.toInt + y.toInt := by
  rw [Int64.toInt_add]; exact sx_bM h
theorem sx_lsub {x y : Int64} (h : sx_Mn ≤ x.toInt - y.toInt ∧ x.toInt - y.toInt ≤ sx_Mx) : (x - y).toInt = x.toInt - y.toInt := by
  rw [Int64.toInt_sub]; exact sx_bM h
theorem sx_lmul {x y : Int64} (h : sx_Mn ≤ x.toInt * y.toInt ∧ x.toInt * y.toInt ≤ sx_Mx) : (x * y).toInt = x.toInt * y.toInt := by
  rw [Int64.toInt_mul]; exact sx_bM h
theorem sx_lneg {x : Int64} (h : sx_Mn ≤ -x.toInt ∧ -x.toInt ≤ sx_Mx) : (-x).toInt = -x.toInt := by
  rw [Int64.toInt_neg]; exact sx_bM h
theorem sx_oi {n : Int} (h : sx_mn ≤ n ∧ n ≤ sx_mx) : (Int32.ofInt n).toInt = n := by
  rw [Int32.toInt_ofInt]; exact sx_bm h
theorem sx_i2l (x : Int32) : x.toInt64.toInt = x.toInt := Int32.toInt_toInt64 x
theorem sx_l2i {x : Int64} (h : sx_mn ≤ x.toInt ∧ x.toInt ≤ sx_mx) : x.toInt32.toInt = x.toInt := by
  rw [Int64.toInt_toInt32]; exact sx_bm h
theorem sx_irem {x y : Int32} (hy : 1 ≤ y.toInt) : (x - x / y * y).toInt = x.toInt.tmod y.toInt := rem_toInt x y
theorem sx_tm {a b : Int} (hb : 1 ≤ b) : (0 ≤ a → 0 ≤ a.tmod b ∧ a.tmod b ≤ a ∧ a.tmod b ≤ b - 1) ∧ (1 - b ≤ a.tmod b ∧ a.tmod b ≤ b - 1) := by
  have h1 := tmod_bounds (a := a) (M := b) (by omega)
  refine ⟨fun ha => ?_, by omega⟩
  rw [Int.tmod_eq_emod_of_nonneg ha] at h1 ⊢
  have h2 := Int.emod_nonneg a (by omega : b ≠ 0)
  have h3 := Int.emod_add_mul_ediv a b
  have h4 := Int.mul_nonneg (by omega : 0 ≤ b) (Int.ediv_nonneg ha (by omega : 0 ≤ b))
  omega
theorem sx_td {a b : Int} (hb : 1 ≤ b) : min a 0 ≤ a.tdiv b ∧ a.tdiv b ≤ max a 0 := by
  rcases Int.le_total 0 a with h | h
  · rw [Int.tdiv_eq_ediv_of_nonneg h]
    have h1 := Int.ediv_nonneg h (by omega : 0 ≤ b)
    have h2 : a / b ≤ a := Int.ediv_le_self b h
    omega
  · have e : a.tdiv b = -((-a).tdiv b) := by rw [Int.neg_tdiv, Int.neg_neg]
    rw [e, Int.tdiv_eq_ediv_of_nonneg (by omega)]
    have h1 := Int.ediv_nonneg (by omega : 0 ≤ -a) (by omega : 0 ≤ b)
    have h2 : (-a) / b ≤ -a := Int.ediv_le_self b (by omega)
    omega
theorem sx_idiv {x y : Int32} (hy : 1 ≤ y.toInt) : (x / y).toInt = x.toInt.tdiv y.toInt := by
  have h := sx_td (a := x.toInt) hy
  have hr := sx_r32 x
  rw [Int32.toInt_div]
  apply sx_bm
  unfold sx_mn sx_mx at *
  omega
theorem sx_ldiv {x y : Int64} (hy : 1 ≤ y.toInt) : (x / y).toInt = x.toInt.tdiv y.toInt := by
  have h := sx_td (a := x.toInt) hy
  have hr := sx_r64 x
  rw [Int64.toInt_div]
  apply sx_bM
  unfold sx_Mn sx_Mx at *
  omega
theorem sx_bv {x : Int32} (h : 0 ≤ x.toInt) : x.toInt = (x.toBitVec.toNat : Int) ∧ x.toBitVec.toNat < 2 ^ 31 := by
  have h1 : x.toInt = x.toBitVec.toInt := rfl
  have h2 := BitVec.toInt_eq_toNat_cond x.toBitVec
  have h3 := x.toBitVec.isLt
  rw [h1, h2] at h ⊢
  split at h
  · rename_i hc
    rw [if_pos hc]
    exact ⟨rfl, by omega⟩
  · omega
theorem sx_vb {x : Int32} (h : x.toBitVec.toNat < 2 ^ 31) : x.toInt = (x.toBitVec.toNat : Int) := by
  have h1 : x.toInt = x.toBitVec.toInt := rfl
  rw [h1, BitVec.toInt_eq_toNat_cond, if_pos (by omega)]
theorem sx_iand {x y : Int32} (h : 0 ≤ x.toInt) : 0 ≤ (x &&& y).toInt ∧ (x &&& y).toInt ≤ x.toInt ∧ (0 ≤ y.toInt → (x &&& y).toInt ≤ y.toInt) := by
  obtain ⟨h1, h2⟩ := sx_bv h
  have e : (x &&& y).toBitVec.toNat = x.toBitVec.toNat &&& y.toBitVec.toNat := by rw [Int32.toBitVec_and, BitVec.toNat_and]
  have h3 : x.toBitVec.toNat &&& y.toBitVec.toNat ≤ x.toBitVec.toNat := Nat.and_le_left
  have h4 : (x &&& y).toInt = ((x &&& y).toBitVec.toNat : Int) := sx_vb (by omega)
  refine ⟨by omega, by omega, fun hy => ?_⟩
  have h5 := (sx_bv hy).1
  have h6 : x.toBitVec.toNat &&& y.toBitVec.toNat ≤ y.toBitVec.toNat := Nat.and_le_right
  omega
theorem sx_iand2 {x y : Int32} (h : 0 ≤ y.toInt) : 0 ≤ (x &&& y).toInt ∧ (x &&& y).toInt ≤ y.toInt := by
  have e : x &&& y = y &&& x := Int32.and_comm x y
  rw [e]
  exact ⟨(sx_iand h).1, (sx_iand h).2.1⟩
theorem sx_mskok : ∀ (k : Nat) (n : Int), k ≤ 30 → n ≤ sx_mx → ∃ j, j ≤ 31 ∧ sx_msk k n = 2 ^ j - 1 ∧ n ≤ sx_msk k n
  | 0, n, _, h => ⟨31, by omega, (by show (2147483647 : Int) = 2 ^ 31 - 1; decide), h⟩
  | k + 1, n, hk, h => by
    unfold sx_msk
    split
    · rename_i hc
      exact ⟨31 - (k + 1), by omega, rfl, hc⟩
    · exact sx_mskok k n (by omega) h
theorem sx_ibit {x y : Int32} {M : Int} {j : Nat} (hx : 0 ≤ x.toInt) (hy : 0 ≤ y.toInt) (hj : j ≤ 31) (hM : M = 2 ^ j - 1) (h1 : x.toInt ≤ M) (h2 : y.toInt ≤ M) : (0 ≤ (x ||| y).toInt ∧ (x ||| y).toInt ≤ M) ∧ (0 ≤ (x ^^^ y).toInt ∧ (x ^^^ y).toInt ≤ M) := by
  obtain ⟨a1, a2⟩ := sx_bv hx
  obtain ⟨b1, b2⟩ := sx_bv hy
  have hp : ((2 ^ j : Nat) : Int) = (2 : Int) ^ j := by simp
  have c1 : x.toBitVec.toNat < 2 ^ j := by omega
  have c2 : y.toBitVec.toNat < 2 ^ j := by omega
  have c3 : 2 ^ j ≤ 2 ^ 31 := Nat.pow_le_pow_right (by decide) hj
  have e1 : (x ||| y).toBitVec.toNat = x.toBitVec.toNat ||| y.toBitVec.toNat := by rw [Int32.toBitVec_or, BitVec.toNat_or]
  have e2 : (x ^^^ y).toBitVec.toNat = x.toBitVec.toNat ^^^ y.toBitVec.toNat := by rw [Int32.toBitVec_xor, BitVec.toNat_xor]
  have d1 := Nat.or_lt_two_pow c1 c2
  have d2 := Nat.xor_lt_two_pow c1 c2
  have f1 := sx_vb (x := x ||| y) (by omega)
  have f2 := sx_vb (x := x ^^^ y) (by omega)
  omega
theorem sx_s31 : ∀ n, n < 31 → ((nI n &&& 31).toBitVec.smod 32).toNat = n := by decide +kernel
theorem sx_ishl {x y : Int32} (hx : 0 ≤ x.toInt) (hy : 0 ≤ y.toInt) (hy2 : y.toInt ≤ 30) (h : x.toInt * 2 ^ y.toInt.toNat ≤ sx_mx) : (x <<< (y &&& 31)).toInt = x.toInt * 2 ^ y.toInt.toNat := by
  obtain ⟨a1, a2⟩ := sx_bv hx
  have e : y = nI y.toInt.toNat := by
    apply Int32.toInt_inj.mp
    rw [nI_toInt (by omega)]
    omega
  have hs := sx_s31 y.toInt.toNat (by omega)
  rw [← e] at hs
  have h1 := pk_shl x (y &&& 31) _ hs
  have hp : ((2 ^ y.toInt.toNat : Nat) : Int) = (2 : Int) ^ y.toInt.toNat := by simp
  have h2 : ((x.toBitVec.toNat * 2 ^ y.toInt.toNat : Nat) : Int) ≤ 2147483647 := by
    rw [Int.natCast_mul, hp, ← a1]
    exact h
  have h3 : x.toBitVec.toNat * 2 ^ y.toInt.toNat < 2 ^ 31 := by omega
  rw [Nat.mod_eq_of_lt (by omega)] at h1
  rw [sx_vb (by rw [h1]; exact h3), h1, a1, Int.natCast_mul, hp]
theorem sx_ishr (x y : Int32) : min x.toInt 0 ≤ (x >>> (y &&& 31)).toInt ∧ (x >>> (y &&& 31)).toInt ≤ max x.toInt 0 := by
  rw [pk_shr x (y &&& 31) _ rfl, Int.shiftRight_eq_div_pow]
  generalize ((y &&& 31).toBitVec.smod 32).toNat = k
  have hp : (1 : Int) ≤ ((2 ^ k : Nat) : Int) := by
    have := Nat.pos_of_ne_zero (Nat.ne_of_gt (Nat.two_pow_pos k))
    omega
  rcases Int.le_total 0 x.toInt with h | h
  · have h1 := Int.ediv_nonneg h (by omega : (0 : Int) ≤ ((2 ^ k : Nat) : Int))
    have h2 := Int.ediv_le_self ((2 ^ k : Nat) : Int) h
    omega
  · have h1 : x.toInt / ((2 ^ k : Nat) : Int) ≤ 0 := by
      have := Int.ediv_le_ediv (by omega : (0 : Int) < ((2 ^ k : Nat) : Int)) h
      rw [Int.zero_ediv] at this
      exact this
    have h2 : x.toInt ≤ x.toInt / ((2 ^ k : Nat) : Int) := by
      rw [Int.le_ediv_iff_mul_le (by omega)]
      have h3 : (x.toInt) * ((2 ^ k : Nat) : Int) ≤ x.toInt * 1 := Int.mul_le_mul_of_nonpos_left h hp
      omega
    omega
