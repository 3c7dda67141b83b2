/-! -/
/-! -/
/-! long numbers -/
abbrev wl_L (x : Int) : Value := .long (Int64.ofInt x)
def wl_q (x : Int) : Prop := -9000000000000000000 ≤ x ∧ x ≤ 9000000000000000000
theorem wl_qi {x : Int} (h : wl_q x) : (Int64.ofInt x).toInt = x := by
  unfold wl_q at h
  have e1 : Int64.minValue.toInt = -9223372036854775808 := by decide
  have e2 : Int64.maxValue.toInt = 9223372036854775807 := by decide
  exact Int64.toInt_ofInt_of_le (by omega) (by omega)
section LNG
variable {nn d m pc : Nat} {lv : mj_L} {st : List Value} {h : mj_H} {Q : Option Value → mj_H → Prop}
theorem wl_i2g {x : Int} (hi : mj_ins m pc = some .i2l) (hx : wp_r x) (hr : wl_R nn d m (pc + 1) lv (wl_L x :: st) h Q) : wl_R nn d m pc lv (wp_i x :: st) h Q := by
  refine wl_s (pc' := pc + 1) (lv' := lv) (st' := wl_L x :: st) (h' := h) hi rfl rfl ?_ hr
  show some (pc + 1, lv, Value.long (Int32.ofInt x).toInt64 :: st, h) = _
  rw [← Int64.ofInt_int32ToInt, wp_ti hx]
theorem wl_l2g {x : Int} (hi : mj_ins m pc = some .l2i) (hx : wl_q x) (hr : wl_R nn d m (pc + 1) lv (wp_i x :: st) h Q) : wl_R nn d m pc lv (wl_L x :: st) h Q := by
  refine wl_s (pc' := pc + 1) (lv' := lv) (st' := wp_i x :: st) (h' := h) hi rfl rfl ?_ hr
  show some (pc + 1, lv, Value.int (Int64.ofInt x).toInt32 :: st, h) = _
  rw [← Int32.ofInt_int64ToInt, wl_qi hx]
theorem wl_ladd {x y : Int} (hi : mj_ins m pc = some .ladd) (hr : wl_R nn d m (pc + 1) lv (wl_L (x + y) :: st) h Q) : wl_R nn d m pc lv (wl_L y :: wl_L x :: st) h Q := by
  refine wl_s hi rfl rfl rfl ?_
  show wl_R nn d m (pc + 1) lv (.long (Int64.ofInt x + Int64.ofInt y) :: st) h Q
  rw [← Int64.ofInt_add]
  exact hr
theorem wl_lsub {x y : Int} (hi : mj_ins m pc = some .lsub) (hr : wl_R nn d m (pc + 1) lv (wl_L (x - y) :: st) h Q) : wl_R nn d m pc lv (wl_L y :: wl_L x :: st) h Q := by
  refine wl_s hi rfl rfl rfl ?_
  show wl_R nn d m (pc + 1) lv (.long (Int64.ofInt x - Int64.ofInt y) :: st) h Q
  rw [← Int64.ofInt_sub]
  exact hr
theorem wl_lmul {x y : Int} (hi : mj_ins m pc = some .lmul) (hr : wl_R nn d m (pc + 1) lv (wl_L (x * y) :: st) h Q) : wl_R nn d m pc lv (wl_L y :: wl_L x :: st) h Q := by
  refine wl_s hi rfl rfl rfl ?_
  show wl_R nn d m (pc + 1) lv (.long (Int64.ofInt x * Int64.ofInt y) :: st) h Q
  rw [← Int64.ofInt_mul]
  exact hr
theorem wl_lneg {x : Int} (hi : mj_ins m pc = some .lneg) (hr : wl_R nn d m (pc + 1) lv (wl_L (-x) :: st) h Q) : wl_R nn d m pc lv (wl_L x :: st) h Q := by
  refine wl_s hi rfl rfl rfl ?_
  show wl_R nn d m (pc + 1) lv (.long (-Int64.ofInt x) :: st) h Q
  rw [← Int64.ofInt_neg]
  exact hr
theorem wl_land {x y : Int} (hi : mj_ins m pc = some .land) (hx : x = 0 ∨ x = 1) (hy : y = 0 ∨ y = 1) (hr : wl_R nn d m (pc + 1) lv (wl_L (min x y) :: st) h Q) : wl_R nn d m pc lv (wl_L y :: wl_L x :: st) h Q := by
  refine wl_s hi rfl rfl rfl ?_
  show wl_R nn d m (pc + 1) lv (.long (Int64.ofInt x &&& Int64.ofInt y) :: st) h Q
  have e : Int64.ofInt x &&& Int64.ofInt y = Int64.ofInt (min x y) := by
    rcases hx with rfl | rfl <;> rcases hy with rfl | rfl <;> decide
  rw [e]
  exact hr
theorem wl_lor1 {x y : Int} (hi : mj_ins m pc = some .lor) (hx : x = 0 ∨ x = 1) (hy : y = 0 ∨ y = 1) (hr : wl_R nn d m (pc + 1) lv (wl_L (max x y) :: st) h Q) : wl_R nn d m pc lv (wl_L y :: wl_L x :: st) h Q := by
  refine wl_s hi rfl rfl rfl ?_
  show wl_R nn d m (pc + 1) lv (.long (Int64.ofInt x ||| Int64.ofInt y) :: st) h Q
  have e : Int64.ofInt x ||| Int64.ofInt y = Int64.ofInt (max x y) := by
    rcases hx with rfl | rfl <;> rcases hy with rfl | rfl <;> decide
  rw [e]
  exact hr
theorem wl_lcm {x y : Int} (hi : mj_ins m pc = some .lcmp) (hx : wl_q x) (hy : wl_q y) (hr : ∀ z : Int, wp_r z → (z < 0 ↔ x < y) ∧ (z = 0 ↔ x = y) → wl_R nn d m (pc + 1) lv (wp_i z :: st) h Q) : wl_R nn d m pc lv (wl_L y :: wl_L x :: st) h Q := by
  have e := sx_cmp_sg (Int64.ofInt x) (Int64.ofInt y)
  rw [wl_qi hx, wl_qi hy] at e
  have k : ((x - y).sign < 0 ↔ x < y) ∧ ((x - y).sign = 0 ↔ x = y) ∧ wp_r (x - y).sign := by
    have h1 : (x - y).sign = 1 ∨ (x - y).sign = 0 ∨ (x - y).sign = -1 := by
      rcases Int.lt_trichotomy (x - y) 0 with c | c | c
      · exact Or.inr (Or.inr (Int.sign_eq_neg_one_of_neg c))
      · rw [c]; exact Or.inr (Or.inl rfl)
      · exact Or.inl (Int.sign_eq_one_of_pos c)
    have h2 : (x - y).sign < 0 ↔ x - y < 0 := by rw [Int.sign_neg_iff]
    have h3 : (x - y).sign = 0 ↔ x - y = 0 := Int.sign_eq_zero_iff_zero
    omega
  refine wl_s hi rfl rfl rfl ?_
  show wl_R nn d m (pc + 1) lv (.int (lg_cmp (Int64.ofInt x) (Int64.ofInt y)) :: st) h Q
  rw [wp_iz, e]
  exact hr _ k.2.2 ⟨k.1, k.2.1⟩
theorem wl_ldv {x y : Int} (hi : mj_ins m pc = some .ldiv) (hx : -4000000000000 ≤ x ∧ x ≤ 4000000000000) (hy : -4000000000000 ≤ y ∧ y ≤ 4000000000000) (h0 : ¬ y = 0) (hr : wl_R nn d m (pc + 1) lv (wl_L (x.tdiv y) :: st) h Q) : wl_R nn d m pc lv (wl_L y :: wl_L x :: st) h Q := by
  have qx : wl_q x := ⟨by omega, by omega⟩
  have qy : wl_q y := ⟨by omega, by omega⟩
  have n0 : ¬ Int64.ofInt y = 0 := fun e => h0 (by rw [← wl_qi qy, e]; rfl)
  have hb : (x.tdiv y).natAbs ≤ x.natAbs := by rw [Int.natAbs_tdiv]; exact Nat.div_le_self _ _
  have qd : wl_q (x.tdiv y) := ⟨by omega, by omega⟩
  have e : Int64.ofInt x / Int64.ofInt y = Int64.ofInt (x.tdiv y) := by
    refine Int64.toInt_inj.mp ?_
    rw [Int64.toInt_div, wl_qi qx, wl_qi qy, wl_qi qd]
    unfold wl_q at qd
    exact Int.bmod_eq_of_le (by omega) (by omega)
  refine wl_s (pc' := pc + 1) (lv' := lv) (st' := wl_L (x.tdiv y) :: st) (h' := h) hi rfl rfl ?_ hr
  show (if Int64.ofInt y = 0 then none else some (pc + 1, lv, Value.long (Int64.ofInt x / Int64.ofInt y) :: st, h)) = _
  rw [if_neg n0, e]
theorem wl_lk {x : Nat} {n : Int} {z : Int64} (hi : mj_ins m pc = some (.ldc2_w x)) (hc : mj_con m x = some (.long z)) (hz : z = Int64.ofInt n) (hr : wl_R nn d m (pc + 3) lv (wl_L n :: st) h Q) : wl_R nn d m pc lv st h Q := by
  subst hz
  refine wl_s (pc' := pc + 3) (lv' := lv) (st' := wl_L n :: st) (h' := h) hi rfl rfl ?_ hr
  simp only [mj_st, hc]
  rfl
theorem wl_lmx {x c0 : Nat} {a b : Int} (hi : mj_ins m pc = some (.invokestatic x)) (hc : mj_cal m x = some (13, c0, 0)) (hq : mj_cat st ≤ 8) (ha : wl_q a) (hb : wl_q b) (hr : wl_R nn d m (pc + 3) lv (wl_L (max a b) :: st) h Q) : wl_R nn d m pc lv (wl_L b :: wl_L a :: st) h Q := by
  have hcall : mj_call m (.invokestatic x) (wl_L b :: wl_L a :: st) h = none := by
    simp only [mj_call, hc]
  refine wl_s (pc' := pc + 3) (lv' := lv) (st' := wl_L (max a b) :: st) (h' := h) hi rfl hcall ?_ hr
  simp only [mj_st, hc]
  rw [if_pos hq]
  have e : (Int64.ofInt b < Int64.ofInt a) ↔ b < a := by rw [Int64.lt_iff_toInt_lt, wl_qi ha, wl_qi hb]
  by_cases q : b < a
  · rw [if_pos (e.mpr q), show max a b = a by omega]
  · rw [if_neg (fun z => q (e.mp z)), show max a b = b by omega]
theorem wl_lmn {x c0 : Nat} {a b : Int} (hi : mj_ins m pc = some (.invokestatic x)) (hc : mj_cal m x = some (14, c0, 0)) (hq : mj_cat st ≤ 8) (ha : wl_q a) (hb : wl_q b) (hr : wl_R nn d m (pc + 3) lv (wl_L (min a b) :: st) h Q) : wl_R nn d m pc lv (wl_L b :: wl_L a :: st) h Q := by
  have hcall : mj_call m (.invokestatic x) (wl_L b :: wl_L a :: st) h = none := by
    simp only [mj_call, hc]
  refine wl_s (pc' := pc + 3) (lv' := lv) (st' := wl_L (min a b) :: st) (h' := h) hi rfl hcall ?_ hr
  simp only [mj_st, hc]
  rw [if_pos hq]
  have e : (Int64.ofInt b < Int64.ofInt a) ↔ b < a := by rw [Int64.lt_iff_toInt_lt, wl_qi ha, wl_qi hb]
  by_cases q : b < a
  · rw [if_pos (e.mpr q), show min a b = b by omega]
  · rw [if_neg (fun z => q (e.mp z)), show min a b = a by omega]
end LNG
/-! the class's stack of values -/
def clp (v : Int) : Int := max (-1000000) (min 1000000 v)
theorem clp_r (v : Int) : -1000000 ≤ clp v ∧ clp v ≤ 1000000 := by
  unfold clp
  omega
def stk (s : sg_) : List Int → Prop
  | [] => True
  | x :: r => s 10 (r.length : Int) = x ∧ stk s r
theorem stk_up {s : sg_} {j y : Int} : ∀ {r : List Int}, (r.length : Int) ≤ j → stk s r → stk (up s 10 j y) r
  | [], _, _ => trivial
  | x :: r, h, e => by
    have h : ((r.length + 1 : Nat) : Int) ≤ j := h
    exact ⟨by rw [up_k (by omega)]; exact e.1, stk_up (by omega) e.2⟩
theorem stk_e {s s2 : sg_} (he : ∀ k, s2 10 k = s 10 k) : ∀ {r : List Int}, stk s r → stk s2 r
  | [], _ => trivial
  | x :: r, e => ⟨(he _).trans e.1, stk_e he e.2⟩
theorem stk_ap {s : sg_} : ∀ {xs r : List Int}, stk s (xs ++ r) → stk s r
  | [], _, e => e
  | _ :: _, _, e => stk_ap e.2
def stb (st : List Int) : Prop := ∀ x ∈ st, -1000000 ≤ x ∧ x ≤ 1000000
