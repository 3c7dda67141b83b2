/-! -/
set_option maxRecDepth 100000 in
theorem jk_180 : mj_cls 180 = 11 := by decide +kernel
set_option maxRecDepth 100000 in
theorem jk_181 : mj_cls 181 = 11 := by decide +kernel
set_option maxRecDepth 100000 in
theorem jk_182 : mj_cls 182 = 11 := by decide +kernel
set_option maxRecDepth 100000 in
theorem jcon_178_113 : mj_con 178 113 = some (.long 1152921504606846976) := by decide +kernel
set_option maxRecDepth 100000 in
theorem jcon_178_105 : mj_con 178 105 = some (.int 99999) := by decide +kernel
/-! the reference's tape: tokens, exactly; laid by program (wp_rtok.py) -/
theorem lo_8 : (Int32.ofInt 8).toInt64 &&& 63 = (8 : Int64) := by decide
theorem lo_48 : (Int32.ofInt 48).toInt64 &&& 63 = (48 : Int64) := by decide
theorem lo_sh {x : Nat} (hx : x < 2 ^ 48) {b : Nat} (hb : b < 256) : (Int64.ofNat x <<< (8 : Int64)) ||| Int64.ofNat b = Int64.ofNat (256 * x + b) := by
  apply Int64.toBitVec_inj.mp
  apply BitVec.eq_of_toNat_eq
  rw [Int64.toBitVec_or, BitVec.toNat_or, Int64.toBitVec_shiftLeft, Int64.toBitVec_ofNat', Int64.toBitVec_ofNat', Int64.toBitVec_ofNat']
  have e8 : (BitVec.smod (8 : Int64).toBitVec 64).toNat = 8 := by decide
  rw [BitVec.shiftLeft_eq', e8, BitVec.toNat_shiftLeft, BitVec.toNat_ofNat, BitVec.toNat_ofNat, BitVec.toNat_ofNat]
  rw [Nat.mod_eq_of_lt (show x < 2 ^ 64 by omega), Nat.mod_eq_of_lt (show b < 2 ^ 64 by omega), Nat.shiftLeft_eq, Nat.mod_eq_of_lt (show x * 2 ^ 8 < 2 ^ 64 by omega), Nat.mod_eq_of_lt (show 256 * x + b < 2 ^ 64 by omega)]
  rw [← Nat.shiftLeft_eq, ← Nat.shiftLeft_add_eq_or_of_lt (show b < 2 ^ 8 by omega), Nat.shiftLeft_eq]
  omega
theorem lo_ht {x : Nat} (hx : x < 2 ^ 62) : (Int64.ofNat x >>> (48 : Int64)) = Int64.ofNat (x / 2 ^ 48) := by
  apply Int64.toBitVec_inj.mp
  apply BitVec.eq_of_toNat_eq
  rw [Int64.toBitVec_shiftRight, Int64.toBitVec_ofNat', Int64.toBitVec_ofNat']
  have e8 : (BitVec.smod (48 : Int64).toBitVec 64).toNat = 48 := by decide
  rw [BitVec.sshiftRight', e8, BitVec.sshiftRight_eq_of_msb_false, BitVec.toNat_ushiftRight, BitVec.toNat_ofNat, BitVec.toNat_ofNat, Nat.mod_eq_of_lt (show x < 2 ^ 64 by omega), Nat.mod_eq_of_lt (show x / 2 ^ 48 < 2 ^ 64 by omega), Nat.shiftRight_eq_div_pow]
  rw [BitVec.msb_eq_decide, BitVec.toNat_ofNat, Nat.mod_eq_of_lt (show x < 2 ^ 64 by omega)]
  exact decide_eq_false (by omega)
theorem lo_inj {x y : Nat} (hx : x < 2 ^ 62) (hy : y < 2 ^ 62) : Int64.ofNat x = Int64.ofNat y ↔ x = y := by
  constructor
  · intro h
    have h2 : (Int64.ofNat x).toBitVec.toNat = (Int64.ofNat y).toBitVec.toNat := by rw [h]
    rw [Int64.toBitVec_ofNat', Int64.toBitVec_ofNat', BitVec.toNat_ofNat, BitVec.toNat_ofNat, Nat.mod_eq_of_lt (show x < 2 ^ 64 by omega), Nat.mod_eq_of_lt (show y < 2 ^ 64 by omega)] at h2
    exact h2
  · intro h
    rw [h]
theorem lo_i {b : Int} (hb : 0 ≤ b ∧ b ≤ 255) : (Int32.ofInt b).toInt64 = Int64.ofNat b.toNat := by
  apply Int64.toInt_inj.mp
  rw [Int32.toInt_toInt64, wp_ti (by omega), Int64.toInt_ofNat_of_lt (by omega)]
  omega
theorem lg_0 {x y : Int64} : lg_cmp x y = 0 ↔ x = y := by
  unfold lg_cmp
  constructor
  · intro h
    split at h
    · cases h
    · split at h
      · assumption
      · cases h
  · intro h
    subst h
    simp
/-- a word, packed -/
def wd1 (x : Nat) (c : Int) : Nat := if x < 2 ^ 48 then 256 * x + c.toNat else 2 ^ 60
def wd (l : List Int) : Nat := l.foldl wd1 0
theorem wd_b : ∀ (l : List Int) (x : Nat), x ≤ 2 ^ 60 → (∀ c ∈ l, 0 ≤ c ∧ c ≤ 255) → l.foldl wd1 x ≤ 2 ^ 60
  | [], x, h, _ => h
  | c :: l, x, h, hl => by
    refine wd_b l _ ?_ (fun c hc => hl c (List.mem_cons_of_mem _ hc))
    have := hl c List.mem_cons_self
    unfold wd1
    split <;> omega
theorem wd_s (l : List Int) (c : Int) : wd (l ++ [c]) = wd1 (wd l) c := by
  unfold wd
  rw [List.foldl_append]
  rfl
theorem tk_ls_s {B : Int → Int} {q p : Int} (h : q ≤ p) : tk_ls B q (p + 1) = tk_ls B q p ++ [B p] := by
  unfold tk_ls
  rw [show (p + 1 - q).toNat = (p - q).toNat + 1 by omega, List.range_succ, List.map_append]
  show _ = _ ++ [B p]
  rw [List.map_cons, List.map_nil, show q + ((p - q).toNat : Int) = p by omega]
theorem tk_ls_0 {B : Int → Int} {q : Int} : tk_ls B q q = [] := by
  unfold tk_ls
  rw [Int.sub_self]
  rfl
theorem tk_ls_m {B : Int → Int} {q p : Int} {C : Int → Prop} (h : ∀ j, q ≤ j → j < p → C (B j)) : ∀ c ∈ tk_ls B q p, C c := by
  intro c hc
  unfold tk_ls at hc
  obtain ⟨i, hi, rfl⟩ := List.mem_map.mp hc
  have := List.mem_range.mp hi
  exact h _ (by omega) (by omega)
/-- what the reference's token is, of the class's -/
def sg (v : Int) : Int := if v = 108 then 4 else if v = 103 then 5 else v
def tkr (k v t n : Int) (w : Nat) : Prop := (k = 3 ∧ t = 0) ∨ (k = 0 ∧ t = 2 ∧ ∃ l : List Int, (∀ c ∈ l, tk_l c) ∧ v = wix l tk_W 0 ∧ w = wd l) ∨ (k = 1 ∧ t = 1 ∧ (0 ≤ n ∧ n ≤ 999999) ∧ v = min 10000 n) ∨ (k = 2 ∧ t = sg v ∧ 10 ≤ v) ∨ (k = 4 ∧ t = 3)
/-! the reference's own cell -/
def rT (h0 h : mj_H) (fs0 bl : List Value) (L p q t n : Int) (w : Nat) : Prop := (∃ fs, h[138]? = some (11, fs) ∧ fs.length = 31 ∧ fs[7]? = some (wp_i p) ∧ fs[8]? = some (wp_i q) ∧ fs[9]? = some (wp_i t) ∧ fs[10]? = some (wp_i n) ∧ fs[11]? = some (.long (Int64.ofNat w)) ∧ fs[3]? = some (.ref 142) ∧ fs[4]? = some (wp_i L) ∧ ∀ j, ¬ (7 ≤ j ∧ j ≤ 11) → fs[j]? = fs0[j]?) ∧ h[142]? = some (1000, bl) ∧ ∀ a, a ≠ 138 → h[a]? = h0[a]?
section WRT
variable {nn d m pc : Nat} {lv : mj_L} {st : List Value} {h h0 : mj_H} {Q : Option Value → mj_H → Prop} {fs0 bl : List Value} {L p q t n : Int} {w : Nat}
theorem rt_g7 {x : Nat} {ty : FieldType} {b : Bool} (V : rT h0 h fs0 bl L p q t n w) (hi : mj_ins m pc = some (.getfield x)) (hf : mj_fld m x = some (11, 7, ty, b)) (hr : wl_R nn d m (pc + 3) lv (wp_i p :: st) h Q) : wl_R nn d m pc lv (.ref 138 :: st) h Q := by
  obtain ⟨⟨fs, e0, e1, e2, e3, e4, e5, e6, e7, e8, e9⟩, -⟩ := V
  exact wl_gf hi hf e0 e2 hr
theorem rt_g8 {x : Nat} {ty : FieldType} {b : Bool} (V : rT h0 h fs0 bl L p q t n w) (hi : mj_ins m pc = some (.getfield x)) (hf : mj_fld m x = some (11, 8, ty, b)) (hr : wl_R nn d m (pc + 3) lv (wp_i q :: st) h Q) : wl_R nn d m pc lv (.ref 138 :: st) h Q := by
  obtain ⟨⟨fs, e0, e1, e2, e3, e4, e5, e6, e7, e8, e9⟩, -⟩ := V
  exact wl_gf hi hf e0 e3 hr
theorem rt_g9 {x : Nat} {ty : FieldType} {b : Bool} (V : rT h0 h fs0 bl L p q t n w) (hi : mj_ins m pc = some (.getfield x)) (hf : mj_fld m x = some (11, 9, ty, b)) (hr : wl_R nn d m (pc + 3) lv (wp_i t :: st) h Q) : wl_R nn d m pc lv (.ref 138 :: st) h Q := by
  obtain ⟨⟨fs, e0, e1, e2, e3, e4, e5, e6, e7, e8, e9⟩, -⟩ := V
  exact wl_gf hi hf e0 e4 hr
theorem rt_g10 {x : Nat} {ty : FieldType} {b : Bool} (V : rT h0 h fs0 bl L p q t n w) (hi : mj_ins m pc = some (.getfield x)) (hf : mj_fld m x = some (11, 10, ty, b)) (hr : wl_R nn d m (pc + 3) lv (wp_i n :: st) h Q) : wl_R nn d m pc lv (.ref 138 :: st) h Q := by
  obtain ⟨⟨fs, e0, e1, e2, e3, e4, e5, e6, e7, e8, e9⟩, -⟩ := V
  exact wl_gf hi hf e0 e5 hr
theorem rt_g11 {x : Nat} {ty : FieldType} {b : Bool} (V : rT h0 h fs0 bl L p q t n w) (hi : mj_ins m pc = some (.getfield x)) (hf : mj_fld m x = some (11, 11, ty, b)) (hr : wl_R nn d m (pc + 3) lv (.long (Int64.ofNat w) :: st) h Q) : wl_R nn d m pc lv (.ref 138 :: st) h Q := by
  obtain ⟨⟨fs, e0, e1, e2, e3, e4, e5, e6, e7, e8, e9⟩, -⟩ := V
  exact wl_gf hi hf e0 e6 hr
theorem rt_g3 {x : Nat} {ty : FieldType} {b : Bool} (V : rT h0 h fs0 bl L p q t n w) (hi : mj_ins m pc = some (.getfield x)) (hf : mj_fld m x = some (11, 3, ty, b)) (hr : wl_R nn d m (pc + 3) lv (.ref 142 :: st) h Q) : wl_R nn d m pc lv (.ref 138 :: st) h Q := by
  obtain ⟨⟨fs, e0, e1, e2, e3, e4, e5, e6, e7, e8, e9⟩, -⟩ := V
  exact wl_gf hi hf e0 e7 hr
theorem rt_g4 {x : Nat} {ty : FieldType} {b : Bool} (V : rT h0 h fs0 bl L p q t n w) (hi : mj_ins m pc = some (.getfield x)) (hf : mj_fld m x = some (11, 4, ty, b)) (hr : wl_R nn d m (pc + 3) lv (wp_i L :: st) h Q) : wl_R nn d m pc lv (.ref 138 :: st) h Q := by
  obtain ⟨⟨fs, e0, e1, e2, e3, e4, e5, e6, e7, e8, e9⟩, -⟩ := V
  exact wl_gf hi hf e0 e8 hr
theorem rt_p7 {x : Nat} {y : Int} (V : rT h0 h fs0 bl L p q t n w) (hi : mj_ins m pc = some (.putfield x)) (hf : mj_fld m x = some (11, 7, .int, true)) (hr : ∀ h, rT h0 h fs0 bl L y q t n w → wl_R nn d m (pc + 3) lv st h Q) : wl_R nn d m pc lv (wp_i y :: .ref 138 :: st) h Q := by
  obtain ⟨⟨fs, e0, e1, e2, e3, e4, e5, e6, e7, e8, e9⟩, f1, f2⟩ := V
  refine wl_pf hi hf e0 (by decide) (by omega) rfl rfl (hr _ ⟨⟨fs.set 7 (wp_i y), List.getElem?_set_self (fd_lt e0), by rw [List.length_set]; exact e1, List.getElem?_set_self (by omega), by rw [List.getElem?_set_ne (by decide)]; exact e3, by rw [List.getElem?_set_ne (by decide)]; exact e4, by rw [List.getElem?_set_ne (by decide)]; exact e5, by rw [List.getElem?_set_ne (by decide)]; exact e6, by rw [List.getElem?_set_ne (by decide)]; exact e7, by rw [List.getElem?_set_ne (by decide)]; exact e8, fun j hj => by rw [List.getElem?_set_ne (by omega)]; exact e9 j hj⟩, by rw [List.getElem?_set_ne (by decide)]; exact f1, fun a ha => by rw [List.getElem?_set_ne (Ne.symm ha)]; exact f2 a ha⟩)
theorem rt_p8 {x : Nat} {y : Int} (V : rT h0 h fs0 bl L p q t n w) (hi : mj_ins m pc = some (.putfield x)) (hf : mj_fld m x = some (11, 8, .int, true)) (hr : ∀ h, rT h0 h fs0 bl L p y t n w → wl_R nn d m (pc + 3) lv st h Q) : wl_R nn d m pc lv (wp_i y :: .ref 138 :: st) h Q := by
  obtain ⟨⟨fs, e0, e1, e2, e3, e4, e5, e6, e7, e8, e9⟩, f1, f2⟩ := V
  refine wl_pf hi hf e0 (by decide) (by omega) rfl rfl (hr _ ⟨⟨fs.set 8 (wp_i y), List.getElem?_set_self (fd_lt e0), by rw [List.length_set]; exact e1, by rw [List.getElem?_set_ne (by decide)]; exact e2, List.getElem?_set_self (by omega), by rw [List.getElem?_set_ne (by decide)]; exact e4, by rw [List.getElem?_set_ne (by decide)]; exact e5, by rw [List.getElem?_set_ne (by decide)]; exact e6, by rw [List.getElem?_set_ne (by decide)]; exact e7, by rw [List.getElem?_set_ne (by decide)]; exact e8, fun j hj => by rw [List.getElem?_set_ne (by omega)]; exact e9 j hj⟩, by rw [List.getElem?_set_ne (by decide)]; exact f1, fun a ha => by rw [List.getElem?_set_ne (Ne.symm ha)]; exact f2 a ha⟩)
theorem rt_p9 {x : Nat} {y : Int} (V : rT h0 h fs0 bl L p q t n w) (hi : mj_ins m pc = some (.putfield x)) (hf : mj_fld m x = some (11, 9, .int, true)) (hr : ∀ h, rT h0 h fs0 bl L p q y n w → wl_R nn d m (pc + 3) lv st h Q) : wl_R nn d m pc lv (wp_i y :: .ref 138 :: st) h Q := by
  obtain ⟨⟨fs, e0, e1, e2, e3, e4, e5, e6, e7, e8, e9⟩, f1, f2⟩ := V
  refine wl_pf hi hf e0 (by decide) (by omega) rfl rfl (hr _ ⟨⟨fs.set 9 (wp_i y), List.getElem?_set_self (fd_lt e0), by rw [List.length_set]; exact e1, by rw [List.getElem?_set_ne (by decide)]; exact e2, by rw [List.getElem?_set_ne (by decide)]; exact e3, List.getElem?_set_self (by omega), by rw [List.getElem?_set_ne (by decide)]; exact e5, by rw [List.getElem?_set_ne (by decide)]; exact e6, by rw [List.getElem?_set_ne (by decide)]; exact e7, by rw [List.getElem?_set_ne (by decide)]; exact e8, fun j hj => by rw [List.getElem?_set_ne (by omega)]; exact e9 j hj⟩, by rw [List.getElem?_set_ne (by decide)]; exact f1, fun a ha => by rw [List.getElem?_set_ne (Ne.symm ha)]; exact f2 a ha⟩)
theorem rt_p10 {x : Nat} {y : Int} (V : rT h0 h fs0 bl L p q t n w) (hi : mj_ins m pc = some (.putfield x)) (hf : mj_fld m x = some (11, 10, .int, true)) (hr : ∀ h, rT h0 h fs0 bl L p q t y w → wl_R nn d m (pc + 3) lv st h Q) : wl_R nn d m pc lv (wp_i y :: .ref 138 :: st) h Q := by
  obtain ⟨⟨fs, e0, e1, e2, e3, e4, e5, e6, e7, e8, e9⟩, f1, f2⟩ := V
  refine wl_pf hi hf e0 (by decide) (by omega) rfl rfl (hr _ ⟨⟨fs.set 10 (wp_i y), List.getElem?_set_self (fd_lt e0), by rw [List.length_set]; exact e1, by rw [List.getElem?_set_ne (by decide)]; exact e2, by rw [List.getElem?_set_ne (by decide)]; exact e3, by rw [List.getElem?_set_ne (by decide)]; exact e4, List.getElem?_set_self (by omega), by rw [List.getElem?_set_ne (by decide)]; exact e6, by rw [List.getElem?_set_ne (by decide)]; exact e7, by rw [List.getElem?_set_ne (by decide)]; exact e8, fun j hj => by rw [List.getElem?_set_ne (by omega)]; exact e9 j hj⟩, by rw [List.getElem?_set_ne (by decide)]; exact f1, fun a ha => by rw [List.getElem?_set_ne (Ne.symm ha)]; exact f2 a ha⟩)
theorem rt_p11 {x : Nat} {y : Nat} (V : rT h0 h fs0 bl L p q t n w) (hi : mj_ins m pc = some (.putfield x)) (hf : mj_fld m x = some (11, 11, .long, true)) (hr : ∀ h, rT h0 h fs0 bl L p q t n y → wl_R nn d m (pc + 3) lv st h Q) : wl_R nn d m pc lv (.long (Int64.ofNat y) :: .ref 138 :: st) h Q := by
  obtain ⟨⟨fs, e0, e1, e2, e3, e4, e5, e6, e7, e8, e9⟩, f1, f2⟩ := V
  refine wl_pf hi hf e0 (by decide) (by omega) rfl rfl (hr _ ⟨⟨fs.set 11 (.long (Int64.ofNat y)), List.getElem?_set_self (fd_lt e0), by rw [List.length_set]; exact e1, by rw [List.getElem?_set_ne (by decide)]; exact e2, by rw [List.getElem?_set_ne (by decide)]; exact e3, by rw [List.getElem?_set_ne (by decide)]; exact e4, by rw [List.getElem?_set_ne (by decide)]; exact e5, List.getElem?_set_self (by omega), by rw [List.getElem?_set_ne (by decide)]; exact e7, by rw [List.getElem?_set_ne (by decide)]; exact e8, fun j hj => by rw [List.getElem?_set_ne (by omega)]; exact e9 j hj⟩, by rw [List.getElem?_set_ne (by decide)]; exact f1, fun a ha => by rw [List.getElem?_set_ne (Ne.symm ha)]; exact f2 a ha⟩)
theorem rt_l {x : Int} (V : rT h0 h fs0 bl L p q t n w) (D : tB bl) (hL : L ≤ 300) (hx : 0 ≤ x ∧ x < L) (hi : mj_ins m pc = some .iaload) (hr : wl_R nn d m (pc + 1) lv (wp_i (bt bl L x) :: st) h Q) : wl_R nn d m pc lv (wp_i x :: .ref 142 :: st) h Q := by
  refine wl_ial hi V.2.1 hx.1 (by have := D.1; omega) (by have := D.1; omega) (v := wp_i (bt bl L x)) ?_ hr
  unfold bt
  rw [if_pos hx.2]
  exact (D.2 x.toNat (by omega)).1
theorem rt_c (V : rT h0 h fs0 bl L p q t n w) : ∃ fs, h[138]? = some (11, fs) := by
  obtain ⟨⟨fs, e0, -⟩, -⟩ := V
  exact ⟨fs, e0⟩
theorem wl_lshr {x : Nat} (hi : mj_ins m pc = some .lshr) (hx : x < 2 ^ 62) (hr : wl_R nn d m (pc + 1) lv (.long (Int64.ofNat (x / 2 ^ 48)) :: st) h Q) : wl_R nn d m pc lv (wp_i 48 :: .long (Int64.ofNat x) :: st) h Q := by
  refine wl_s (pc' := pc + 1) (lv' := lv) (st' := .long (Int64.ofNat (x / 2 ^ 48)) :: st) (h' := h) hi rfl rfl ?_ hr
  show some (pc + 1, lv, Value.long (Int64.ofNat x >>> ((Int32.ofInt 48).toInt64 &&& 63)) :: st, h) = _
  rw [lo_48, lo_ht hx]
theorem wl_lcmp {x y : Nat} (hi : mj_ins m pc = some .lcmp) (hx : x < 2 ^ 62) (hy : y < 2 ^ 62) (hr : ∀ z : Int, wp_r z → (z = 0 ↔ x = y) → wl_R nn d m (pc + 1) lv (wp_i z :: st) h Q) : wl_R nn d m pc lv (.long (Int64.ofNat y) :: .long (Int64.ofNat x) :: st) h Q := by
  have hq := hr (lg_cmp (Int64.ofNat x) (Int64.ofNat y)).toInt (sx_r32 _) (by
    rw [← lo_inj hx hy, ← lg_0]
    constructor
    · intro e
      exact Int32.toInt_inj.mp e
    · intro e
      rw [e]
      rfl)
  rw [← wp_iz] at hq
  exact wl_s (pc' := pc + 1) hi rfl rfl rfl hq
theorem wl_i2l {b : Int} (hi : mj_ins m pc = some .i2l) (hb : 0 ≤ b ∧ b ≤ 255) (hr : wl_R nn d m (pc + 1) lv (.long (Int64.ofNat b.toNat) :: st) h Q) : wl_R nn d m pc lv (wp_i b :: st) h Q := by
  refine wl_s (pc' := pc + 1) (lv' := lv) (st' := .long (Int64.ofNat b.toNat) :: st) (h' := h) hi rfl rfl ?_ hr
  show some (pc + 1, lv, Value.long (Int32.ofInt b).toInt64 :: st, h) = _
  rw [lo_i hb]
theorem wl_lshl {x : Nat} (hi : mj_ins m pc = some .lshl) (hr : wl_R nn d m (pc + 1) lv (.long (Int64.ofNat x <<< (8 : Int64)) :: st) h Q) : wl_R nn d m pc lv (wp_i 8 :: .long (Int64.ofNat x) :: st) h Q := by
  refine wl_s (pc' := pc + 1) (lv' := lv) (st' := .long (Int64.ofNat x <<< (8 : Int64)) :: st) (h' := h) hi rfl rfl ?_ hr
  show some (pc + 1, lv, Value.long (Int64.ofNat x <<< ((Int32.ofInt 8).toInt64 &&& 63)) :: st, h) = _
  rw [lo_8]
theorem wl_lor {x b : Nat} (hi : mj_ins m pc = some .lor) (hx : x < 2 ^ 48) (hb : b < 256) (hr : wl_R nn d m (pc + 1) lv (.long (Int64.ofNat (256 * x + b)) :: st) h Q) : wl_R nn d m pc lv (.long (Int64.ofNat b) :: .long (Int64.ofNat x <<< (8 : Int64)) :: st) h Q := by
  refine wl_s (pc' := pc + 1) (lv' := lv) (st' := .long (Int64.ofNat (256 * x + b)) :: st) (h' := h) hi rfl rfl ?_ hr
  show some (pc + 1, lv, Value.long ((Int64.ofNat x <<< (8 : Int64)) ||| Int64.ofNat b) :: st, h) = _
  rw [lo_sh hx hb]
end WRT
theorem wr_byte {nn d : Nat} {h : mj_H} {h0 : mj_H} {fs0 bl : List Value} {L : Int} (D : tB bl) (hL : 0 ≤ L ∧ L ≤ 300) {p q t n : Int} {w : Nat} (V : rT h0 h fs0 bl L p q t n w) {k : Int} (hk : 0 ≤ k ∧ k ≤ 400) : wl_R nn d 179 0 [some (.ref 138), some (wp_i k)] [] h (fun v h1 => h1 = h ∧ v = some (wp_i (bt bl L k))) := by
  obtain ⟨hL0, hL⟩ := hL
  refine wl_s (pc' := 1) ji_179_0 rfl rfl rfl ?_
  refine wl_s (pc' := 2) ji_179_1 rfl rfl rfl ?_
  refine rt_g4 V ji_179_2 jf_179_78 ?_
  refine wl_icmp (t := 17) ji_179_5 rfl (by omega) (by omega) (fun (hb1 : (L : Int) ≤ k) => ?_) (fun (hb1 : ¬ ((L : Int) ≤ k)) => ?_)
  · refine wl_s (pc' := 18) ji_179_17 rfl rfl rfl ?_
    rw [bt_e (show L ≤ k by omega)]
    exact wl_ri ji_179_18 jr_179 rfl ⟨rfl, rfl⟩
  · refine wl_s (pc' := 9) ji_179_8 rfl rfl rfl ?_
    refine rt_g3 V ji_179_9 jf_179_19 ?_
    refine wl_s (pc' := 13) ji_179_12 rfl rfl rfl ?_
    refine rt_l (x := k) V D hL (by omega) ji_179_13 ?_
    refine wl_goto (t := 18) ji_179_14 rfl ?_
    exact wl_ri ji_179_18 jr_179 rfl ⟨rfl, rfl⟩
theorem wr_dig {n d : Nat} {h : mj_H} {c : Int} (hc : wp_r c) : wl_R n d 180 0 [some (wp_i c)] [] h (fun v h1 => h1 = h ∧ ∃ y : Int, v = some (wp_i y) ∧ (y = 0 ∨ y = 1) ∧ (y = 1 ↔ tk_d c)) := by
  refine wl_s (pc' := 1) ji_180_0 rfl rfl rfl ?_
  refine wl_bp ji_180_1 rfl ?_
  refine wl_icmp (t := 16) ji_180_3 rfl (by omega) (by omega) (fun (hb1 : (c : Int) < 48) => ?_) (fun (hb1 : ¬ ((c : Int) < 48)) => ?_)
  · refine wl_s (pc' := 17) ji_180_16 rfl rfl rfl ?_
    exact wl_ri ji_180_17 jr_180 rfl ⟨rfl, 0, rfl, by omega, by unfold tk_d; omega⟩
  · refine wl_s (pc' := 7) ji_180_6 rfl rfl rfl ?_
    refine wl_bp ji_180_7 rfl ?_
    refine wl_icmp (t := 16) ji_180_9 rfl (by omega) (by omega) (fun (hb2 : (57 : Int) < c) => ?_) (fun (hb2 : ¬ ((57 : Int) < c)) => ?_)
    · refine wl_s (pc' := 17) ji_180_16 rfl rfl rfl ?_
      exact wl_ri ji_180_17 jr_180 rfl ⟨rfl, 0, rfl, by omega, by unfold tk_d; omega⟩
    · refine wl_s (pc' := 13) ji_180_12 rfl rfl rfl ?_
      refine wl_goto (t := 17) ji_180_13 rfl ?_
      exact wl_ri ji_180_17 jr_180 rfl ⟨rfl, 1, rfl, by omega, by unfold tk_d; omega⟩
theorem wr_let {n d : Nat} {h : mj_H} {c : Int} (hc : wp_r c) : wl_R n d 181 0 [some (wp_i c)] [] h (fun v h1 => h1 = h ∧ ∃ y : Int, v = some (wp_i y) ∧ (y = 0 ∨ y = 1) ∧ (y = 1 ↔ tk_l c)) := by
  refine wl_s (pc' := 1) ji_181_0 rfl rfl rfl ?_
  refine wl_bp ji_181_1 rfl ?_
  refine wl_icmp (t := 12) ji_181_3 rfl (by omega) (by omega) (fun (hb1 : (c : Int) < 97) => ?_) (fun (hb1 : ¬ ((c : Int) < 97)) => ?_)
  · refine wl_s (pc' := 13) ji_181_12 rfl rfl rfl ?_
    refine wl_bp ji_181_13 rfl ?_
    refine wl_icmp (t := 28) ji_181_15 rfl (by omega) (by omega) (fun (hb2 : (c : Int) < 65) => ?_) (fun (hb2 : ¬ ((c : Int) < 65)) => ?_)
    · refine wl_s (pc' := 29) ji_181_28 rfl rfl rfl ?_
      exact wl_ri ji_181_29 jr_181 rfl ⟨rfl, 0, rfl, by omega, by unfold tk_l; omega⟩
    · refine wl_s (pc' := 19) ji_181_18 rfl rfl rfl ?_
      refine wl_bp ji_181_19 rfl ?_
      refine wl_icmp (t := 28) ji_181_21 rfl (by omega) (by omega) (fun (hb3 : (90 : Int) < c) => ?_) (fun (hb3 : ¬ ((90 : Int) < c)) => ?_)
      · refine wl_s (pc' := 29) ji_181_28 rfl rfl rfl ?_
        exact wl_ri ji_181_29 jr_181 rfl ⟨rfl, 0, rfl, by omega, by unfold tk_l; omega⟩
      · refine wl_s (pc' := 25) ji_181_24 rfl rfl rfl ?_
        refine wl_goto (t := 29) ji_181_25 rfl ?_
        exact wl_ri ji_181_29 jr_181 rfl ⟨rfl, 1, rfl, by omega, by unfold tk_l; omega⟩
  · refine wl_s (pc' := 7) ji_181_6 rfl rfl rfl ?_
    refine wl_bp ji_181_7 rfl ?_
    refine wl_icmp (t := 24) ji_181_9 rfl (by omega) (by omega) (fun (hb4 : (c : Int) ≤ 122) => ?_) (fun (hb4 : ¬ ((c : Int) ≤ 122)) => ?_)
    · refine wl_s (pc' := 25) ji_181_24 rfl rfl rfl ?_
      refine wl_goto (t := 29) ji_181_25 rfl ?_
      exact wl_ri ji_181_29 jr_181 rfl ⟨rfl, 1, rfl, by omega, by unfold tk_l; omega⟩
    · refine wl_s (pc' := 13) ji_181_12 rfl rfl rfl ?_
      refine wl_bp ji_181_13 rfl ?_
      refine wl_icmp (t := 28) ji_181_15 rfl (by omega) (by omega) (fun (hb5 : (c : Int) < 65) => ?_) (fun (hb5 : ¬ ((c : Int) < 65)) => ?_)
      · refine wl_s (pc' := 29) ji_181_28 rfl rfl rfl ?_
        exact wl_ri ji_181_29 jr_181 rfl ⟨rfl, 0, rfl, by omega, by unfold tk_l; omega⟩
      · refine wl_s (pc' := 19) ji_181_18 rfl rfl rfl ?_
        refine wl_bp ji_181_19 rfl ?_
        refine wl_icmp (t := 28) ji_181_21 rfl (by omega) (by omega) (fun (hb6 : (90 : Int) < c) => ?_) (fun (hb6 : ¬ ((90 : Int) < c)) => ?_)
        · refine wl_s (pc' := 29) ji_181_28 rfl rfl rfl ?_
          exact wl_ri ji_181_29 jr_181 rfl ⟨rfl, 0, rfl, by omega, by unfold tk_l; omega⟩
        · refine wl_s (pc' := 25) ji_181_24 rfl rfl rfl ?_
          refine wl_goto (t := 29) ji_181_25 rfl ?_
          exact wl_ri ji_181_29 jr_181 rfl ⟨rfl, 1, rfl, by omega, by unfold tk_l; omega⟩
def tk_g (c : Int) : Prop := c = 35 ∨ c = 40 ∨ c = 41 ∨ c = 42 ∨ c = 43 ∨ c = 44 ∨ c = 45 ∨ c = 47 ∨ c = 59 ∨ c = 60 ∨ c = 61 ∨ c = 62
theorem wr_sgn {n d : Nat} {h : mj_H} {c : Int} (hc : wp_r c) : wl_R n d 182 0 [some (wp_i c)] [] h (fun v h1 => h1 = h ∧ ∃ y : Int, v = some (wp_i y) ∧ (y = 0 ∨ y = 1) ∧ (y = 1 ↔ tk_g c)) := by
  refine wl_s (pc' := 1) ji_182_0 rfl rfl rfl ?_
  have K1 : (c = 35 ∨ c = 40 ∨ c = 41 ∨ c = 42 ∨ c = 43 ∨ c = 44 ∨ c = 45 ∨ c = 47 ∨ c = 59 ∨ c = 60 ∨ c = 61 ∨ c = 62) → wl_R n d 182 128 [some (wp_i c)] [] h (fun v h1 => h1 = h ∧ ∃ y : Int, v = some (wp_i y) ∧ (y = 0 ∨ y = 1) ∧ (y = 1 ↔ tk_g c)) := by
    intro e
    refine wl_s (pc' := 129) ji_182_128 rfl rfl rfl ?_
    exact wl_ri ji_182_129 jr_182 rfl ⟨rfl, 1, rfl, by omega, by unfold tk_g; omega⟩
  have K0 : ¬ (c = 35 ∨ c = 40 ∨ c = 41 ∨ c = 42 ∨ c = 43 ∨ c = 44 ∨ c = 45 ∨ c = 47 ∨ c = 59 ∨ c = 60 ∨ c = 61 ∨ c = 62) → wl_R n d 182 130 [some (wp_i c)] [] h (fun v h1 => h1 = h ∧ ∃ y : Int, v = some (wp_i y) ∧ (y = 0 ∨ y = 1) ∧ (y = 1 ↔ tk_g c)) := by
    intro e
    refine wl_s (pc' := 131) ji_182_130 rfl rfl rfl ?_
    exact wl_ri ji_182_131 jr_182 rfl ⟨rfl, 0, rfl, by omega, by unfold tk_g; omega⟩
  by_cases hr : c < 35 ∨ 62 < c
  · refine wl_s (pc' := 130) (lv' := [some (wp_i c)]) (st' := []) (h' := h) ji_182_1 rfl rfl ?_ (K0 (by omega))
    simp only [mj_st, wp_ti hc]
    rw [if_pos hr]
    rfl
  · have hc2 : c = 35 ∨ c = 36 ∨ c = 37 ∨ c = 38 ∨ c = 39 ∨ c = 40 ∨ c = 41 ∨ c = 42 ∨ c = 43 ∨ c = 44 ∨ c = 45 ∨ c = 46 ∨ c = 47 ∨ c = 48 ∨ c = 49 ∨ c = 50 ∨ c = 51 ∨ c = 52 ∨ c = 53 ∨ c = 54 ∨ c = 55 ∨ c = 56 ∨ c = 57 ∨ c = 58 ∨ c = 59 ∨ c = 60 ∨ c = 61 ∨ c = 62 := by omega
    rcases hc2 with e | e | e | e | e | e | e | e | e | e | e | e | e | e | e | e | e | e | e | e | e | e | e | e | e | e | e | e
    · exact wl_s (pc' := 128) (lv' := [some (wp_i c)]) (st' := []) (h' := h) ji_182_1 rfl rfl (by subst e; simp only [mj_st, wp_ti (show wp_r 35 by omega)]; rfl) (K1 (by omega))
    · exact wl_s (pc' := 130) (lv' := [some (wp_i c)]) (st' := []) (h' := h) ji_182_1 rfl rfl (by subst e; simp only [mj_st, wp_ti (show wp_r 36 by omega)]; rfl) (K0 (by omega))
    · exact wl_s (pc' := 130) (lv' := [some (wp_i c)]) (st' := []) (h' := h) ji_182_1 rfl rfl (by subst e; simp only [mj_st, wp_ti (show wp_r 37 by omega)]; rfl) (K0 (by omega))
    · exact wl_s (pc' := 130) (lv' := [some (wp_i c)]) (st' := []) (h' := h) ji_182_1 rfl rfl (by subst e; simp only [mj_st, wp_ti (show wp_r 38 by omega)]; rfl) (K0 (by omega))
    · exact wl_s (pc' := 130) (lv' := [some (wp_i c)]) (st' := []) (h' := h) ji_182_1 rfl rfl (by subst e; simp only [mj_st, wp_ti (show wp_r 39 by omega)]; rfl) (K0 (by omega))
    · exact wl_s (pc' := 128) (lv' := [some (wp_i c)]) (st' := []) (h' := h) ji_182_1 rfl rfl (by subst e; simp only [mj_st, wp_ti (show wp_r 40 by omega)]; rfl) (K1 (by omega))
    · exact wl_s (pc' := 128) (lv' := [some (wp_i c)]) (st' := []) (h' := h) ji_182_1 rfl rfl (by subst e; simp only [mj_st, wp_ti (show wp_r 41 by omega)]; rfl) (K1 (by omega))
    · exact wl_s (pc' := 128) (lv' := [some (wp_i c)]) (st' := []) (h' := h) ji_182_1 rfl rfl (by subst e; simp only [mj_st, wp_ti (show wp_r 42 by omega)]; rfl) (K1 (by omega))
    · exact wl_s (pc' := 128) (lv' := [some (wp_i c)]) (st' := []) (h' := h) ji_182_1 rfl rfl (by subst e; simp only [mj_st, wp_ti (show wp_r 43 by omega)]; rfl) (K1 (by omega))
    · exact wl_s (pc' := 128) (lv' := [some (wp_i c)]) (st' := []) (h' := h) ji_182_1 rfl rfl (by subst e; simp only [mj_st, wp_ti (show wp_r 44 by omega)]; rfl) (K1 (by omega))
    · exact wl_s (pc' := 128) (lv' := [some (wp_i c)]) (st' := []) (h' := h) ji_182_1 rfl rfl (by subst e; simp only [mj_st, wp_ti (show wp_r 45 by omega)]; rfl) (K1 (by omega))
    · exact wl_s (pc' := 130) (lv' := [some (wp_i c)]) (st' := []) (h' := h) ji_182_1 rfl rfl (by subst e; simp only [mj_st, wp_ti (show wp_r 46 by omega)]; rfl) (K0 (by omega))
    · exact wl_s (pc' := 128) (lv' := [some (wp_i c)]) (st' := []) (h' := h) ji_182_1 rfl rfl (by subst e; simp only [mj_st, wp_ti (show wp_r 47 by omega)]; rfl) (K1 (by omega))
    · exact wl_s (pc' := 130) (lv' := [some (wp_i c)]) (st' := []) (h' := h) ji_182_1 rfl rfl (by subst e; simp only [mj_st, wp_ti (show wp_r 48 by omega)]; rfl) (K0 (by omega))
    · exact wl_s (pc' := 130) (lv' := [some (wp_i c)]) (st' := []) (h' := h) ji_182_1 rfl rfl (by subst e; simp only [mj_st, wp_ti (show wp_r 49 by omega)]; rfl) (K0 (by omega))
    · exact wl_s (pc' := 130) (lv' := [some (wp_i c)]) (st' := []) (h' := h) ji_182_1 rfl rfl (by subst e; simp only [mj_st, wp_ti (show wp_r 50 by omega)]; rfl) (K0 (by omega))
    · exact wl_s (pc' := 130) (lv' := [some (wp_i c)]) (st' := []) (h' := h) ji_182_1 rfl rfl (by subst e; simp only [mj_st, wp_ti (show wp_r 51 by omega)]; rfl) (K0 (by omega))
    · exact wl_s (pc' := 130) (lv' := [some (wp_i c)]) (st' := []) (h' := h) ji_182_1 rfl rfl (by subst e; simp only [mj_st, wp_ti (show wp_r 52 by omega)]; rfl) (K0 (by omega))
    · exact wl_s (pc' := 130) (lv' := [some (wp_i c)]) (st' := []) (h' := h) ji_182_1 rfl rfl (by subst e; simp only [mj_st, wp_ti (show wp_r 53 by omega)]; rfl) (K0 (by omega))
    · exact wl_s (pc' := 130) (lv' := [some (wp_i c)]) (st' := []) (h' := h) ji_182_1 rfl rfl (by subst e; simp only [mj_st, wp_ti (show wp_r 54 by omega)]; rfl) (K0 (by omega))
    · exact wl_s (pc' := 130) (lv' := [some (wp_i c)]) (st' := []) (h' := h) ji_182_1 rfl rfl (by subst e; simp only [mj_st, wp_ti (show wp_r 55 by omega)]; rfl) (K0 (by omega))
    · exact wl_s (pc' := 130) (lv' := [some (wp_i c)]) (st' := []) (h' := h) ji_182_1 rfl rfl (by subst e; simp only [mj_st, wp_ti (show wp_r 56 by omega)]; rfl) (K0 (by omega))
    · exact wl_s (pc' := 130) (lv' := [some (wp_i c)]) (st' := []) (h' := h) ji_182_1 rfl rfl (by subst e; simp only [mj_st, wp_ti (show wp_r 57 by omega)]; rfl) (K0 (by omega))
    · exact wl_s (pc' := 130) (lv' := [some (wp_i c)]) (st' := []) (h' := h) ji_182_1 rfl rfl (by subst e; simp only [mj_st, wp_ti (show wp_r 58 by omega)]; rfl) (K0 (by omega))
    · exact wl_s (pc' := 128) (lv' := [some (wp_i c)]) (st' := []) (h' := h) ji_182_1 rfl rfl (by subst e; simp only [mj_st, wp_ti (show wp_r 59 by omega)]; rfl) (K1 (by omega))
    · exact wl_s (pc' := 128) (lv' := [some (wp_i c)]) (st' := []) (h' := h) ji_182_1 rfl rfl (by subst e; simp only [mj_st, wp_ti (show wp_r 60 by omega)]; rfl) (K1 (by omega))
    · exact wl_s (pc' := 128) (lv' := [some (wp_i c)]) (st' := []) (h' := h) ji_182_1 rfl rfl (by subst e; simp only [mj_st, wp_ti (show wp_r 61 by omega)]; rfl) (K1 (by omega))
    · exact wl_s (pc' := 128) (lv' := [some (wp_i c)]) (st' := []) (h' := h) ji_182_1 rfl rfl (by subst e; simp only [mj_st, wp_ti (show wp_r 62 by omega)]; rfl) (K1 (by omega))
theorem wr_85 {d : Nat} {h0 : mj_H} {fs0 bl : List Value} {L : Int} (D : tB bl) (hL : 0 ≤ L ∧ L ≤ 300) {p0 q : Int} {w : Nat} {o : Option Value} (hq : 0 ≤ q) (hwh : wh tk_b (bt bl L) p0 q) (hd0 : tk_d (bt bl L q)) (hw0 : w ≤ 2 ^ 60) : ∀ (nn : Nat) (h : mj_H) (p n : Int), rT h0 h fs0 bl L p q 1 n w → (q ≤ p ∧ p ≤ L) → (∀ j, q ≤ j → j < p → tk_d (bt bl L j)) → (0 ≤ n ∧ ((n = tk_n (bt bl L) q (p - q).toNat ∧ n ≤ 999999) ∨ (99999 < n ∧ n ≤ 999999 ∧ 99999 < tk_n (bt bl L) q (p - q).toNat))) → wl_R nn (d + 1) 178 85 [some (.ref 138), o] [] h (fun v h1 => v = none ∧ ∃ (k' v' q r t n : Int) (w : Nat), rT h0 h1 fs0 bl L r q t n w ∧ tok (bt bl L) p0 k' v' q r ∧ tkr k' v' t n w ∧ (0 ≤ q ∧ r ≤ L) ∧ w ≤ 2 ^ 60) := by
  obtain ⟨hL0, hL⟩ := hL
  have hend := bt_e (bl := bl) (L := L) (k := L) (Int.le_refl _)
  intro nn
  induction nn with
  | zero => intro h p n V hp hj hn; exact wl_0
  | succ nn ih =>
    intro h p n V hp hj hn
    have hlt : tk_d (bt bl L p) → p < L := fun e => (Classical.em (p < L)).elim id (fun x => by rw [bt_e (by omega)] at e; unfold tk_d at e; omega)
    refine wl_s1 (pc' := 86) ji_178_85 rfl rfl rfl ?_
    refine wl_s (pc' := 87) ji_178_86 rfl rfl rfl ?_
    refine rt_g7 V ji_178_87 jf_178_85 ?_
    obtain ⟨cs0, hcs0⟩ := rt_c V
    refine wl_vc (d := d) (as := [.ref 138, wp_i p]) (rest := []) ji_178_90 jc_178_88 rfl hcs0 jk_179.symm (Nat.le_of_ble_eq_true rfl) rfl (by rw [jn_179]; rfl) (wr_byte (k := p) D ⟨hL0, hL⟩ V (by omega)) (fun v h1 R => ?_)
    obtain ⟨e1, rfl⟩ := R
    subst e1
    have hb_1 := bt_r D hL (k := p) (by omega)
    show wl_R _ (d + 1) 178 93 [some (.ref 138), o] [wp_i (bt bl L p)] h1 _
    refine wl_sc (d := d) (as := [wp_i (bt bl L p)]) (rest := []) ji_178_93 jc_178_98 (Nat.le_of_ble_eq_true rfl) rfl (Nat.le_of_ble_eq_true rfl) rfl (by rw [jn_180]; rfl) (wr_dig (c := bt bl L p) (by omega)) (fun v h1 R => ?_)
    obtain ⟨e1, y2, rfl, hy2a, hy2b⟩ := R
    subst e1
    show wl_R _ (d + 1) 178 96 [some (.ref 138), o] [wp_i y2] h1 _
    refine wl_if (t := 310) ji_178_96 rfl (by omega) (fun (hb3 : (y2 : Int) = 0) => ?_) (fun (hb3 : ¬ ((y2 : Int) = 0)) => ?_)
    · exact wl_rv ji_178_310 jr_178 ⟨rfl, 1, min 10000 (tk_n (bt bl L) q (p - q).toNat), q, p, 1, n, w, V, ⟨hwh, Or.inr (Or.inr (Or.inl ⟨hd0, rfl, ⟨by omega, hj, fun e => by have := hy2b.mpr e; omega⟩, rfl⟩))⟩, Or.inr (Or.inr (Or.inl ⟨rfl, rfl, by omega, by omega⟩)), by omega, hw0⟩
    · have hyD := hy2b.mp
      refine wl_s (pc' := 100) ji_178_99 rfl rfl rfl ?_
      refine wl_s (pc' := 101) ji_178_100 rfl rfl rfl ?_
      refine rt_g10 V ji_178_101 jf_178_102 ?_
      refine wl_ldi (n := 99999) ji_178_104 jcon_178_105 (by decide) ?_
      refine wl_icmp (t := 116) ji_178_106 rfl (by omega) (by omega) (fun (hb4 : (n : Int) ≤ 99999) => ?_) (fun (hb4 : ¬ ((n : Int) ≤ 99999)) => ?_)
      · refine wl_bp ji_178_116 rfl ?_
        refine wl_s (pc' := 119) ji_178_118 rfl rfl rfl ?_
        refine rt_g10 V ji_178_119 jf_178_102 ?_
        refine wl_imul (x := 10) (y := n) (z := 10 * n) ji_178_122 (by omega) ?_
        refine wl_s (pc' := 124) ji_178_123 rfl rfl rfl ?_
        refine wl_s (pc' := 125) ji_178_124 rfl rfl rfl ?_
        refine rt_g7 V ji_178_125 jf_178_85 ?_
        obtain ⟨cs4, hcs4⟩ := rt_c V
        refine wl_vc (d := d) (as := [.ref 138, wp_i p]) (rest := [wp_i (10 * n), .ref 138]) ji_178_128 jc_178_88 rfl hcs4 jk_179.symm (Nat.le_of_ble_eq_true rfl) rfl (by rw [jn_179]; rfl) (wr_byte (k := p) D ⟨hL0, hL⟩ V (by omega)) (fun v h1 R => ?_)
        obtain ⟨e1, rfl⟩ := R
        subst e1
        have hb_5 := bt_r D hL (k := p) (by omega)
        show wl_R _ (d + 1) 178 131 [some (.ref 138), o] [wp_i (bt bl L p), wp_i (10 * n), .ref 138] h1 _
        refine wl_iadd (x := 10 * n) (y := bt bl L p) (z := 10 * n + (bt bl L p)) ji_178_131 (by omega) ?_
        refine wl_bp ji_178_132 rfl ?_
        refine wl_isub (x := 10 * n + (bt bl L p)) (y := 48) (z := 10 * n + (bt bl L p) - 48) ji_178_134 (by omega) ?_
        refine rt_p10 (y := 10 * n + (bt bl L p) - 48) V ji_178_135 jf_178_102 (fun h V => ?_)
        refine wl_s (pc' := 139) ji_178_138 rfl rfl rfl ?_
        refine wl_s (pc' := 140) ji_178_139 rfl rfl rfl ?_
        refine rt_g7 V ji_178_140 jf_178_85 ?_
        refine wl_s (pc' := 144) ji_178_143 rfl rfl rfl ?_
        refine wl_iadd (x := p) (y := 1) (z := p + 1) ji_178_144 (by omega) ?_
        refine rt_p7 (y := p + 1) V ji_178_145 jf_178_85 (fun h V => ?_)
        refine wl_goto (t := 85) ji_178_148 rfl ?_
        exact ih h (p + 1) (10 * n + (bt bl L p) - 48) V ⟨by omega, by have := hlt (hyD (by omega)); omega⟩ (fun j h1 h2 => (Classical.em (j = p)).elim (fun e => by subst e; exact hyD (by omega)) (fun e => hj j h1 (by omega))) (by have hd := hyD (by omega); unfold tk_d at hd; rw [show (p + 1 - q).toNat = (p - q).toNat + 1 by omega, show tk_n (bt bl L) q ((p - q).toNat + 1) = 10 * tk_n (bt bl L) q (p - q).toNat + (bt bl L (q + ((p - q).toNat : Int)) - 48) from rfl, show q + ((p - q).toNat : Int) = p by omega]; omega)
      · refine wl_s (pc' := 110) ji_178_109 rfl rfl rfl ?_
        refine rt_g10 V ji_178_110 jf_178_102 ?_
        refine wl_goto (t := 135) ji_178_113 rfl ?_
        refine rt_p10 (y := n) V ji_178_135 jf_178_102 (fun h V => ?_)
        refine wl_s (pc' := 139) ji_178_138 rfl rfl rfl ?_
        refine wl_s (pc' := 140) ji_178_139 rfl rfl rfl ?_
        refine rt_g7 V ji_178_140 jf_178_85 ?_
        refine wl_s (pc' := 144) ji_178_143 rfl rfl rfl ?_
        refine wl_iadd (x := p) (y := 1) (z := p + 1) ji_178_144 (by omega) ?_
        refine rt_p7 (y := p + 1) V ji_178_145 jf_178_85 (fun h V => ?_)
        refine wl_goto (t := 85) ji_178_148 rfl ?_
        exact ih h (p + 1) (n) V ⟨by omega, by have := hlt (hyD (by omega)); omega⟩ (fun j h1 h2 => (Classical.em (j = p)).elim (fun e => by subst e; exact hyD (by omega)) (fun e => hj j h1 (by omega))) (by have hd := hyD (by omega); unfold tk_d at hd; rw [show (p + 1 - q).toNat = (p - q).toNat + 1 by omega, show tk_n (bt bl L) q ((p - q).toNat + 1) = 10 * tk_n (bt bl L) q (p - q).toNat + (bt bl L (q + ((p - q).toNat : Int)) - 48) from rfl, show q + ((p - q).toNat : Int) = p by omega]; omega)
theorem wr_168 {d : Nat} {h0 : mj_H} {fs0 bl : List Value} {L : Int} (D : tB bl) (hL : 0 ≤ L ∧ L ≤ 300) {p0 q n : Int} {o : Option Value} (hq : 0 ≤ q) (hwh : wh tk_b (bt bl L) p0 q) (hd0 : tk_l (bt bl L q)) : ∀ (nn : Nat) (h : mj_H) (p : Int) (w : Nat), rT h0 h fs0 bl L p q 2 n w → (q ≤ p ∧ p ≤ L) → (∀ j, q ≤ j → j < p → tk_l (bt bl L j)) → w = wd (tk_ls (bt bl L) q p) → wl_R nn (d + 1) 178 168 [some (.ref 138), o] [] h (fun v h1 => v = none ∧ ∃ (k' v' q r t n : Int) (w : Nat), rT h0 h1 fs0 bl L r q t n w ∧ tok (bt bl L) p0 k' v' q r ∧ tkr k' v' t n w ∧ (0 ≤ q ∧ r ≤ L) ∧ w ≤ 2 ^ 60) := by
  obtain ⟨hL0, hL⟩ := hL
  intro nn
  induction nn with
  | zero => intro h p w V hp hj hw; exact wl_0
  | succ nn ih =>
    intro h p w V hp hj hw
    have hw1 : w ≤ 2 ^ 60 := by rw [hw]; exact wd_b _ 0 (by decide) (fun c hc => by have := tk_ls_m hj c hc; unfold tk_l at this; omega)
    have hlt : tk_l (bt bl L p) → p < L := fun e => (Classical.em (p < L)).elim id (fun x => by rw [bt_e (by omega)] at e; unfold tk_l at e; omega)
    refine wl_s1 (pc' := 169) ji_178_168 rfl rfl rfl ?_
    refine wl_s (pc' := 170) ji_178_169 rfl rfl rfl ?_
    refine rt_g7 V ji_178_170 jf_178_85 ?_
    obtain ⟨cs0, hcs0⟩ := rt_c V
    refine wl_vc (d := d) (as := [.ref 138, wp_i p]) (rest := []) ji_178_173 jc_178_88 rfl hcs0 jk_179.symm (Nat.le_of_ble_eq_true rfl) rfl (by rw [jn_179]; rfl) (wr_byte (k := p) D ⟨hL0, hL⟩ V (by omega)) (fun v h1 R => ?_)
    obtain ⟨e1, rfl⟩ := R
    subst e1
    have hb_1 := bt_r D hL (k := p) (by omega)
    show wl_R _ (d + 1) 178 176 [some (.ref 138), o] [wp_i (bt bl L p)] h1 _
    refine wl_sc (d := d) (as := [wp_i (bt bl L p)]) (rest := []) ji_178_176 jc_178_106 (Nat.le_of_ble_eq_true rfl) rfl (Nat.le_of_ble_eq_true rfl) rfl (by rw [jn_181]; rfl) (wr_let (c := bt bl L p) (by omega)) (fun v h1 R => ?_)
    obtain ⟨e1, y2, rfl, hy2a, hy2b⟩ := R
    subst e1
    show wl_R _ (d + 1) 178 179 [some (.ref 138), o] [wp_i y2] h1 _
    refine wl_if (t := 310) ji_178_179 rfl (by omega) (fun (hb3 : (y2 : Int) = 0) => ?_) (fun (hb3 : ¬ ((y2 : Int) = 0)) => ?_)
    · exact wl_rv ji_178_310 jr_178 ⟨rfl, 0, wix (tk_ls (bt bl L) q p) tk_W 0, q, p, 2, n, w, V, ⟨hwh, Or.inr (Or.inl ⟨hd0, rfl, ⟨by omega, hj, fun e => by have := hy2b.mpr e; omega⟩, rfl⟩)⟩, Or.inr (Or.inl ⟨rfl, rfl, tk_ls (bt bl L) q p, tk_ls_m hj, rfl, hw⟩), by omega, hw1⟩
    · have hyL := hy2b.mp
      have hy0 : 0 ≤ bt bl L p := by have e := hyL (by omega); unfold tk_l at e; omega
      refine wl_s (pc' := 183) ji_178_182 rfl rfl rfl ?_
      refine wl_s (pc' := 184) ji_178_183 rfl rfl rfl ?_
      refine rt_g11 V ji_178_184 jf_178_109 ?_
      refine wl_bp ji_178_187 rfl ?_
      refine wl_lshr (x := w) ji_178_189 (by omega) ?_
      refine wl_s (pc' := 191) ji_178_190 rfl rfl rfl ?_
      refine wl_lcmp (x := w / 2 ^ 48) (y := 0) ji_178_191 (by omega) (by omega) (fun z hz1 hz2 => ?_)
      refine wl_if (t := 201) ji_178_192 rfl (by omega) (fun (hb4 : (z : Int) = 0) => ?_) (fun (hb4 : ¬ ((z : Int) = 0)) => ?_)
      · refine wl_s (pc' := 202) ji_178_201 rfl rfl rfl ?_
        refine rt_g11 V ji_178_202 jf_178_109 ?_
        refine wl_bp ji_178_205 rfl ?_
        refine wl_lshl (x := w) ji_178_207 ?_
        refine wl_s (pc' := 209) ji_178_208 rfl rfl rfl ?_
        refine wl_s (pc' := 210) ji_178_209 rfl rfl rfl ?_
        refine rt_g7 V ji_178_210 jf_178_85 ?_
        obtain ⟨cs4, hcs4⟩ := rt_c V
        refine wl_vc (d := d) (as := [.ref 138, wp_i p]) (rest := [.long (Int64.ofNat w <<< (8 : Int64)), .ref 138]) ji_178_213 jc_178_88 rfl hcs4 jk_179.symm (Nat.le_of_ble_eq_true rfl) rfl (by rw [jn_179]; rfl) (wr_byte (k := p) D ⟨hL0, hL⟩ V (by omega)) (fun v h1 R => ?_)
        obtain ⟨e1, rfl⟩ := R
        subst e1
        have hb_5 := bt_r D hL (k := p) (by omega)
        show wl_R _ (d + 1) 178 216 [some (.ref 138), o] [wp_i (bt bl L p), .long (Int64.ofNat w <<< (8 : Int64)), .ref 138] h1 _
        refine wl_i2l (b := bt bl L p) ji_178_216 (by omega) ?_
        refine wl_lor (x := w) (b := (bt bl L p).toNat) ji_178_217 (by omega) (by omega) ?_
        refine rt_p11 (y := (256 * w + (bt bl L p).toNat)) V ji_178_218 jf_178_109 (fun h V => ?_)
        refine wl_s (pc' := 222) ji_178_221 rfl rfl rfl ?_
        refine wl_s (pc' := 223) ji_178_222 rfl rfl rfl ?_
        refine rt_g7 V ji_178_223 jf_178_85 ?_
        refine wl_s (pc' := 227) ji_178_226 rfl rfl rfl ?_
        refine wl_iadd (x := p) (y := 1) (z := p + 1) ji_178_227 (by omega) ?_
        refine rt_p7 (y := p + 1) V ji_178_228 jf_178_85 (fun h V => ?_)
        refine wl_goto (t := 168) ji_178_231 rfl ?_
        refine ih h (p + 1) _ V ⟨by omega, by have := hlt (hyL (by omega)); omega⟩ (fun j h1 h2 => (Classical.em (j = p)).elim (fun e => by subst e; exact hyL (by omega)) (fun e => hj j h1 (by omega))) ?_
        rw [tk_ls_s hp.1, wd_s, ← hw]
        show _ = if w < 2 ^ 48 then 256 * w + (bt bl L p).toNat else 2 ^ 60
        rw [if_pos (by omega)]
      · refine wl_s (pc' := 198) (st' := .long (Int64.ofNat (2 ^ 60)) :: _) (lv' := [some (.ref 138), o]) (h' := _) ji_178_195 rfl rfl (by simp only [mj_st, jcon_178_113]; rfl) ?_
        refine wl_goto (t := 218) ji_178_198 rfl ?_
        refine rt_p11 (y := (2 ^ 60)) V ji_178_218 jf_178_109 (fun h V => ?_)
        refine wl_s (pc' := 222) ji_178_221 rfl rfl rfl ?_
        refine wl_s (pc' := 223) ji_178_222 rfl rfl rfl ?_
        refine rt_g7 V ji_178_223 jf_178_85 ?_
        refine wl_s (pc' := 227) ji_178_226 rfl rfl rfl ?_
        refine wl_iadd (x := p) (y := 1) (z := p + 1) ji_178_227 (by omega) ?_
        refine rt_p7 (y := p + 1) V ji_178_228 jf_178_85 (fun h V => ?_)
        refine wl_goto (t := 168) ji_178_231 rfl ?_
        refine ih h (p + 1) _ V ⟨by omega, by have := hlt (hyL (by omega)); omega⟩ (fun j h1 h2 => (Classical.em (j = p)).elim (fun e => by subst e; exact hyL (by omega)) (fun e => hj j h1 (by omega))) ?_
        rw [tk_ls_s hp.1, wd_s, ← hw]
        show _ = if w < 2 ^ 48 then 256 * w + (bt bl L p).toNat else 2 ^ 60
        rw [if_neg (by omega)]
theorem wr_39 {nn d : Nat} {h : mj_H} {h0 : mj_H} {fs0 bl : List Value} {L : Int} (D : tB bl) (hL : 0 ≤ L ∧ L ≤ 300) {p0 p q t n : Int} {w : Nat} {o : Option Value} (V : rT h0 h fs0 bl L p q t n w) (hp0 : 0 ≤ p0) (hwh : wh tk_b (bt bl L) p0 p) (hpL : p ≤ L) (hw0 : w ≤ 2 ^ 60) : wl_R nn (d + 1) 178 39 [some (.ref 138), o] [] h (fun v h1 => v = none ∧ ∃ (k' v' q r t n : Int) (w : Nat), rT h0 h1 fs0 bl L r q t n w ∧ tok (bt bl L) p0 k' v' q r ∧ tkr k' v' t n w ∧ (0 ≤ q ∧ r ≤ L) ∧ w ≤ 2 ^ 60) := by
  obtain ⟨hL0, hL⟩ := hL
  have hpp := hwh.1
  refine wl_s (pc' := 40) ji_178_39 rfl rfl rfl ?_
  refine wl_s (pc' := 41) ji_178_40 rfl rfl rfl ?_
  refine rt_g7 V ji_178_41 jf_178_85 ?_
  refine rt_p8 (y := p) V ji_178_44 jf_178_92 (fun h V => ?_)
  refine wl_s (pc' := 48) ji_178_47 rfl rfl rfl ?_
  refine wl_s (pc' := 49) ji_178_48 rfl rfl rfl ?_
  refine rt_g7 V ji_178_49 jf_178_85 ?_
  obtain ⟨cs0, hcs0⟩ := rt_c V
  refine wl_vc (d := d) (as := [.ref 138, wp_i p]) (rest := []) ji_178_52 jc_178_88 rfl hcs0 jk_179.symm (Nat.le_of_ble_eq_true rfl) rfl (by rw [jn_179]; rfl) (wr_byte (k := p) D ⟨hL0, hL⟩ V (by omega)) (fun v h1 R => ?_)
  obtain ⟨e1, rfl⟩ := R
  subst e1
  have hb_1 := bt_r D hL (k := p) (by omega)
  show wl_R _ (d + 1) 178 55 [some (.ref 138), o] [wp_i (bt bl L p)] h1 _
  refine wl_s (pc' := 56) (lv' := [some (.ref 138), some (wp_i (bt bl L p))]) ji_178_55 rfl rfl rfl ?_
  refine wl_s (pc' := 57) ji_178_56 rfl rfl rfl ?_
  refine wl_if (t := 68) ji_178_57 rfl (by omega) (fun (hb2 : (0 : Int) ≤ (bt bl L p)) => ?_) (fun (hb2 : ¬ ((0 : Int) ≤ (bt bl L p))) => ?_)
  · refine wl_s (pc' := 69) ji_178_68 rfl rfl rfl ?_
    refine wl_sc (d := d) (as := [wp_i (bt bl L p)]) (rest := []) ji_178_69 jc_178_98 (Nat.le_of_ble_eq_true rfl) rfl (Nat.le_of_ble_eq_true rfl) rfl (by rw [jn_180]; rfl) (wr_dig (c := bt bl L p) (by omega)) (fun v h1 R => ?_)
    obtain ⟨e1, y3, rfl, hy3a, hy3b⟩ := R
    subst e1
    show wl_R _ (d + 1) 178 72 [some (.ref 138), some (wp_i (bt bl L p))] [wp_i y3] h1 _
    refine wl_if (t := 151) ji_178_72 rfl (by omega) (fun (hb4 : (y3 : Int) = 0) => ?_) (fun (hb4 : ¬ ((y3 : Int) = 0)) => ?_)
    · refine wl_s (pc' := 152) ji_178_151 rfl rfl rfl ?_
      refine wl_sc (d := d) (as := [wp_i (bt bl L p)]) (rest := []) ji_178_152 jc_178_106 (Nat.le_of_ble_eq_true rfl) rfl (Nat.le_of_ble_eq_true rfl) rfl (by rw [jn_181]; rfl) (wr_let (c := bt bl L p) (by omega)) (fun v h1 R => ?_)
      obtain ⟨e1, y5, rfl, hy5a, hy5b⟩ := R
      subst e1
      show wl_R _ (d + 1) 178 155 [some (.ref 138), some (wp_i (bt bl L p))] [wp_i y5] h1 _
      refine wl_if (t := 234) ji_178_155 rfl (by omega) (fun (hb6 : (y5 : Int) = 0) => ?_) (fun (hb6 : ¬ ((y5 : Int) = 0)) => ?_)
      · refine wl_s (pc' := 235) ji_178_234 rfl rfl rfl ?_
        refine wl_s (pc' := 236) ji_178_235 rfl rfl rfl ?_
        refine wl_sc (d := d) (as := [wp_i (bt bl L p)]) (rest := [.ref 138]) ji_178_236 jc_178_115 (Nat.le_of_ble_eq_true rfl) rfl (Nat.le_of_ble_eq_true rfl) rfl (by rw [jn_182]; rfl) (wr_sgn (c := bt bl L p) (by omega)) (fun v h1 R => ?_)
        obtain ⟨e1, y7, rfl, hy7a, hy7b⟩ := R
        subst e1
        show wl_R _ (d + 1) 178 239 [some (.ref 138), some (wp_i (bt bl L p))] [wp_i y7, .ref 138] h1 _
        refine wl_if (t := 246) ji_178_239 rfl (by omega) (fun (hb8 : (y7 : Int) = 0) => ?_) (fun (hb8 : ¬ ((y7 : Int) = 0)) => ?_)
        · refine wl_s (pc' := 247) ji_178_246 rfl rfl rfl ?_
          refine rt_p9 (y := 3) V ji_178_247 jf_178_95 (fun h V => ?_)
          refine wl_s (pc' := 251) ji_178_250 rfl rfl rfl ?_
          refine wl_s (pc' := 252) ji_178_251 rfl rfl rfl ?_
          refine rt_g7 V ji_178_252 jf_178_85 ?_
          refine wl_s (pc' := 256) ji_178_255 rfl rfl rfl ?_
          refine wl_iadd (x := p) (y := 1) (z := p + 1) ji_178_256 (by omega) ?_
          refine rt_p7 (y := p + 1) V ji_178_257 jf_178_85 (fun h V => ?_)
          refine wl_s (pc' := 261) ji_178_260 rfl rfl rfl ?_
          refine wl_bp ji_178_261 rfl ?_
          refine wl_icmp (t := 272) ji_178_263 rfl (by omega) (by omega) (fun (hb9 : (bt bl L p : Int) = 60) => ?_) (fun (hb9 : ¬ ((bt bl L p : Int) = 60)) => ?_)
          · refine wl_s (pc' := 273) ji_178_272 rfl rfl rfl ?_
            refine wl_s (pc' := 274) ji_178_273 rfl rfl rfl ?_
            refine rt_g7 V ji_178_274 jf_178_85 ?_
            obtain ⟨cs9, hcs9⟩ := rt_c V
            refine wl_vc (d := d) (as := [.ref 138, wp_i (p + 1)]) (rest := []) ji_178_277 jc_178_88 rfl hcs9 jk_179.symm (Nat.le_of_ble_eq_true rfl) rfl (by rw [jn_179]; rfl) (wr_byte (k := p + 1) D ⟨hL0, hL⟩ V (by omega)) (fun v h1 R => ?_)
            obtain ⟨e1, rfl⟩ := R
            subst e1
            have hb_10 := bt_r D hL (k := p + 1) (by omega)
            show wl_R _ (d + 1) 178 280 [some (.ref 138), some (wp_i (bt bl L p))] [wp_i (bt bl L (p + 1))] h1 _
            refine wl_bp ji_178_280 rfl ?_
            refine wl_icmp (t := 310) ji_178_282 rfl (by omega) (by omega) (fun (hb11 : ¬ (bt bl L (p + 1) : Int) = 61) => ?_) (fun (hb11 : ¬ (¬ (bt bl L (p + 1) : Int) = 61)) => ?_)
            · have hcL : p < L := (Classical.em (p < L)).elim id (fun x => by have := bt_e (bl := bl) (L := L) (k := p) (by omega); omega)
              have hns : ¬ tk_g (bt bl L p) := fun e => by have := hy7b.mpr e; omega
              unfold tk_g at hns
              have e : tk_s (bt bl L p) (bt bl L (p + 1)) = (4, -1, 1) := by unfold tk_s; rw [if_neg (by omega), if_neg (by omega)]
              exact wl_rv ji_178_310 jr_178 ⟨rfl, 4, -1, p, p + 1, 3, n, w, V, ⟨hwh, Or.inr (Or.inr (Or.inr ⟨by omega, fun e => by have := hy5b.mpr e; omega, fun e => by have := hy3b.mpr e; omega, by rw [e], by rw [e], by rw [e]⟩))⟩, Or.inr (Or.inr (Or.inr (Or.inr ⟨rfl, rfl⟩))), by omega, hw0⟩
            · refine wl_s (pc' := 286) ji_178_285 rfl rfl rfl ?_
              refine wl_s (pc' := 287) ji_178_286 rfl rfl rfl ?_
              refine wl_bp ji_178_287 rfl ?_
              refine wl_icmp (t := 296) ji_178_289 rfl (by omega) (by omega) (fun (hb12 : ¬ (bt bl L p : Int) = 60) => ?_) (fun (hb12 : ¬ (¬ (bt bl L p : Int) = 60)) => ?_)
              · refine wl_s (pc' := 297) ji_178_296 rfl rfl rfl ?_
                refine rt_p9 (y := 5) V ji_178_297 jf_178_95 (fun h V => ?_)
                refine wl_s (pc' := 301) ji_178_300 rfl rfl rfl ?_
                refine wl_s (pc' := 302) ji_178_301 rfl rfl rfl ?_
                refine rt_g7 V ji_178_302 jf_178_85 ?_
                refine wl_s (pc' := 306) ji_178_305 rfl rfl rfl ?_
                refine wl_iadd (x := p + 1) (y := 1) (z := p + 1 + 1) ji_178_306 (by omega) ?_
                refine rt_p7 (y := p + 1 + 1) V ji_178_307 jf_178_85 (fun h V => ?_)
                have hcL : p < L := (Classical.em (p < L)).elim id (fun x => by have := bt_e (bl := bl) (L := L) (k := p) (by omega); omega)
                have h2L : p + 1 < L := (Classical.em (p + 1 < L)).elim id (fun x => by have := bt_e (bl := bl) (L := L) (k := p + 1) (by omega); omega)
                have e : tk_s (bt bl L p) (bt bl L (p + 1)) = (2, 103, 2) := by unfold tk_s; rw [if_pos (by omega), if_pos (by omega), if_neg (by omega)]
                rw [show p + 1 + 1 = p + 2 by omega] at V
                exact wl_rv ji_178_310 jr_178 ⟨rfl, 2, 103, p, p + 2, 5, n, w, V, ⟨hwh, Or.inr (Or.inr (Or.inr ⟨by omega, fun e => by have := hy5b.mpr e; omega, fun e => by have := hy3b.mpr e; omega, by rw [e], by rw [e], by rw [e]⟩))⟩, Or.inr (Or.inr (Or.inr (Or.inl ⟨rfl, rfl, by omega⟩))), by omega, hw0⟩
              · refine wl_s (pc' := 293) ji_178_292 rfl rfl rfl ?_
                refine wl_goto (t := 297) ji_178_293 rfl ?_
                refine rt_p9 (y := 4) V ji_178_297 jf_178_95 (fun h V => ?_)
                refine wl_s (pc' := 301) ji_178_300 rfl rfl rfl ?_
                refine wl_s (pc' := 302) ji_178_301 rfl rfl rfl ?_
                refine rt_g7 V ji_178_302 jf_178_85 ?_
                refine wl_s (pc' := 306) ji_178_305 rfl rfl rfl ?_
                refine wl_iadd (x := p + 1) (y := 1) (z := p + 1 + 1) ji_178_306 (by omega) ?_
                refine rt_p7 (y := p + 1 + 1) V ji_178_307 jf_178_85 (fun h V => ?_)
                have hcL : p < L := (Classical.em (p < L)).elim id (fun x => by have := bt_e (bl := bl) (L := L) (k := p) (by omega); omega)
                have h2L : p + 1 < L := (Classical.em (p + 1 < L)).elim id (fun x => by have := bt_e (bl := bl) (L := L) (k := p + 1) (by omega); omega)
                have e : tk_s (bt bl L p) (bt bl L (p + 1)) = (2, 108, 2) := by unfold tk_s; rw [if_pos (by omega), if_pos (by omega), if_pos (by omega)]
                rw [show p + 1 + 1 = p + 2 by omega] at V
                exact wl_rv ji_178_310 jr_178 ⟨rfl, 2, 108, p, p + 2, 4, n, w, V, ⟨hwh, Or.inr (Or.inr (Or.inr ⟨by omega, fun e => by have := hy5b.mpr e; omega, fun e => by have := hy3b.mpr e; omega, by rw [e], by rw [e], by rw [e]⟩))⟩, Or.inr (Or.inr (Or.inr (Or.inl ⟨rfl, rfl, by omega⟩))), by omega, hw0⟩
          · refine wl_s (pc' := 267) ji_178_266 rfl rfl rfl ?_
            refine wl_bp ji_178_267 rfl ?_
            refine wl_icmp (t := 310) ji_178_269 rfl (by omega) (by omega) (fun (hb13 : ¬ (bt bl L p : Int) = 62) => ?_) (fun (hb13 : ¬ (¬ (bt bl L p : Int) = 62)) => ?_)
            · have hcL : p < L := (Classical.em (p < L)).elim id (fun x => by have := bt_e (bl := bl) (L := L) (k := p) (by omega); omega)
              have hns : ¬ tk_g (bt bl L p) := fun e => by have := hy7b.mpr e; omega
              unfold tk_g at hns
              have e : tk_s (bt bl L p) (bt bl L (p + 1)) = (4, -1, 1) := by unfold tk_s; rw [if_neg (by omega), if_neg (by omega)]
              exact wl_rv ji_178_310 jr_178 ⟨rfl, 4, -1, p, p + 1, 3, n, w, V, ⟨hwh, Or.inr (Or.inr (Or.inr ⟨by omega, fun e => by have := hy5b.mpr e; omega, fun e => by have := hy3b.mpr e; omega, by rw [e], by rw [e], by rw [e]⟩))⟩, Or.inr (Or.inr (Or.inr (Or.inr ⟨rfl, rfl⟩))), by omega, hw0⟩
            · refine wl_s (pc' := 273) ji_178_272 rfl rfl rfl ?_
              refine wl_s (pc' := 274) ji_178_273 rfl rfl rfl ?_
              refine rt_g7 V ji_178_274 jf_178_85 ?_
              obtain ⟨cs13, hcs13⟩ := rt_c V
              refine wl_vc (d := d) (as := [.ref 138, wp_i (p + 1)]) (rest := []) ji_178_277 jc_178_88 rfl hcs13 jk_179.symm (Nat.le_of_ble_eq_true rfl) rfl (by rw [jn_179]; rfl) (wr_byte (k := p + 1) D ⟨hL0, hL⟩ V (by omega)) (fun v h1 R => ?_)
              obtain ⟨e1, rfl⟩ := R
              subst e1
              have hb_14 := bt_r D hL (k := p + 1) (by omega)
              show wl_R _ (d + 1) 178 280 [some (.ref 138), some (wp_i (bt bl L p))] [wp_i (bt bl L (p + 1))] h1 _
              refine wl_bp ji_178_280 rfl ?_
              refine wl_icmp (t := 310) ji_178_282 rfl (by omega) (by omega) (fun (hb15 : ¬ (bt bl L (p + 1) : Int) = 61) => ?_) (fun (hb15 : ¬ (¬ (bt bl L (p + 1) : Int) = 61)) => ?_)
              · have hcL : p < L := (Classical.em (p < L)).elim id (fun x => by have := bt_e (bl := bl) (L := L) (k := p) (by omega); omega)
                have hns : ¬ tk_g (bt bl L p) := fun e => by have := hy7b.mpr e; omega
                unfold tk_g at hns
                have e : tk_s (bt bl L p) (bt bl L (p + 1)) = (4, -1, 1) := by unfold tk_s; rw [if_neg (by omega), if_neg (by omega)]
                exact wl_rv ji_178_310 jr_178 ⟨rfl, 4, -1, p, p + 1, 3, n, w, V, ⟨hwh, Or.inr (Or.inr (Or.inr ⟨by omega, fun e => by have := hy5b.mpr e; omega, fun e => by have := hy3b.mpr e; omega, by rw [e], by rw [e], by rw [e]⟩))⟩, Or.inr (Or.inr (Or.inr (Or.inr ⟨rfl, rfl⟩))), by omega, hw0⟩
              · refine wl_s (pc' := 286) ji_178_285 rfl rfl rfl ?_
                refine wl_s (pc' := 287) ji_178_286 rfl rfl rfl ?_
                refine wl_bp ji_178_287 rfl ?_
                refine wl_icmp (t := 296) ji_178_289 rfl (by omega) (by omega) (fun (hb16 : ¬ (bt bl L p : Int) = 60) => ?_) (fun (hb16 : ¬ (¬ (bt bl L p : Int) = 60)) => ?_)
                · refine wl_s (pc' := 297) ji_178_296 rfl rfl rfl ?_
                  refine rt_p9 (y := 5) V ji_178_297 jf_178_95 (fun h V => ?_)
                  refine wl_s (pc' := 301) ji_178_300 rfl rfl rfl ?_
                  refine wl_s (pc' := 302) ji_178_301 rfl rfl rfl ?_
                  refine rt_g7 V ji_178_302 jf_178_85 ?_
                  refine wl_s (pc' := 306) ji_178_305 rfl rfl rfl ?_
                  refine wl_iadd (x := p + 1) (y := 1) (z := p + 1 + 1) ji_178_306 (by omega) ?_
                  refine rt_p7 (y := p + 1 + 1) V ji_178_307 jf_178_85 (fun h V => ?_)
                  have hcL : p < L := (Classical.em (p < L)).elim id (fun x => by have := bt_e (bl := bl) (L := L) (k := p) (by omega); omega)
                  have h2L : p + 1 < L := (Classical.em (p + 1 < L)).elim id (fun x => by have := bt_e (bl := bl) (L := L) (k := p + 1) (by omega); omega)
                  have e : tk_s (bt bl L p) (bt bl L (p + 1)) = (2, 103, 2) := by unfold tk_s; rw [if_pos (by omega), if_pos (by omega), if_neg (by omega)]
                  rw [show p + 1 + 1 = p + 2 by omega] at V
                  exact wl_rv ji_178_310 jr_178 ⟨rfl, 2, 103, p, p + 2, 5, n, w, V, ⟨hwh, Or.inr (Or.inr (Or.inr ⟨by omega, fun e => by have := hy5b.mpr e; omega, fun e => by have := hy3b.mpr e; omega, by rw [e], by rw [e], by rw [e]⟩))⟩, Or.inr (Or.inr (Or.inr (Or.inl ⟨rfl, rfl, by omega⟩))), by omega, hw0⟩
                · refine wl_s (pc' := 293) ji_178_292 rfl rfl rfl ?_
                  refine wl_goto (t := 297) ji_178_293 rfl ?_
                  refine rt_p9 (y := 4) V ji_178_297 jf_178_95 (fun h V => ?_)
                  refine wl_s (pc' := 301) ji_178_300 rfl rfl rfl ?_
                  refine wl_s (pc' := 302) ji_178_301 rfl rfl rfl ?_
                  refine rt_g7 V ji_178_302 jf_178_85 ?_
                  refine wl_s (pc' := 306) ji_178_305 rfl rfl rfl ?_
                  refine wl_iadd (x := p + 1) (y := 1) (z := p + 1 + 1) ji_178_306 (by omega) ?_
                  refine rt_p7 (y := p + 1 + 1) V ji_178_307 jf_178_85 (fun h V => ?_)
                  have hcL : p < L := (Classical.em (p < L)).elim id (fun x => by have := bt_e (bl := bl) (L := L) (k := p) (by omega); omega)
                  have h2L : p + 1 < L := (Classical.em (p + 1 < L)).elim id (fun x => by have := bt_e (bl := bl) (L := L) (k := p + 1) (by omega); omega)
                  have e : tk_s (bt bl L p) (bt bl L (p + 1)) = (2, 108, 2) := by unfold tk_s; rw [if_pos (by omega), if_pos (by omega), if_pos (by omega)]
                  rw [show p + 1 + 1 = p + 2 by omega] at V
                  exact wl_rv ji_178_310 jr_178 ⟨rfl, 2, 108, p, p + 2, 4, n, w, V, ⟨hwh, Or.inr (Or.inr (Or.inr ⟨by omega, fun e => by have := hy5b.mpr e; omega, fun e => by have := hy3b.mpr e; omega, by rw [e], by rw [e], by rw [e]⟩))⟩, Or.inr (Or.inr (Or.inr (Or.inl ⟨rfl, rfl, by omega⟩))), by omega, hw0⟩
        · refine wl_s (pc' := 243) ji_178_242 rfl rfl rfl ?_
          refine wl_goto (t := 247) ji_178_243 rfl ?_
          refine rt_p9 (y := bt bl L p) V ji_178_247 jf_178_95 (fun h V => ?_)
          refine wl_s (pc' := 251) ji_178_250 rfl rfl rfl ?_
          refine wl_s (pc' := 252) ji_178_251 rfl rfl rfl ?_
          refine rt_g7 V ji_178_252 jf_178_85 ?_
          refine wl_s (pc' := 256) ji_178_255 rfl rfl rfl ?_
          refine wl_iadd (x := p) (y := 1) (z := p + 1) ji_178_256 (by omega) ?_
          refine rt_p7 (y := p + 1) V ji_178_257 jf_178_85 (fun h V => ?_)
          refine wl_s (pc' := 261) ji_178_260 rfl rfl rfl ?_
          refine wl_bp ji_178_261 rfl ?_
          refine wl_icmp (t := 272) ji_178_263 rfl (by omega) (by omega) (fun (hb17 : (bt bl L p : Int) = 60) => ?_) (fun (hb17 : ¬ ((bt bl L p : Int) = 60)) => ?_)
          · refine wl_s (pc' := 273) ji_178_272 rfl rfl rfl ?_
            refine wl_s (pc' := 274) ji_178_273 rfl rfl rfl ?_
            refine rt_g7 V ji_178_274 jf_178_85 ?_
            obtain ⟨cs17, hcs17⟩ := rt_c V
            refine wl_vc (d := d) (as := [.ref 138, wp_i (p + 1)]) (rest := []) ji_178_277 jc_178_88 rfl hcs17 jk_179.symm (Nat.le_of_ble_eq_true rfl) rfl (by rw [jn_179]; rfl) (wr_byte (k := p + 1) D ⟨hL0, hL⟩ V (by omega)) (fun v h1 R => ?_)
            obtain ⟨e1, rfl⟩ := R
            subst e1
            have hb_18 := bt_r D hL (k := p + 1) (by omega)
            show wl_R _ (d + 1) 178 280 [some (.ref 138), some (wp_i (bt bl L p))] [wp_i (bt bl L (p + 1))] h1 _
            refine wl_bp ji_178_280 rfl ?_
            refine wl_icmp (t := 310) ji_178_282 rfl (by omega) (by omega) (fun (hb19 : ¬ (bt bl L (p + 1) : Int) = 61) => ?_) (fun (hb19 : ¬ (¬ (bt bl L (p + 1) : Int) = 61)) => ?_)
            · have hcL : p < L := (Classical.em (p < L)).elim id (fun x => by have := bt_e (bl := bl) (L := L) (k := p) (by omega); omega)
              have hns := hy7b.mp (by omega)
              unfold tk_g at hns
              have e : tk_s (bt bl L p) (bt bl L (p + 1)) = (2, bt bl L p, 1) := by unfold tk_s; rw [if_pos (by omega), if_neg (by omega)]
              exact wl_rv ji_178_310 jr_178 ⟨rfl, 2, bt bl L p, p, p + 1, bt bl L p, n, w, V, ⟨hwh, Or.inr (Or.inr (Or.inr ⟨by omega, fun e => by have := hy5b.mpr e; omega, fun e => by have := hy3b.mpr e; omega, by rw [e], by rw [e], by rw [e]⟩))⟩, Or.inr (Or.inr (Or.inr (Or.inl ⟨rfl, by unfold sg; rw [if_neg (by omega), if_neg (by omega)], by omega⟩))), by omega, hw0⟩
            · refine wl_s (pc' := 286) ji_178_285 rfl rfl rfl ?_
              refine wl_s (pc' := 287) ji_178_286 rfl rfl rfl ?_
              refine wl_bp ji_178_287 rfl ?_
              refine wl_icmp (t := 296) ji_178_289 rfl (by omega) (by omega) (fun (hb20 : ¬ (bt bl L p : Int) = 60) => ?_) (fun (hb20 : ¬ (¬ (bt bl L p : Int) = 60)) => ?_)
              · refine wl_s (pc' := 297) ji_178_296 rfl rfl rfl ?_
                refine rt_p9 (y := 5) V ji_178_297 jf_178_95 (fun h V => ?_)
                refine wl_s (pc' := 301) ji_178_300 rfl rfl rfl ?_
                refine wl_s (pc' := 302) ji_178_301 rfl rfl rfl ?_
                refine rt_g7 V ji_178_302 jf_178_85 ?_
                refine wl_s (pc' := 306) ji_178_305 rfl rfl rfl ?_
                refine wl_iadd (x := p + 1) (y := 1) (z := p + 1 + 1) ji_178_306 (by omega) ?_
                refine rt_p7 (y := p + 1 + 1) V ji_178_307 jf_178_85 (fun h V => ?_)
                have hcL : p < L := (Classical.em (p < L)).elim id (fun x => by have := bt_e (bl := bl) (L := L) (k := p) (by omega); omega)
                have h2L : p + 1 < L := (Classical.em (p + 1 < L)).elim id (fun x => by have := bt_e (bl := bl) (L := L) (k := p + 1) (by omega); omega)
                have e : tk_s (bt bl L p) (bt bl L (p + 1)) = (2, 103, 2) := by unfold tk_s; rw [if_pos (by omega), if_pos (by omega), if_neg (by omega)]
                rw [show p + 1 + 1 = p + 2 by omega] at V
                exact wl_rv ji_178_310 jr_178 ⟨rfl, 2, 103, p, p + 2, 5, n, w, V, ⟨hwh, Or.inr (Or.inr (Or.inr ⟨by omega, fun e => by have := hy5b.mpr e; omega, fun e => by have := hy3b.mpr e; omega, by rw [e], by rw [e], by rw [e]⟩))⟩, Or.inr (Or.inr (Or.inr (Or.inl ⟨rfl, rfl, by omega⟩))), by omega, hw0⟩
              · refine wl_s (pc' := 293) ji_178_292 rfl rfl rfl ?_
                refine wl_goto (t := 297) ji_178_293 rfl ?_
                refine rt_p9 (y := 4) V ji_178_297 jf_178_95 (fun h V => ?_)
                refine wl_s (pc' := 301) ji_178_300 rfl rfl rfl ?_
                refine wl_s (pc' := 302) ji_178_301 rfl rfl rfl ?_
                refine rt_g7 V ji_178_302 jf_178_85 ?_
                refine wl_s (pc' := 306) ji_178_305 rfl rfl rfl ?_
                refine wl_iadd (x := p + 1) (y := 1) (z := p + 1 + 1) ji_178_306 (by omega) ?_
                refine rt_p7 (y := p + 1 + 1) V ji_178_307 jf_178_85 (fun h V => ?_)
                have hcL : p < L := (Classical.em (p < L)).elim id (fun x => by have := bt_e (bl := bl) (L := L) (k := p) (by omega); omega)
                have h2L : p + 1 < L := (Classical.em (p + 1 < L)).elim id (fun x => by have := bt_e (bl := bl) (L := L) (k := p + 1) (by omega); omega)
                have e : tk_s (bt bl L p) (bt bl L (p + 1)) = (2, 108, 2) := by unfold tk_s; rw [if_pos (by omega), if_pos (by omega), if_pos (by omega)]
                rw [show p + 1 + 1 = p + 2 by omega] at V
                exact wl_rv ji_178_310 jr_178 ⟨rfl, 2, 108, p, p + 2, 4, n, w, V, ⟨hwh, Or.inr (Or.inr (Or.inr ⟨by omega, fun e => by have := hy5b.mpr e; omega, fun e => by have := hy3b.mpr e; omega, by rw [e], by rw [e], by rw [e]⟩))⟩, Or.inr (Or.inr (Or.inr (Or.inl ⟨rfl, rfl, by omega⟩))), by omega, hw0⟩
          · refine wl_s (pc' := 267) ji_178_266 rfl rfl rfl ?_
            refine wl_bp ji_178_267 rfl ?_
            refine wl_icmp (t := 310) ji_178_269 rfl (by omega) (by omega) (fun (hb21 : ¬ (bt bl L p : Int) = 62) => ?_) (fun (hb21 : ¬ (¬ (bt bl L p : Int) = 62)) => ?_)
            · have hcL : p < L := (Classical.em (p < L)).elim id (fun x => by have := bt_e (bl := bl) (L := L) (k := p) (by omega); omega)
              have hns := hy7b.mp (by omega)
              unfold tk_g at hns
              have e : tk_s (bt bl L p) (bt bl L (p + 1)) = (2, bt bl L p, 1) := by unfold tk_s; rw [if_neg (by omega), if_pos (by omega)]
              exact wl_rv ji_178_310 jr_178 ⟨rfl, 2, bt bl L p, p, p + 1, bt bl L p, n, w, V, ⟨hwh, Or.inr (Or.inr (Or.inr ⟨by omega, fun e => by have := hy5b.mpr e; omega, fun e => by have := hy3b.mpr e; omega, by rw [e], by rw [e], by rw [e]⟩))⟩, Or.inr (Or.inr (Or.inr (Or.inl ⟨rfl, by unfold sg; rw [if_neg (by omega), if_neg (by omega)], by omega⟩))), by omega, hw0⟩
            · refine wl_s (pc' := 273) ji_178_272 rfl rfl rfl ?_
              refine wl_s (pc' := 274) ji_178_273 rfl rfl rfl ?_
              refine rt_g7 V ji_178_274 jf_178_85 ?_
              obtain ⟨cs21, hcs21⟩ := rt_c V
              refine wl_vc (d := d) (as := [.ref 138, wp_i (p + 1)]) (rest := []) ji_178_277 jc_178_88 rfl hcs21 jk_179.symm (Nat.le_of_ble_eq_true rfl) rfl (by rw [jn_179]; rfl) (wr_byte (k := p + 1) D ⟨hL0, hL⟩ V (by omega)) (fun v h1 R => ?_)
              obtain ⟨e1, rfl⟩ := R
              subst e1
              have hb_22 := bt_r D hL (k := p + 1) (by omega)
              show wl_R _ (d + 1) 178 280 [some (.ref 138), some (wp_i (bt bl L p))] [wp_i (bt bl L (p + 1))] h1 _
              refine wl_bp ji_178_280 rfl ?_
              refine wl_icmp (t := 310) ji_178_282 rfl (by omega) (by omega) (fun (hb23 : ¬ (bt bl L (p + 1) : Int) = 61) => ?_) (fun (hb23 : ¬ (¬ (bt bl L (p + 1) : Int) = 61)) => ?_)
              · have hcL : p < L := (Classical.em (p < L)).elim id (fun x => by have := bt_e (bl := bl) (L := L) (k := p) (by omega); omega)
                have hns := hy7b.mp (by omega)
                unfold tk_g at hns
                have e : tk_s (bt bl L p) (bt bl L (p + 1)) = (2, bt bl L p, 1) := by unfold tk_s; rw [if_pos (by omega), if_neg (by omega)]
                exact wl_rv ji_178_310 jr_178 ⟨rfl, 2, bt bl L p, p, p + 1, bt bl L p, n, w, V, ⟨hwh, Or.inr (Or.inr (Or.inr ⟨by omega, fun e => by have := hy5b.mpr e; omega, fun e => by have := hy3b.mpr e; omega, by rw [e], by rw [e], by rw [e]⟩))⟩, Or.inr (Or.inr (Or.inr (Or.inl ⟨rfl, by unfold sg; rw [if_neg (by omega), if_neg (by omega)], by omega⟩))), by omega, hw0⟩
              · refine wl_s (pc' := 286) ji_178_285 rfl rfl rfl ?_
                refine wl_s (pc' := 287) ji_178_286 rfl rfl rfl ?_
                refine wl_bp ji_178_287 rfl ?_
                refine wl_icmp (t := 296) ji_178_289 rfl (by omega) (by omega) (fun (hb24 : ¬ (bt bl L p : Int) = 60) => ?_) (fun (hb24 : ¬ (¬ (bt bl L p : Int) = 60)) => ?_)
                · refine wl_s (pc' := 297) ji_178_296 rfl rfl rfl ?_
                  refine rt_p9 (y := 5) V ji_178_297 jf_178_95 (fun h V => ?_)
                  refine wl_s (pc' := 301) ji_178_300 rfl rfl rfl ?_
                  refine wl_s (pc' := 302) ji_178_301 rfl rfl rfl ?_
                  refine rt_g7 V ji_178_302 jf_178_85 ?_
                  refine wl_s (pc' := 306) ji_178_305 rfl rfl rfl ?_
                  refine wl_iadd (x := p + 1) (y := 1) (z := p + 1 + 1) ji_178_306 (by omega) ?_
                  refine rt_p7 (y := p + 1 + 1) V ji_178_307 jf_178_85 (fun h V => ?_)
                  have hcL : p < L := (Classical.em (p < L)).elim id (fun x => by have := bt_e (bl := bl) (L := L) (k := p) (by omega); omega)
                  have h2L : p + 1 < L := (Classical.em (p + 1 < L)).elim id (fun x => by have := bt_e (bl := bl) (L := L) (k := p + 1) (by omega); omega)
                  have e : tk_s (bt bl L p) (bt bl L (p + 1)) = (2, 103, 2) := by unfold tk_s; rw [if_pos (by omega), if_pos (by omega), if_neg (by omega)]
                  rw [show p + 1 + 1 = p + 2 by omega] at V
                  exact wl_rv ji_178_310 jr_178 ⟨rfl, 2, 103, p, p + 2, 5, n, w, V, ⟨hwh, Or.inr (Or.inr (Or.inr ⟨by omega, fun e => by have := hy5b.mpr e; omega, fun e => by have := hy3b.mpr e; omega, by rw [e], by rw [e], by rw [e]⟩))⟩, Or.inr (Or.inr (Or.inr (Or.inl ⟨rfl, rfl, by omega⟩))), by omega, hw0⟩
                · refine wl_s (pc' := 293) ji_178_292 rfl rfl rfl ?_
                  refine wl_goto (t := 297) ji_178_293 rfl ?_
                  refine rt_p9 (y := 4) V ji_178_297 jf_178_95 (fun h V => ?_)
                  refine wl_s (pc' := 301) ji_178_300 rfl rfl rfl ?_
                  refine wl_s (pc' := 302) ji_178_301 rfl rfl rfl ?_
                  refine rt_g7 V ji_178_302 jf_178_85 ?_
                  refine wl_s (pc' := 306) ji_178_305 rfl rfl rfl ?_
                  refine wl_iadd (x := p + 1) (y := 1) (z := p + 1 + 1) ji_178_306 (by omega) ?_
                  refine rt_p7 (y := p + 1 + 1) V ji_178_307 jf_178_85 (fun h V => ?_)
                  have hcL : p < L := (Classical.em (p < L)).elim id (fun x => by have := bt_e (bl := bl) (L := L) (k := p) (by omega); omega)
                  have h2L : p + 1 < L := (Classical.em (p + 1 < L)).elim id (fun x => by have := bt_e (bl := bl) (L := L) (k := p + 1) (by omega); omega)
                  have e : tk_s (bt bl L p) (bt bl L (p + 1)) = (2, 108, 2) := by unfold tk_s; rw [if_pos (by omega), if_pos (by omega), if_pos (by omega)]
                  rw [show p + 1 + 1 = p + 2 by omega] at V
                  exact wl_rv ji_178_310 jr_178 ⟨rfl, 2, 108, p, p + 2, 4, n, w, V, ⟨hwh, Or.inr (Or.inr (Or.inr ⟨by omega, fun e => by have := hy5b.mpr e; omega, fun e => by have := hy3b.mpr e; omega, by rw [e], by rw [e], by rw [e]⟩))⟩, Or.inr (Or.inr (Or.inr (Or.inl ⟨rfl, rfl, by omega⟩))), by omega, hw0⟩
      · refine wl_s (pc' := 159) ji_178_158 rfl rfl rfl ?_
        refine wl_s (pc' := 160) ji_178_159 rfl rfl rfl ?_
        refine rt_p9 (y := 2) V ji_178_160 jf_178_95 (fun h V => ?_)
        refine wl_s (pc' := 164) ji_178_163 rfl rfl rfl ?_
        refine wl_s (pc' := 165) ji_178_164 rfl rfl rfl ?_
        refine rt_p11 (y := 0) V ji_178_165 jf_178_109 (fun h V => ?_)
        refine wr_168 D ⟨hL0, hL⟩ (by omega) hwh (hy5b.mp (by omega)) nn _ p 0 V ⟨Int.le_refl _, hpL⟩ (fun j a b => (by omega)) ?_
        rw [tk_ls_0]
        rfl
    · refine wl_s (pc' := 76) ji_178_75 rfl rfl rfl ?_
      refine wl_s (pc' := 77) ji_178_76 rfl rfl rfl ?_
      refine rt_p9 (y := 1) V ji_178_77 jf_178_95 (fun h V => ?_)
      refine wl_s (pc' := 81) ji_178_80 rfl rfl rfl ?_
      refine wl_s (pc' := 82) ji_178_81 rfl rfl rfl ?_
      refine rt_p10 (y := 0) V ji_178_82 jf_178_102 (fun h V => ?_)
      refine wr_85 D ⟨hL0, hL⟩ (by omega) hwh (hy3b.mp (by omega)) hw0 nn _ p 0 V ⟨Int.le_refl _, hpL⟩ (fun j a b => (by omega)) ⟨by omega, Or.inl ⟨?_, by omega⟩⟩
      rw [show (p - p).toNat = 0 by omega]
      rfl
  · refine wl_s (pc' := 61) ji_178_60 rfl rfl rfl ?_
    refine wl_s (pc' := 62) ji_178_61 rfl rfl rfl ?_
    refine rt_p9 (y := 0) V ji_178_62 jf_178_95 (fun h V => ?_)
    refine wl_goto (t := 310) ji_178_65 rfl ?_
    exact wl_rv ji_178_310 jr_178 ⟨rfl, 3, -1, p, p, 0, n, w, V, ⟨hwh, Or.inl ⟨by omega, rfl, rfl, rfl⟩⟩, Or.inl ⟨rfl, rfl⟩, by omega, hw0⟩
theorem wr_nxl {d : Nat} {h0 : mj_H} {fs0 bl : List Value} {L : Int} (D : tB bl) (hL : 0 ≤ L ∧ L ≤ 300) {p0 q t n : Int} {w : Nat} {o : Option Value} (hp0 : 0 ≤ p0) (hw0 : w ≤ 2 ^ 60) : ∀ (nn : Nat) (h : mj_H) (p : Int), rT h0 h fs0 bl L p q t n w → (p0 ≤ p ∧ p ≤ L) → (∀ j, p0 ≤ j → j < p → tk_b (bt bl L j)) → wl_R nn (d + 1) 178 0 [some (.ref 138), o] [] h (fun v h1 => v = none ∧ ∃ (k' v' q r t n : Int) (w : Nat), rT h0 h1 fs0 bl L r q t n w ∧ tok (bt bl L) p0 k' v' q r ∧ tkr k' v' t n w ∧ (0 ≤ q ∧ r ≤ L) ∧ w ≤ 2 ^ 60) := by
  obtain ⟨hL0, hL⟩ := hL
  intro nn
  induction nn with
  | zero => intro h p V hp hj; exact wl_0
  | succ nn ih =>
    intro h p V hp hj
    have hlt : tk_b (bt bl L p) → p < L := fun e => (Classical.em (p < L)).elim id (fun x => by rw [bt_e (by omega)] at e; unfold tk_b at e; omega)
    refine wl_s1 (pc' := 1) ji_178_0 rfl rfl rfl ?_
    refine wl_s (pc' := 2) ji_178_1 rfl rfl rfl ?_
    refine rt_g7 V ji_178_2 jf_178_85 ?_
    obtain ⟨cs0, hcs0⟩ := rt_c V
    refine wl_vc (d := d) (as := [.ref 138, wp_i p]) (rest := []) ji_178_5 jc_178_88 rfl hcs0 jk_179.symm (Nat.le_of_ble_eq_true rfl) rfl (by rw [jn_179]; rfl) (wr_byte (k := p) D ⟨hL0, hL⟩ V (by omega)) (fun v h1 R => ?_)
    obtain ⟨e1, rfl⟩ := R
    subst e1
    have hb_1 := bt_r D hL (k := p) (by omega)
    show wl_R _ (d + 1) 178 8 [some (.ref 138), o] [wp_i (bt bl L p)] h1 _
    refine wl_bp ji_178_8 rfl ?_
    refine wl_icmp (t := 26) ji_178_10 rfl (by omega) (by omega) (fun (hb2 : (bt bl L p : Int) = 32) => ?_) (fun (hb2 : ¬ ((bt bl L p : Int) = 32)) => ?_)
    · refine wl_s (pc' := 27) ji_178_26 rfl rfl rfl ?_
      refine wl_s (pc' := 28) ji_178_27 rfl rfl rfl ?_
      refine rt_g7 V ji_178_28 jf_178_85 ?_
      refine wl_s (pc' := 32) ji_178_31 rfl rfl rfl ?_
      refine wl_iadd (x := p) (y := 1) (z := p + 1) ji_178_32 (by omega) ?_
      refine rt_p7 (y := p + 1) V ji_178_33 jf_178_85 (fun h V => ?_)
      refine wl_goto (t := 0) ji_178_36 rfl ?_
      exact ih h (p + 1) V ⟨by omega, by have := hlt (by unfold tk_b; omega); omega⟩ (fun j h1 h2 => (Classical.em (j = p)).elim (fun e => by subst e; unfold tk_b; omega) (fun e => hj j h1 (by omega)))
    · refine wl_s (pc' := 14) ji_178_13 rfl rfl rfl ?_
      refine wl_s (pc' := 15) ji_178_14 rfl rfl rfl ?_
      refine rt_g7 V ji_178_15 jf_178_85 ?_
      obtain ⟨cs2, hcs2⟩ := rt_c V
      refine wl_vc (d := d) (as := [.ref 138, wp_i p]) (rest := []) ji_178_18 jc_178_88 rfl hcs2 jk_179.symm (Nat.le_of_ble_eq_true rfl) rfl (by rw [jn_179]; rfl) (wr_byte (k := p) D ⟨hL0, hL⟩ V (by omega)) (fun v h1 R => ?_)
      obtain ⟨e1, rfl⟩ := R
      subst e1
      have hb_3 := bt_r D hL (k := p) (by omega)
      show wl_R _ (d + 1) 178 21 [some (.ref 138), o] [wp_i (bt bl L p)] h1 _
      refine wl_bp ji_178_21 rfl ?_
      refine wl_icmp (t := 39) ji_178_23 rfl (by omega) (by omega) (fun (hb4 : ¬ (bt bl L p : Int) = 10) => ?_) (fun (hb4 : ¬ (¬ (bt bl L p : Int) = 10)) => ?_)
      · exact wr_39 D ⟨hL0, hL⟩ V hp0 ⟨by omega, hj, by unfold tk_b; omega⟩ (by omega) hw0
      · refine wl_s (pc' := 27) ji_178_26 rfl rfl rfl ?_
        refine wl_s (pc' := 28) ji_178_27 rfl rfl rfl ?_
        refine rt_g7 V ji_178_28 jf_178_85 ?_
        refine wl_s (pc' := 32) ji_178_31 rfl rfl rfl ?_
        refine wl_iadd (x := p) (y := 1) (z := p + 1) ji_178_32 (by omega) ?_
        refine rt_p7 (y := p + 1) V ji_178_33 jf_178_85 (fun h V => ?_)
        refine wl_goto (t := 0) ji_178_36 rfl ?_
        exact ih h (p + 1) V ⟨by omega, by have := hlt (by unfold tk_b; omega); omega⟩ (fun j h1 h2 => (Classical.em (j = p)).elim (fun e => by subst e; unfold tk_b; omega) (fun e => hj j h1 (by omega)))
/-- the reference's next token -/
theorem wr_nxt {nn d : Nat} {h : mj_H} {h0 : mj_H} {fs0 bl : List Value} {L : Int} (D : tB bl) (hL : 0 ≤ L ∧ L ≤ 300) {p q t n : Int} {w : Nat} (V : rT h0 h fs0 bl L p q t n w) (hp : 0 ≤ p ∧ p ≤ L) (hw0 : w ≤ 2 ^ 60) : wl_R nn (d + 1) 178 0 [some (.ref 138), none] [] h (fun v h1 => v = none ∧ ∃ (k' v' q r t n : Int) (w : Nat), rT h0 h1 fs0 bl L r q t n w ∧ tok (bt bl L) p k' v' q r ∧ tkr k' v' t n w ∧ (0 ≤ q ∧ r ≤ L) ∧ w ≤ 2 ^ 60) := wr_nxl D hL hp.1 hw0 nn h p V ⟨Int.le_refl _, hp.2⟩ (fun j a b => (by omega))
