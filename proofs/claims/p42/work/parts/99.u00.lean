/-! -/
/-! the heap as numbers: what stands at an address, at a place; laid by program (wp_cs.py) -/
/-- kinds; what stands at the first places (0 an int, 1 a long, 2 a reference that is written, c + 3 the reference c); how many more, of what -/
abbrev sh_Q : Type := Nat × List Nat × Nat × Nat
def sh_T : List sh_Q := [(5000, [], 0, 0),
  (1000, [], 10, 0),
  (1000, [], 10, 0),
  (1000, [], 10, 0),
  (1000, [], 10, 0),
  (1000, [], 10, 0),
  (1000, [], 3, 0),
  (1000, [], 3, 0),
  (900, [], 127, 0),
  (0, [50, 72, 94, 96, 98], 0, 0),
  (1000, [], 64, 0),
  (1101, [15, 22, 29, 36, 43], 0, 0),
  (1, [16, 0, 17, 18, 19, 20, 21, 0, 13], 0, 0),
  (1000, [], 300, 0),
  (1000, [], 3, 0),
  (1000, [], 3, 0),
  (1000, [], 24, 0),
  (1000, [], 24, 0),
  (1000, [], 24, 0),
  (1, [23, 0, 24, 25, 26, 27, 28, 0, 13], 0, 0),
  (1000, [], 300, 0),
  (1000, [], 3, 0),
  (1000, [], 3, 0),
  (1000, [], 24, 0),
  (1000, [], 24, 0),
  (1000, [], 24, 0),
  (1, [30, 0, 31, 32, 33, 34, 35, 0, 13], 0, 0),
  (1000, [], 300, 0),
  (1000, [], 3, 0),
  (1000, [], 3, 0),
  (1000, [], 24, 0),
  (1000, [], 24, 0),
  (1000, [], 24, 0),
  (1, [37, 0, 38, 39, 40, 41, 42, 0, 13], 0, 0),
  (1000, [], 300, 0),
  (1000, [], 3, 0),
  (1000, [], 3, 0),
  (1000, [], 24, 0),
  (1000, [], 24, 0),
  (1000, [], 24, 0),
  (1, [44, 0, 45, 46, 47, 48, 49, 0, 13], 0, 0),
  (1000, [], 300, 0),
  (1000, [], 3, 0),
  (1000, [], 3, 0),
  (1000, [], 24, 0),
  (1000, [], 24, 0),
  (1000, [], 24, 0),
  (2, [51, 59, 62, 64, 68, 14, 0, 0], 0, 0),
  (3, [0, 0, 52, 53, 54, 55, 56, 57, 58, 0, 0, 0, 0], 0, 0),
  (1000, [], 8, 0),
  (1000, [], 8, 0),
  (1000, [], 8, 0),
  (1000, [], 6, 0),
  (1000, [], 6, 0),
  (1000, [], 48, 0),
  (1000, [], 48, 0),
  (4, [60, 61, 0], 0, 0),
  (1000, [], 40, 0),
  (1000, [], 40, 0),
  (5, [63, 0, 0], 0, 0),
  (1000, [], 5700, 0),
  (6, [65, 66, 67, 0], 0, 0),
  (1000, [], 8, 0),
  (1001, [], 8, 0),
  (1000, [], 100, 0),
  (7, [69, 70, 71, 0], 0, 0),
  (1000, [], 10, 0),
  (1000, [], 10, 0),
  (1000, [], 64, 0),
  (2, [73, 81, 84, 86, 90, 14, 0, 0], 0, 0),
  (3, [0, 0, 74, 75, 76, 77, 78, 79, 80, 0, 0, 0, 0], 0, 0),
  (1000, [], 8, 0),
  (1000, [], 8, 0),
  (1000, [], 8, 0),
  (1000, [], 6, 0),
  (1000, [], 6, 0),
  (1000, [], 48, 0),
  (1000, [], 48, 0),
  (4, [82, 83, 0], 0, 0),
  (1000, [], 40, 0),
  (1000, [], 40, 0),
  (5, [85, 0, 0], 0, 0),
  (1000, [], 5700, 0),
  (6, [87, 88, 89, 0], 0, 0),
  (1000, [], 8, 0),
  (1001, [], 8, 0),
  (1000, [], 100, 0),
  (7, [91, 92, 93, 0], 0, 0),
  (1000, [], 10, 0),
  (1000, [], 10, 0),
  (1000, [], 64, 0),
  (8, [95, 0, 0, 0, 0, 0], 0, 0),
  (1000, [], 300, 0),
  (9, [94, 2, 0, 0, 0, 0, 0, 97, 0, 0, 0, 0, 0], 0, 0),
  (1000, [], 40, 0),
  (10, [99, 100, 0], 0, 0),
  (1103, [101, 109, 117, 125, 133], 0, 0),
  (1000, [], 4, 0),
  (3, [0, 0, 102, 103, 104, 105, 106, 107, 108, 0, 0, 0, 0], 0, 0),
  (1000, [], 8, 0),
  (1000, [], 8, 0),
  (1000, [], 8, 0),
  (1000, [], 6, 0),
  (1000, [], 6, 0),
  (1000, [], 48, 0),
  (1000, [], 48, 0),
  (3, [0, 0, 110, 111, 112, 113, 114, 115, 116, 0, 0, 0, 0], 0, 0),
  (1000, [], 8, 0),
  (1000, [], 8, 0),
  (1000, [], 8, 0),
  (1000, [], 6, 0),
  (1000, [], 6, 0),
  (1000, [], 48, 0),
  (1000, [], 48, 0),
  (3, [0, 0, 118, 119, 120, 121, 122, 123, 124, 0, 0, 0, 0], 0, 0),
  (1000, [], 8, 0),
  (1000, [], 8, 0),
  (1000, [], 8, 0),
  (1000, [], 6, 0),
  (1000, [], 6, 0),
  (1000, [], 48, 0),
  (1000, [], 48, 0),
  (3, [0, 0, 126, 127, 128, 129, 130, 131, 132, 0, 0, 0, 0], 0, 0),
  (1000, [], 8, 0),
  (1000, [], 8, 0),
  (1000, [], 8, 0),
  (1000, [], 6, 0),
  (1000, [], 6, 0),
  (1000, [], 48, 0),
  (1000, [], 48, 0),
  (3, [0, 0, 134, 135, 136, 137, 138, 139, 140, 0, 0, 0, 0], 0, 0),
  (1000, [], 8, 0),
  (1000, [], 8, 0),
  (1000, [], 8, 0),
  (1000, [], 6, 0),
  (1000, [], 6, 0),
  (1000, [], 48, 0),
  (1000, [], 48, 0),
  (11, [142, 143, 144, 145, 0, 0, 0, 0, 0, 0, 0, 1, 0, 0, 0, 146, 0, 0, 0, 0, 0, 0, 147, 148, 149, 0, 150, 151, 152, 153, 154], 0, 0),
  (1000, [], 6044, 0),
  (1000, [], 6044, 0),
  (1000, [], 2820, 0),
  (1000, [], 300, 0),
  (1000, [], 160, 0),
  (1000, [], 10, 0),
  (1005, [], 330, 1),
  (1001, [], 330, 0),
  (1000, [], 148, 0),
  (1000, [], 6, 0),
  (1000, [], 6, 0),
  (1000, [], 6, 0),
  (1000, [], 6, 0)]
def sh_k (q : sh_Q) (k : Nat) : Nat := match q.2.1[k]? with
  | some c => c
  | none => q.2.2.2
def sh_v (c : Nat) (x : Int) : Value := match c with
  | 0 => wp_i x
  | 1 => .long (Int64.ofInt x)
  | 2 => .ref x.toNat
  | c + 3 => .ref c
abbrev sg_ : Type := Nat → Int → Int
def CS0 (h : mj_H) (s : sg_) : Prop := ∀ (a : Nat) (q : sh_Q), 0 < a → sh_T[a]? = some q → ∃ vs, h[a]? = some (q.1, vs) ∧ vs.length = q.2.1.length + q.2.2.1 ∧ ∀ k : Nat, k < vs.length → vs[k]? = some (sh_v (sh_k q k) (s a (k : Int))) ∧ (sh_k q k = 0 → wp_r (s a (k : Int)))
def up (s : sg_) (a : Nat) (k y : Int) : sg_ := fun b j => if b = a ∧ j = k then y else s b j
theorem up_e (s : sg_) (a : Nat) (k y : Int) : up s a k y a k = y := if_pos ⟨rfl, rfl⟩
theorem up_a {s : sg_} {a b : Nat} {k j y : Int} (h : ¬ b = a) : up s a k y b j = s b j := if_neg (fun e => h e.1)
theorem up_k {s : sg_} {a b : Nat} {k j y : Int} (h : ¬ j = k) : up s a k y b j = s b j := if_neg (fun e => h e.2)
theorem sh_n {a : Nat} {q : sh_Q} (h : sh_T[a]? = some q) : q.2.1.length + q.2.2.1 ≤ 10000 := by
  have key : (sh_T.all fun q => decide (q.2.1.length + q.2.2.1 ≤ 10000)) = true := by decide +kernel
  exact of_decide_eq_true (List.all_eq_true.mp key q (List.mem_of_getElem? h))
theorem sh_9 {a : Nat} {q : sh_Q} (h : sh_T[a]? = some q) (ha : ¬ mj_n0 ≤ a) (h0 : 0 < a) : a < 9 := by
  unfold mj_n0 at ha
  omega
theorem c0_set {h : mj_H} {s : sg_} {a : Nat} {q : sh_Q} {vs : List Value} {k : Nat} {y : Int} (C : CS0 h s) (ha : 0 < a) (hq : sh_T[a]? = some q) (hv : h[a]? = some (q.1, vs)) (hy : sh_k q k = 0 → wp_r y) : CS0 (h.set a (q.1, vs.set k (sh_v (sh_k q k) y))) (up s a (k : Int) y) := by
  intro b p hb hp
  obtain ⟨us, u1, u2, u3⟩ := C b p hb hp
  by_cases e : a = b
  · subst e
    rw [hq] at hp
    cases hp
    rw [hv] at u1
    cases u1
    refine ⟨_, List.getElem?_set_self (fd_lt hv), by rw [List.length_set]; exact u2, fun j hj => ?_⟩
    rw [List.length_set] at hj
    by_cases e2 : k = j
    · subst e2
      rw [List.getElem?_set_self hj, up_e]
      exact ⟨rfl, hy⟩
    · rw [List.getElem?_set_ne e2, up_k (by omega)]
      exact u3 j hj
  · refine ⟨us, by rw [List.getElem?_set_ne e]; exact u1, u2, fun j hj => ?_⟩
    rw [up_a (fun z => e z.symm)]
    exact u3 j hj
section CSR
variable {nn d m pc : Nat} {lv : mj_L} {st : List Value} {h : mj_H} {Q : Option Value → mj_H → Prop} {s : sg_}
theorem c0_c (C : CS0 h s) {a : Nat} {q : sh_Q} (ha : 0 < a) (hq : sh_T[a]? = some q) : ∃ vs, h[a]? = some (q.1, vs) := by
  obtain ⟨vs, e, -⟩ := C a q ha hq
  exact ⟨vs, e⟩
theorem c0_r (C : CS0 h s) {a : Nat} {q : sh_Q} {k : Nat} (ha : 0 < a) (hq : sh_T[a]? = some q) (hk : k < q.2.1.length + q.2.2.1) (h0 : sh_k q k = 0) : wp_r (s a (k : Int)) := by
  obtain ⟨vs, e1, e2, e3⟩ := C a q ha hq
  exact (e3 k (by omega)).2 h0
/-- a field -/
theorem c0_g {x a k : Nat} {kd : Nat} {cs : List Nat} {ty : FieldType} {w : Bool} (C : CS0 h s) (ha : 0 < a) (hq : sh_T[a]? = some (kd, cs, 0, 0)) {c : Nat} (hc : cs[k]? = some c) (hi : mj_ins m pc = some (.getfield x)) (hf : mj_fld m x = some (kd, k, ty, w)) (hr : wl_R nn d m (pc + 3) lv (sh_v c (s a (k : Int)) :: st) h Q) : wl_R nn d m pc lv (.ref a :: st) h Q := by
  obtain ⟨vs, e1, e2, e3⟩ := C a _ ha hq
  have hk : k < cs.length := (List.getElem?_eq_some_iff.mp hc).1
  have h3 := (e3 k (by rw [e2]; show k < cs.length + 0; omega)).1
  rw [show sh_k (kd, cs, 0, 0) k = c by unfold sh_k; dsimp only; rw [hc]] at h3
  exact wl_gf hi hf e1 h3 hr
theorem c0_p {x a k : Nat} {kd : Nat} {cs : List Nat} {ty : FieldType} {y : Int} (C : CS0 h s) (ha : mj_n0 ≤ a) (hq : sh_T[a]? = some (kd, cs, 0, 0)) (hc : cs[k]? = some 0) (hi : mj_ins m pc = some (.putfield x)) (hf : mj_fld m x = some (kd, k, ty, true)) (hn : narrow ty (wp_i y) = wp_i y) (hfi : fits ty (wp_i y) = true) (hy : wp_r y) (hr : ∀ h1, CS0 h1 (up s a (k : Int) y) → wl_R nn d m (pc + 3) lv st h1 Q) : wl_R nn d m pc lv (wp_i y :: .ref a :: st) h Q := by
  have h0 : 0 < a := Nat.lt_of_lt_of_le (by decide) ha
  obtain ⟨vs, e1, e2, e3⟩ := C a _ h0 hq
  have hk : k < cs.length := (List.getElem?_eq_some_iff.mp hc).1
  have hs : sh_k (kd, cs, 0, 0) k = 0 := by unfold sh_k; dsimp only; rw [hc]
  refine wl_pf hi hf e1 ha (by rw [e2]; show k < cs.length + 0; omega) hn hfi (hr _ ?_)
  have := c0_set (k := k) (y := y) C h0 hq e1 (fun _ => hy)
  rw [hs] at this
  exact this
/-- an array of ints -/
theorem c0_l {a n : Nat} {x : Int} (C : CS0 h s) (ha : 0 < a) (hq : sh_T[a]? = some (1000, [], n, 0)) (hx : wp_r x) (hi : mj_ins m pc = some .iaload) (hr : 0 ≤ x → x < n → wp_r (s a x) → wl_R nn d m (pc + 1) lv (wp_i (s a x) :: st) h Q) : wl_R nn d m pc lv (wp_i x :: .ref a :: st) h Q := by
  obtain ⟨vs, e1, e2, e3⟩ := C a _ ha hq
  have e2 : vs.length = n := by rw [e2]; show 0 + n = n; omega
  refine wl_al hi e1 hx (fun v v1 v2 v3 => ?_)
  have h3 := e3 x.toNat (by omega)
  rw [show ((x.toNat : Nat) : Int) = x by omega, v3] at h3
  obtain ⟨h3, h4⟩ := h3
  cases h3
  exact hr v1 (by omega) (h4 rfl)
theorem c0_s {a n : Nat} {x y : Int} (C : CS0 h s) (ha : 0 < a) (hq : sh_T[a]? = some (1000, [], n, 0)) (hx : wp_r x) (hy : wp_r y) (hi : mj_ins m pc = some .iastore) (hr : ∀ h1, 0 ≤ x → x < n → CS0 h1 (up s a x y) → wl_R nn d m (pc + 1) lv st h1 Q) : wl_R nn d m pc lv (wp_i y :: wp_i x :: .ref a :: st) h Q := by
  obtain ⟨vs, e1, e2, e3⟩ := C a _ ha hq
  have e2 : vs.length = n := by rw [e2]; show 0 + n = n; omega
  refine wl_as hi e1 hx (fun x1 x2 => hr _ x1 (by omega) ?_)
  have := c0_set (k := x.toNat) (y := y) C ha hq e1 (fun _ => hy)
  rw [show ((x.toNat : Nat) : Int) = x by omega] at this
  exact this
theorem c0_gi {x a k : Nat} {kI : Int} {kd : Nat} {cs : List Nat} {ty : FieldType} {w : Bool} (C : CS0 h s) (ha : 0 < a) (hq : sh_T[a]? = some (kd, cs, 0, 0)) (hk : (k : Int) = kI) (hc : cs[k]? = some 0) (hi : mj_ins m pc = some (.getfield x)) (hf : mj_fld m x = some (kd, k, ty, w)) (hr : wl_R nn d m (pc + 3) lv (wp_i (s a kI) :: st) h Q) : wl_R nn d m pc lv (.ref a :: st) h Q := by
  subst hk
  exact c0_g C ha hq hc hi hf hr
theorem c0_gr {x a k r : Nat} {kd : Nat} {cs : List Nat} {ty : FieldType} {w : Bool} (C : CS0 h s) (ha : 0 < a) (hq : sh_T[a]? = some (kd, cs, 0, 0)) (hc : cs[k]? = some (r + 3)) (hi : mj_ins m pc = some (.getfield x)) (hf : mj_fld m x = some (kd, k, ty, w)) (hr : wl_R nn d m (pc + 3) lv (.ref r :: st) h Q) : wl_R nn d m pc lv (.ref a :: st) h Q := c0_g C ha hq hc hi hf hr
theorem c0_ri {a k : Nat} {kI : Int} {q : sh_Q} (C : CS0 h s) (ha : 0 < a) (hq : sh_T[a]? = some q) (hk : (k : Int) = kI) (h0 : sh_k q k = 0) (hl : k < q.2.1.length + q.2.2.1) : wp_r (s a kI) := by
  subst hk
  exact c0_r C ha hq hl h0
theorem c0_pi {x a k : Nat} {kI : Int} {kd : Nat} {cs : List Nat} {ty : FieldType} {y : Int} (C : CS0 h s) (ha : mj_n0 ≤ a) (hq : sh_T[a]? = some (kd, cs, 0, 0)) (hk : (k : Int) = kI) (hc : cs[k]? = some 0) (hi : mj_ins m pc = some (.putfield x)) (hf : mj_fld m x = some (kd, k, ty, true)) (hn : narrow ty (wp_i y) = wp_i y) (hfi : fits ty (wp_i y) = true) (hy : wp_r y) (hr : ∀ h1, CS0 h1 (up s a kI y) → wl_R nn d m (pc + 3) lv st h1 Q) : wl_R nn d m pc lv (wp_i y :: .ref a :: st) h Q := by
  subst hk
  exact c0_p C ha hq hc hi hf hn hfi hy hr
theorem wl_mn {x c0 : Nat} {a b : Int} (hi : mj_ins m pc = some (.invokestatic x)) (hc : mj_cal m x = some (11, c0, 0)) (hq : mj_cat st ≤ 8) (ha : wp_r a) (hb : wp_r b) (hr : wl_R nn d m (pc + 3) lv (wp_i (min a b) :: st) h Q) : wl_R nn d m pc lv (wp_i b :: wp_i a :: st) h Q := by
  refine wl_min hi hc hq ha hb ?_
  rw [show (if b < a then b else a) = min a b by split <;> omega]
  exact hr
theorem wl_mx {x c0 : Nat} {a b : Int} (hi : mj_ins m pc = some (.invokestatic x)) (hc : mj_cal m x = some (10, c0, 0)) (hq : mj_cat st ≤ 8) (ha : wp_r a) (hb : wp_r b) (hr : wl_R nn d m (pc + 3) lv (wp_i (max a b) :: st) h Q) : wl_R nn d m pc lv (wp_i b :: wp_i a :: st) h Q := by
  have hcall : mj_call m (.invokestatic x) (wp_i b :: wp_i a :: st) h = none := by
    simp only [mj_call, hc]
  refine wl_s (pc' := pc + 3) (lv' := lv) (st' := wp_i (max a b) :: st) (h' := h) hi rfl hcall ?_ hr
  simp only [mj_st, hc]
  rw [if_pos hq]
  have e : (Int32.ofInt a < Int32.ofInt b) ↔ a < b := by rw [Int32.lt_iff_toInt_lt, wp_ti ha, wp_ti hb]
  by_cases q : a < b
  · rw [if_pos (e.mpr q), show max a b = b by omega]
  · rw [if_neg (fun z => q (e.mp z)), show max a b = a by omega]
theorem wl_ab {x c0 : Nat} {a : Int} (hi : mj_ins m pc = some (.invokestatic x)) (hc : mj_cal m x = some (12, c0, 0)) (hq : mj_cat st ≤ 8) (ha : wp_r a) (hr : ∀ y : Int, (0 ≤ a ∧ y = a) ∨ (a < 0 ∧ y = -a) → wl_R nn d m (pc + 3) lv (wp_i y :: st) h Q) : wl_R nn d m pc lv (wp_i a :: st) h Q := by
  have hcall : mj_call m (.invokestatic x) (wp_i a :: st) h = none := by
    simp only [mj_call, hc]
  have e : (0 ≤ Int32.ofInt a) ↔ 0 ≤ a := by rw [Int32.le_iff_toInt_le, wp_ti ha]; exact Iff.rfl
  by_cases q : 0 ≤ a
  · refine wl_s (pc' := pc + 3) (lv' := lv) (st' := wp_i a :: st) (h' := h) hi rfl hcall ?_ (hr a (Or.inl ⟨q, rfl⟩))
    simp only [mj_st, hc]
    rw [if_pos hq, if_pos (e.mpr q)]
  · refine wl_s (pc' := pc + 3) (lv' := lv) (st' := wp_i (-a) :: st) (h' := h) hi rfl hcall ?_ (hr (-a) (Or.inr ⟨by omega, rfl⟩))
    simp only [mj_st, hc]
    rw [if_pos hq, if_neg (fun z => q (e.mp z))]
    show some (pc + 3, lv, Value.int (0 - Int32.ofInt a) :: st, h) = _
    rw [show (0 : Int32) = Int32.ofInt 0 from rfl, ← Int32.ofInt_sub, Int.zero_sub]
/-- a part of an array copied -/
def cpy (s : sg_) (a0 : Nat) (sp : Int) (a1 : Nat) (dp n : Int) : sg_ := fun b j => if b = a1 ∧ dp ≤ j ∧ j < dp + n then s a0 (j - dp + sp) else s b j
theorem mj_cpl_g {f g : List Value} {sp dp n : Nat} (h1 : sp + n ≤ f.length) (h2 : dp + n ≤ g.length) (j : Nat) : (mj_cpl f g sp dp n)[j]? = if dp ≤ j ∧ j < dp + n then f[j - dp + sp]? else g[j]? := by
  unfold mj_cpl
  have l1 : (g.take dp).length = dp := by rw [List.length_take]; omega
  have l2 : ((f.drop sp).take n).length = n := by rw [List.length_take, List.length_drop]; omega
  by_cases c1 : j < dp
  · rw [List.getElem?_append_left (by omega), List.getElem?_take, if_pos c1, if_neg (by omega)]
  · rw [List.getElem?_append_right (by omega), l1]
    by_cases c2 : j < dp + n
    · rw [List.getElem?_append_left (by omega), List.getElem?_take, if_pos (by omega), List.getElem?_drop, if_pos (by omega), show sp + (j - dp) = j - dp + sp by omega]
    · rw [List.getElem?_append_right (by omega), l2, List.getElem?_drop, if_neg (by omega), show dp + n + (j - dp - n) = j by omega]
theorem mj_cpl_l {f g : List Value} {sp dp n : Nat} (h1 : sp + n ≤ f.length) (h2 : dp + n ≤ g.length) : (mj_cpl f g sp dp n).length = g.length := by
  unfold mj_cpl
  rw [List.length_append, List.length_append, List.length_take, List.length_take, List.length_drop, List.length_drop]
  omega
theorem c0_cp {x c0 c1 a0 a1 n0 n1 : Nat} {sp dp n : Int} (C : CS0 h s) (hq0 : sh_T[a0]? = some (1000, [], n0, 0)) (hq1 : sh_T[a1]? = some (1000, [], n1, 0)) (ha0 : 0 < a0) (ha1 : 0 < a1) (hsp : wp_r sp) (hdp : wp_r dp) (hn : wp_r n) (hi : mj_ins m pc = some (.invokestatic x)) (hc : mj_cal m x = some (20, c0, c1)) (hr : ∀ h1, (0 ≤ n ∧ 0 ≤ sp ∧ 0 ≤ dp ∧ sp + n ≤ n0 ∧ dp + n ≤ n1) → CS0 h1 (cpy s a0 sp a1 dp n) → wl_R nn d m (pc + 3) lv st h1 Q) : wl_R nn d m pc lv (wp_i n :: wp_i dp :: .ref a1 :: wp_i sp :: .ref a0 :: st) h Q := by
  obtain ⟨f, f1, f2, f3⟩ := C a0 _ ha0 hq0
  obtain ⟨g, g1, g2, g3⟩ := C a1 _ ha1 hq1
  have f2 : f.length = n0 := by rw [f2]; show 0 + n0 = n0; omega
  have g2 : g.length = n1 := by rw [g2]; show 0 + n1 = n1; omega
  have hcall : mj_call m (.invokestatic x) (wp_i n :: wp_i dp :: .ref a1 :: wp_i sp :: .ref a0 :: st) h = none := by
    simp only [mj_call, hc]
  refine wl_x hi rfl hcall (fun pc' lv' st' h' e => ?_)
  have f1 : h[a0]? = some (1000, f) := f1
  have g1 : h[a1]? = some (1000, g) := g1
  simp only [mj_st, hc, f1, g1] at e
  split at e
  · rename_i q
    simp only [wp_ti hsp, wp_ti hdp, wp_ti hn] at q e
    obtain ⟨-, -, -, q1, q2, q3, q4, q5, -⟩ := q
    cases e
    refine hr _ ⟨q1, q2, q3, by omega, by omega⟩ ?_
    intro b p hb hp
    by_cases eb : a1 = b
    · subst eb
      rw [hq1] at hp
      cases hp
      refine ⟨_, List.getElem?_set_self (fd_lt g1), by rw [mj_cpl_l (by omega) (by omega), g2]; show n1 = 0 + n1; omega, fun j hj => ?_⟩
      rw [mj_cpl_l (by omega) (by omega)] at hj
      rw [mj_cpl_g (by omega) (by omega)]
      unfold cpy
      by_cases cj : dp.toNat ≤ j ∧ j < dp.toNat + n.toNat
      · rw [if_pos cj, if_pos ⟨rfl, by omega, by omega⟩]
        have h9 := f3 (j - dp.toNat + sp.toNat) (by omega)
        rw [show ((j - dp.toNat + sp.toNat : Nat) : Int) = (j : Int) - dp + sp by omega] at h9
        exact h9
      · rw [if_neg cj, if_neg (fun z => cj (by omega))]
        exact g3 j (by omega)
    · obtain ⟨us, u1, u2, u3⟩ := C b p hb hp
      refine ⟨us, by rw [List.getElem?_set_ne eb]; exact u1, u2, fun j hj => ?_⟩
      unfold cpy
      rw [if_neg (fun z => eb z.1.symm)]
      exact u3 j hj
  · cases e
end CSR
/-- where values are worked out: the class's stack; the reference's names, values and asks -/
abbrev scr (b : Nat) : Prop := b = 10 ∨ (144 ≤ b ∧ b ≤ 146)
/-- the same but there -/
def off (s1 s : sg_) : Prop := ∀ (b : Nat) (j : Int), ¬ scr b → s1 b j = s b j
theorem off_up {s1 s : sg_} (f : off s1 s) (a : Nat) (k y : Int) : off (up s1 a k y) (up s a k y) := fun b j hb => by
  unfold up
  rw [f b j hb]
/-- the heap's numbers, but for the stack of values -/
def CS (h : mj_H) (s : sg_) : Prop := ∃ s1, CS0 h s1 ∧ off s1 s
theorem cs_of {h : mj_H} {s : sg_} (C : CS0 h s) : CS h s := ⟨s, C, fun _ _ _ => rfl⟩
theorem cs_off {h : mj_H} {s s1 : sg_} (C : CS0 h s1) (f : off s1 s) : CS h s := ⟨s1, C, f⟩
section CSR2
variable {nn d m pc : Nat} {lv : mj_L} {st : List Value} {h : mj_H} {Q : Option Value → mj_H → Prop} {s : sg_}
theorem cs_c (C : CS h s) {a : Nat} {q : sh_Q} (ha : 0 < a) (hq : sh_T[a]? = some q) : ∃ vs, h[a]? = some (q.1, vs) := by
  obtain ⟨s1, C, -⟩ := C
  exact c0_c C ha hq
theorem cs_ri {a k : Nat} {kI : Int} {q : sh_Q} (C : CS h s) (ha : 0 < a) (h10 : ¬ scr a) (hq : sh_T[a]? = some q) (hk : (k : Int) = kI) (h0 : sh_k q k = 0) (hl : k < q.2.1.length + q.2.2.1) : wp_r (s a kI) := by
  obtain ⟨s1, C, f⟩ := C
  rw [← f a kI h10]
  exact c0_ri C ha hq hk h0 hl
theorem cs_gi {x a k : Nat} {kI : Int} {kd : Nat} {cs : List Nat} {ty : FieldType} {w : Bool} (C : CS h s) (ha : 0 < a) (h10 : ¬ scr a) (hq : sh_T[a]? = some (kd, cs, 0, 0)) (hk : (k : Int) = kI) (hc : cs[k]? = some 0) (hi : mj_ins m pc = some (.getfield x)) (hf : mj_fld m x = some (kd, k, ty, w)) (hr : wl_R nn d m (pc + 3) lv (wp_i (s a kI) :: st) h Q) : wl_R nn d m pc lv (.ref a :: st) h Q := by
  obtain ⟨s1, C, f⟩ := C
  rw [← f a kI h10] at hr
  exact c0_gi C ha hq hk hc hi hf hr
theorem cs_gr {x a k r : Nat} {kd : Nat} {cs : List Nat} {ty : FieldType} {w : Bool} (C : CS h s) (ha : 0 < a) (hq : sh_T[a]? = some (kd, cs, 0, 0)) (hc : cs[k]? = some (r + 3)) (hi : mj_ins m pc = some (.getfield x)) (hf : mj_fld m x = some (kd, k, ty, w)) (hr : wl_R nn d m (pc + 3) lv (.ref r :: st) h Q) : wl_R nn d m pc lv (.ref a :: st) h Q := by
  obtain ⟨s1, C, f⟩ := C
  exact c0_gr C ha hq hc hi hf hr
theorem cs_pi {x a k : Nat} {kI : Int} {kd : Nat} {cs : List Nat} {ty : FieldType} {y : Int} (C : CS h s) (ha : mj_n0 ≤ a) (hq : sh_T[a]? = some (kd, cs, 0, 0)) (hk : (k : Int) = kI) (hc : cs[k]? = some 0) (hi : mj_ins m pc = some (.putfield x)) (hf : mj_fld m x = some (kd, k, ty, true)) (hn : narrow ty (wp_i y) = wp_i y) (hfi : fits ty (wp_i y) = true) (hy : wp_r y) (hr : ∀ h1, CS h1 (up s a kI y) → wl_R nn d m (pc + 3) lv st h1 Q) : wl_R nn d m pc lv (wp_i y :: .ref a :: st) h Q := by
  obtain ⟨s1, C, f⟩ := C
  exact c0_pi C ha hq hk hc hi hf hn hfi hy (fun h1 C1 => hr h1 ⟨_, C1, off_up f _ _ _⟩)
theorem cs_l {a n : Nat} {x : Int} (C : CS h s) (ha : 0 < a) (h10 : ¬ scr a) (hq : sh_T[a]? = some (1000, [], n, 0)) (hx : wp_r x) (hi : mj_ins m pc = some .iaload) (hr : 0 ≤ x → x < n → wp_r (s a x) → wl_R nn d m (pc + 1) lv (wp_i (s a x) :: st) h Q) : wl_R nn d m pc lv (wp_i x :: .ref a :: st) h Q := by
  obtain ⟨s1, C, f⟩ := C
  rw [← f a x h10] at hr
  exact c0_l C ha hq hx hi hr
theorem cs_s {a n : Nat} {x y : Int} (C : CS h s) (ha : 0 < a) (hq : sh_T[a]? = some (1000, [], n, 0)) (hx : wp_r x) (hy : wp_r y) (hi : mj_ins m pc = some .iastore) (hr : ∀ h1, 0 ≤ x → x < n → CS h1 (up s a x y) → wl_R nn d m (pc + 1) lv st h1 Q) : wl_R nn d m pc lv (wp_i y :: wp_i x :: .ref a :: st) h Q := by
  obtain ⟨s1, C, f⟩ := C
  exact c0_s C ha hq hx hy hi (fun h1 p1 p2 C1 => hr h1 p1 p2 ⟨_, C1, off_up f _ _ _⟩)
theorem cs_cp {x c0 c1 a0 a1 n0 n1 : Nat} {sp dp n : Int} (C : CS h s) (h10 : ¬ scr a0) (hq0 : sh_T[a0]? = some (1000, [], n0, 0)) (hq1 : sh_T[a1]? = some (1000, [], n1, 0)) (ha0 : 0 < a0) (ha1 : 0 < a1) (hsp : wp_r sp) (hdp : wp_r dp) (hn : wp_r n) (hi : mj_ins m pc = some (.invokestatic x)) (hc : mj_cal m x = some (20, c0, c1)) (hr : ∀ h1, (0 ≤ n ∧ 0 ≤ sp ∧ 0 ≤ dp ∧ sp + n ≤ n0 ∧ dp + n ≤ n1) → CS h1 (cpy s a0 sp a1 dp n) → wl_R nn d m (pc + 3) lv st h1 Q) : wl_R nn d m pc lv (wp_i n :: wp_i dp :: .ref a1 :: wp_i sp :: .ref a0 :: st) h Q := by
  obtain ⟨s1, C, f⟩ := C
  refine c0_cp C hq0 hq1 ha0 ha1 hsp hdp hn hi hc (fun h1 p C1 => hr h1 p ⟨_, C1, fun b j hb => ?_⟩)
  unfold cpy
  rw [f b j hb, f a0 (j - dp + sp) h10]
end CSR2
def isF (F : Nat) : Prop := mj_n0 ≤ F ∧ sh_T[F]? = some (3, [0, 0, F + 4, F + 5, F + 6, F + 7, F + 8, F + 9, F + 10, 0, 0, 0, 0], 0, 0) ∧ sh_T[F + 1]? = some (1000, [], 8, 0) ∧ sh_T[F + 2]? = some (1000, [], 8, 0) ∧ sh_T[F + 3]? = some (1000, [], 8, 0) ∧ sh_T[F + 4]? = some (1000, [], 6, 0) ∧ sh_T[F + 5]? = some (1000, [], 6, 0) ∧ sh_T[F + 6]? = some (1000, [], 48, 0) ∧ sh_T[F + 7]? = some (1000, [], 48, 0) ∧ 48 ≤ F ∧ F ≤ 130
theorem isF_b {F : Nat} (h : isF F) : 48 ≤ F ∧ F ≤ 130 := h.2.2.2.2.2.2.2.2.2
theorem isF_48 : isF 48 := ⟨by decide, by decide +kernel, by decide +kernel, by decide +kernel, by decide +kernel, by decide +kernel, by decide +kernel, by decide +kernel, by decide +kernel, by decide⟩
def isT (T : Nat) : Prop := mj_n0 ≤ T ∧ sh_T[T]? = some (1, [T + 4, 0, T + 5, T + 6, T + 7, T + 8, T + 9, 0, 13], 0, 0) ∧ sh_T[T + 1]? = some (1000, [], 300, 0) ∧ sh_T[T + 2]? = some (1000, [], 3, 0) ∧ sh_T[T + 3]? = some (1000, [], 3, 0) ∧ sh_T[T + 4]? = some (1000, [], 24, 0) ∧ sh_T[T + 5]? = some (1000, [], 24, 0) ∧ sh_T[T + 6]? = some (1000, [], 24, 0) ∧ 12 ≤ T ∧ T ≤ 40
theorem isT_b {T : Nat} (h : isT T) : 12 ≤ T ∧ T ≤ 40 := h.2.2.2.2.2.2.2.2
theorem isT_12 : isT 12 := ⟨by decide, by decide +kernel, by decide +kernel, by decide +kernel, by decide +kernel, by decide +kernel, by decide +kernel, by decide +kernel, by decide⟩
theorem isF_n {F : Nat} (h : isF F) (k : Nat) (hk : k ≤ 8) : ¬ scr (F + k) := by
  have := isF_b h
  omega
theorem isT_n {T : Nat} (h : isT T) (k : Nat) (hk : k ≤ 8) : ¬ scr (T + k) := by
  have := isT_b h
  omega
