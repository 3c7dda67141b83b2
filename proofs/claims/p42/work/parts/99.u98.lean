/-! -/
/-! a heap's numbers where they are read off: some cells by their types, the rest as they were -/
def vnn (v : Option Value) : Int := match v with
  | some (.int z) => z.toInt
  | some (.long z) => z.toInt
  | some (.ref r) => (r : Int)
  | _ => 0
theorem vnn_i {x : Int} (h : wp_r x) : vnn (some (wp_i x)) = x := by
  show (Int32.ofInt x).toInt = x
  exact wp_ti h
theorem vnn_v (c : Nat) (x : Int) : sh_v c (vnn (some (sh_v c x))) = sh_v c x ∧ (c = 0 → wp_r (vnn (some (sh_v c x)))) := by
  match c with
  | 0 => exact ⟨congrArg Value.int (Int32.ofInt_toInt _), fun _ => sx_r32 _⟩
  | 1 => exact ⟨congrArg Value.long (Int64.ofInt_toInt _), fun z => absurd z (by decide)⟩
  | 2 =>
    refine ⟨?_, fun z => absurd z (by decide)⟩
    show Value.ref ((x.toNat : Int)).toNat = Value.ref x.toNat
    rw [show ((x.toNat : Int)).toNat = x.toNat by omega]
  | c + 3 => exact ⟨rfl, fun z => by omega⟩
def hcok (h : mj_H) (a : Nat) : Prop := ∀ q, sh_T[a]? = some q → ∃ vs, h[a]? = some (q.1, vs) ∧ vs.length = q.2.1.length + q.2.2.1 ∧ ∀ k : Nat, k < vs.length → ∃ x, vs[k]? = some (sh_v (sh_k q k) x)
def mkS (Y : Nat → Nat → Bool) (h : mj_H) (s : sg_) : sg_ := fun b j => if 0 ≤ j ∧ Y b j.toNat = true then vnn ((cel h b)[j.toNat]?) else s b j
theorem mkS_n {Y : Nat → Nat → Bool} {h : mj_H} {s : sg_} {b : Nat} {j : Int} (hj : j < 0) : mkS Y h s b j = s b j := if_neg (fun z => by have := z.1; omega)
theorem mkS_o {Y : Nat → Nat → Bool} {h : mj_H} {s : sg_} {b : Nat} {j : Int} (hb : 0 ≤ j → Y b j.toNat = false) : mkS Y h s b j = s b j := if_neg (fun z => by have := hb z.1; rw [this] at z; cases z.2)
theorem mkS_i {Y : Nat → Nat → Bool} {h : mj_H} {s : sg_} {b kd : Nat} {vs : List Value} (e : h[b]? = some (kd, vs)) (k : Nat) (hb : Y b k = true) : mkS Y h s b (k : Int) = vnn (vs[k]?) := by
  unfold mkS
  have : cel h b = vs := by
    unfold cel
    rw [e]
  rw [show ((k : Int)).toNat = k by omega, if_pos ⟨by omega, hb⟩, this]
theorem mkS_v {Y : Nat → Nat → Bool} {h : mj_H} {s : sg_} {b kd : Nat} {vs : List Value} (e : h[b]? = some (kd, vs)) {k : Nat} {kI x : Int} (hb : Y b k = true) (hk : (k : Int) = kI) (hv : vs[k]? = some (wp_i x)) (hx : wp_r x) : mkS Y h s b kI = x := by
  rw [← hk, mkS_i e k hb, hv]
  exact vnn_i hx
def hck (Y : Nat → Nat → Bool) (h h1 : mj_H) (a : Nat) : Prop := ∀ q, sh_T[a]? = some q → ∀ vs0, h[a]? = some (q.1, vs0) → vs0.length = q.2.1.length + q.2.2.1 → ∃ vs, h1[a]? = some (q.1, vs) ∧ vs.length = vs0.length ∧ ∀ k : Nat, k < vs.length → (Y a k = true ∧ ∃ x, vs[k]? = some (sh_v (sh_k q k) x)) ∨ (Y a k = false ∧ vs[k]? = vs0[k]?)
theorem CS_mk {Y : Nat → Nat → Bool} {h h1 : mj_H} {s : sg_} (C : CS h s) (ok : ∀ a, 0 < a → a < 152 → hck Y h h1 a) : CS h1 (mkS Y h1 s) := by
  obtain ⟨s0, C0, g⟩ := C
  refine ⟨mkS Y h1 s0, fun a q ha hq => ?_, fun b j hb => ?_⟩
  · have la : a < 152 := (List.getElem?_eq_some_iff.mp hq).1
    obtain ⟨vs0, a1, a2, a3⟩ := C0 a q ha hq
    obtain ⟨vs, e1, e2, e3⟩ := ok a ha la q hq vs0 a1 a2
    refine ⟨vs, e1, e2.trans a2, fun k hk => ?_⟩
    rcases e3 k hk with ⟨y, x, ex⟩ | ⟨y, ex⟩
    · rw [mkS_i e1 k y, ex]
      have q := vnn_v (sh_k q k) x
      exact ⟨congrArg some q.1.symm, q.2⟩
    · rw [mkS_o (fun _ => by rw [show ((k : Int)).toNat = k by omega]; exact y), ex]
      exact a3 k (by omega)
  · unfold mkS
    rw [g b j hb]
theorem hck_0 {Y : Nat → Nat → Bool} {h h1 : mj_H} {a : Nat} (e : h1[a]? = h[a]?) (y : ∀ k, Y a k = false) : hck Y h h1 a := fun _ _ vs0 e0 _ => ⟨vs0, e.trans e0, rfl, fun k _ => Or.inr ⟨y k, rfl⟩⟩
theorem hck_A {Y : Nat → Nat → Bool} {h h1 : mj_H} {a : Nat} (K : hcok h1 a) (y : ∀ k, Y a k = true) : hck Y h h1 a := by
  intro q hq vs0 e0 l0
  obtain ⟨vs, e1, e2, e3⟩ := K q hq
  exact ⟨vs, e1, e2.trans l0.symm, fun k hk => Or.inl ⟨y k, e3 k hk⟩⟩
theorem hck_S {Y : Nat → Nat → Bool} {h h1 : mj_H} {a i kd : Nat} {x : Int} {vs : List Value} (e0 : h[a]? = some (kd, vs)) (e1 : h1[a]? = some (kd, vs.set i (wp_i x))) (hq : ∀ q, sh_T[a]? = some q → sh_k q i = 0) (y : ∀ k, Y a k = decide (k = i)) : hck Y h h1 a := by
  intro q hqq vs0 f0 l0
  rw [e0] at f0
  injection f0 with f0
  injection f0 with f1 f2
  refine ⟨vs.set i (wp_i x), by rw [e1, f1], by rw [List.length_set, f2], fun k hk => ?_⟩
  rw [List.length_set] at hk
  by_cases q2 : k = i
  · subst q2
    refine Or.inl ⟨by rw [y, decide_eq_true rfl], x, ?_⟩
    rw [hq q hqq]
    exact List.getElem?_set_self hk
  · refine Or.inr ⟨by rw [y, decide_eq_false q2], ?_⟩
    rw [← f2]
    exact List.getElem?_set_ne (fun z => q2 z.symm)
theorem hck_M {Y : Nat → Nat → Bool} {h h1 : mj_H} {a : Nat} {R : List Nat} (K : hcok h1 a) (y : ∀ k, Y a k = !decide (k ∈ R)) (f : ∀ kd vs0 vs, h[a]? = some (kd, vs0) → h1[a]? = some (kd, vs) → ∀ k ∈ R, vs[k]? = vs0[k]?) : hck Y h h1 a := by
  intro q hq vs0 e0 l0
  obtain ⟨vs, e1, e2, e3⟩ := K q hq
  refine ⟨vs, e1, e2.trans l0.symm, fun k hk => ?_⟩
  by_cases r : k ∈ R
  · exact Or.inr ⟨by rw [y, decide_eq_true r]; rfl, f q.1 vs0 vs e0 e1 k r⟩
  · exact Or.inl ⟨by rw [y, decide_eq_false r]; rfl, e3 k hk⟩
theorem set_sf {l : List Value} {k : Nat} {v : Value} (e : l[k]? = some v) : l.set k v = l := by
  refine List.ext_getElem? (fun j => ?_)
  by_cases q : j = k
  · subst q
    rw [e]
    exact List.getElem?_set_self (List.getElem?_eq_some_iff.mp e).1
  · exact List.getElem?_set_ne (fun z => q z.symm)
def hcokb (ty : sx_Ty) (q : sh_Q) : Bool := decide (ty.1 = q.1) && (decide (ty.2.1 = q.2.1.length + q.2.2.1) && (List.range ty.2.1).all (fun k => decide (3 ≤ sh_k q k) || (match sx_fd ty.2.2 k with
  | some d => decide (d.1 = sh_k q k)
  | none => false)))
theorem hcok_T {h1 : mj_H} (H : sx_H sx_TT 20 sx_tau h1) {a t : Nat} {ty : sx_Ty} {q : sh_Q} (e1 : sx_tau[a]? = some t) (e2 : sx_TT[t]? = some ty) (e3 : sh_T[a]? = some q) (ck : hcokb ty q = true) (rf : ∀ vs, h1[a]? = some (q.1, vs) → ∀ k c, k < vs.length → sh_k q k = c + 3 → vs[k]? = some (.ref c)) : hcok h1 a := by
  intro q1 hq1
  rw [e3] at hq1
  cases hq1
  unfold hcokb at ck
  rw [Bool.and_eq_true, Bool.and_eq_true] at ck
  obtain ⟨c1, c2, c3⟩ := ck
  have c1 := of_decide_eq_true c1
  have c2 := of_decide_eq_true c2
  obtain ⟨-, vs, v1, v2, v3, -⟩ := H a t ty e1 e2
  rw [c1] at v1
  refine ⟨vs, v1, v2.trans c2, fun k hk => ?_⟩
  have m := List.all_eq_true.mp c3 k (List.mem_range.mpr (by omega))
  by_cases q3 : 3 ≤ sh_k q k
  · obtain ⟨c, ec⟩ : ∃ c, sh_k q k = c + 3 := ⟨sh_k q k - 3, by omega⟩
    refine ⟨0, ?_⟩
    rw [rf vs v1 k c hk ec, ec]
    rfl
  · rw [decide_eq_false q3, Bool.false_or] at m
    have hv : vs[k]? = some vs[k] := List.getElem?_eq_getElem hk
    obtain ⟨d, d1, d2⟩ := v3 k _ hv
    rw [d1] at m
    have m : d.1 = sh_k q k := of_decide_eq_true m
    rw [hv, ← m]
    obtain ⟨x, lo, hi⟩ := d
    have m : x = sh_k q k := m
    rcases (show x = 0 ∨ x = 1 ∨ x = 2 by omega) with rfl | rfl | rfl
    · obtain ⟨z, hz, -⟩ := d2
      rw [hz]
      exact ⟨z.toInt, congrArg some (congrArg Value.int (Int32.ofInt_toInt z).symm)⟩
    · obtain ⟨z, hz, -⟩ := d2
      rw [hz]
      exact ⟨z.toInt, congrArg some (congrArg Value.long (Int64.ofInt_toInt z).symm)⟩
    · obtain ⟨r, hr, -⟩ := d2
      rw [hr]
      exact ⟨(r : Int), congrArg some (congrArg Value.ref (by show r = ((r : Int)).toNat; omega))⟩
/-- an array of numbers -/
theorem hcok_A {h1 : mj_H} (H : sx_H sx_TT 20 sx_tau h1) {a t kd n : Nat} {ty : sx_Ty} (e1 : sx_tau[a]? = some t) (e2 : sx_TT[t]? = some ty) (e3 : sh_T[a]? = some (kd, [], n, 0)) (ck : hcokb ty (kd, [], n, 0) = true) : hcok h1 a :=
  hcok_T H e1 e2 e3 ck (fun vs _ k c _ e => absurd e (by show ¬ 0 = c + 3; omega))
/-- an object whose refs are those of fp_L -/
theorem hcok_P {h1 : mj_H} (H : sx_H sx_TT 20 sx_tau h1) (P : fd_P h1) {a t : Nat} {ty : sx_Ty} {q : sh_Q} (e1 : sx_tau[a]? = some t) (e2 : sx_TT[t]? = some ty) (e3 : sh_T[a]? = some q) (ck : hcokb ty q = true) (cp : ((List.range ty.2.1).all fun k => decide (sh_k q k < 3) || decide ((a, q.1, k, sh_k q k - 3) ∈ fp_L)) = true) : hcok h1 a := by
  refine hcok_T H e1 e2 e3 ck (fun vs hv k c hk e => ?_)
  obtain ⟨-, ws, w1, w2, -⟩ := H a t ty e1 e2
  have ew : ws = vs := by
    rw [hv] at w1
    injection w1 with w1
    injection w1 with _ w1
    exact w1.symm
  have m := List.all_eq_true.mp cp k (List.mem_range.mpr (by rw [← w2, ew]; exact hk))
  rw [decide_eq_false (by omega), Bool.false_or] at m
  have m := P _ (of_decide_eq_true m)
  have m := fd_at m hv
  rw [e] at m
  exact m
/-- an object whose refs are as they were -/
theorem hcok_O {h h1 : mj_H} {s : sg_} (C : CS h s) (H : sx_H sx_TT 20 sx_tau h1) {a t : Nat} {ty : sx_Ty} {q : sh_Q} (ha : 0 < a) (e1 : sx_tau[a]? = some t) (e2 : sx_TT[t]? = some ty) (e3 : sh_T[a]? = some q) (ck : hcokb ty q = true) (f : ∀ vs0 vs, h[a]? = some (q.1, vs0) → h1[a]? = some (q.1, vs) → vs0.length = vs.length ∧ ∀ k : Nat, 3 ≤ sh_k q k → k < vs.length → vs[k]? = vs0[k]?) : hcok h1 a := by
  refine hcok_T H e1 e2 e3 ck (fun vs hv k c hk e => ?_)
  obtain ⟨s0, C0, -⟩ := C
  obtain ⟨v0, a1, a2, a3⟩ := C0 a q ha e3
  obtain ⟨f1, f2⟩ := f v0 vs a1 hv
  rw [f2 k (by omega) hk, (a3 k (by omega)).1, e]
  rfl
/-- what the heap says, as its numbers say it -/
theorem cs_v {h : mj_H} {s : sg_} (C : CS h s) {a k : Nat} {kI : Int} {q : sh_Q} (ha : 0 < a) (h10 : ¬ scr a) (hq : sh_T[a]? = some q) (hk : (k : Int) = kI) (h0 : sh_k q k = 0) (hl : k < q.2.1.length + q.2.2.1) {kd : Nat} {vs : List Value} (e : h[a]? = some (kd, vs)) : vs[k]? = some (wp_i (s a kI)) ∧ vs.length = q.2.1.length + q.2.2.1 ∧ wp_r (s a kI) := by
  obtain ⟨s0, C0, g⟩ := C
  obtain ⟨v0, a1, a2, a3⟩ := C0 a q ha hq
  rw [e] at a1
  injection a1 with a1
  injection a1 with _ a1
  have b := a3 k (by omega)
  rw [h0, ← a1, g a _ h10, hk] at b
  exact ⟨b.1, by rw [a1]; exact a2, b.2 rfl⟩
