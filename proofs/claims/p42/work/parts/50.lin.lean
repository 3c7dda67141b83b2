/-! LINEAR EXPRESSIONS over numbered unknowns, with intervals. (c, [(a, i), ..]) is c + a * r i + .. -/
abbrev sx_X : Type := Int × List (Int × Nat)
/-- of each unknown its interval, and what is known to be at least 0, of it and of those before it -/
abbrev sx_E : Type := List (Int × Int × List sx_X)
/-- no unknown of it is n or above -/
def sx_bel (n : Nat) (y : sx_X) : Bool := y.2.all fun q => decide (q.2 < n)
def sx_sum (r : Nat → Int) : List (Int × Nat) → Int
  | [] => 0
  | (a, i) :: l => a * r i + sx_sum r l
def sx_ev (r : Nat → Int) (x : sx_X) : Int := x.1 + sx_sum r x.2
/-- add a * r i to a list that is in the order of the unknowns -/
def sx_ins (a : Int) (i : Nat) : List (Int × Nat) → List (Int × Nat)
  | [] => if a = 0 then [] else [(a, i)]
  | (b, j) :: l => if i < j then (if a = 0 then (b, j) :: l else (a, i) :: (b, j) :: l) else if i = j then (if a + b = 0 then l else (a + b, i) :: l) else (b, j) :: sx_ins a i l
def sx_addl : List (Int × Nat) → List (Int × Nat) → List (Int × Nat)
  | [], m => m
  | (a, i) :: l, m => sx_ins a i (sx_addl l m)
def sx_scl (k : Int) : List (Int × Nat) → List (Int × Nat)
  | [] => []
  | (a, i) :: l => (k * a, i) :: sx_scl k l
def sx_add (x y : sx_X) : sx_X := (x.1 + y.1, sx_addl x.2 y.2)
def sx_mulc (k : Int) (x : sx_X) : sx_X := if k = 0 then (0, []) else (k * x.1, sx_scl k x.2)
def sx_sub (x y : sx_X) : sx_X := sx_add x (sx_mulc (-1) y)
def sx_c (k : Int) : sx_X := (k, [])
def sx_v (i : Nat) : sx_X := (0, [(1, i)])
theorem sx_ins_ev (r : Nat → Int) (a : Int) (i : Nat) : ∀ l, sx_sum r (sx_ins a i l) = a * r i + sx_sum r l
  | [] => by
    unfold sx_ins
    split
    · rename_i h
      subst h
      simp [sx_sum]
    · simp [sx_sum]
  | (b, j) :: l => by
    have ih := sx_ins_ev r a i l
    unfold sx_ins
    split
    · split
      · rename_i h
        subst h
        simp
      · simp [sx_sum]
    · split
      · rename_i h
        subst h
        split
        · rename_i h0
          simp only [sx_sum]
          rw [← Int.add_assoc, ← Int.add_mul, h0, Int.zero_mul, Int.zero_add]
        · simp only [sx_sum]
          rw [← Int.add_assoc, ← Int.add_mul]
      · simp only [sx_sum]
        rw [ih]
        omega
theorem sx_addl_ev (r : Nat → Int) : ∀ l m, sx_sum r (sx_addl l m) = sx_sum r l + sx_sum r m
  | [], m => by simp [sx_addl, sx_sum]
  | (a, i) :: l, m => by
    have ih := sx_addl_ev r l m
    simp only [sx_addl, sx_sum]
    rw [sx_ins_ev, ih]
    omega
theorem sx_scl_ev (r : Nat → Int) (k : Int) : ∀ l, sx_sum r (sx_scl k l) = k * sx_sum r l
  | [] => by simp [sx_scl, sx_sum]
  | (a, i) :: l => by
    have ih := sx_scl_ev r k l
    simp only [sx_scl, sx_sum]
    rw [ih, Int.mul_add, Int.mul_assoc]
theorem sx_add_ev (r : Nat → Int) (x y : sx_X) : sx_ev r (sx_add x y) = sx_ev r x + sx_ev r y := by
  unfold sx_ev sx_add
  dsimp only
  rw [sx_addl_ev]
  omega
theorem sx_mulc_ev (r : Nat → Int) (k : Int) (x : sx_X) : sx_ev r (sx_mulc k x) = k * sx_ev r x := by
  unfold sx_ev sx_mulc
  split
  · rename_i h
    subst h
    simp [sx_sum]
  · dsimp only
    rw [sx_scl_ev, Int.mul_add]
theorem sx_sub_ev (r : Nat → Int) (x y : sx_X) : sx_ev r (sx_sub x y) = sx_ev r x - sx_ev r y := by
  unfold sx_sub
  rw [sx_add_ev, sx_mulc_ev]
  omega
theorem sx_c_ev (r : Nat → Int) (k : Int) : sx_ev r (sx_c k) = k := by simp [sx_ev, sx_c, sx_sum]
theorem sx_v_ev (r : Nat → Int) (i : Nat) : sx_ev r (sx_v i) = r i := by simp [sx_ev, sx_v, sx_sum]
/-! intervals -/
def sx_in (E : sx_E) (r : Nat → Int) : Prop := ∀ (i : Nat) (q : Int × Int × List sx_X), E[i]? = some q → q.1 ≤ r i ∧ r i ≤ q.2.1 ∧ ∀ y ∈ q.2.2, sx_bel (i + 1) y = true ∧ 0 ≤ sx_ev r y
/-- the least and the greatest value; an unknown without an interval: none -/
def sx_bl (E : sx_E) : List (Int × Nat) → Option (Int × Int)
  | [] => some (0, 0)
  | (a, i) :: l => match E[i]?, sx_bl E l with
    | some (lo, hi, _), some (p, q) => if 0 ≤ a then some (a * lo + p, a * hi + q) else some (a * hi + p, a * lo + q)
    | _, _ => none
def sx_b (E : sx_E) (x : sx_X) : Option (Int × Int) := match sx_bl E x.2 with
  | some (p, q) => some (x.1 + p, x.1 + q)
  | none => none
theorem sx_bl_ok {E : sx_E} {r : Nat → Int} (h : sx_in E r) : ∀ {l : List (Int × Nat)} {p q : Int}, sx_bl E l = some (p, q) → p ≤ sx_sum r l ∧ sx_sum r l ≤ q
  | [], p, q, hb => by
    cases hb
    exact ⟨Int.le_refl _, Int.le_refl _⟩
  | (a, i) :: l, p, q, hb => by
    unfold sx_bl at hb
    split at hb
    · rename_i lo hi cs p1 q1 he hl
      obtain ⟨h1, h2⟩ := sx_bl_ok h hl
      obtain ⟨h3, h4, -⟩ := h i _ he
      dsimp only at h3 h4
      simp only [sx_sum]
      split at hb
      · rename_i ha
        cases hb
        have e1 := Int.mul_le_mul_of_nonneg_left h3 ha
        have e2 := Int.mul_le_mul_of_nonneg_left h4 ha
        omega
      · rename_i ha
        cases hb
        have ha' : 0 ≤ -a := by omega
        have e1 := Int.mul_le_mul_of_nonneg_left h3 ha'
        have e2 := Int.mul_le_mul_of_nonneg_left h4 ha'
        simp only [Int.neg_mul] at e1 e2
        omega
    · cases hb
theorem sx_b_ok {E : sx_E} {r : Nat → Int} (h : sx_in E r) {x : sx_X} {p q : Int} (hb : sx_b E x = some (p, q)) : p ≤ sx_ev r x ∧ sx_ev r x ≤ q := by
  unfold sx_b at hb
  split at hb
  · rename_i p1 q1 hl
    cases hb
    obtain ⟨h1, h2⟩ := sx_bl_ok h hl
    unfold sx_ev
    omega
  · cases hb
/-- x is surely at least k, by intervals -/
def sx_ge0 (E : sx_E) (x : sx_X) (k : Int) : Bool := match sx_b E x with
  | some (p, _) => decide (k ≤ p)
  | none => false
def sx_le0 (E : sx_E) (x : sx_X) (k : Int) : Bool := match sx_b E x with
  | some (_, q) => decide (q ≤ k)
  | none => false
theorem sx_ge0_ok {E : sx_E} {r : Nat → Int} (h : sx_in E r) {x : sx_X} {k : Int} (hb : sx_ge0 E x k = true) : k ≤ sx_ev r x := by
  unfold sx_ge0 at hb
  split at hb
  · rename_i p q hq
    exact Int.le_trans (of_decide_eq_true hb) (sx_b_ok h hq).1
  · cases hb
theorem sx_le0_ok {E : sx_E} {r : Nat → Int} (h : sx_in E r) {x : sx_X} {k : Int} (hb : sx_le0 E x k = true) : sx_ev r x ≤ k := by
  unfold sx_le0 at hb
  split at hb
  · rename_i p q hq
    exact Int.le_trans (sx_b_ok h hq).2 (of_decide_eq_true hb)
  · cases hb
/-- by intervals, or by one thing known -/
def sx_ge (E : sx_E) (x : sx_X) (k : Int) : Bool := sx_ge0 E x k || E.any fun q => q.2.2.any fun y => sx_ge0 E (sx_sub x y) k
def sx_le (E : sx_E) (x : sx_X) (k : Int) : Bool := sx_le0 E x k || E.any fun q => q.2.2.any fun y => sx_le0 E (sx_add x y) k
theorem sx_ge_ok {E : sx_E} {r : Nat → Int} (h : sx_in E r) {x : sx_X} {k : Int} (hb : sx_ge E x k = true) : k ≤ sx_ev r x := by
  unfold sx_ge at hb
  rw [Bool.or_eq_true] at hb
  rcases hb with hb | hb
  · exact sx_ge0_ok h hb
  · obtain ⟨q, hq, hb⟩ := List.any_eq_true.mp hb
    obtain ⟨y, hy, hb⟩ := List.any_eq_true.mp hb
    obtain ⟨i, hi⟩ := List.mem_iff_getElem?.mp hq
    have h1 := (h i q hi).2.2 y hy
    have h2 := sx_ge0_ok h hb
    rw [sx_sub_ev] at h2
    omega
theorem sx_le_ok {E : sx_E} {r : Nat → Int} (h : sx_in E r) {x : sx_X} {k : Int} (hb : sx_le E x k = true) : sx_ev r x ≤ k := by
  unfold sx_le at hb
  rw [Bool.or_eq_true] at hb
  rcases hb with hb | hb
  · exact sx_le0_ok h hb
  · obtain ⟨q, hq, hb⟩ := List.any_eq_true.mp hb
    obtain ⟨y, hy, hb⟩ := List.any_eq_true.mp hb
    obtain ⟨i, hi⟩ := List.mem_iff_getElem?.mp hq
    have h1 := (h i q hi).2.2 y hy
    have h2 := sx_le0_ok h hb
    rw [sx_add_ev] at h2
    omega
/-! what is known of x being at least 0 is known of its unknowns -/
/-- one unknown's interval, by c + a * r i + (the rest) being at least 0, the rest being at most t -/
def sx_t1 (E : sx_E) (a : Int) (i : Nat) (t : Int) : sx_E := match E[i]? with
  | some (lo, hi, cs) => if 0 < a then E.set i (max lo (-(t / a)), hi, cs) else if a < 0 then E.set i (lo, min hi (t / (-a)), cs) else E
  | none => E
def sx_tl (E : sx_E) (c : Int) : List (Int × Nat) → List (Int × Nat) → sx_E
  | _, [] => E
  | pre, (a, i) :: l => match sx_bl E (sx_addl pre l) with
    | some (_, q) => sx_tl (sx_t1 E a i (c + q)) c (sx_ins a i pre) l
    | none => sx_tl E c (sx_ins a i pre) l
/-- the intervals where x is at least 0 -/
def sx_tight (E : sx_E) (x : sx_X) : sx_E := sx_tl E x.1 [] x.2
theorem sx_in_set {E : sx_E} {r : Nat → Int} (h : sx_in E r) {i : Nat} {q : Int × Int × List sx_X} (hq : q.1 ≤ r i ∧ r i ≤ q.2.1 ∧ ∀ y ∈ q.2.2, sx_bel (i + 1) y = true ∧ 0 ≤ sx_ev r y) : sx_in (E.set i q) r := by
  intro j z hz
  by_cases e : i = j
  · subst e
    by_cases hl : i < E.length
    · rw [List.getElem?_set_self hl] at hz
      cases hz
      exact hq
    · rw [List.set_eq_of_length_le (Nat.not_lt.mp hl)] at hz
      exact h i z hz
  · rw [List.getElem?_set_ne e] at hz
    exact h j z hz
theorem sx_t1_ok {E : sx_E} {r : Nat → Int} (h : sx_in E r) {a : Int} {i : Nat} {t : Int} (ht : 0 ≤ a * r i + t) : sx_in (sx_t1 E a i t) r := by
  unfold sx_t1
  split
  · rename_i lo hi cs he
    obtain ⟨h1, h2, h3⟩ := h i _ he
    dsimp only at h1 h2
    split
    · rename_i ha
      refine sx_in_set h ⟨?_, h2, h3⟩
      dsimp only
      have e1 : -(t / a) ≤ r i := by
        have e2 : -(r i) ≤ t / a := by
          rw [Int.le_ediv_iff_mul_le ha]
          have e3 : -(r i) * a = -(a * r i) := by rw [Int.neg_mul, Int.mul_comm]
          omega
        omega
      omega
    · split
      · rename_i _ ha
        refine sx_in_set h ⟨h1, ?_, h3⟩
        dsimp only
        have e1 : r i ≤ t / (-a) := by
          rw [Int.le_ediv_iff_mul_le (by omega)]
          have e3 : r i * (-a) = -(a * r i) := by rw [Int.mul_neg, Int.mul_comm]
          omega
        omega
      · exact h
  · exact h
theorem sx_tl_ok {r : Nat → Int} {c : Int} : ∀ {l pre : List (Int × Nat)} {E : sx_E}, sx_in E r → 0 ≤ c + (sx_sum r pre + sx_sum r l) → sx_in (sx_tl E c pre l) r
  | [], pre, E, h, _ => h
  | (a, i) :: l, pre, E, h, hx => by
    unfold sx_tl
    simp only [sx_sum] at hx
    have hx2 : 0 ≤ c + (sx_sum r (sx_ins a i pre) + sx_sum r l) := by
      rw [sx_ins_ev]
      omega
    split
    · rename_i p q hb
      have h2 := (sx_bl_ok h hb).2
      rw [sx_addl_ev] at h2
      exact sx_tl_ok (sx_t1_ok h (by omega)) hx2
    · exact sx_tl_ok h hx2
theorem sx_tight_ok {E : sx_E} {r : Nat → Int} (h : sx_in E r) {x : sx_X} (hx : 0 ≤ sx_ev r x) : sx_in (sx_tight E x) r := by
  unfold sx_tight
  refine sx_tl_ok h ?_
  unfold sx_ev at hx
  simp only [sx_sum]
  omega
/-- some interval is empty: this can't be -/
def sx_bad (E : sx_E) : Bool := E.any fun q => decide (q.2.1 < q.1)
theorem sx_bad_ok {E : sx_E} {r : Nat → Int} (h : sx_in E r) : sx_bad E = false := by
  cases hb : sx_bad E with
  | false => rfl
  | true =>
    exfalso
    obtain ⟨q, hq, hlt⟩ := List.any_eq_true.mp hb
    obtain ⟨i, hi⟩ := List.mem_iff_getElem?.mp hq
    have := h i q hi
    have := of_decide_eq_true hlt
    omega
theorem sx_tight_len (E : sx_E) (x : sx_X) : (sx_tight E x).length = E.length := by
  have h1 : ∀ (E : sx_E) (a : Int) (i : Nat) (t : Int), (sx_t1 E a i t).length = E.length := by
    intro E a i t
    unfold sx_t1
    split
    · split
      · exact List.length_set ..
      · split
        · exact List.length_set ..
        · rfl
    · rfl
  have h2 : ∀ (l pre : List (Int × Nat)) (E : sx_E) (c : Int), (sx_tl E c pre l).length = E.length := by
    intro l
    induction l with
    | nil => intro pre E c; rfl
    | cons q l ih =>
      intro pre E c
      obtain ⟨a, i⟩ := q
      unfold sx_tl
      split
      · rw [ih, h1]
      · rw [ih]
  exact h2 _ _ _ _
/-- what is known to be at least 0 is written down at its last unknown -/
def sx_addc (E : sx_E) (y : sx_X) : sx_E := match y.2 with
  | _ :: q :: l => match (q :: l).getLast? with
    | some (_, j) => match E[j]? with
      | some (lo, hi, cs) => if sx_bel (j + 1) y && !cs.contains y then E.set j (lo, hi, y :: cs) else E
      | none => E
    | none => E
  | _ => E
theorem sx_addc_ok {E : sx_E} {r : Nat → Int} (h : sx_in E r) {y : sx_X} (hy : 0 ≤ sx_ev r y) : sx_in (sx_addc E y) r ∧ (sx_addc E y).length = E.length := by
  unfold sx_addc
  split
  · split
    · split
      · rename_i lo hi cs he
        split
        · rename_i hb
          rw [Bool.and_eq_true] at hb
          obtain ⟨h1, h2, h3⟩ := h _ _ he
          refine ⟨sx_in_set h ⟨h1, h2, fun z hz => ?_⟩, List.length_set ..⟩
          rcases List.mem_cons.mp hz with e | e
          · subst e
            exact ⟨hb.1, hy⟩
          · exact h3 z e
        · exact ⟨h, rfl⟩
      · exact ⟨h, rfl⟩
    · exact ⟨h, rfl⟩
  · exact ⟨h, rfl⟩
/-- what has an interval has no unknown above -/
theorem sx_bl_bel {E : sx_E} : ∀ {l : List (Int × Nat)} {q : Int × Int}, sx_bl E l = some q → (l.all fun q => decide (q.2 < E.length)) = true
  | [], _, _ => rfl
  | (a, i) :: l, q, hb => by
    unfold sx_bl at hb
    split at hb
    · rename_i lo hi cs p1 q1 he hl
      rw [List.all_cons, Bool.and_eq_true]
      exact ⟨decide_eq_true (List.getElem?_eq_some_iff.mp he).1, sx_bl_bel hl⟩
    · cases hb
theorem sx_b_bel {E : sx_E} {x : sx_X} {q : Int × Int} (hb : sx_b E x = some q) : sx_bel E.length x = true := by
  unfold sx_b at hb
  split at hb
  · rename_i p q h1
    exact sx_bl_bel h1
  · cases hb
