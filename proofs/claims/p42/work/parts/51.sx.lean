/-! A CHECKER of methods: symbolic runs of the small machine. A value is an int or a long (a linear expression) or a reference (a numbered unknown, its type) -/
abbrev sx_A : Type := Nat × sx_X
/-- what a place of a cell holds: (0, lo, hi) an int, (1, lo, hi) a long, (2, t, _) a reference of type t -/
abbrev sx_D : Type := Nat × Int × Int
/-- a type: its kind, its length, its places: (from, how many, what they hold, over and over) -/
abbrev sx_Ty : Type := Nat × Nat × List (Nat × Nat × List sx_D)
abbrev sx_C : Type := List (Nat × Nat × sx_A)
/-- a state: place, locals, stack, intervals, number of references, what is known of places of cells -/
abbrev sx_S : Type := Nat × List (Option sx_A) × List sx_A × sx_E × Nat × sx_C
def sx_vr (r : Nat → Int) (g : Nat → Nat) (tau : List Nat) : sx_A → Value → Prop
  | (0, x), v => ∃ z : Int32, v = .int z ∧ z.toInt = sx_ev r x
  | (1, x), v => ∃ z : Int64, v = .long z ∧ z.toInt = sx_ev r x
  | (2, (t, [(_, a)])), v => v = .ref (g a) ∧ tau[g a]? = some t.toNat
  | (3, x), v => ∃ z : Int32, v = .int z ∧ z.toInt = (sx_ev r x).sign
  | _, _ => False
def sx_dr (tau : List Nat) : sx_D → Value → Prop
  | (0, lo, hi), v => ∃ z : Int32, v = .int z ∧ lo ≤ z.toInt ∧ z.toInt ≤ hi
  | (1, lo, hi), v => ∃ z : Int64, v = .long z ∧ lo ≤ z.toInt ∧ z.toInt ≤ hi
  | (2, t, _), v => ∃ a : Nat, v = .ref a ∧ tau[a]? = some t.toNat
  | _, _ => False
def sx_fd (l : List (Nat × Nat × List sx_D)) (k : Nat) : Option sx_D := match l.find? (fun q => decide (q.1 ≤ k) && decide (k < q.1 + q.2.1)) with
  | some (s, _, ds) => ds[(k - s) % ds.length]?
  | none => none
/-! what the code that is kept in the reference's texts must be: it never takes what isn't there -/
def sx_tg : Nat := 20
def sx_el (vs : List Value) (i : Nat) : Int := match vs[i]? with
  | some (.int z) => z.toInt
  | _ => 0
/-- the code from place i on, so many items, with n values and t truths at hand -/
def sx_wf (vs : List Value) (base : Nat) : Nat → Nat → Nat → Nat → Bool
  | _, 0, _, _ => true
  | i, len + 1, n, t =>
    if sx_el vs (base + 2 * i) = 0 then sx_wf vs base (i + 1) len (n + 1) t
    else if sx_el vs (base + 2 * i) = 1 then decide (0 ≤ sx_el vs (base + 2 * i + 1) ∧ sx_el vs (base + 2 * i + 1) ≤ 9) && sx_wf vs base (i + 1) len (n + 1) t
    else if sx_el vs (base + 2 * i) = 2 then decide (0 ≤ sx_el vs (base + 2 * i + 1) ∧ sx_el vs (base + 2 * i + 1) ≤ 6 ∧ (sx_el vs (base + 2 * i + 1)).toNat + 1 ≤ n) && sx_wf vs base (i + 1) len (n - ((sx_el vs (base + 2 * i + 1)).toNat + 1)) (t + 1)
    else if sx_el vs (base + 2 * i) = 3 then decide (1 ≤ n) && sx_wf vs base (i + 1) len n t
    else if sx_el vs (base + 2 * i) < 10 then decide (0 ≤ sx_el vs (base + 2 * i) ∧ 2 ≤ n) && sx_wf vs base (i + 1) len (n - 1) t
    else if sx_el vs (base + 2 * i) < 20 then decide (2 ≤ n) && sx_wf vs base (i + 1) len (n - 2) (t + 1)
    else if sx_el vs (base + 2 * i) = 20 then decide (1 ≤ t) && sx_wf vs base (i + 1) len n t
    else decide (2 ≤ t) && sx_wf vs base (i + 1) len n (t - 1)
/-- each law among the clauses of each text has such code -/
def sx_JT (vs : List Value) : Prop := ∀ s k : Nat, s < 4 → k < 24 → (k : Int) < sx_el vs (705 * s) → sx_el vs (705 * s + 1 + 4 * k) ≤ 2 → ∃ a b : Nat, sx_el vs (705 * s + 1 + 4 * k + 1) = (a : Int) ∧ sx_el vs (705 * s + 1 + 4 * k + 2) = (b : Int) ∧ b ≤ 303 ∧ sx_wf vs (705 * s + 97) a (b - a) 0 0 = true
/-- the heap is as its types say; types from TW on are our own cells -/
def sx_H (TT : List sx_Ty) (TW : Nat) (tau : List Nat) (h : mj_H) : Prop := ∀ (a t : Nat) (ty : sx_Ty), tau[a]? = some t → TT[t]? = some ty → (TW ≤ t → mj_n0 ≤ a) ∧ ∃ vs, h[a]? = some (ty.1, vs) ∧ vs.length = ty.2.1 ∧ (∀ (k : Nat) (v : Value), vs[k]? = some v → ∃ d, sx_fd ty.2.2 k = some d ∧ sx_dr tau d v) ∧ (t = sx_tg → sx_JT vs)
/-! places that count: in types 21, 22 (the reference's state and its image) and 23 (what is put aside) -/
def sx_nst (t : Nat) : Bool := !(t == 21 || t == 22 || t == 23)
def sx_sens (t k : Nat) : Bool := ((t == 21 || t == 22 || t == 23) && k == 12) || ((t == 21 || t == 22) && (decide (184 ≤ k) && (decide (k < 3484) && (k - 184) % 110 == 5)))
/-- what stands there is at most B -/
def sx_W (tau : List Nat) (h : mj_H) (B : Int) : Prop := ∀ (a t kd : Nat) (vs : List Value) (k : Nat) (z : Int32), tau[a]? = some t → h[a]? = some (kd, vs) → sx_sens t k = true → vs[k]? = some (.int z) → z.toInt ≤ B
theorem sx_W_le {tau : List Nat} {h : mj_H} {B B' : Int} (hW : sx_W tau h B) (hB : B ≤ B') : sx_W tau h B' := fun a t kd vs k z h1 h2 h3 h4 => Int.le_trans (hW a t kd vs k z h1 h2 h3 h4) hB
theorem sx_nst_ok {t k : Nat} (h : sx_nst t = true) : sx_sens t k = false := by
  unfold sx_nst at h
  unfold sx_sens
  cases h1 : (t == 21) <;> cases h2 : (t == 22) <;> cases h3 : (t == 23) <;> simp_all
theorem sx_W_set {tau : List Nat} {h : mj_H} {B : Int} (hW : sx_W tau h B) {a t kd : Nat} {vs ws : List Value} (ht : tau[a]? = some t) (ha : h[a]? = some (kd, vs)) (hs : ∀ k, sx_sens t k = true → ws[k]? = vs[k]?) : sx_W tau (h.set a (kd, ws)) B := by
  intro b u kb us k z h1 h2 h3 h4
  by_cases e : a = b
  · subst e
    rw [ht] at h1
    cases h1
    rw [List.getElem?_set_self (List.getElem?_eq_some_iff.mp ha).1] at h2
    cases h2
    rw [hs k h3] at h4
    exact hW a t kd vs k z ht ha h3 h4
  · rw [List.getElem?_set_ne e] at h2
    exact hW b u kb us k z h1 h2 h3 h4
def sx_lr (r : Nat → Int) (g : Nat → Nat) (tau : List Nat) (ls : List (Option sx_A)) (lv : mj_L) : Prop := ls.length = lv.length ∧ ∀ (i : Nat) (a : sx_A), ls[i]? = some (some a) → ∃ v, mj_ld lv i = some v ∧ sx_vr r g tau a v
def sx_sr (r : Nat → Int) (g : Nat → Nat) (tau : List Nat) : List sx_A → List Value → Prop
  | [], [] => True
  | a :: l, v :: s => sx_vr r g tau a v ∧ sx_sr r g tau l s
  | _, _ => False
/-- what a cell holds under a key: a field of an object of class c under 100 c and its number, one of the first 16 places of an array of type 21 under 20000 and its place -/
def sx_at (tau : List Nat) (a : Nat) (c : mj_C) (key : Nat) : Option Value := if c.1 < 900 then (if 100 * c.1 ≤ key ∧ key < 100 * c.1 + 100 then c.2[key - 100 * c.1]? else none) else if tau[a]? = some 21 ∧ 20000 ≤ key ∧ key < 20016 then c.2[key - 20000]? else none
theorem sx_at_f {tau : List Nat} {a kd k : Nat} {vs : List Value} (hk : kd < 900) (h : k < 100) : sx_at tau a (kd, vs) (100 * kd + k) = vs[k]? := by
  simp only [sx_at, if_pos hk]
  rw [if_pos (show 100 * kd ≤ 100 * kd + k ∧ 100 * kd + k < 100 * kd + 100 by omega), show 100 * kd + k - 100 * kd = k by omega]
theorem sx_at_fs {tau : List Nat} {a kd k key : Nat} {vs : List Value} {v : Value} (hk : kd < 900) (h : key ≠ 100 * kd + k) : sx_at tau a (kd, vs.set k v) key = sx_at tau a (kd, vs) key := by
  simp only [sx_at, if_pos hk]
  split
  · exact List.getElem?_set_ne (by omega)
  · rfl
theorem sx_at_a {tau : List Nat} {a kd j : Nat} {vs : List Value} (hk : 900 ≤ kd) (ht : tau[a]? = some 21) (h : j < 16) : sx_at tau a (kd, vs) (20000 + j) = vs[j]? := by
  simp only [sx_at, if_neg (show ¬ kd < 900 by omega)]
  rw [if_pos (show tau[a]? = some 21 ∧ 20000 ≤ 20000 + j ∧ 20000 + j < 20016 from ⟨ht, by omega, by omega⟩), show 20000 + j - 20000 = j by omega]
theorem sx_at_as {tau : List Nat} {a kd j key : Nat} {vs : List Value} {v : Value} (hk : 900 ≤ kd) (h : tau[a]? = some 21 → key < 20016 → key ≠ 20000 + j) : sx_at tau a (kd, vs.set j v) key = sx_at tau a (kd, vs) key := by
  simp only [sx_at, if_neg (show ¬ kd < 900 by omega)]
  split
  · rename_i hb
    have := h hb.1 hb.2.2
    exact List.getElem?_set_ne (by omega)
  · rfl
theorem sx_at_n {tau : List Nat} {a kd key : Nat} {vs ws : List Value} (hk : 900 ≤ kd) (h : tau[a]? ≠ some 21) : sx_at tau a (kd, ws) key = sx_at tau a (kd, vs) key := by
  simp only [sx_at, if_neg (show ¬ kd < 900 by omega)]
  rw [if_neg (fun q => h q.1), if_neg (fun q => h q.1)]
def sx_cr (r : Nat → Int) (g : Nat → Nat) (tau : List Nat) (C : sx_C) (h : mj_H) : Prop := ∀ q ∈ C, ∃ (kd : Nat) (vs : List Value) (v : Value), h[g q.1]? = some (kd, vs) ∧ sx_at tau (g q.1) (kd, vs) q.2.1 = some v ∧ sx_vr r g tau q.2.2 v
/-- no unknown of it is n or above, no reference m or above -/
def sx_lta (n m : Nat) : sx_A → Bool
  | (2, (_, [(_, a)])) => decide (a < m)
  | (_, x) => x.2.all fun q => decide (q.2 < n)
def sx_ok (S : sx_S) : Bool := match S with
  | (_, ls, st, E, nr, C) => (ls.all fun o => match o with | some a => sx_lta E.length nr a | none => true) && (st.all (sx_lta E.length nr) && C.all fun q => decide (q.1 < nr) && sx_lta E.length nr q.2.2)
/-- the symbolic state fits -/
def sx_g (TT : List sx_Ty) (TW : Nat) (tau : List Nat) (r : Nat → Int) (g : Nat → Nat) (S : sx_S) (lv : mj_L) (st : List Value) (h : mj_H) : Prop := match S with
  | (_, ls, ss, E, _, C) => sx_lr r g tau ls lv ∧ sx_sr r g tau ss st ∧ sx_in E r ∧ sx_cr r g tau C h ∧ sx_H TT TW tau h
def sx_upi (r : Nat → Int) (n : Nat) (z : Int) : Nat → Int := fun j => if j = n then z else r j
def sx_upr (g : Nat → Nat) (n a : Nat) : Nat → Nat := fun j => if j = n then a else g j
theorem sx_sum_up (r : Nat → Int) (n : Nat) (z : Int) : ∀ l : List (Int × Nat), (l.all fun q => decide (q.2 < n)) = true → sx_sum (sx_upi r n z) l = sx_sum r l
  | [], _ => rfl
  | (a, i) :: l, h => by
    rw [List.all_cons, Bool.and_eq_true] at h
    have ih := sx_sum_up r n z l h.2
    have hi : i < n := of_decide_eq_true h.1
    simp only [sx_sum]
    rw [ih]
    unfold sx_upi
    rw [if_neg (by omega)]
theorem sx_vr_up {r : Nat → Int} {g : Nat → Nat} {tau : List Nat} {a : sx_A} {v : Value} {n m : Nat} {z : Int} {b : Nat} (hl : sx_lta n m a = true) (h : sx_vr r g tau a v) : sx_vr (sx_upi r n z) (sx_upr g m b) tau a v := by
  unfold sx_vr at h
  split at h
  · rename_i x
    obtain ⟨q, e1, e2⟩ := h
    refine ⟨q, e1, ?_⟩
    rw [e2]
    unfold sx_ev
    rw [sx_sum_up r n z x.2 hl]
  · rename_i x
    obtain ⟨q, e1, e2⟩ := h
    refine ⟨q, e1, ?_⟩
    rw [e2]
    unfold sx_ev
    rw [sx_sum_up r n z x.2 hl]
  · rename_i t q k
    have hk : k < m := of_decide_eq_true hl
    have e : sx_upr g m b k = g k := if_neg (Nat.ne_of_lt hk)
    show v = .ref (sx_upr g m b k) ∧ tau[sx_upr g m b k]? = some t.toNat
    rw [e]
    exact h
  · rename_i x
    obtain ⟨q, e1, e2⟩ := h
    refine ⟨q, e1, ?_⟩
    rw [e2]
    unfold sx_ev
    rw [sx_sum_up r n z x.2 hl]
  · exact h.elim
/-- a fresh int in an interval on the stack -/
def sx_pi (S : sx_S) (kd pc : Nat) (st : List sx_A) (lo hi : Int) : Option (List sx_S) := match S with
  | (_, ls, _, E, nr, C) => if sx_ok (0, ls, st, E, nr, C) then some [(pc, ls, (kd, sx_v E.length) :: st, E ++ [(lo, hi, [])], nr, C)] else none
/-- the same, below y -/
def sx_pic (S : sx_S) (kd pc : Nat) (st : List sx_A) (lo hi : Int) (y : sx_X) : Option (List sx_S) := match S with
  | (_, ls, _, E, nr, C) => if sx_ok (0, ls, st, E, nr, C) then some [(pc, ls, (kd, sx_v E.length) :: st, E ++ [(lo, hi, if y.2.isEmpty then [] else [sx_sub (sx_sub y (sx_c 1)) (sx_v E.length)].filter (sx_bel (E.length + 1)))], nr, C)] else none
def sx_mx : Int := 2147483647
def sx_mn : Int := -2147483648
def sx_Mx : Int := 9223372036854775807
def sx_Mn : Int := -9223372036854775808
/-- an int on the stack: as it is, where it surely stays in range; else any -/
def sx_px (S : sx_S) (pc : Nat) (st : List sx_A) (x : sx_X) : Option (List sx_S) := match S with
  | (_, ls, _, E, nr, C) => if sx_ge E x sx_mn && sx_le E x sx_mx then some [(pc, ls, (0, x) :: st, E, nr, C)] else sx_pi S 0 pc st sx_mn sx_mx
def sx_pX (S : sx_S) (pc : Nat) (st : List sx_A) (x : sx_X) : Option (List sx_S) := match S with
  | (_, ls, _, E, nr, C) => if sx_ge E x sx_Mn && sx_le E x sx_Mx then some [(pc, ls, (1, x) :: st, E, nr, C)] else sx_pi S 1 pc st sx_Mn sx_Mx
def sx_cc (c : Option (Nat × Nat)) (a : sx_A) : sx_C := match c with
  | some q => [(q.1, q.2, a)]
  | none => []
def sx_cn (c : Option (Nat × Nat)) (nr : Nat) : Bool := match c with
  | some q => decide (q.1 < nr)
  | none => true
/-- what a place holds comes onto the stack -/
def sx_pd (S : sx_S) (pc : Nat) (st : List sx_A) (d : sx_D) (c : Option (Nat × Nat)) : Option (List sx_S) := match S with
  | (_, ls, _, E, nr, C) => if sx_ok (0, ls, st, E, nr, C) && sx_cn c nr then match d with
    | (0, lo, hi) => some [(pc, ls, (0, sx_v E.length) :: st, E ++ [(lo, hi, [])], nr, sx_cc c (0, sx_v E.length) ++ C)]
    | (1, lo, hi) => some [(pc, ls, (1, sx_v E.length) :: st, E ++ [(lo, hi, [])], nr, sx_cc c (1, sx_v E.length) ++ C)]
    | (2, t, _) => some [(pc, ls, (2, (t, [(0, nr)])) :: st, E, nr + 1, sx_cc c (2, (t, [(0, nr)])) ++ C)]
    | _ => none
    else none
