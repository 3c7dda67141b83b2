/-! the checker's step -/
/-- a method's contract: its arguments, its answer, its level (a constant, a factor an argument), the fields (by number) that it may write -/
abbrev sx_K : Type := List sx_D × Option sx_D × (Int × List Int) × List Nat
/-- types, the first of our own, the types of the addresses, contracts -/
abbrev sx_P : Type := List sx_Ty × Nat × List Nat × List (Option sx_K)
def sx_hull : sx_D → sx_D → Option sx_D
  | (0, a, b), (0, c, d) => some (0, min a c, max b d)
  | (1, a, b), (1, c, d) => some (1, min a c, max b d)
  | (2, t, a), (2, u, _) => if t = u then some (2, t, a) else none
  | _, _ => none
def sx_hl : List sx_D → Option sx_D
  | [] => none
  | [d] => some d
  | d :: l => match sx_hl l with
    | some e => sx_hull d e
    | none => none
def sx_ds (i : sx_X) (s : Nat) (ds : List sx_D) : List sx_D := if 0 < ds.length ∧ (i.2.all fun q => decide (q.1 % (ds.length : Int) = 0)) = true then (match ds[((i.1 - s) % (ds.length : Int)).toNat]? with | some d => [d] | none => []) else ds
def sx_dl (E : sx_E) (i : sx_X) (l : List (Nat × Nat × List sx_D)) : Option (List sx_D) := match sx_b E i with
  | some (lo, hi) => some ((l.filter fun q => decide ((q.1 : Int) ≤ hi) && decide (lo < (q.1 : Int) + q.2.1)).flatMap fun q => sx_ds i q.1 q.2.2)
  | none => none
/-- the index is surely none of a place that counts -/
def sx_nos (E : sx_E) (t : Nat) (i : sx_X) : Bool := sx_nst t || (match sx_b E i with
  | some (lo, hi) => (decide (12 < lo) || decide (hi < 12)) && (t == 23 || (decide (hi < 184) || (decide (3484 ≤ lo) || (decide (184 ≤ lo) && (decide (hi < 3484) && ((i.2.all fun q => decide (q.1 % 110 = 0)) && !((i.1 - 184) % 110 == 5)))))))
  | none => false)
def sx_cf (E : sx_E) : sx_A → sx_D → Bool
  | (0, x), (0, lo, hi) => sx_ge E x lo && sx_le E x hi
  | (1, x), (1, lo, hi) => sx_ge E x lo && sx_le E x hi
  | (2, (t, [(_, _)])), (2, u, _) => decide (t.toNat = u.toNat)
  | _, _ => false
def sx_ty (P : sx_P) (t : Int) : Option sx_Ty := P.1[t.toNat]?
/-- the locals after a store -/
def sx_clr (ls : List (Option sx_A)) (i : Nat) : List (Option sx_A) := match i with
  | 0 => ls
  | j + 1 => match ls[j]? with
    | some (some (0, _)) => ls
    | some (some (2, _)) => ls
    | some (some (3, _)) => ls
    | _ => ls.set j none
def sx_s1 (ls : List (Option sx_A)) (i : Nat) (a : sx_A) : List (Option sx_A) := (sx_clr ls i).set i (some a)
def sx_s2 (ls : List (Option sx_A)) (i : Nat) (a : sx_A) : List (Option sx_A) := ((sx_clr ls i).set i (some a)).set (i + 1) none
def sx_lo (S : sx_S) (kd i n : Nat) : Option (List sx_S) := match S with
  | (pc, ls, st, E, nr, C) => match ls[i]? with
    | some (some (k, x)) => if k = kd then some [(pc + n, ls, (k, x) :: st, E, nr, C)] else none
    | _ => none
def sx_sto (S : sx_S) (kd i n : Nat) : Option (List sx_S) := match S with
  | (pc, ls, (k, x) :: st, E, nr, C) => if k = kd ∧ i < ls.length then some [(pc + n, sx_s1 ls i (k, x), st, E, nr, C)] else none
  | _ => none
def sx_min4 (a b c d : Int) : Int := min (min a b) (min c d)
def sx_max4 (a b c d : Int) : Int := max (max a b) (max c d)
/-- the product of two -/
def sx_mul (E : sx_E) (x y : sx_X) : Option (sx_X ⊕ (Int × Int)) := match x, y with
  | (c, []), y => some (.inl (sx_mulc c y))
  | x, (c, []) => some (.inl (sx_mulc c x))
  | x, y => match sx_b E x, sx_b E y with
    | some (a, b), some (c, d) => some (.inr (sx_min4 (a * c) (a * d) (b * c) (b * d), sx_max4 (a * c) (a * d) (b * c) (b * d)))
    | _, _ => none
/-- the least 2^k - 1 that is at least n (n below 2^31) -/
def sx_msk : Nat → Int → Int
  | 0, _ => 2147483647
  | k + 1, n => if n ≤ 2 ^ (31 - (k + 1)) - 1 then 2 ^ (31 - (k + 1)) - 1 else sx_msk k n
def sx_ii (S : sx_S) (f : List sx_A → sx_X → sx_X → Option (List sx_S)) : Option (List sx_S) := match S with
  | (_, _, (0, y) :: (0, x) :: st, _, _, _) => f st x y
  | _ => none
def sx_LL (S : sx_S) (f : List sx_A → sx_X → sx_X → Option (List sx_S)) : Option (List sx_S) := match S with
  | (_, _, (1, y) :: (1, x) :: st, _, _, _) => f st x y
  | _ => none
/-- the intervals where y is at least 0; none: it can't be -/
def sx_cs (E : sx_E) (y : sx_X) : Option sx_E := match sx_b E y with
  | some (_, hi) => if hi < 0 then none else if sx_bad (sx_tight E y) then none else some (sx_addc (sx_tight E y) y)
  | none => some E
def sx_cs2 (F : Option sx_E) (y : sx_X) : Option sx_E := match F with
  | some E => sx_cs E y
  | none => none
def sx_w (S : sx_S) (st : List sx_A) (p : Nat) (F : Option sx_E) : List sx_S := match S, F with
  | (_, ls, _, _, nr, C), some E => [(p, ls, st, E, nr, C)]
  | _, none => []
def sx_ne0 (E : sx_E) (x : sx_X) : Option sx_E := match sx_b E x with
  | some (lo, hi) => if lo = 0 then sx_cs E (sx_sub x (sx_c 1)) else if hi = 0 then sx_cs E (sx_sub (sx_mulc (-1) x) (sx_c 1)) else some E
  | none => some E
/-- the intervals where x compares so with 0 -/
def sx_wh (E : sx_E) (c : ClassFile.Cond) (x : sx_X) : Option sx_E := match c with
  | .eq => sx_cs2 (sx_cs E x) (sx_mulc (-1) x)
  | .ne => sx_ne0 E x
  | .lt => sx_cs E (sx_sub (sx_mulc (-1) x) (sx_c 1))
  | .ge => sx_cs E x
  | .gt => sx_cs E (sx_sub x (sx_c 1))
  | .le => sx_cs E (sx_mulc (-1) x)
def sx_ngc : ClassFile.Cond → ClassFile.Cond
  | .eq => .ne
  | .ne => .eq
  | .lt => .ge
  | .ge => .lt
  | .gt => .le
  | .le => .gt
/-- the same; where x is one unknown that isn't 0: below, above -/
def sx_wl (E : sx_E) (c : ClassFile.Cond) (x : sx_X) : List (Option sx_E) := match c, x.2 with
  | .ne, [_] => [sx_cs E (sx_sub x (sx_c 1)), sx_cs E (sx_sub (sx_mulc (-1) x) (sx_c 1))]
  | _, _ => [sx_wh E c x]
/-- the two ways of a comparison of x with 0 -/
def sx_if (S : sx_S) (st : List sx_A) (c : ClassFile.Cond) (t f : Nat) (x : sx_X) : List sx_S := match S with
  | (_, _, _, E, _, _) => (sx_wl E c x).flatMap (sx_w S st t) ++ (sx_wl E (sx_ngc c) x).flatMap (sx_w S st f)
