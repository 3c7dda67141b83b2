/-! THE SMALL MACHINE: the program's own instructions over small data: a cell is a kind and a list of values, an address a place in the list of cells. -/
abbrev mj_C : Type := Nat × List Value
abbrev mj_H : Type := List mj_C
abbrev mj_L : Type := List (Option Value)
abbrev mj_S : Type := Nat × mj_L × List Value × mj_H
def mj_ld (lv : mj_L) (i : Nat) : Option Value := match lv[i]? with
  | some (some v) => some v
  | _ => none
def mj_clr (lv : mj_L) (i : Nat) : mj_L := match i with
  | 0 => lv
  | j + 1 => match mj_ld lv j with
    | some v => if v.category = 2 then lv.set j none else lv
    | none => lv
def mj_s1 (lv : mj_L) (i : Nat) (v : Value) : mj_L := (mj_clr lv i).set i (some v)
def mj_s2 (lv : mj_L) (i : Nat) (v : Value) : mj_L := ((mj_clr lv i).set i (some v)).set (i + 1) none
def mj_j (pc : Nat) (off : Int) : Option Nat := match (pc : Int) + off with
  | .ofNat t => some t
  | .negSucc _ => none
def mj_cmp (c : ClassFile.Cond) (x y : Int32) : Bool := match c with
  | .eq => decide (x = y)
  | .ne => decide (¬ x = y)
  | .lt => decide (x < y)
  | .ge => decide (y ≤ x)
  | .gt => decide (y < x)
  | .le => decide (x ≤ y)
/-- a number in range as a place -/
def mj_ix (i : Int32) (n : Nat) : Option Nat := if 0 ≤ i.toInt ∧ i.toInt < n then some i.toInt.toNat else none
def mj_ld1 (pc : Nat) (lv : mj_L) (st : List Value) (h : mj_H) (v : Value) (n : Nat) : Option mj_S := some (pc + n, lv, v :: st, h)
def mj_ii (pc : Nat) (lv : mj_L) (st : List Value) (h : mj_H) (f : Int32 → Int32 → Int32) : Option mj_S := match st with
  | .int y :: .int x :: r => some (pc + 1, lv, .int (f x y) :: r, h)
  | _ => none
def mj_ll (pc : Nat) (lv : mj_L) (st : List Value) (h : mj_H) (f : Int64 → Int64 → Int64) : Option mj_S := match st with
  | .long y :: .long x :: r => some (pc + 1, lv, .long (f x y) :: r, h)
  | _ => none
def mj_li (pc : Nat) (lv : mj_L) (st : List Value) (h : mj_H) (i n : Nat) : Option mj_S := match mj_ld lv i with
  | some (.int x) => some (pc + n, lv, .int x :: st, h)
  | _ => none
def mj_lo (pc : Nat) (lv : mj_L) (st : List Value) (h : mj_H) (i n : Nat) : Option mj_S := match mj_ld lv i with
  | some (.long x) => some (pc + n, lv, .long x :: st, h)
  | _ => none
def mj_la (pc : Nat) (lv : mj_L) (st : List Value) (h : mj_H) (i n : Nat) : Option mj_S := match mj_ld lv i with
  | some (.ref x) => some (pc + n, lv, .ref x :: st, h)
  | _ => none
def mj_si (pc : Nat) (lv : mj_L) (st : List Value) (h : mj_H) (i n : Nat) : Option mj_S := match st with
  | .int x :: r => if i < lv.length then some (pc + n, mj_s1 lv i (.int x), r, h) else none
  | _ => none
def mj_sl (pc : Nat) (lv : mj_L) (st : List Value) (h : mj_H) (i n : Nat) : Option mj_S := match st with
  | .long x :: r => if i + 1 < lv.length then some (pc + n, mj_s2 lv i (.long x), r, h) else none
  | _ => none
def mj_sa (pc : Nat) (lv : mj_L) (st : List Value) (h : mj_H) (i n : Nat) : Option mj_S := match st with
  | .ref x :: r => if i < lv.length then some (pc + n, mj_s1 lv i (.ref x), r, h) else none
  | _ => none
/-- an array's element, at an address, of a kind -/
def mj_el (h : mj_H) (a : Nat) (k : Nat) (i : Int32) : Option Value := match h[a]? with
  | some (k', vs) => if k' = k then match mj_ix i vs.length with
      | some j => vs[j]?
      | none => none
    else none
  | none => none
/-- an array's element set; what was there before the start is never written -/
def mj_es (n0 : Nat) (h : mj_H) (a : Nat) (k : Nat) (i : Int32) (v : Value) : Option mj_H := match h[a]? with
  | some (k', vs) => if k' = k ∧ n0 ≤ a then match mj_ix i vs.length with
      | some j => some (h.set a (k, vs.set j v))
      | none => none
    else none
  | none => none
def mj_cpl (f g : List Value) (sp dp n : Nat) : List Value := g.take dp ++ ((f.drop sp).take n ++ g.drop (dp + n))
def mj_isI : Value → Bool
  | .int _ => true
  | _ => false
def mj_cat (st : List Value) : Nat := (st.map fun v => v.category).sum
/-- a call's arguments as locals -/
def mj_av : List Value → mj_L
  | [] => []
  | v :: r => if v.category = 2 then some v :: none :: mj_av r else some v :: mj_av r
def mj_ent (n : Nat) (as : List Value) : Option mj_L := if (mj_av as).length ≤ n then some (mj_av as ++ List.replicate (n - (mj_av as).length) none) else none
def mj_hsz (h : mj_H) : Nat := (h.map fun c => c.2.length).sum
