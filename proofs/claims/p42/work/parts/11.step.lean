/-! lookups -/
def mj_o (m : Nat) : Nat := match mj_ms[m]? with
  | some (_, _, _, _, o, _) => o
  | none => 1000
def mj_nl (m : Nat) : Nat := match mj_ms[m]? with
  | some (_, _, n, _, _, _) => n
  | none => 0
def mj_ret (m : Nat) : Option FieldType := match mj_ms[m]? with
  | some (_, _, _, r, _, _) => r
  | none => none
def mj_ini (m : Nat) : Nat := match mj_ms[m]? with
  | some (_, _, _, _, _, i) => i
  | none => 0
def mj_cls (m : Nat) : Nat := mj_oc.getD (mj_o m) 1000
def mj_ins (m pc : Nat) : Option Instr := match mj_is[m]? with
  | some l => l.lookup pc
  | none => none
def mj_fld (m x : Nat) : Option (Nat × Nat × FieldType × Bool) := match mj_ft.find? (fun e => e.1 == mj_o m && e.2.1 == x) with
  | some (_, _, c, k) => match mj_fe c k with
    | some (_, _, _, fin, ty) => some (c, k, ty, !fin || mj_ini m == c + 1)
    | none => none
  | none => none
def mj_cal (m x : Nat) : Option (Nat × Nat × Nat) := match mj_ct.find? (fun e => e.1 == mj_o m && e.2.1 == x) with
  | some (_, _, k) => some k
  | none => none
def mj_con (m x : Nat) : Option Value := match mj_kt.find? (fun e => e.1 == mj_o m && e.2.1 == x) with
  | some (_, _, v) => some v
  | none => none
def mj_stt (m x : Nat) : Option Value := match mj_st0.find? (fun e => e.1 == mj_o m && e.2.1 == x) with
  | some (_, _, v) => some (.ref v)
  | none => none
def mj_ncl (m x : Nat) : Option Nat := match mj_nt.find? (fun e => e.1 == mj_o m && e.2.1 == x) with
  | some (_, _, c) => some c
  | none => none
def mj_aoc : List Nat := (List.range mj_nc).filter fun c => mj_ao.contains (mj_nm c)
def mj_anw (m x : Nat) : Option Nat := match mj_ncl m x with
  | some c => if mj_aoc.contains c then some c else none
  | none => none
def mj_new (m x : Nat) : Option (Nat × List Value) := match mj_ncl m x with
  | some c => some (c, (mj_cf.getD c []).map (fun f => defaultValue f.2.2.2.2))
  | none => none
/-- one instruction that is no call of ours and no return -/
def mj_st (m pc : Nat) (i : Instr) (lv : mj_L) (st : List Value) (h : mj_H) : Option mj_S := match i with
  | .iconst n => mj_ld1 pc lv st h (.int (Int32.ofInt n)) 1
  | .bipush n => mj_ld1 pc lv st h (.int (Int8.ofInt n).toInt32) 2
  | .sipush n => mj_ld1 pc lv st h (.int (Int16.ofInt n).toInt32) 3
  | .lconst n => mj_ld1 pc lv st h (.long (Int64.ofNat (n : Nat))) 1
  | .ldc x => match mj_con m x with
    | some (.int v) => mj_ld1 pc lv st h (.int v) 2
    | some (.ref v) => mj_ld1 pc lv st h (.ref v) 2
    | _ => none
  | .ldc_w x => match mj_con m x with
    | some (.int v) => mj_ld1 pc lv st h (.int v) 3
    | _ => none
  | .ldc2_w x => match mj_con m x with
    | some (.long v) => mj_ld1 pc lv st h (.long v) 3
    | _ => none
  | .getstatic x => match mj_stt m x with
    | some (.ref v) => mj_ld1 pc lv st h (.ref v) 3
    | _ => none
  | .iload i => mj_li pc lv st h i 2
  | .iload_n i => mj_li pc lv st h i 1
  | .lload i => mj_lo pc lv st h i 2
  | .lload_n i => mj_lo pc lv st h i 1
  | .aload i => mj_la pc lv st h i 2
  | .aload_n i => mj_la pc lv st h i 1
  | .istore i => mj_si pc lv st h i 2
  | .istore_n i => mj_si pc lv st h i 1
  | .lstore i => mj_sl pc lv st h i 2
  | .lstore_n i => mj_sl pc lv st h i 1
  | .astore i => mj_sa pc lv st h i 2
  | .astore_n i => mj_sa pc lv st h i 1
  | .iinc i n => match mj_ld lv i with
    | some (.int x) => if i < lv.length then some (pc + 3, mj_s1 lv i (.int (x + Int32.ofInt n)), st, h) else none
    | _ => none
  | .iadd => mj_ii pc lv st h (fun x y => x + y)
  | .isub => mj_ii pc lv st h (fun x y => x - y)
  | .imul => mj_ii pc lv st h (fun x y => x * y)
  | .iand => mj_ii pc lv st h (fun x y => x &&& y)
  | .ior => mj_ii pc lv st h (fun x y => x ||| y)
  | .ixor => mj_ii pc lv st h (fun x y => x ^^^ y)
  | .ishl => mj_ii pc lv st h (fun x y => x <<< (y &&& 31))
  | .ishr => mj_ii pc lv st h (fun x y => x >>> (y &&& 31))
  | .iushr => mj_ii pc lv st h (fun x y => (x.toUInt32 >>> (y.toUInt32 &&& Int32.toUInt32 31)).toInt32)
  | .idiv => match st with
    | .int y :: .int x :: r => if y = 0 then none else some (pc + 1, lv, .int (x / y) :: r, h)
    | _ => none
  | .irem => match st with
    | .int y :: .int x :: r => if y = 0 then none else some (pc + 1, lv, .int (x - x / y * y) :: r, h)
    | _ => none
  | .ineg => match st with
    | .int x :: r => some (pc + 1, lv, .int (-x) :: r, h)
    | _ => none
  | .ladd => mj_ll pc lv st h (fun x y => x + y)
  | .lsub => mj_ll pc lv st h (fun x y => x - y)
  | .lmul => mj_ll pc lv st h (fun x y => x * y)
  | .land => mj_ll pc lv st h (fun x y => x &&& y)
  | .lor => mj_ll pc lv st h (fun x y => x ||| y)
  | .lxor => mj_ll pc lv st h (fun x y => x ^^^ y)
  | .lshl => match st with
    | .int y :: .long x :: r => some (pc + 1, lv, .long (x <<< (y.toInt64 &&& 63)) :: r, h)
    | _ => none
  | .lshr => match st with
    | .int y :: .long x :: r => some (pc + 1, lv, .long (x >>> (y.toInt64 &&& 63)) :: r, h)
    | _ => none
  | .ldiv => match st with
    | .long y :: .long x :: r => if y = 0 then none else some (pc + 1, lv, .long (x / y) :: r, h)
    | _ => none
  | .lrem => match st with
    | .long y :: .long x :: r => if y = 0 then none else some (pc + 1, lv, .long (x - x / y * y) :: r, h)
    | _ => none
  | .lneg => match st with
    | .long x :: r => some (pc + 1, lv, .long (-x) :: r, h)
    | _ => none
  | .lcmp => match st with
    | .long y :: .long x :: r => some (pc + 1, lv, .int (lg_cmp x y) :: r, h)
    | _ => none
  | .i2l => match st with
    | .int x :: r => some (pc + 1, lv, .long x.toInt64 :: r, h)
    | _ => none
  | .l2i => match st with
    | .long x :: r => some (pc + 1, lv, .int x.toInt32 :: r, h)
    | _ => none
  | .i2c => match st with
    | .int x :: r => some (pc + 1, lv, .int (x.toUInt32 % 65536).toInt32 :: r, h)
    | _ => none
  | .dup => match st with
    | v :: r => if v.category = 1 then some (pc + 1, lv, v :: v :: r, h) else none
    | _ => none
  | .pop => match st with
    | v :: r => if v.category = 1 then some (pc + 1, lv, r, h) else none
    | _ => none
  | .pop2 => match st with
    | v :: r => if v.category = 2 then some (pc + 1, lv, r, h) else none
    | _ => none
  | .dup2 => match st with
    | v :: w :: r => if v.category = 1 ∧ w.category = 1 then some (pc + 1, lv, v :: w :: v :: w :: r, h) else none
    | _ => none
  | .ifCond c off => match mj_j pc off, st with
    | some t, .int x :: r => some (if mj_cmp c x 0 then t else pc + 3, lv, r, h)
    | _, _ => none
  | .if_icmp c off => match mj_j pc off, st with
    | some t, .int y :: .int x :: r => some (if mj_cmp c x y then t else pc + 3, lv, r, h)
    | _, _ => none
  | .goto off => (mj_j pc off).map (fun t => (t, lv, st, h))
  | .tableswitch dflt lo hi offs => match st with
    | .int x :: r => if x.toInt < lo ∨ hi < x.toInt then (mj_j pc dflt).map (fun t => (t, lv, r, h)) else match offs[(x.toInt - lo).toNat]? with
      | some off => (mj_j pc off).map (fun t => (t, lv, r, h))
      | none => none
    | _ => none
  | .lookupswitch dflt ps => match st with
    | .int x :: r => if (ps.toList.zip (ps.toList.drop 1)).all (fun (a, next) => a.1 < next.1) then (mj_j pc (Op.lookupswitch.offset ps.toList dflt x.toInt)).map (fun t => (t, lv, r, h)) else none
    | _ => none
  | .iaload => match st with
    | .int i :: .ref a :: r => (mj_el h a 1000 i).map (fun v => (pc + 1, lv, v :: r, h))
    | _ => none
  | .baload => match st with
    | .int i :: .ref a :: r => (mj_el h a 1001 i).map (fun v => (pc + 1, lv, v :: r, h))
    | _ => none
  | .laload => match st with
    | .int i :: .ref a :: r => (mj_el h a 1005 i).map (fun v => (pc + 1, lv, v :: r, h))
    | _ => none
  | .aaload => match st with
    | .int i :: .ref a :: r => match h[a]? with
      | some (k, _) => if 1100 ≤ k ∧ k < 2000 then (mj_el h a k i).map (fun v => (pc + 1, lv, v :: r, h)) else none
      | none => none
    | _ => none
  | .iastore => match st with
    | .int x :: .int i :: .ref a :: r => (mj_es mj_n0 h a 1000 i (.int x)).map (fun h' => (pc + 1, lv, r, h'))
    | _ => none
  | .lastore => match st with
    | .long x :: .int i :: .ref a :: r => (mj_es mj_n0 h a 1005 i (.long x)).map (fun h' => (pc + 1, lv, r, h'))
    | _ => none
  | .bastore => match st with
    | .int x :: .int i :: .ref a :: r => (mj_es mj_n0 h a 1001 i (narrow .boolean (.int x))).map (fun h' => (pc + 1, lv, r, h'))
    | _ => none
  | .aastore => match st with
    | .ref x :: .int i :: .ref a :: r => match h[x]?, h[a]? with
      | some (c, _), some (k, _) => if k = 1100 + c ∧ c < mj_nc then (mj_es mj_n0 h a k i (.ref x)).map (fun h' => (pc + 1, lv, r, h')) else none
      | _, _ => none
    | _ => none
  | .arraylength => match st with
    | .ref a :: r => match h[a]? with
      | some (k, vs) => if 1000 ≤ k ∧ k < 2000 then some (pc + 1, lv, .int (Int32.ofNat vs.length) :: r, h) else none
      | none => none
    | _ => none
  | .newarray t => match st with
    | .int n :: r => if 0 ≤ n.toInt ∧ n.toInt < 1000000 then match t with
      | .int => some (pc + 2, lv, .ref h.length :: r, h ++ [(1000, List.replicate n.toInt.toNat (.int 0))])
      | .boolean => some (pc + 2, lv, .ref h.length :: r, h ++ [(1001, List.replicate n.toInt.toNat (.int 0))])
      | .long => some (pc + 2, lv, .ref h.length :: r, h ++ [(1005, List.replicate n.toInt.toNat (.long 0))])
      | _ => none
      else none
    | _ => none
  | .anewarray x => match st with
    | .int n :: r => match mj_anw m x with
      | some c => if 0 ≤ n.toInt ∧ n.toInt < 1000000 then some (pc + 3, lv, .ref h.length :: r, h ++ [(1100 + c, List.replicate n.toInt.toNat .null)]) else none
      | none => none
    | _ => none
  | .new x => match mj_new m x with
    | some (c, fs) => some (pc + 3, lv, .ref h.length :: st, h ++ [(c, fs)])
    | none => none
  | .getfield x => match st with
    | .ref a :: r => match mj_fld m x, h[a]? with
      | some (c, k, _, _), some (c', fs) => if c' = c then match fs[k]? with
        | some v => some (pc + 3, lv, v :: r, h)
        | none => none
        else none
      | _, _ => none
    | _ => none
  | .putfield x => match st with
    | v :: .ref a :: r => match mj_fld m x, h[a]? with
      | some (c, k, ty, w), some (c', fs) => if c' = c ∧ w = true ∧ mj_n0 ≤ a ∧ k < fs.length ∧ narrow ty v = v ∧ fits ty v = true then some (pc + 3, lv, r, h.set a (c, fs.set k v)) else none
      | _, _ => none
    | _ => none
  | .invokespecial x => match mj_cal m x, st with
    | some (0, _, _), .ref _ :: r => if mj_cat r ≤ 8 then some (pc + 3, lv, r, h) else none
    | _, _ => none
  | .invokestatic x => match mj_cal m x, st with
    | some (10, _, _), .int y :: .int x :: r => if mj_cat r ≤ 8 then some (pc + 3, lv, .int (if x < y then y else x) :: r, h) else none
    | some (11, _, _), .int y :: .int x :: r => if mj_cat r ≤ 8 then some (pc + 3, lv, .int (if y < x then y else x) :: r, h) else none
    | some (12, _, _), .int x :: r => if mj_cat r ≤ 8 then some (pc + 3, lv, .int (if 0 ≤ x then x else 0 - x) :: r, h) else none
    | some (13, _, _), .long y :: .long x :: r => if mj_cat r ≤ 8 then some (pc + 3, lv, .long (if y < x then x else y) :: r, h) else none
    | some (14, _, _), .long y :: .long x :: r => if mj_cat r ≤ 8 then some (pc + 3, lv, .long (if y < x then y else x) :: r, h) else none
    | some (20, _, _), .int n :: .int dp :: .ref a1 :: .int sp :: .ref a0 :: r => match h[a0]?, h[a1]? with
      | some (1000, f), some (1000, g) =>
        if mj_cat r ≤ 8 ∧ mj_n0 ≤ a1 ∧ mj_n0 ≤ a0 ∧ 0 ≤ n.toInt ∧ 0 ≤ sp.toInt ∧ 0 ≤ dp.toInt ∧ sp.toInt.toNat + n.toInt.toNat ≤ f.length ∧ dp.toInt.toNat + n.toInt.toNat ≤ g.length ∧ ((f.drop sp.toInt.toNat).take n.toInt.toNat).all mj_isI = true
        then some (pc + 3, lv, r, h.set a1 (1000, mj_cpl f g sp.toInt.toNat dp.toInt.toNat n.toInt.toNat)) else none
      | _, _ => none
    | _, _ => none
  | .invokevirtual x => match mj_cal m x, st with
    | some (30, _, _), .ref a :: r => match h[a]? with
      | some (900, vs) => if mj_cat r ≤ 8 ∧ vs.length < 1000 then some (pc + 3, lv, .int (Int32.ofNat vs.length) :: r, h) else none
      | _ => none
    | some (31, _, _), .int i :: .ref a :: r => match mj_el h a 900 i with
      | some v => if mj_cat r ≤ 8 ∧ (∀ c ∈ h[a]?, c.2.length < 1000) then some (pc + 3, lv, v :: r, h) else none
      | none => none
    | _, _ => none
  | _ => none
/-- a return: its value -/
def mj_end (m : Nat) (i : Instr) (st : List Value) : Option (Option Value) := match i, st with
  | .return_, [] => match mj_ret m with
    | none => some none
    | some _ => none
  | .ireturn, [.int v] => match mj_ret m with
    | some ty => if narrow ty (.int v) = .int v then some (some (.int v)) else none
    | none => none
  | .lreturn, [.long v] => match mj_ret m with
    | some .long => some (some (.long v))
    | _ => none
  | .areturn, [.ref v] => match mj_ret m with
    | some (.object _) => some (some (.ref v))
    | _ => none
  | _, _ => none
/-- a call of a method of ours: which, its arguments, what stays on the stack -/
def mj_call (m : Nat) (i : Instr) (st : List Value) (h : mj_H) : Option (Nat × List Value × List Value) := match i with
  | .invokestatic x => match mj_cal m x with
    | some (1, c, n) => if n ≤ st.length ∧ mj_cat (st.drop n) ≤ 8 then some (c, (st.take n).reverse, st.drop n) else none
    | _ => none
  | .invokevirtual x => match mj_cal m x with
    | some (2, c, n) => match st.drop n with
      | .ref b :: r => match h[b]? with
        | some (k, _) => if k = mj_cls c ∧ mj_cat r ≤ 8 then some (c, .ref b :: (st.take n).reverse, r) else none
        | none => none
      | _ => none
    | _ => none
  | .invokespecial x => match mj_cal m x with
    | some (3, c, n) => match st.drop n with
      | .ref b :: r => if mj_cat r ≤ 8 then some (c, .ref b :: (st.take n).reverse, r) else none
      | _ => none
    | some (4, c, n) => match st.drop n with
      | .ref b :: r => if mj_cat r ≤ 8 then some (c, .ref b :: (st.take n).reverse, r) else none
      | _ => none
    | _ => none
  | _ => none
/-- a run: at most f steps, at most d calls deep -/
def mj_run : Nat → Nat → Nat → Nat → mj_L → List Value → mj_H → Option (Option Value × mj_H)
  | 0, _, _, _, _, _, _ => none
  | f + 1, d, m, pc, lv, st, h => match mj_ins m pc with
    | none => none
    | some i => match mj_end m i st with
      | some r => some (r, h)
      | none => match mj_call m i st h with
        | some (c, as, r) => match d with
          | 0 => none
          | d' + 1 => match mj_ent (mj_nl c) as with
            | none => none
            | some lv0 => match mj_run f d' c 0 lv0 [] h with
              | none => none
              | some (v, h1) => mj_run f (d' + 1) m (pc + 3) lv (v.toList ++ r) h1
        | none => match mj_st m pc i lv st h with
          | none => none
          | some (pc', lv', st', h') => mj_run f d m pc' lv' st' h'
