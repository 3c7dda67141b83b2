/-- a known place's type -/
def sx_adr (P : sx_P) (S : sx_S) (n k : Nat) : Option (List sx_S) := match S, P.2.2.1[k]? with
  | (pc, ls, st, E, nr, C), some t => if sx_ok (0, ls, st, E, nr, C) then some [(pc + n, ls, (2, ((t : Int), [(0, nr)])) :: st, E, nr + 1, C)] else none
  | _, none => none
/-- the key of a place of an array -/
def sx_aky (t : Int) (i : sx_X) : Option Nat := match i with
  | (n, []) => if t.toNat = 21 ∧ 0 ≤ n ∧ n < 16 then some (20000 + n.toNat) else none
  | _ => none
/-- an array is read -/
def sx_ald (P : sx_P) (S : sx_S) (lo hi : Nat) : Option (List sx_S) := match S with
  | (pc, ls, (0, i) :: (2, (t, [(_, a)])) :: st, E, nr, C) => match sx_ty P t with
    | some (kd, len, l) => if lo ≤ kd ∧ kd ≤ hi ∧ 900 ≤ lo ∧ (sx_ge E i 0 && sx_le E i ((len : Int) - 1)) = true then match sx_aky t i with
      | some key => match C.find? (fun z => z.1 == a && z.2.1 == key) with
        | some (_, _, av) => some [(pc + 1, ls, av :: st, E, nr, C)]
        | none => match sx_dl E i l with
          | some ds => match sx_hl ds with
            | some d => sx_pd S (pc + 1) st d (some (a, key))
            | none => none
          | none => none
      | none => match sx_dl E i l with
        | some ds => match sx_hl ds with
          | some d => sx_pd S (pc + 1) st d none
          | none => none
        | none => none
      else none
    | none => none
  | _ => none
/-- what is known of cells behind a write into an array -/
def sx_akl (E : sx_E) (t : Int) (a : Nat) (i : sx_X) (v : sx_A) (C : sx_C) : sx_C := if t.toNat = 21 then match sx_b E i with
    | some (lo, hi) => (match sx_aky t i with
      | some key => [(a, key, v)]
      | none => []) ++ C.filter fun z => !(decide (20000 + lo ≤ (z.2.1 : Int)) && decide ((z.2.1 : Int) ≤ 20000 + hi))
    | none => []
  else C
/-- an array is written -/
def sx_ast (P : sx_P) (S : sx_S) (vk kd0 : Nat) : Option (List sx_S) := match S with
  | (pc, ls, (k, x) :: (0, i) :: (2, (t, [(_, a)])) :: st, E, nr, C) => match sx_ty P t with
    | some (kd, len, l) => if k = vk ∧ kd = kd0 ∧ P.2.1 ≤ t.toNat ∧ ¬ t.toNat = sx_tg ∧ sx_nos E t.toNat i = true ∧ (sx_ge E i 0 && sx_le E i ((len : Int) - 1)) = true then match sx_dl E i l with
      | some ds => if ds.all (sx_cf E (k, x)) then some [(pc + 1, ls, st, E, nr, sx_akl E t a i (k, x) C)] else none
      | none => none
      else none
    | none => none
  | _ => none
/-- a switch: the value is k -/
def sx_eqk (E : sx_E) (x : sx_X) (k : Int) : Option sx_E := sx_wh E .eq (sx_sub x (sx_c k))
def sx_tsw (pc : Nat) (S : sx_S) (st : List sx_A) (E : sx_E) (x : sx_X) : Int → List Int → Option (List sx_S)
  | _, [] => some []
  | k, off :: l => match mj_j pc off, sx_tsw pc S st E x (k + 1) l with
    | some t, some L => some (sx_w S st t (sx_eqk E x k) ++ L)
    | _, _ => none
def sx_lsw (pc : Nat) (S : sx_S) (st : List sx_A) (E : sx_E) (x : sx_X) : List (Int × Int) → Option (List sx_S)
  | [] => some []
  | (k, off) :: l => match mj_j pc off, sx_lsw pc S st E x l with
    | some t, some L => some (sx_w S st t (sx_eqk E x k) ++ L)
    | _, _ => none
/-- two values, by which is the less: (a condition that is at least 0, what is left on the stack) -/
def sx_two (S : sx_S) (pc : Nat) (st : List sx_A) (c1 : sx_X) (a1 : sx_A) (c2 : sx_X) (a2 : sx_A) : List sx_S := match S with
  | (_, _, _, E, _, _) => sx_w S (a1 :: st) pc (sx_cs E c1) ++ sx_w S (a2 :: st) pc (sx_cs E c2)
def sx_cat (st : List sx_A) : Nat := (st.map fun a => if a.1 = 1 then 2 else 1).sum
/-- stretches that are copied: what may stand at each place may stand where it goes -/
def sx_cpy (E : sx_E) (l1 l2 : List (Nat × Nat × List sx_D)) (sp dp : sx_X) : Nat → Bool
  | 0 => true
  | n + 1 => (match sx_dl E (sx_add sp (sx_c n)) l1, sx_dl E (sx_add dp (sx_c n)) l2 with
    | some a, some b => a.all fun d => b.all fun q => match d, q with
      | (0, lo, hi), (0, lo2, hi2) => decide (lo2 ≤ lo) && decide (hi ≤ hi2)
      | _, _ => false
    | _, _ => false) && sx_cpy E l1 l2 sp dp n
/-- a value that a field of that type takes -/
def sx_pf (E : sx_E) (ty : FieldType) (vk : Nat) (vx : sx_X) : Bool := match ty with
  | .int => vk == 0
  | .boolean => vk == 0 && (sx_ge E vx 0 && sx_le E vx 1)
  | .long => vk == 1
  | .object _ => vk == 2
  | _ => false
def sx_i (P : sx_P) (m : Nat) (i : Instr) (S : sx_S) : Option (List sx_S) := match S with
  | (pc, ls, st, E, nr, C) => match i with
    | .iconst n => if sx_mn ≤ n ∧ n ≤ sx_mx then some [(pc + 1, ls, (0, sx_c n) :: st, E, nr, C)] else none
    | .bipush n => if -128 ≤ n ∧ n ≤ 127 then some [(pc + 2, ls, (0, sx_c n) :: st, E, nr, C)] else none
    | .sipush n => if -32768 ≤ n ∧ n ≤ 32767 then some [(pc + 3, ls, (0, sx_c n) :: st, E, nr, C)] else none
    | .lconst n => some [(pc + 1, ls, (1, sx_c (n : Nat)) :: st, E, nr, C)]
    | .ldc x => match mj_con m x with
      | some (.int v) => some [(pc + 2, ls, (0, sx_c v.toInt) :: st, E, nr, C)]
      | some (.ref k) => sx_adr P S 2 k
      | _ => none
    | .ldc_w x => match mj_con m x with
      | some (.int v) => some [(pc + 3, ls, (0, sx_c v.toInt) :: st, E, nr, C)]
      | _ => none
    | .ldc2_w x => match mj_con m x with
      | some (.long v) => some [(pc + 3, ls, (1, sx_c v.toInt) :: st, E, nr, C)]
      | _ => none
    | .getstatic x => match mj_stt m x with
      | some (.ref k) => sx_adr P S 3 k
      | _ => none
    | .iload k => sx_lo S 0 k 2
    | .iload_n k => sx_lo S 0 k 1
    | .lload k => sx_lo S 1 k 2
    | .lload_n k => sx_lo S 1 k 1
    | .aload k => sx_lo S 2 k 2
    | .aload_n k => sx_lo S 2 k 1
    | .istore k => sx_sto S 0 k 2
    | .istore_n k => sx_sto S 0 k 1
    | .astore k => sx_sto S 2 k 2
    | .astore_n k => sx_sto S 2 k 1
    | .lstore k => match st with
      | (1, x) :: s2 => if k + 1 < ls.length then some [(pc + 2, sx_s2 ls k (1, x), s2, E, nr, C)] else none
      | _ => none
    | .lstore_n k => match st with
      | (1, x) :: s2 => if (k : Nat) + 1 < ls.length then some [(pc + 1, sx_s2 ls k (1, x), s2, E, nr, C)] else none
      | _ => none
    | .iinc k n => match ls[k]? with
      | some (some (0, x)) => let y := sx_add x (sx_c n)
        if (sx_ge E y sx_mn && sx_le E y sx_mx) = true ∧ sx_mn ≤ n ∧ n ≤ sx_mx then some [(pc + 3, sx_s1 ls k (0, y), st, E, nr, C)] else if sx_ok (0, ls, st, E, nr, C) then some [(pc + 3, sx_s1 ls k (0, sx_v E.length), st, E ++ [(sx_mn, sx_mx, [])], nr, C)] else none
      | _ => none
    | .iadd => sx_ii S fun s2 x y => sx_px S (pc + 1) s2 (sx_add x y)
    | .isub => sx_ii S fun s2 x y => sx_px S (pc + 1) s2 (sx_sub x y)
    | .imul => sx_ii S fun s2 x y => match sx_mul E x y with
      | some (.inl z) => sx_px S (pc + 1) s2 z
      | some (.inr (a, b)) => if sx_mn ≤ a ∧ b ≤ sx_mx then sx_pi S 0 (pc + 1) s2 a b else sx_pi S 0 (pc + 1) s2 sx_mn sx_mx
      | none => none
    | .iand => sx_ii S fun s2 x y => match sx_b E x, sx_b E y with
      | some (a, b), some (c, d) => if 0 ≤ a ∧ 0 ≤ c then sx_pi S 0 (pc + 1) s2 0 (min b d) else if 0 ≤ a then sx_pi S 0 (pc + 1) s2 0 b else if 0 ≤ c then sx_pi S 0 (pc + 1) s2 0 d else sx_pi S 0 (pc + 1) s2 sx_mn sx_mx
      | _, _ => none
    | .ior => sx_ii S fun s2 x y => match sx_b E x, sx_b E y with
      | some (a, b), some (c, d) => if 0 ≤ a ∧ 0 ≤ c then sx_pi S 0 (pc + 1) s2 0 (sx_msk 30 (max b d)) else sx_pi S 0 (pc + 1) s2 sx_mn sx_mx
      | _, _ => none
    | .ixor => sx_ii S fun s2 x y => match sx_b E x, sx_b E y with
      | some (a, b), some (c, d) => if 0 ≤ a ∧ 0 ≤ c then sx_pi S 0 (pc + 1) s2 0 (sx_msk 30 (max b d)) else sx_pi S 0 (pc + 1) s2 sx_mn sx_mx
      | _, _ => none
    | .ishl => sx_ii S fun s2 x y => match sx_b E x, sx_b E y with
      | some (a, b), some (c, d) => if 0 ≤ a ∧ 0 ≤ c ∧ d ≤ 30 ∧ b * 2 ^ d.toNat ≤ sx_mx then sx_pi S 0 (pc + 1) s2 (a * 2 ^ c.toNat) (b * 2 ^ d.toNat) else sx_pi S 0 (pc + 1) s2 sx_mn sx_mx
      | _, _ => none
    | .ishr => sx_ii S fun s2 x y => match sx_b E x, sx_b E y with
      | some (a, b), some _ => sx_pi S 0 (pc + 1) s2 (min a 0) (max b 0)
      | _, _ => none
    | .iushr => sx_ii S fun s2 _ _ => sx_pi S 0 (pc + 1) s2 sx_mn sx_mx
    | .irem => sx_ii S fun s2 x y => match sx_b E x, sx_b E y with
      | some (a, b), some (c, d) => if 1 ≤ c then (if 0 ≤ a then sx_pic S 0 (pc + 1) s2 0 (min b (d - 1)) y else sx_pi S 0 (pc + 1) s2 (1 - d) (d - 1)) else if d ≤ -1 then sx_pi S 0 (pc + 1) s2 sx_mn sx_mx else none
      | _, _ => none
    | .idiv => sx_ii S fun s2 x y => match sx_b E x, sx_b E y with
      | some (a, b), some (c, d) => if 1 ≤ c then sx_pi S 0 (pc + 1) s2 (min a 0) (max b 0) else if d ≤ -1 then sx_pi S 0 (pc + 1) s2 sx_mn sx_mx else none
      | _, _ => none
    | .ineg => match st with
      | (0, x) :: s2 => sx_px S (pc + 1) s2 (sx_mulc (-1) x)
      | _ => none
    | .ladd => sx_LL S fun s2 x y => sx_pX S (pc + 1) s2 (sx_add x y)
    | .lsub => sx_LL S fun s2 x y => sx_pX S (pc + 1) s2 (sx_sub x y)
    | .lmul => sx_LL S fun s2 x y => match sx_mul E x y with
      | some (.inl z) => sx_pX S (pc + 1) s2 z
      | some (.inr (a, b)) => if sx_Mn ≤ a ∧ b ≤ sx_Mx then sx_pi S 1 (pc + 1) s2 a b else sx_pi S 1 (pc + 1) s2 sx_Mn sx_Mx
      | none => none
    | .land => sx_LL S fun s2 _ _ => sx_pi S 1 (pc + 1) s2 sx_Mn sx_Mx
    | .lor => sx_LL S fun s2 _ _ => sx_pi S 1 (pc + 1) s2 sx_Mn sx_Mx
    | .lxor => sx_LL S fun s2 _ _ => sx_pi S 1 (pc + 1) s2 sx_Mn sx_Mx
    | .ldiv => sx_LL S fun s2 x y => match sx_b E x, sx_b E y with
      | some (a, b), some (c, d) => if 1 ≤ c then sx_pi S 1 (pc + 1) s2 (min a 0) (max b 0) else if d ≤ -1 then sx_pi S 1 (pc + 1) s2 sx_Mn sx_Mx else none
      | _, _ => none
    | .lrem => sx_LL S fun s2 x y => match sx_b E x, sx_b E y with
      | some (a, b), some (c, d) => if 1 ≤ c then (if 0 ≤ a then sx_pic S 1 (pc + 1) s2 0 (min b (d - 1)) y else sx_pi S 1 (pc + 1) s2 (1 - d) (d - 1)) else none
      | _, _ => none
    | .lshl => match st with
      | (0, _) :: (1, _) :: s2 => sx_pi S 1 (pc + 1) s2 sx_Mn sx_Mx
      | _ => none
    | .lshr => match st with
      | (0, _) :: (1, _) :: s2 => sx_pi S 1 (pc + 1) s2 sx_Mn sx_Mx
      | _ => none
    | .lneg => match st with
      | (1, x) :: s2 => sx_pX S (pc + 1) s2 (sx_mulc (-1) x)
      | _ => none
    | .lcmp => sx_LL S fun s2 x y => some [(pc + 1, ls, (3, sx_sub x y) :: s2, E, nr, C)]
    | .i2l => match st with
      | (0, x) :: s2 => some [(pc + 1, ls, (1, x) :: s2, E, nr, C)]
      | _ => none
    | .l2i => match st with
      | (1, x) :: s2 => sx_px S (pc + 1) s2 x
      | _ => none
    | .dup => match st with
      | (k, x) :: s2 => if k ≠ 1 then some [(pc + 1, ls, (k, x) :: (k, x) :: s2, E, nr, C)] else none
      | _ => none
    | .pop => match st with
      | (k, _) :: s2 => if k ≠ 1 then some [(pc + 1, ls, s2, E, nr, C)] else none
      | _ => none
    | .pop2 => match st with
      | (1, _) :: s2 => some [(pc + 1, ls, s2, E, nr, C)]
      | _ => none
    | .dup2 => match st with
      | (k, x) :: (q, y) :: s2 => if k ≠ 1 ∧ q ≠ 1 then some [(pc + 1, ls, (k, x) :: (q, y) :: (k, x) :: (q, y) :: s2, E, nr, C)] else none
      | _ => none
    | .ifCond c off => match mj_j pc off, st with
      | some t, (0, x) :: s2 => some (sx_if S s2 c t (pc + 3) x)
      | some t, (3, x) :: s2 => some (sx_if S s2 c t (pc + 3) x)
      | _, _ => none
    | .if_icmp c off => match mj_j pc off, st with
      | some t, (0, y) :: (0, x) :: s2 => some (sx_if S s2 c t (pc + 3) (sx_sub x y))
      | _, _ => none
    | .goto off => (mj_j pc off).map fun t => [(t, ls, st, E, nr, C)]
    | .tableswitch dflt lo hi offs => match st, mj_j pc dflt with
      | (0, x) :: s2, some t => if hi - lo + 1 = offs.size then match sx_tsw pc S s2 E x lo offs.toList with
        | some L => some (sx_w S s2 t (sx_cs E (sx_sub (sx_c (lo - 1)) x)) ++ (sx_w S s2 t (sx_cs E (sx_sub x (sx_c (hi + 1)))) ++ L))
        | none => none
        else none
      | _, _ => none
    | .lookupswitch dflt ps => match st, mj_j pc dflt with
      | (0, x) :: s2, some t => if (ps.toList.zip (ps.toList.drop 1)).all (fun (a, next) => a.1 < next.1) then match sx_lsw pc S s2 E x ps.toList with
        | some L => some ((t, ls, s2, E, nr, C) :: L)
        | none => none
        else none
      | _, _ => none
    | .iaload => sx_ald P S 1000 1000
    | .baload => sx_ald P S 1001 1001
    | .laload => sx_ald P S 1005 1005
    | .aaload => sx_ald P S 1100 1999
    | .iastore => sx_ast P S 0 1000
    | .lastore => sx_ast P S 1 1005
    | .bastore => match st with
      | (0, x) :: _ => if sx_ge E x 0 && sx_le E x 1 then sx_ast P S 0 1001 else none
      | _ => none
    | .arraylength => match st with
      | (2, (t, [(_, _)])) :: s2 => match sx_ty P t with
        | some (kd, len, _) => if 1000 ≤ kd ∧ kd < 2000 ∧ len < 2147483648 then some [(pc + 1, ls, (0, sx_c len) :: s2, E, nr, C)] else none
        | none => none
      | _ => none
    | .getfield x => match st with
      | (2, (t, [(q, a)])) :: s2 => match mj_fld m x, sx_ty P t with
        | some (c, k, _, _), some (kd, len, l) => if kd = c ∧ c < 900 ∧ k < 100 ∧ k < len then match C.find? (fun z => z.1 == a && z.2.1 == 100 * c + k) with
          | some (_, _, av) => some [(pc + 3, ls, av :: s2, E, nr, C)]
          | none => match sx_fd l k with
            | some d => sx_pd S (pc + 3) s2 d (some (a, 100 * c + k))
            | none => none
          else none
        | _, _ => none
      | _ => none
    | .putfield x => match st with
      | (vk, vx) :: (2, (t, [(q, a)])) :: s2 => match mj_fld m x, sx_ty P t with
        | some (c, k, ty, w), some (kd, len, l) => if kd = c ∧ c < 900 ∧ k < 100 ∧ w = true ∧ P.2.1 ≤ t.toNat ∧ ¬ t.toNat = sx_tg ∧ sx_nst t.toNat = true ∧ k < len ∧ sx_pf E ty vk vx = true then match sx_fd l k with
          | some d => if sx_cf E (vk, vx) d then some [(pc + 3, ls, s2, E, nr, (a, 100 * c + k, (vk, vx)) :: C.filter (fun z => !(z.2.1 == 100 * c + k)))] else none
          | none => none
          else none
        | _, _ => none
      | _ => none
    | .invokestatic x => match mj_cal m x, st with
      | some (10, _, _), (0, y) :: (0, x) :: s2 => if sx_cat s2 ≤ 8 then some (sx_two S (pc + 3) s2 (sx_sub (sx_sub y x) (sx_c 1)) (0, y) (sx_sub x y) (0, x)) else none
      | some (11, _, _), (0, y) :: (0, x) :: s2 => if sx_cat s2 ≤ 8 then some (sx_two S (pc + 3) s2 (sx_sub (sx_sub x y) (sx_c 1)) (0, y) (sx_sub y x) (0, x)) else none
      | some (12, _, _), (0, x) :: s2 => if sx_cat s2 ≤ 8 then (if sx_ge E x (1 - sx_mx) = true then some (sx_two S (pc + 3) s2 x (0, x) (sx_sub (sx_mulc (-1) x) (sx_c 1)) (0, sx_mulc (-1) x)) else sx_pi S 0 (pc + 3) s2 sx_mn sx_mx) else none
      | some (13, _, _), (1, y) :: (1, x) :: s2 => if sx_cat s2 ≤ 8 then some (sx_two S (pc + 3) s2 (sx_sub (sx_sub x y) (sx_c 1)) (1, x) (sx_sub y x) (1, y)) else none
      | some (14, _, _), (1, y) :: (1, x) :: s2 => if sx_cat s2 ≤ 8 then some (sx_two S (pc + 3) s2 (sx_sub (sx_sub x y) (sx_c 1)) (1, y) (sx_sub y x) (1, x)) else none
      | some (20, _, _), (0, (n, [])) :: (0, dp) :: (2, (t1, [(_, _)])) :: (0, sp) :: (2, (t0, [(_, _)])) :: s2 => match sx_ty P t0, sx_ty P t1 with
        | some (k0, len0, l0), some (k1, len1, l1) => if sx_cat s2 ≤ 8 ∧ k0 = 1000 ∧ k1 = 1000 ∧ P.2.1 ≤ t0.toNat ∧ P.2.1 ≤ t1.toNat ∧ ¬ t1.toNat = sx_tg ∧ sx_nst t1.toNat = true ∧ 0 ≤ n ∧ (sx_ge E sp 0 && sx_le E (sx_add sp (sx_c n)) len0 && sx_ge E dp 0 && sx_le E (sx_add dp (sx_c n)) len1) = true ∧ ((decide (t0.toNat = t1.toNat ∧ sp = dp) && l0.all fun q => q.2.2.all fun d => d.1 == 0) || sx_cpy E l0 l1 sp dp n.toNat) = true then some [(pc + 3, ls, s2, E, nr, C)] else none
        | _, _ => none
      | _, _ => none
    | .invokevirtual x => match mj_cal m x, st with
      | some (30, _, _), (2, (t, [(_, _)])) :: s2 => match sx_ty P t with
        | some (kd, len, _) => if kd = 900 ∧ len < 1000 ∧ sx_cat s2 ≤ 8 then some [(pc + 3, ls, (0, sx_c len) :: s2, E, nr, C)] else none
        | none => none
      | some (31, _, _), (0, i) :: (2, (t, [(_, _)])) :: s2 => match sx_ty P t with
        | some (kd, len, l) => if kd = 900 ∧ len < 1000 ∧ sx_cat s2 ≤ 8 ∧ (sx_ge E i 0 && sx_le E i ((len : Int) - 1)) = true then match sx_dl E i l with
          | some ds => match sx_hl ds with
            | some d => sx_pd S (pc + 3) s2 d none
            | none => none
          | none => none
          else none
        | none => none
      | _, _ => none
    | _ => none
/-- the places of an array that an index may be may be written -/
def sx_kys (E : sx_E) (mods : List Nat) (t : Nat) (i : sx_X) : Bool := if t = 21 then (match sx_b E i with
    | some (lo, hi) => (decide (hi < 16) || decide (10021 ∈ mods)) && (List.range 16).all fun j => decide ((j : Int) < lo) || (decide (hi < (j : Int)) || decide (20000 + j ∈ mods))
    | none => false)
  else decide (10000 + t ∈ mods)
/-- what an instruction writes may be written: fields and places by their keys, arrays by 10000 and their type -/
def sx_pfm (m : Nat) (mods : List Nat) (i : Instr) (S : sx_S) : Bool := match i, S with
  | .putfield x, _ => match mj_fld m x with
    | some (c, k, _, _) => decide (100 * c + k ∈ mods)
    | none => true
  | .iastore, (_, _, _ :: (_, i) :: (2, (t, _)) :: _, E, _) => sx_kys E mods t.toNat i
  | .lastore, (_, _, _ :: (_, i) :: (2, (t, _)) :: _, E, _) => sx_kys E mods t.toNat i
  | .bastore, (_, _, _ :: (_, i) :: (2, (t, _)) :: _, E, _) => sx_kys E mods t.toNat i
  | .invokestatic x, (_, _, _ :: (_, i) :: (2, (t, _)) :: _, E, _) => match mj_cal m x with
    | some (20, _, _) => sx_kys E mods t.toNat i
    | _ => true
  | _, _ => true
