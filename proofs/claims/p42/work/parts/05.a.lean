/-! the tables' instructions are the code's; bytes read out of one number a method; laid by program (gendec9.py) -/
def mj_d1 (b : ByteArray) (e : Nat × Instr) : Bool := match decode b e.1 with
  | .ok (i, l) => decide (i = e.2) && (mj_sw i || l == mj_len i)
  | .error _ => false
def mj_dk (p : List (Nat × Instr) × MethodName × ByteArray × Nat × Option FieldType × Nat × Nat) : Bool := p.1.all (mj_d1 p.2.2.1)
abbrev fd_u : Decoder Nat := Reader.u1
theorem fd_b {α β : Type} {x : Decoder α} {K : α → Decoder β} {c : ByteArray} {p s : Nat} {a : α} (h : x c p = .ok (a, s)) : (x >>= K) c p = K a c s := by
  have e : (x >>= K) c p = Except.bind (x c p) (fun q => K q.1 c q.2) := rfl
  rw [e, h]
  rfl
theorem fd_mp {α β : Type} {x : Decoder α} {f : α → β} {c : ByteArray} {p s : Nat} {a : α} (h : x c p = .ok (a, s)) : (f <$> x) c p = .ok (f a, s) := by
  have e : (f <$> x) c p = Except.bind (x c p) (fun q => Except.ok (f q.1, q.2)) := rfl
  rw [e, h]
  rfl
def fd_l (c : ByteArray) (p : Nat) : Nat := (c.data.toList.getD p 0).toNat
theorem fd_1 {c : ByteArray} {p : Nat} (h : p < c.size) : fd_u c p = .ok (fd_l c p, p + 1) := by
  have e : c[p] = c.data.toList.getD p 0 := by
    rw [List.getD_eq_getElem?_getD, List.getElem?_eq_getElem (show p < c.data.toList.length from h)]
    rfl
  show (if h : p < c.size then (do set (p + 1); pure c[p].toNat) else throw (HasTruncated.truncated p) : Decoder Nat) c p = _
  rw [dif_pos h, e]
  rfl
def fd_N : List UInt8 → Nat
  | [] => 0
  | b :: l => b.toNat + 256 * fd_N l
theorem fd_g : ∀ (l : List UInt8) (p : Nat), fd_N l >>> (8 * p) % 256 = (l.getD p 0).toNat
  | [], p => by
    exact congrArg (fun z => z % 256) (Nat.zero_shiftRight (8 * p))
  | b :: l, 0 => by
    have := b.toNat_lt
    show (b.toNat + 256 * fd_N l) >>> 0 % 256 = b.toNat
    rw [Nat.shiftRight_zero]
    omega
  | b :: l, p + 1 => by
    have := b.toNat_lt
    show (b.toNat + 256 * fd_N l) >>> (8 * (p + 1)) % 256 = (l.getD p 0).toNat
    rw [← fd_g l p, show 8 * (p + 1) = 8 + 8 * p by omega, Nat.shiftRight_add, show (b.toNat + 256 * fd_N l) >>> 8 = fd_N l by rw [Nat.shiftRight_eq_div_pow]; omega]
def fd_B (N p : Nat) : Nat := N >>> (8 * p) % 256
theorem fd_h {c : ByteArray} {N L p : Nat} (hN : fd_N c.data.toList = N) (hL : c.size = L) (hp : p < L) : fd_u c p = .ok (fd_B N p, p + 1) := by
  rw [fd_1 (c := c) (p := p) (by omega)]
  unfold fd_l fd_B
  rw [← fd_g, hN]
def fd_E (pc : Nat) : { K : Nat → Decoder Instr // Decoder.instr pc = (fd_u >>= K) } := ⟨_, rfl⟩
def fd_K (pc : Nat) : Nat → Decoder Instr := (fd_E pc).1
theorem fd_i {c : ByteArray} {pc n s : Nat} (h : fd_u c pc = .ok (n, s)) : Decoder.instr pc c pc = fd_K pc n c s := by
  rw [(fd_E pc).2]
  exact fd_b h
theorem fd_d {c : ByteArray} {pc s : Nat} {i : Instr} (h : Decoder.instr pc c pc = .ok (i, s)) : decode c pc = .ok (i, s - pc) := by
  have e : decode c pc = Except.bind (Decoder.instr pc c pc) (fun q => Except.ok (q.1, q.2 - pc)) := rfl
  rw [e, h]
  rfl
theorem fd_t {c : ByteArray} {pc l : Nat} {i : Instr} (h : Decoder.instr pc c pc = .ok (i, pc + l)) (hl : mj_len i = l) : mj_d1 c (pc, i) = true := by
  show (match decode c pc with
    | .ok (j, l) => decide (j = i) && (mj_sw j || l == mj_len j)
    | .error _ => false) = true
  rw [fd_d h]
  show (decide (i = i) && (mj_sw i || pc + l - pc == mj_len i)) = true
  rw [decide_eq_true rfl, hl, Nat.add_sub_cancel_left, beq_self_eq_true, Bool.or_true]
  rfl
section FDK
variable {pc s t r : Nat} {c : ByteArray}
theorem fd_u2 {a b : Nat} (g1 : fd_u c s = .ok (a, t)) (g2 : fd_u c t = .ok (b, r)) : (Reader.u2 : Decoder Nat) c s = .ok (a * 256 + b, r) := by
  show (fd_u >>= fun hi => fd_u >>= fun lo => (pure (hi * 256 + lo) : Decoder Nat)) c s = _
  exact (fd_b g1).trans (fd_b g2)
theorem fd_s2 {a b : Nat} (g1 : fd_u c s = .ok (a, t)) (g2 : fd_u c t = .ok (b, r)) : (Reader.s2 : Decoder Int) c s = .ok (Reader.signed 16 (a * 256 + b), r) := by
  show (Reader.signed 16 <$> (Reader.u2 : Decoder Nat)) c s = _
  exact fd_mp (fd_u2 g1 g2)
theorem fd_s1 {a : Nat} (g1 : fd_u c s = .ok (a, t)) : (Reader.s1 : Decoder Int) c s = .ok (Reader.signed 8 a, t) := by
  show (Reader.signed 8 <$> fd_u) c s = _
  exact fd_mp g1
theorem fd_k1 : fd_K pc 1 c s = .ok (Instr.aconst_null, s) := rfl
theorem fd_k46 : fd_K pc 46 c s = .ok (Instr.iaload, s) := rfl
theorem fd_k47 : fd_K pc 47 c s = .ok (Instr.laload, s) := rfl
theorem fd_k50 : fd_K pc 50 c s = .ok (Instr.aaload, s) := rfl
theorem fd_k51 : fd_K pc 51 c s = .ok (Instr.baload, s) := rfl
theorem fd_k52 : fd_K pc 52 c s = .ok (Instr.caload, s) := rfl
theorem fd_k53 : fd_K pc 53 c s = .ok (Instr.saload, s) := rfl
theorem fd_k79 : fd_K pc 79 c s = .ok (Instr.iastore, s) := rfl
theorem fd_k80 : fd_K pc 80 c s = .ok (Instr.lastore, s) := rfl
theorem fd_k83 : fd_K pc 83 c s = .ok (Instr.aastore, s) := rfl
theorem fd_k84 : fd_K pc 84 c s = .ok (Instr.bastore, s) := rfl
theorem fd_k85 : fd_K pc 85 c s = .ok (Instr.castore, s) := rfl
theorem fd_k87 : fd_K pc 87 c s = .ok (Instr.pop, s) := rfl
theorem fd_k88 : fd_K pc 88 c s = .ok (Instr.pop2, s) := rfl
theorem fd_k89 : fd_K pc 89 c s = .ok (Instr.dup, s) := rfl
theorem fd_k90 : fd_K pc 90 c s = .ok (Instr.dup_x1, s) := rfl
theorem fd_k91 : fd_K pc 91 c s = .ok (Instr.dup_x2, s) := rfl
theorem fd_k92 : fd_K pc 92 c s = .ok (Instr.dup2, s) := rfl
theorem fd_k95 : fd_K pc 95 c s = .ok (Instr.swap, s) := rfl
theorem fd_k96 : fd_K pc 96 c s = .ok (Instr.iadd, s) := rfl
theorem fd_k97 : fd_K pc 97 c s = .ok (Instr.ladd, s) := rfl
theorem fd_k100 : fd_K pc 100 c s = .ok (Instr.isub, s) := rfl
theorem fd_k101 : fd_K pc 101 c s = .ok (Instr.lsub, s) := rfl
theorem fd_k104 : fd_K pc 104 c s = .ok (Instr.imul, s) := rfl
theorem fd_k105 : fd_K pc 105 c s = .ok (Instr.lmul, s) := rfl
theorem fd_k108 : fd_K pc 108 c s = .ok (Instr.idiv, s) := rfl
theorem fd_k109 : fd_K pc 109 c s = .ok (Instr.ldiv, s) := rfl
theorem fd_k112 : fd_K pc 112 c s = .ok (Instr.irem, s) := rfl
theorem fd_k113 : fd_K pc 113 c s = .ok (Instr.lrem, s) := rfl
theorem fd_k116 : fd_K pc 116 c s = .ok (Instr.ineg, s) := rfl
theorem fd_k117 : fd_K pc 117 c s = .ok (Instr.lneg, s) := rfl
theorem fd_k120 : fd_K pc 120 c s = .ok (Instr.ishl, s) := rfl
theorem fd_k121 : fd_K pc 121 c s = .ok (Instr.lshl, s) := rfl
theorem fd_k122 : fd_K pc 122 c s = .ok (Instr.ishr, s) := rfl
theorem fd_k123 : fd_K pc 123 c s = .ok (Instr.lshr, s) := rfl
theorem fd_k124 : fd_K pc 124 c s = .ok (Instr.iushr, s) := rfl
theorem fd_k125 : fd_K pc 125 c s = .ok (Instr.lushr, s) := rfl
theorem fd_k126 : fd_K pc 126 c s = .ok (Instr.iand, s) := rfl
theorem fd_k127 : fd_K pc 127 c s = .ok (Instr.land, s) := rfl
theorem fd_k128 : fd_K pc 128 c s = .ok (Instr.ior, s) := rfl
theorem fd_k129 : fd_K pc 129 c s = .ok (Instr.lor, s) := rfl
theorem fd_k130 : fd_K pc 130 c s = .ok (Instr.ixor, s) := rfl
theorem fd_k131 : fd_K pc 131 c s = .ok (Instr.lxor, s) := rfl
theorem fd_k133 : fd_K pc 133 c s = .ok (Instr.i2l, s) := rfl
theorem fd_k136 : fd_K pc 136 c s = .ok (Instr.l2i, s) := rfl
theorem fd_k145 : fd_K pc 145 c s = .ok (Instr.i2b, s) := rfl
theorem fd_k146 : fd_K pc 146 c s = .ok (Instr.i2c, s) := rfl
theorem fd_k147 : fd_K pc 147 c s = .ok (Instr.i2s, s) := rfl
theorem fd_k148 : fd_K pc 148 c s = .ok (Instr.lcmp, s) := rfl
theorem fd_k172 : fd_K pc 172 c s = .ok (Instr.ireturn, s) := rfl
theorem fd_k173 : fd_K pc 173 c s = .ok (Instr.lreturn, s) := rfl
theorem fd_k176 : fd_K pc 176 c s = .ok (Instr.areturn, s) := rfl
theorem fd_k177 : fd_K pc 177 c s = .ok (Instr.return_, s) := rfl
theorem fd_k190 : fd_K pc 190 c s = .ok (Instr.arraylength, s) := rfl
theorem fd_k191 : fd_K pc 191 c s = .ok (Instr.athrow, s) := rfl
theorem fd_k2 : fd_K pc 2 c s = .ok (Instr.iconst (-1), s) := rfl
theorem fd_k3 : fd_K pc 3 c s = .ok (Instr.iconst (0), s) := rfl
theorem fd_k4 : fd_K pc 4 c s = .ok (Instr.iconst (1), s) := rfl
theorem fd_k5 : fd_K pc 5 c s = .ok (Instr.iconst (2), s) := rfl
theorem fd_k6 : fd_K pc 6 c s = .ok (Instr.iconst (3), s) := rfl
theorem fd_k7 : fd_K pc 7 c s = .ok (Instr.iconst (4), s) := rfl
theorem fd_k8 : fd_K pc 8 c s = .ok (Instr.iconst (5), s) := rfl
theorem fd_k9 : fd_K pc 9 c s = .ok (Instr.lconst 0, s) := rfl
theorem fd_k10 : fd_K pc 10 c s = .ok (Instr.lconst 1, s) := rfl
theorem fd_k26 : fd_K pc 26 c s = .ok (Instr.iload_n 0, s) := rfl
theorem fd_k27 : fd_K pc 27 c s = .ok (Instr.iload_n 1, s) := rfl
theorem fd_k28 : fd_K pc 28 c s = .ok (Instr.iload_n 2, s) := rfl
theorem fd_k29 : fd_K pc 29 c s = .ok (Instr.iload_n 3, s) := rfl
theorem fd_k30 : fd_K pc 30 c s = .ok (Instr.lload_n 0, s) := rfl
theorem fd_k31 : fd_K pc 31 c s = .ok (Instr.lload_n 1, s) := rfl
theorem fd_k32 : fd_K pc 32 c s = .ok (Instr.lload_n 2, s) := rfl
theorem fd_k33 : fd_K pc 33 c s = .ok (Instr.lload_n 3, s) := rfl
theorem fd_k42 : fd_K pc 42 c s = .ok (Instr.aload_n 0, s) := rfl
theorem fd_k43 : fd_K pc 43 c s = .ok (Instr.aload_n 1, s) := rfl
theorem fd_k44 : fd_K pc 44 c s = .ok (Instr.aload_n 2, s) := rfl
theorem fd_k45 : fd_K pc 45 c s = .ok (Instr.aload_n 3, s) := rfl
theorem fd_k59 : fd_K pc 59 c s = .ok (Instr.istore_n 0, s) := rfl
theorem fd_k60 : fd_K pc 60 c s = .ok (Instr.istore_n 1, s) := rfl
theorem fd_k61 : fd_K pc 61 c s = .ok (Instr.istore_n 2, s) := rfl
theorem fd_k62 : fd_K pc 62 c s = .ok (Instr.istore_n 3, s) := rfl
theorem fd_k63 : fd_K pc 63 c s = .ok (Instr.lstore_n 0, s) := rfl
theorem fd_k64 : fd_K pc 64 c s = .ok (Instr.lstore_n 1, s) := rfl
theorem fd_k65 : fd_K pc 65 c s = .ok (Instr.lstore_n 2, s) := rfl
theorem fd_k66 : fd_K pc 66 c s = .ok (Instr.lstore_n 3, s) := rfl
theorem fd_k75 : fd_K pc 75 c s = .ok (Instr.astore_n 0, s) := rfl
theorem fd_k76 : fd_K pc 76 c s = .ok (Instr.astore_n 1, s) := rfl
theorem fd_k77 : fd_K pc 77 c s = .ok (Instr.astore_n 2, s) := rfl
theorem fd_k78 : fd_K pc 78 c s = .ok (Instr.astore_n 3, s) := rfl
theorem fd_k21 {n : Nat} (g : fd_u c s = .ok (n, t)) : fd_K pc 21 c s = .ok (Instr.iload n, t) := by
  show (fd_u >>= fun a => (pure (Instr.iload a) : Decoder Instr)) c s = _
  exact fd_b g
theorem fd_k22 {n : Nat} (g : fd_u c s = .ok (n, t)) : fd_K pc 22 c s = .ok (Instr.lload n, t) := by
  show (fd_u >>= fun a => (pure (Instr.lload a) : Decoder Instr)) c s = _
  exact fd_b g
theorem fd_k25 {n : Nat} (g : fd_u c s = .ok (n, t)) : fd_K pc 25 c s = .ok (Instr.aload n, t) := by
  show (fd_u >>= fun a => (pure (Instr.aload a) : Decoder Instr)) c s = _
  exact fd_b g
theorem fd_k54 {n : Nat} (g : fd_u c s = .ok (n, t)) : fd_K pc 54 c s = .ok (Instr.istore n, t) := by
  show (fd_u >>= fun a => (pure (Instr.istore a) : Decoder Instr)) c s = _
  exact fd_b g
theorem fd_k55 {n : Nat} (g : fd_u c s = .ok (n, t)) : fd_K pc 55 c s = .ok (Instr.lstore n, t) := by
  show (fd_u >>= fun a => (pure (Instr.lstore a) : Decoder Instr)) c s = _
  exact fd_b g
theorem fd_k58 {n : Nat} (g : fd_u c s = .ok (n, t)) : fd_K pc 58 c s = .ok (Instr.astore n, t) := by
  show (fd_u >>= fun a => (pure (Instr.astore a) : Decoder Instr)) c s = _
  exact fd_b g
theorem fd_k18 {n : Nat} (g : fd_u c s = .ok (n, t)) : fd_K pc 18 c s = .ok (Instr.ldc n, t) := by
  show (fd_u >>= fun a => (pure (Instr.ldc a) : Decoder Instr)) c s = _
  exact fd_b g
theorem fd_k19 {n : Nat} (g : (Reader.u2 : Decoder Nat) c s = .ok (n, t)) : fd_K pc 19 c s = .ok (Instr.ldc_w n, t) := by
  show ((Reader.u2 : Decoder Nat) >>= fun a => (pure (Instr.ldc_w a) : Decoder Instr)) c s = _
  exact fd_b g
theorem fd_k20 {n : Nat} (g : (Reader.u2 : Decoder Nat) c s = .ok (n, t)) : fd_K pc 20 c s = .ok (Instr.ldc2_w n, t) := by
  show ((Reader.u2 : Decoder Nat) >>= fun a => (pure (Instr.ldc2_w a) : Decoder Instr)) c s = _
  exact fd_b g
theorem fd_k178 {n : Nat} (g : (Reader.u2 : Decoder Nat) c s = .ok (n, t)) : fd_K pc 178 c s = .ok (Instr.getstatic n, t) := by
  show ((Reader.u2 : Decoder Nat) >>= fun a => (pure (Instr.getstatic a) : Decoder Instr)) c s = _
  exact fd_b g
theorem fd_k179 {n : Nat} (g : (Reader.u2 : Decoder Nat) c s = .ok (n, t)) : fd_K pc 179 c s = .ok (Instr.putstatic n, t) := by
  show ((Reader.u2 : Decoder Nat) >>= fun a => (pure (Instr.putstatic a) : Decoder Instr)) c s = _
  exact fd_b g
theorem fd_k180 {n : Nat} (g : (Reader.u2 : Decoder Nat) c s = .ok (n, t)) : fd_K pc 180 c s = .ok (Instr.getfield n, t) := by
  show ((Reader.u2 : Decoder Nat) >>= fun a => (pure (Instr.getfield a) : Decoder Instr)) c s = _
  exact fd_b g
theorem fd_k181 {n : Nat} (g : (Reader.u2 : Decoder Nat) c s = .ok (n, t)) : fd_K pc 181 c s = .ok (Instr.putfield n, t) := by
  show ((Reader.u2 : Decoder Nat) >>= fun a => (pure (Instr.putfield a) : Decoder Instr)) c s = _
  exact fd_b g
theorem fd_k182 {n : Nat} (g : (Reader.u2 : Decoder Nat) c s = .ok (n, t)) : fd_K pc 182 c s = .ok (Instr.invokevirtual n, t) := by
  show ((Reader.u2 : Decoder Nat) >>= fun a => (pure (Instr.invokevirtual a) : Decoder Instr)) c s = _
  exact fd_b g
theorem fd_k183 {n : Nat} (g : (Reader.u2 : Decoder Nat) c s = .ok (n, t)) : fd_K pc 183 c s = .ok (Instr.invokespecial n, t) := by
  show ((Reader.u2 : Decoder Nat) >>= fun a => (pure (Instr.invokespecial a) : Decoder Instr)) c s = _
  exact fd_b g
theorem fd_k184 {n : Nat} (g : (Reader.u2 : Decoder Nat) c s = .ok (n, t)) : fd_K pc 184 c s = .ok (Instr.invokestatic n, t) := by
  show ((Reader.u2 : Decoder Nat) >>= fun a => (pure (Instr.invokestatic a) : Decoder Instr)) c s = _
  exact fd_b g
theorem fd_k187 {n : Nat} (g : (Reader.u2 : Decoder Nat) c s = .ok (n, t)) : fd_K pc 187 c s = .ok (Instr.new n, t) := by
  show ((Reader.u2 : Decoder Nat) >>= fun a => (pure (Instr.new a) : Decoder Instr)) c s = _
  exact fd_b g
theorem fd_k189 {n : Nat} (g : (Reader.u2 : Decoder Nat) c s = .ok (n, t)) : fd_K pc 189 c s = .ok (Instr.anewarray n, t) := by
  show ((Reader.u2 : Decoder Nat) >>= fun a => (pure (Instr.anewarray a) : Decoder Instr)) c s = _
  exact fd_b g
theorem fd_k192 {n : Nat} (g : (Reader.u2 : Decoder Nat) c s = .ok (n, t)) : fd_K pc 192 c s = .ok (Instr.checkcast n, t) := by
  show ((Reader.u2 : Decoder Nat) >>= fun a => (pure (Instr.checkcast a) : Decoder Instr)) c s = _
  exact fd_b g
theorem fd_k193 {n : Nat} (g : (Reader.u2 : Decoder Nat) c s = .ok (n, t)) : fd_K pc 193 c s = .ok (Instr.instanceof n, t) := by
  show ((Reader.u2 : Decoder Nat) >>= fun a => (pure (Instr.instanceof a) : Decoder Instr)) c s = _
  exact fd_b g
theorem fd_k17 {n : Int} (g : (Reader.s2 : Decoder Int) c s = .ok (n, t)) : fd_K pc 17 c s = .ok (Instr.sipush n, t) := by
  show ((Reader.s2 : Decoder Int) >>= fun a => (pure (Instr.sipush a) : Decoder Instr)) c s = _
  exact fd_b g
theorem fd_k167 {n : Int} (g : (Reader.s2 : Decoder Int) c s = .ok (n, t)) : fd_K pc 167 c s = .ok (Instr.goto n, t) := by
  show ((Reader.s2 : Decoder Int) >>= fun a => (pure (Instr.goto a) : Decoder Instr)) c s = _
  exact fd_b g
theorem fd_k198 {n : Int} (g : (Reader.s2 : Decoder Int) c s = .ok (n, t)) : fd_K pc 198 c s = .ok (Instr.ifnull n, t) := by
  show ((Reader.s2 : Decoder Int) >>= fun a => (pure (Instr.ifnull a) : Decoder Instr)) c s = _
  exact fd_b g
theorem fd_k199 {n : Int} (g : (Reader.s2 : Decoder Int) c s = .ok (n, t)) : fd_K pc 199 c s = .ok (Instr.ifnonnull n, t) := by
  show ((Reader.s2 : Decoder Int) >>= fun a => (pure (Instr.ifnonnull a) : Decoder Instr)) c s = _
  exact fd_b g
theorem fd_k153 {n : Int} (g : (Reader.s2 : Decoder Int) c s = .ok (n, t)) : fd_K pc 153 c s = .ok (Instr.ifCond .eq n, t) := by
  show ((Reader.s2 : Decoder Int) >>= fun a => (pure (Instr.ifCond .eq a) : Decoder Instr)) c s = _
  exact fd_b g
theorem fd_k154 {n : Int} (g : (Reader.s2 : Decoder Int) c s = .ok (n, t)) : fd_K pc 154 c s = .ok (Instr.ifCond .ne n, t) := by
  show ((Reader.s2 : Decoder Int) >>= fun a => (pure (Instr.ifCond .ne a) : Decoder Instr)) c s = _
  exact fd_b g
theorem fd_k155 {n : Int} (g : (Reader.s2 : Decoder Int) c s = .ok (n, t)) : fd_K pc 155 c s = .ok (Instr.ifCond .lt n, t) := by
  show ((Reader.s2 : Decoder Int) >>= fun a => (pure (Instr.ifCond .lt a) : Decoder Instr)) c s = _
  exact fd_b g
theorem fd_k156 {n : Int} (g : (Reader.s2 : Decoder Int) c s = .ok (n, t)) : fd_K pc 156 c s = .ok (Instr.ifCond .ge n, t) := by
  show ((Reader.s2 : Decoder Int) >>= fun a => (pure (Instr.ifCond .ge a) : Decoder Instr)) c s = _
  exact fd_b g
theorem fd_k157 {n : Int} (g : (Reader.s2 : Decoder Int) c s = .ok (n, t)) : fd_K pc 157 c s = .ok (Instr.ifCond .gt n, t) := by
  show ((Reader.s2 : Decoder Int) >>= fun a => (pure (Instr.ifCond .gt a) : Decoder Instr)) c s = _
  exact fd_b g
theorem fd_k158 {n : Int} (g : (Reader.s2 : Decoder Int) c s = .ok (n, t)) : fd_K pc 158 c s = .ok (Instr.ifCond .le n, t) := by
  show ((Reader.s2 : Decoder Int) >>= fun a => (pure (Instr.ifCond .le a) : Decoder Instr)) c s = _
  exact fd_b g
theorem fd_k159 {n : Int} (g : (Reader.s2 : Decoder Int) c s = .ok (n, t)) : fd_K pc 159 c s = .ok (Instr.if_icmp .eq n, t) := by
  show ((Reader.s2 : Decoder Int) >>= fun a => (pure (Instr.if_icmp .eq a) : Decoder Instr)) c s = _
  exact fd_b g
theorem fd_k160 {n : Int} (g : (Reader.s2 : Decoder Int) c s = .ok (n, t)) : fd_K pc 160 c s = .ok (Instr.if_icmp .ne n, t) := by
  show ((Reader.s2 : Decoder Int) >>= fun a => (pure (Instr.if_icmp .ne a) : Decoder Instr)) c s = _
  exact fd_b g
theorem fd_k161 {n : Int} (g : (Reader.s2 : Decoder Int) c s = .ok (n, t)) : fd_K pc 161 c s = .ok (Instr.if_icmp .lt n, t) := by
  show ((Reader.s2 : Decoder Int) >>= fun a => (pure (Instr.if_icmp .lt a) : Decoder Instr)) c s = _
  exact fd_b g
theorem fd_k162 {n : Int} (g : (Reader.s2 : Decoder Int) c s = .ok (n, t)) : fd_K pc 162 c s = .ok (Instr.if_icmp .ge n, t) := by
  show ((Reader.s2 : Decoder Int) >>= fun a => (pure (Instr.if_icmp .ge a) : Decoder Instr)) c s = _
  exact fd_b g
theorem fd_k163 {n : Int} (g : (Reader.s2 : Decoder Int) c s = .ok (n, t)) : fd_K pc 163 c s = .ok (Instr.if_icmp .gt n, t) := by
  show ((Reader.s2 : Decoder Int) >>= fun a => (pure (Instr.if_icmp .gt a) : Decoder Instr)) c s = _
  exact fd_b g
theorem fd_k164 {n : Int} (g : (Reader.s2 : Decoder Int) c s = .ok (n, t)) : fd_K pc 164 c s = .ok (Instr.if_icmp .le n, t) := by
  show ((Reader.s2 : Decoder Int) >>= fun a => (pure (Instr.if_icmp .le a) : Decoder Instr)) c s = _
  exact fd_b g
theorem fd_k165 {n : Int} (g : (Reader.s2 : Decoder Int) c s = .ok (n, t)) : fd_K pc 165 c s = .ok (Instr.if_acmp .eq n, t) := by
  show ((Reader.s2 : Decoder Int) >>= fun a => (pure (Instr.if_acmp .eq a) : Decoder Instr)) c s = _
  exact fd_b g
theorem fd_k166 {n : Int} (g : (Reader.s2 : Decoder Int) c s = .ok (n, t)) : fd_K pc 166 c s = .ok (Instr.if_acmp .ne n, t) := by
  show ((Reader.s2 : Decoder Int) >>= fun a => (pure (Instr.if_acmp .ne a) : Decoder Instr)) c s = _
  exact fd_b g
theorem fd_k16 {n : Int} (g : (Reader.s1 : Decoder Int) c s = .ok (n, t)) : fd_K pc 16 c s = .ok (Instr.bipush n, t) := by
  show ((Reader.s1 : Decoder Int) >>= fun a => (pure (Instr.bipush a) : Decoder Instr)) c s = _
  exact fd_b g
theorem fd_k132 {n : Nat} {m : Int} (g1 : fd_u c s = .ok (n, t)) (g2 : (Reader.s1 : Decoder Int) c t = .ok (m, r)) : fd_K pc 132 c s = .ok (Instr.iinc n m, r) := by
  show (fd_u >>= fun a => (Reader.s1 : Decoder Int) >>= fun b => (pure (Instr.iinc a b) : Decoder Instr)) c s = _
  exact (fd_b g1).trans (fd_b g2)
end FDK
/-- no operand -/
def fd_o0 : Instr → Option Nat
  | .aconst_null => some 1
  | .iaload => some 46
  | .laload => some 47
  | .aaload => some 50
  | .baload => some 51
  | .caload => some 52
  | .saload => some 53
  | .iastore => some 79
  | .lastore => some 80
  | .aastore => some 83
  | .bastore => some 84
  | .castore => some 85
  | .pop => some 87
  | .pop2 => some 88
  | .dup => some 89
  | .dup_x1 => some 90
  | .dup_x2 => some 91
  | .dup2 => some 92
  | .swap => some 95
  | .iadd => some 96
  | .ladd => some 97
  | .isub => some 100
  | .lsub => some 101
  | .imul => some 104
  | .lmul => some 105
  | .idiv => some 108
  | .ldiv => some 109
  | .irem => some 112
  | .lrem => some 113
  | .ineg => some 116
  | .lneg => some 117
  | .ishl => some 120
  | .lshl => some 121
  | .ishr => some 122
  | .lshr => some 123
  | .iushr => some 124
  | .lushr => some 125
  | .iand => some 126
  | .land => some 127
  | .ior => some 128
  | .lor => some 129
  | .ixor => some 130
  | .lxor => some 131
  | .i2l => some 133
  | .l2i => some 136
  | .i2b => some 145
  | .i2c => some 146
  | .i2s => some 147
  | .lcmp => some 148
  | .ireturn => some 172
  | .lreturn => some 173
  | .areturn => some 176
  | .return_ => some 177
  | .arraylength => some 190
  | .athrow => some 191
  | .iconst v => if v = (-1) then some 2 else if v = 0 then some 3 else if v = 1 then some 4 else if v = 2 then some 5 else if v = 3 then some 6 else if v = 4 then some 7 else if v = 5 then some 8 else none
  | .lconst v => if v = 0 then some 9 else if v = 1 then some 10 else none
  | .iload_n v => if v = 0 then some 26 else if v = 1 then some 27 else if v = 2 then some 28 else if v = 3 then some 29 else none
  | .lload_n v => if v = 0 then some 30 else if v = 1 then some 31 else if v = 2 then some 32 else if v = 3 then some 33 else none
  | .aload_n v => if v = 0 then some 42 else if v = 1 then some 43 else if v = 2 then some 44 else if v = 3 then some 45 else none
  | .istore_n v => if v = 0 then some 59 else if v = 1 then some 60 else if v = 2 then some 61 else if v = 3 then some 62 else none
  | .lstore_n v => if v = 0 then some 63 else if v = 1 then some 64 else if v = 2 then some 65 else if v = 3 then some 66 else none
  | .astore_n v => if v = 0 then some 75 else if v = 1 then some 76 else if v = 2 then some 77 else if v = 3 then some 78 else none
  | _ => none
theorem fd_z0 {i : Instr} {op : Nat} (h : fd_o0 i = some op) {pc s : Nat} {c : ByteArray} : fd_K pc op c s = .ok (i, s) ∧ mj_len i = 1 := by
  unfold fd_o0 at h
  split at h
  · cases h
    exact ⟨fd_k1, rfl⟩
  · cases h
    exact ⟨fd_k46, rfl⟩
  · cases h
    exact ⟨fd_k47, rfl⟩
  · cases h
    exact ⟨fd_k50, rfl⟩
  · cases h
    exact ⟨fd_k51, rfl⟩
  · cases h
    exact ⟨fd_k52, rfl⟩
  · cases h
    exact ⟨fd_k53, rfl⟩
  · cases h
    exact ⟨fd_k79, rfl⟩
  · cases h
    exact ⟨fd_k80, rfl⟩
  · cases h
    exact ⟨fd_k83, rfl⟩
  · cases h
    exact ⟨fd_k84, rfl⟩
  · cases h
    exact ⟨fd_k85, rfl⟩
  · cases h
    exact ⟨fd_k87, rfl⟩
  · cases h
    exact ⟨fd_k88, rfl⟩
  · cases h
    exact ⟨fd_k89, rfl⟩
  · cases h
    exact ⟨fd_k90, rfl⟩
  · cases h
    exact ⟨fd_k91, rfl⟩
  · cases h
    exact ⟨fd_k92, rfl⟩
  · cases h
    exact ⟨fd_k95, rfl⟩
  · cases h
    exact ⟨fd_k96, rfl⟩
  · cases h
    exact ⟨fd_k97, rfl⟩
  · cases h
    exact ⟨fd_k100, rfl⟩
  · cases h
    exact ⟨fd_k101, rfl⟩
  · cases h
    exact ⟨fd_k104, rfl⟩
  · cases h
    exact ⟨fd_k105, rfl⟩
  · cases h
    exact ⟨fd_k108, rfl⟩
  · cases h
    exact ⟨fd_k109, rfl⟩
  · cases h
    exact ⟨fd_k112, rfl⟩
  · cases h
    exact ⟨fd_k113, rfl⟩
  · cases h
    exact ⟨fd_k116, rfl⟩
  · cases h
    exact ⟨fd_k117, rfl⟩
  · cases h
    exact ⟨fd_k120, rfl⟩
  · cases h
    exact ⟨fd_k121, rfl⟩
  · cases h
    exact ⟨fd_k122, rfl⟩
  · cases h
    exact ⟨fd_k123, rfl⟩
  · cases h
    exact ⟨fd_k124, rfl⟩
  · cases h
    exact ⟨fd_k125, rfl⟩
  · cases h
    exact ⟨fd_k126, rfl⟩
  · cases h
    exact ⟨fd_k127, rfl⟩
  · cases h
    exact ⟨fd_k128, rfl⟩
  · cases h
    exact ⟨fd_k129, rfl⟩
  · cases h
    exact ⟨fd_k130, rfl⟩
  · cases h
    exact ⟨fd_k131, rfl⟩
  · cases h
    exact ⟨fd_k133, rfl⟩
  · cases h
    exact ⟨fd_k136, rfl⟩
  · cases h
    exact ⟨fd_k145, rfl⟩
  · cases h
    exact ⟨fd_k146, rfl⟩
  · cases h
    exact ⟨fd_k147, rfl⟩
  · cases h
    exact ⟨fd_k148, rfl⟩
  · cases h
    exact ⟨fd_k172, rfl⟩
  · cases h
    exact ⟨fd_k173, rfl⟩
  · cases h
    exact ⟨fd_k176, rfl⟩
  · cases h
    exact ⟨fd_k177, rfl⟩
  · cases h
    exact ⟨fd_k190, rfl⟩
  · cases h
    exact ⟨fd_k191, rfl⟩
  · split at h
    · rename_i hv
      cases h
      subst hv
      exact ⟨fd_k2, rfl⟩
    split at h
    · rename_i hv
      cases h
      subst hv
      exact ⟨fd_k3, rfl⟩
    split at h
    · rename_i hv
      cases h
      subst hv
      exact ⟨fd_k4, rfl⟩
    split at h
    · rename_i hv
      cases h
      subst hv
      exact ⟨fd_k5, rfl⟩
    split at h
    · rename_i hv
      cases h
      subst hv
      exact ⟨fd_k6, rfl⟩
    split at h
    · rename_i hv
      cases h
      subst hv
      exact ⟨fd_k7, rfl⟩
    split at h
    · rename_i hv
      cases h
      subst hv
      exact ⟨fd_k8, rfl⟩
    cases h
  · split at h
    · rename_i hv
      cases h
      subst hv
      exact ⟨fd_k9, rfl⟩
    split at h
    · rename_i hv
      cases h
      subst hv
      exact ⟨fd_k10, rfl⟩
    cases h
  · split at h
    · rename_i hv
      cases h
      subst hv
      exact ⟨fd_k26, rfl⟩
    split at h
    · rename_i hv
      cases h
      subst hv
      exact ⟨fd_k27, rfl⟩
    split at h
    · rename_i hv
      cases h
      subst hv
      exact ⟨fd_k28, rfl⟩
    split at h
    · rename_i hv
      cases h
      subst hv
      exact ⟨fd_k29, rfl⟩
    cases h
  · split at h
    · rename_i hv
      cases h
      subst hv
      exact ⟨fd_k30, rfl⟩
    split at h
    · rename_i hv
      cases h
      subst hv
      exact ⟨fd_k31, rfl⟩
    split at h
    · rename_i hv
      cases h
      subst hv
      exact ⟨fd_k32, rfl⟩
    split at h
    · rename_i hv
      cases h
      subst hv
      exact ⟨fd_k33, rfl⟩
    cases h
  · split at h
    · rename_i hv
      cases h
      subst hv
      exact ⟨fd_k42, rfl⟩
    split at h
    · rename_i hv
      cases h
      subst hv
      exact ⟨fd_k43, rfl⟩
    split at h
    · rename_i hv
      cases h
      subst hv
      exact ⟨fd_k44, rfl⟩
    split at h
    · rename_i hv
      cases h
      subst hv
      exact ⟨fd_k45, rfl⟩
    cases h
  · split at h
    · rename_i hv
      cases h
      subst hv
      exact ⟨fd_k59, rfl⟩
    split at h
    · rename_i hv
      cases h
      subst hv
      exact ⟨fd_k60, rfl⟩
    split at h
    · rename_i hv
      cases h
      subst hv
      exact ⟨fd_k61, rfl⟩
    split at h
    · rename_i hv
      cases h
      subst hv
      exact ⟨fd_k62, rfl⟩
    cases h
  · split at h
    · rename_i hv
      cases h
      subst hv
      exact ⟨fd_k63, rfl⟩
    split at h
    · rename_i hv
      cases h
      subst hv
      exact ⟨fd_k64, rfl⟩
    split at h
    · rename_i hv
      cases h
      subst hv
      exact ⟨fd_k65, rfl⟩
    split at h
    · rename_i hv
      cases h
      subst hv
      exact ⟨fd_k66, rfl⟩
    cases h
  · split at h
    · rename_i hv
      cases h
      subst hv
      exact ⟨fd_k75, rfl⟩
    split at h
    · rename_i hv
      cases h
      subst hv
      exact ⟨fd_k76, rfl⟩
    split at h
    · rename_i hv
      cases h
      subst hv
      exact ⟨fd_k77, rfl⟩
    split at h
    · rename_i hv
      cases h
      subst hv
      exact ⟨fd_k78, rfl⟩
    cases h
  · cases h
/-- one byte -/
def fd_o1 : Instr → Option (Nat × Nat)
  | .iload n => some (21, n)
  | .lload n => some (22, n)
  | .aload n => some (25, n)
  | .istore n => some (54, n)
  | .lstore n => some (55, n)
  | .astore n => some (58, n)
  | .ldc n => some (18, n)
  | _ => none
theorem fd_z1 {i : Instr} {op n : Nat} (h : fd_o1 i = some (op, n)) {pc s t : Nat} {c : ByteArray} (g : fd_u c s = .ok (n, t)) : fd_K pc op c s = .ok (i, t) ∧ mj_len i = 2 := by
  unfold fd_o1 at h
  split at h
  · cases h
    exact ⟨fd_k21 g, rfl⟩
  · cases h
    exact ⟨fd_k22 g, rfl⟩
  · cases h
    exact ⟨fd_k25 g, rfl⟩
  · cases h
    exact ⟨fd_k54 g, rfl⟩
  · cases h
    exact ⟨fd_k55 g, rfl⟩
  · cases h
    exact ⟨fd_k58 g, rfl⟩
  · cases h
    exact ⟨fd_k18 g, rfl⟩
  · cases h
/-- two bytes -/
def fd_o2 : Instr → Option (Nat × Nat)
  | .ldc_w n => some (19, n)
  | .ldc2_w n => some (20, n)
  | .getstatic n => some (178, n)
  | .putstatic n => some (179, n)
  | .getfield n => some (180, n)
  | .putfield n => some (181, n)
  | .invokevirtual n => some (182, n)
  | .invokespecial n => some (183, n)
  | .invokestatic n => some (184, n)
  | .new n => some (187, n)
  | .anewarray n => some (189, n)
  | .checkcast n => some (192, n)
  | .instanceof n => some (193, n)
  | _ => none
theorem fd_z2 {i : Instr} {op n : Nat} (h : fd_o2 i = some (op, n)) {pc s t : Nat} {c : ByteArray} (g : (Reader.u2 : Decoder Nat) c s = .ok (n, t)) : fd_K pc op c s = .ok (i, t) ∧ mj_len i = 3 := by
  unfold fd_o2 at h
  split at h
  · cases h
    exact ⟨fd_k19 g, rfl⟩
  · cases h
    exact ⟨fd_k20 g, rfl⟩
  · cases h
    exact ⟨fd_k178 g, rfl⟩
  · cases h
    exact ⟨fd_k179 g, rfl⟩
  · cases h
    exact ⟨fd_k180 g, rfl⟩
  · cases h
    exact ⟨fd_k181 g, rfl⟩
  · cases h
    exact ⟨fd_k182 g, rfl⟩
  · cases h
    exact ⟨fd_k183 g, rfl⟩
  · cases h
    exact ⟨fd_k184 g, rfl⟩
  · cases h
    exact ⟨fd_k187 g, rfl⟩
  · cases h
    exact ⟨fd_k189 g, rfl⟩
  · cases h
    exact ⟨fd_k192 g, rfl⟩
  · cases h
    exact ⟨fd_k193 g, rfl⟩
  · cases h
/-- two bytes, signed -/
def fd_o3 : Instr → Option (Nat × Int)
  | .sipush n => some (17, n)
  | .goto n => some (167, n)
  | .ifnull n => some (198, n)
  | .ifnonnull n => some (199, n)
  | .ifCond .eq n => some (153, n)
  | .ifCond .ne n => some (154, n)
  | .ifCond .lt n => some (155, n)
  | .ifCond .ge n => some (156, n)
  | .ifCond .gt n => some (157, n)
  | .ifCond .le n => some (158, n)
  | .if_icmp .eq n => some (159, n)
  | .if_icmp .ne n => some (160, n)
  | .if_icmp .lt n => some (161, n)
  | .if_icmp .ge n => some (162, n)
  | .if_icmp .gt n => some (163, n)
  | .if_icmp .le n => some (164, n)
  | .if_acmp .eq n => some (165, n)
  | .if_acmp .ne n => some (166, n)
  | _ => none
theorem fd_z3 {i : Instr} {op : Nat} {n : Int} (h : fd_o3 i = some (op, n)) {pc s t : Nat} {c : ByteArray} (g : (Reader.s2 : Decoder Int) c s = .ok (n, t)) : fd_K pc op c s = .ok (i, t) ∧ mj_len i = 3 := by
  unfold fd_o3 at h
  split at h
  · cases h
    exact ⟨fd_k17 g, rfl⟩
  · cases h
    exact ⟨fd_k167 g, rfl⟩
  · cases h
    exact ⟨fd_k198 g, rfl⟩
  · cases h
    exact ⟨fd_k199 g, rfl⟩
  · cases h
    exact ⟨fd_k153 g, rfl⟩
  · cases h
    exact ⟨fd_k154 g, rfl⟩
  · cases h
    exact ⟨fd_k155 g, rfl⟩
  · cases h
    exact ⟨fd_k156 g, rfl⟩
  · cases h
    exact ⟨fd_k157 g, rfl⟩
  · cases h
    exact ⟨fd_k158 g, rfl⟩
  · cases h
    exact ⟨fd_k159 g, rfl⟩
  · cases h
    exact ⟨fd_k160 g, rfl⟩
  · cases h
    exact ⟨fd_k161 g, rfl⟩
  · cases h
    exact ⟨fd_k162 g, rfl⟩
  · cases h
    exact ⟨fd_k163 g, rfl⟩
  · cases h
    exact ⟨fd_k164 g, rfl⟩
  · cases h
    exact ⟨fd_k165 g, rfl⟩
  · cases h
    exact ⟨fd_k166 g, rfl⟩
  · cases h
/-- the instruction at pc, by the number -/
def fd_c (N L pc : Nat) (i : Instr) : Bool := match fd_o0 i with
  | some op => fd_B N pc == op && decide (pc < L)
  | none => match fd_o1 i with
    | some (op, n) => (fd_B N pc == op && fd_B N (pc + 1) == n) && decide (pc + 1 < L)
    | none => match fd_o2 i with
      | some (op, n) => (fd_B N pc == op && fd_B N (pc + 1) * 256 + fd_B N (pc + 2) == n) && decide (pc + 2 < L)
      | none => match fd_o3 i with
        | some (op, n) => (fd_B N pc == op && Reader.signed 16 (fd_B N (pc + 1) * 256 + fd_B N (pc + 2)) == n) && decide (pc + 2 < L)
        | none => match i with
          | .bipush n => (fd_B N pc == 16 && Reader.signed 8 (fd_B N (pc + 1)) == n) && decide (pc + 1 < L)
          | .iinc n m => ((fd_B N pc == 132 && fd_B N (pc + 1) == n) && Reader.signed 8 (fd_B N (pc + 2)) == m) && decide (pc + 2 < L)
          | _ => false
theorem fd_v {c : ByteArray} {N L pc : Nat} {i : Instr} (hN : fd_N c.data.toList = N) (hL : c.size = L) (h : fd_c N L pc i = true) : mj_d1 c (pc, i) = true := by
  have H : ∀ p, p < L → fd_u c p = .ok (fd_B N p, p + 1) := fun p hp => fd_h hN hL hp
  unfold fd_c at h
  cases h0 : fd_o0 i with
  | some op =>
    rw [h0] at h
    simp only [Bool.and_eq_true, beq_iff_eq, decide_eq_true_eq] at h
    have z := fd_z0 h0 (pc := pc) (s := pc + 1) (c := c)
    refine fd_t (l := 1) ?_ z.2
    rw [fd_i (H pc (by omega)), h.1]
    exact z.1
  | none =>
    rw [h0] at h
    dsimp only at h
    cases h1 : fd_o1 i with
    | some q =>
      obtain ⟨op, n⟩ := q
      rw [h1] at h
      simp only [Bool.and_eq_true, beq_iff_eq, decide_eq_true_eq] at h
      have g := H (pc + 1) (by omega)
      rw [h.1.2] at g
      have z := fd_z1 h1 (pc := pc) g
      refine fd_t (l := 2) ?_ z.2
      rw [fd_i (H pc (by omega)), h.1.1]
      exact z.1
    | none =>
      rw [h1] at h
      dsimp only at h
      cases h2 : fd_o2 i with
      | some q =>
        obtain ⟨op, n⟩ := q
        rw [h2] at h
        simp only [Bool.and_eq_true, beq_iff_eq, decide_eq_true_eq] at h
        have g := fd_u2 (H (pc + 1) (by omega)) (H (pc + 2) (by omega))
        rw [h.1.2] at g
        have z := fd_z2 h2 (pc := pc) g
        refine fd_t (l := 3) ?_ z.2
        rw [fd_i (H pc (by omega)), h.1.1]
        exact z.1
      | none =>
        rw [h2] at h
        dsimp only at h
        cases h3 : fd_o3 i with
        | some q =>
          obtain ⟨op, n⟩ := q
          rw [h3] at h
          simp only [Bool.and_eq_true, beq_iff_eq, decide_eq_true_eq] at h
          have g := fd_s2 (H (pc + 1) (by omega)) (H (pc + 2) (by omega))
          rw [h.1.2] at g
          have z := fd_z3 h3 (pc := pc) g
          refine fd_t (l := 3) ?_ z.2
          rw [fd_i (H pc (by omega)), h.1.1]
          exact z.1
        | none =>
          rw [h3] at h
          dsimp only at h
          split at h
          · simp only [Bool.and_eq_true, beq_iff_eq, decide_eq_true_eq] at h
            have g := fd_s1 (H (pc + 1) (by omega))
            rw [h.1.2] at g
            refine fd_t (l := 2) ?_ rfl
            rw [fd_i (H pc (by omega)), h.1.1]
            exact fd_k16 g
          · simp only [Bool.and_eq_true, beq_iff_eq, decide_eq_true_eq] at h
            have g1 := H (pc + 1) (by omega)
            have g2 := fd_s1 (H (pc + 2) (by omega))
            rw [h.1.1.2] at g1
            rw [h.1.2] at g2
            refine fd_t (l := 3) ?_ rfl
            rw [fd_i (H pc (by omega)), h.1.1.1]
            exact fd_k132 g1 g2
          · cases h
def fd_r (N L : Nat) (c : ByteArray) (e : Nat × Instr) : Bool := fd_c N L e.1 e.2 || mj_d1 c e
theorem fd_rs {c : ByteArray} {N L : Nat} (h : (fd_N c.data.toList == N && c.size == L) = true) {es : List (Nat × Instr)} (hr : es.all (fd_r N L c) = true) : es.all (mj_d1 c) = true := by
  rw [Bool.and_eq_true, beq_iff_eq, beq_iff_eq] at h
  rw [List.all_eq_true] at hr ⊢
  intro e he
  have k := hr e he
  unfold fd_r at k
  rw [Bool.or_eq_true] at k
  rcases k with k | k
  · exact fd_v h.1 h.2 k
  · exact k
def fd_m (q : (List (Nat × Instr) × MethodName × ByteArray × Nat × Option FieldType × Nat × Nat) × Nat × Nat) : Bool := (fd_N q.1.2.2.1.data.toList == q.2.1 && q.1.2.2.1.size == q.2.2) && q.1.1.all (fd_r q.2.1 q.2.2 q.1.2.2.1)
theorem fd_ms : ∀ (Y : List (Nat × Nat)) (X : List (List (Nat × Instr) × MethodName × ByteArray × Nat × Option FieldType × Nat × Nat)), X.length ≤ Y.length → (X.zip Y).all fd_m = true → X.all mj_dk = true
  | _, [], _, _ => rfl
  | [], _ :: _, h, _ => absurd h (Nat.not_succ_le_zero _)
  | y :: Y, x :: X, h, g => by
    rw [List.zip_cons_cons, List.all_cons, Bool.and_eq_true] at g
    have g1 : ((fd_N x.2.2.1.data.toList == y.1 && x.2.2.1.size == y.2) && x.1.all (fd_r y.1 y.2 x.2.2.1)) = true := g.1
    rw [Bool.and_eq_true] at g1
    rw [List.all_cons, Bool.and_eq_true]
    exact ⟨fd_rs g1.1 g1.2, fd_ms Y X (Nat.le_of_succ_le_succ h) g.2⟩
