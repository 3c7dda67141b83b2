/-! runs that end, with what holds at their end: nothing is owed but what is known -/
def wl_R (n d m pc : Nat) (lv : mj_L) (st : List Value) (h : mj_H) (Q : Option Value → mj_H → Prop) : Prop := ∀ f, f ≤ n → ∀ v h', mj_run f d m pc lv st h = some (v, h') → Q v h'
theorem wl_wp {d m pc : Nat} {lv : mj_L} {st : List Value} {h : mj_H} {Q1 Q2 : Option Value → mj_H → Prop} (a : wp_R d m pc lv st h Q1) (b : ∀ n, wl_R n d m pc lv st h Q2) : wp_R d m pc lv st h (fun v h' => Q1 v h' ∧ Q2 v h') := by
  obtain ⟨f, v, h1, r, q⟩ := a
  exact ⟨f, v, h1, r, q, b f f (Nat.le_refl f) v h1 r⟩
theorem wl_0 {d m pc : Nat} {lv : mj_L} {st : List Value} {h : mj_H} {Q : Option Value → mj_H → Prop} : wl_R 0 d m pc lv st h Q := by
  intro f hf v h' r
  have hf : f = 0 := by omega
  subst hf
  unfold mj_run at r
  cases r
section WLS
variable {n d m pc : Nat} {lv : mj_L} {st : List Value} {h : mj_H} {Q : Option Value → mj_H → Prop}
theorem wl_mono {Q' : Option Value → mj_H → Prop} (hr : wl_R n d m pc lv st h Q) (hq : ∀ v h', Q v h' → Q' v h') : wl_R n d m pc lv st h Q' := fun f hf v h' r => hq v h' (hr f hf v h' r)
theorem wl_dn {n' : Nat} (hn : n' ≤ n) (hr : wl_R n d m pc lv st h Q) : wl_R n' d m pc lv st h Q := fun f hf v h' r => hr f (by omega) v h' r
/-- an instruction that is no return and no call of ours: whatever it does -/
theorem wl_x1 {i : Instr} (hi : mj_ins m pc = some i) (he : mj_end m i st = none) (hc : mj_call m i st h = none) (hr : ∀ pc' lv' st' h', mj_st m pc i lv st h = some (pc', lv', st', h') → wl_R n d m pc' lv' st' h' Q) : wl_R (n + 1) d m pc lv st h Q := by
  intro f hf v h' r
  cases f with
  | zero => unfold mj_run at r; cases r
  | succ f =>
    unfold mj_run at r
    rw [hi] at r
    dsimp only at r
    rw [he] at r
    dsimp only at r
    rw [hc] at r
    dsimp only at r
    cases hs : mj_st m pc i lv st h with
    | none => rw [hs] at r; cases r
    | some q =>
      obtain ⟨pc', lv', st', h1⟩ := q
      rw [hs] at r
      exact hr pc' lv' st' h1 hs f (by omega) v h' r
theorem wl_x {i : Instr} (hi : mj_ins m pc = some i) (he : mj_end m i st = none) (hc : mj_call m i st h = none) (hr : ∀ pc' lv' st' h', mj_st m pc i lv st h = some (pc', lv', st', h') → wl_R n d m pc' lv' st' h' Q) : wl_R n d m pc lv st h Q := wl_dn (Nat.le_succ n) (wl_x1 hi he hc hr)
theorem wl_s1 {i : Instr} {pc' : Nat} {lv' : mj_L} {st' : List Value} {h' : mj_H} (hi : mj_ins m pc = some i) (he : mj_end m i st = none) (hc : mj_call m i st h = none) (hs : mj_st m pc i lv st h = some (pc', lv', st', h')) (hr : wl_R n d m pc' lv' st' h' Q) : wl_R (n + 1) d m pc lv st h Q := by
  refine wl_x1 hi he hc (fun p l s g e => ?_)
  rw [hs] at e
  cases e
  exact hr
theorem wl_s {i : Instr} {pc' : Nat} {lv' : mj_L} {st' : List Value} {h' : mj_H} (hi : mj_ins m pc = some i) (he : mj_end m i st = none) (hc : mj_call m i st h = none) (hs : mj_st m pc i lv st h = some (pc', lv', st', h')) (hr : wl_R n d m pc' lv' st' h' Q) : wl_R n d m pc lv st h Q := wl_dn (Nat.le_succ n) (wl_s1 hi he hc hs hr)
theorem wl_c {i : Instr} {c : Nat} {as rest : List Value} {lv0 : mj_L} {Q1 : Option Value → mj_H → Prop} (hi : mj_ins m pc = some i) (he : mj_end m i st = none) (hc : mj_call m i st h = some (c, as, rest)) (hn : mj_ent (mj_nl c) as = some lv0) (h0 : wl_R n d c 0 lv0 [] h Q1) (hr : ∀ v h1, Q1 v h1 → wl_R n (d + 1) m (pc + 3) lv (v.toList ++ rest) h1 Q) : wl_R n (d + 1) m pc lv st h Q := by
  intro f hf v h' r
  cases f with
  | zero => unfold mj_run at r; cases r
  | succ f =>
    unfold mj_run at r
    rw [hi] at r
    dsimp only at r
    rw [he] at r
    dsimp only at r
    rw [hc] at r
    dsimp only at r
    rw [hn] at r
    dsimp only at r
    cases hs : mj_run f d c 0 lv0 [] h with
    | none => rw [hs] at r; cases r
    | some q =>
      obtain ⟨v1, h1⟩ := q
      rw [hs] at r
      exact hr v1 h1 (h0 f (by omega) v1 h1 hs) f (by omega) v h' r
theorem wl_e {i : Instr} {v : Option Value} (hi : mj_ins m pc = some i) (he : mj_end m i st = some v) (hq : Q v h) : wl_R n d m pc lv st h Q := by
  intro f hf w h' r
  cases f with
  | zero => unfold mj_run at r; cases r
  | succ f =>
    unfold mj_run at r
    rw [hi] at r
    dsimp only at r
    rw [he] at r
    cases r
    exact hq
end WLS
section WLR
variable {nn d m pc : Nat} {lv : mj_L} {st : List Value} {h : mj_H} {Q : Option Value → mj_H → Prop}
theorem wl_ri {ty : FieldType} {x : Int} (hi : mj_ins m pc = some .ireturn) (ht : mj_ret m = some ty) (hn : narrow ty (wp_i x) = wp_i x) (hq : Q (some (wp_i x)) h) : wl_R nn d m pc lv [wp_i x] h Q := by
  refine wl_e hi ?_ hq
  simp only [mj_end, ht]
  exact if_pos hn
theorem wl_rv (hi : mj_ins m pc = some .return_) (ht : mj_ret m = none) (hq : Q none h) : wl_R nn d m pc lv [] h Q := by
  refine wl_e hi ?_ hq
  simp only [mj_end, ht]
theorem wl_iadd {x y z : Int} (hi : mj_ins m pc = some .iadd) (hz : x + y = z) (hr : wl_R nn d m (pc + 1) lv (wp_i z :: st) h Q) : wl_R nn d m pc lv (wp_i y :: wp_i x :: st) h Q := by
  refine wl_s hi rfl rfl rfl ?_
  subst hz
  show wl_R nn d m (pc + 1) lv (.int (Int32.ofInt x + Int32.ofInt y) :: st) h Q
  rw [← Int32.ofInt_add]
  exact hr
theorem wl_isub {x y z : Int} (hi : mj_ins m pc = some .isub) (hz : x - y = z) (hr : wl_R nn d m (pc + 1) lv (wp_i z :: st) h Q) : wl_R nn d m pc lv (wp_i y :: wp_i x :: st) h Q := by
  refine wl_s hi rfl rfl rfl ?_
  subst hz
  show wl_R nn d m (pc + 1) lv (.int (Int32.ofInt x - Int32.ofInt y) :: st) h Q
  rw [← Int32.ofInt_sub]
  exact hr
theorem wl_imul {x y z : Int} (hi : mj_ins m pc = some .imul) (hz : x * y = z) (hr : wl_R nn d m (pc + 1) lv (wp_i z :: st) h Q) : wl_R nn d m pc lv (wp_i y :: wp_i x :: st) h Q := by
  refine wl_s hi rfl rfl rfl ?_
  subst hz
  show wl_R nn d m (pc + 1) lv (.int (Int32.ofInt x * Int32.ofInt y) :: st) h Q
  rw [← Int32.ofInt_mul]
  exact hr
theorem wl_iinc {i : Nat} {n x z : Int} {lv' : mj_L} (hi : mj_ins m pc = some (.iinc i n)) (hx : mj_ld lv i = some (wp_i x)) (hl : i < lv.length) (hz : x + n = z) (hlv : mj_s1 lv i (wp_i z) = lv') (hr : wl_R nn d m (pc + 3) lv' st h Q) : wl_R nn d m pc lv st h Q := by
  refine wl_s (pc' := pc + 3) (lv' := lv') (st' := st) (h' := h) hi rfl rfl ?_ hr
  subst hz
  show (match mj_ld lv i with
    | some (.int x) => if i < lv.length then some (pc + 3, mj_s1 lv i (.int (x + Int32.ofInt n)), st, h) else none
    | _ => none) = _
  rw [hx]
  dsimp only
  rw [if_pos hl, ← hlv, wp_i, Int32.ofInt_add]
theorem wl_bp {n : Int} (hi : mj_ins m pc = some (.bipush n)) (hn : (Int8.ofInt n).toInt32 = Int32.ofInt n) (hr : wl_R nn d m (pc + 2) lv (wp_i n :: st) h Q) : wl_R nn d m pc lv st h Q := by
  refine wl_s hi rfl rfl rfl ?_
  rw [hn]
  exact hr
theorem wl_sp {n : Int} (hi : mj_ins m pc = some (.sipush n)) (hn : (Int16.ofInt n).toInt32 = Int32.ofInt n) (hr : wl_R nn d m (pc + 3) lv (wp_i n :: st) h Q) : wl_R nn d m pc lv st h Q := by
  refine wl_s hi rfl rfl rfl ?_
  rw [hn]
  exact hr
theorem wl_goto {off : Int} {t : Nat} (hi : mj_ins m pc = some (.goto off)) (ht : mj_j pc off = some t) (hr : wl_R nn d m t lv st h Q) : wl_R nn d m pc lv st h Q := by
  refine wl_s (pc' := t) hi rfl rfl ?_ hr
  show (mj_j pc off).map (fun t => (t, lv, st, h)) = _
  rw [ht]
  rfl
theorem wl_icmp {c : ClassFile.Cond} {off x y : Int} {t : Nat} (hi : mj_ins m pc = some (.if_icmp c off)) (ht : mj_j pc off = some t) (hx : wp_r x) (hy : wp_r y) (h1 : wp_p c x y → wl_R nn d m t lv st h Q) (h2 : ¬ wp_p c x y → wl_R nn d m (pc + 3) lv st h Q) : wl_R nn d m pc lv (wp_i y :: wp_i x :: st) h Q := by
  have e : mj_st m pc (.if_icmp c off) lv (wp_i y :: wp_i x :: st) h = some (if mj_cmp c (Int32.ofInt x) (Int32.ofInt y) then t else pc + 3, lv, st, h) := by
    show (match mj_j pc off, (wp_i y :: wp_i x :: st) with
      | some t, .int y :: .int x :: r => some (if mj_cmp c x y then t else pc + 3, lv, r, h)
      | _, _ => none) = _
    rw [ht]
  by_cases hp : wp_p c x y
  · rw [(wp_cmp hx hy).mpr hp, if_pos rfl] at e
    exact wl_s hi rfl rfl e (h1 hp)
  · have q : mj_cmp c (Int32.ofInt x) (Int32.ofInt y) = false := by
      cases q : mj_cmp c (Int32.ofInt x) (Int32.ofInt y) with
      | false => rfl
      | true => exact absurd ((wp_cmp hx hy).mp q) hp
    rw [q] at e
    exact wl_s hi rfl rfl e (h2 hp)
theorem wl_if {c : ClassFile.Cond} {off x : Int} {t : Nat} (hi : mj_ins m pc = some (.ifCond c off)) (ht : mj_j pc off = some t) (hx : wp_r x) (h1 : wp_p c x 0 → wl_R nn d m t lv st h Q) (h2 : ¬ wp_p c x 0 → wl_R nn d m (pc + 3) lv st h Q) : wl_R nn d m pc lv (wp_i x :: st) h Q := by
  have z0 : (0 : Int32) = Int32.ofInt 0 := by decide
  have hy : wp_r 0 := by omega
  have e : mj_st m pc (.ifCond c off) lv (wp_i x :: st) h = some (if mj_cmp c (Int32.ofInt x) (Int32.ofInt 0) then t else pc + 3, lv, st, h) := by
    show (match mj_j pc off, (wp_i x :: st) with
      | some t, .int x :: r => some (if mj_cmp c x 0 then t else pc + 3, lv, r, h)
      | _, _ => none) = _
    rw [ht, ← z0]
  by_cases hp : wp_p c x 0
  · rw [(wp_cmp hx hy).mpr hp, if_pos rfl] at e
    exact wl_s hi rfl rfl e (h1 hp)
  · have q : mj_cmp c (Int32.ofInt x) (Int32.ofInt 0) = false := by
      cases q : mj_cmp c (Int32.ofInt x) (Int32.ofInt 0) with
      | false => rfl
      | true => exact absurd ((wp_cmp hx hy).mp q) hp
    rw [q] at e
    exact wl_s hi rfl rfl e (h2 hp)
theorem wl_gf {x a c k : Nat} {ty : FieldType} {w : Bool} {fs : List Value} {v : Value} (hi : mj_ins m pc = some (.getfield x)) (hf : mj_fld m x = some (c, k, ty, w)) (ha : h[a]? = some (c, fs)) (hv : fs[k]? = some v) (hr : wl_R nn d m (pc + 3) lv (v :: st) h Q) : wl_R nn d m pc lv (.ref a :: st) h Q := by
  refine wl_s (pc' := pc + 3) (lv' := lv) (st' := v :: st) (h' := h) hi rfl rfl ?_ hr
  simp only [mj_st, hf, ha, if_true, hv]
theorem wl_pf {x a c k : Nat} {ty : FieldType} {fs : List Value} {v : Value} (hi : mj_ins m pc = some (.putfield x)) (hf : mj_fld m x = some (c, k, ty, true)) (ha : h[a]? = some (c, fs)) (hn0 : mj_n0 ≤ a) (hk : k < fs.length) (hn : narrow ty v = v) (hfi : fits ty v = true) (hr : wl_R nn d m (pc + 3) lv st (h.set a (c, fs.set k v)) Q) : wl_R nn d m pc lv (v :: .ref a :: st) h Q := by
  refine wl_s (pc' := pc + 3) (lv' := lv) (st' := st) (h' := h.set a (c, fs.set k v)) hi rfl rfl ?_ hr
  simp only [mj_st, hf, ha]
  exact if_pos ⟨trivial, trivial, hn0, hk, hn, hfi⟩
theorem wl_ial {a : Nat} {x : Int} {vs : List Value} {v : Value} (hi : mj_ins m pc = some .iaload) (ha : h[a]? = some (1000, vs)) (hx : 0 ≤ x) (hl : x < vs.length) (hn : vs.length ≤ 2147483647) (hv : vs[x.toNat]? = some v) (hr : wl_R nn d m (pc + 1) lv (v :: st) h Q) : wl_R nn d m pc lv (wp_i x :: .ref a :: st) h Q := by
  refine wl_s (pc' := pc + 1) (lv' := lv) (st' := v :: st) (h' := h) hi rfl rfl ?_ hr
  have e : mj_el h a 1000 (Int32.ofInt x) = some v := by
    unfold mj_el
    rw [ha]
    dsimp only
    rw [if_pos rfl, wp_ix hx hl hn]
    exact hv
  simp only [mj_st, e, Option.map_some]
theorem wl_ias {a : Nat} {x y : Int} {vs : List Value} (hi : mj_ins m pc = some .iastore) (ha : h[a]? = some (1000, vs)) (hn0 : mj_n0 ≤ a) (hx : 0 ≤ x) (hl : x < vs.length) (hn : vs.length ≤ 2147483647) (hr : wl_R nn d m (pc + 1) lv st (h.set a (1000, vs.set x.toNat (wp_i y))) Q) : wl_R nn d m pc lv (wp_i y :: wp_i x :: .ref a :: st) h Q := by
  refine wl_s (pc' := pc + 1) (lv' := lv) (st' := st) (h' := h.set a (1000, vs.set x.toNat (wp_i y))) hi rfl rfl ?_ hr
  have e : mj_es mj_n0 h a 1000 (Int32.ofInt x) (wp_i y) = some (h.set a (1000, vs.set x.toNat (wp_i y))) := by
    unfold mj_es
    rw [ha]
    dsimp only
    rw [if_pos ⟨rfl, hn0⟩, wp_ix hx hl hn]
  simp only [mj_st, e, Option.map_some]
theorem wl_vc {x c n b : Nat} {st0 rest as : List Value} {k : Nat} {fs : List Value} {lv0 : mj_L} {Q1 : Option Value → mj_H → Prop} (hi : mj_ins m pc = some (.invokevirtual x)) (hc : mj_cal m x = some (2, c, n)) (hd : st0.drop n = .ref b :: rest) (ha : h[b]? = some (k, fs)) (hk : k = mj_cls c) (hq : mj_cat rest ≤ 8) (has : .ref b :: (st0.take n).reverse = as) (hn : mj_ent (mj_nl c) as = some lv0) (h0 : wl_R nn d c 0 lv0 [] h Q1) (hr : ∀ v h1, Q1 v h1 → wl_R nn (d + 1) m (pc + 3) lv (v.toList ++ rest) h1 Q) : wl_R nn (d + 1) m pc lv st0 h Q := by
  refine wl_c hi rfl ?_ hn h0 hr
  subst has
  show (match mj_cal m x with
    | some (2, c, n) => match st0.drop n with
      | .ref b :: r => match h[b]? with
        | some (k, _) => if k = mj_cls c ∧ mj_cat r ≤ 8 then some (c, Value.ref b :: (st0.take n).reverse, r) else none
        | none => none
      | _ => none
    | _ => none) = _
  simp only [hc, hd, ha]
  exact if_pos ⟨hk, hq⟩
theorem wl_sc {x c n : Nat} {st0 rest as : List Value} {lv0 : mj_L} {Q1 : Option Value → mj_H → Prop} (hi : mj_ins m pc = some (.invokestatic x)) (hc : mj_cal m x = some (1, c, n)) (hl : n ≤ st0.length) (hd : st0.drop n = rest) (hq : mj_cat rest ≤ 8) (has : (st0.take n).reverse = as) (hn : mj_ent (mj_nl c) as = some lv0) (h0 : wl_R nn d c 0 lv0 [] h Q1) (hr : ∀ v h1, Q1 v h1 → wl_R nn (d + 1) m (pc + 3) lv (v.toList ++ rest) h1 Q) : wl_R nn (d + 1) m pc lv st0 h Q := by
  refine wl_c hi rfl ?_ hn h0 hr
  subst has hd
  show (match mj_cal m x with
    | some (1, c, n) => if n ≤ st0.length ∧ mj_cat (st0.drop n) ≤ 8 then some (c, (st0.take n).reverse, st0.drop n) else none
    | _ => none) = _
  rw [hc]
  exact if_pos ⟨hl, hq⟩
theorem wl_bal {a : Nat} {x : Int} {vs : List Value} {v : Value} (hi : mj_ins m pc = some .baload) (ha : h[a]? = some (1001, vs)) (hx : 0 ≤ x) (hl : x < vs.length) (hn : vs.length ≤ 2147483647) (hv : vs[x.toNat]? = some v) (hr : wl_R nn d m (pc + 1) lv (v :: st) h Q) : wl_R nn d m pc lv (wp_i x :: .ref a :: st) h Q := by
  refine wl_s (pc' := pc + 1) (lv' := lv) (st' := v :: st) (h' := h) hi rfl rfl ?_ hr
  have e : mj_el h a 1001 (Int32.ofInt x) = some v := by
    unfold mj_el
    rw [ha]
    dsimp only
    rw [if_pos rfl, wp_ix hx hl hn]
    exact hv
  simp only [mj_st, e, Option.map_some]
theorem wl_irem {x y : Int} (hi : mj_ins m pc = some .irem) (hx : 0 ≤ x ∧ x ≤ 2147483647) (hy : 0 < y ∧ y ≤ 2147483647) (hr : wl_R nn d m (pc + 1) lv (wp_i (x % y) :: st) h Q) : wl_R nn d m pc lv (wp_i y :: wp_i x :: st) h Q := by
  refine wl_s (pc' := pc + 1) (lv' := lv) (st' := wp_i (x % y) :: st) (h' := h) hi rfl rfl ?_ hr
  show (if Int32.ofInt y = 0 then none else some (pc + 1, lv, Value.int (Int32.ofInt x - Int32.ofInt x / Int32.ofInt y * Int32.ofInt y) :: st, h)) = _
  rw [if_neg (wp_nz (by omega) (by omega)), wp_td hx hy, ← Int32.ofInt_mul, ← Int32.ofInt_sub, Int.emod_def, Int.mul_comm y]
theorem wl_min {x c0 : Nat} {a b : Int} (hi : mj_ins m pc = some (.invokestatic x)) (hc : mj_cal m x = some (11, c0, 0)) (hq : mj_cat st ≤ 8) (ha : wp_r a) (hb : wp_r b) (hr : wl_R nn d m (pc + 3) lv (wp_i (if b < a then b else a) :: st) h Q) : wl_R nn d m pc lv (wp_i b :: wp_i a :: st) h Q := by
  have hcall : mj_call m (.invokestatic x) (wp_i b :: wp_i a :: st) h = none := by
    simp only [mj_call, hc]
  refine wl_s (pc' := pc + 3) (lv' := lv) (st' := wp_i (if b < a then b else a) :: st) (h' := h) hi rfl hcall ?_ hr
  simp only [mj_st, hc]
  rw [if_pos hq]
  have e : (Int32.ofInt b < Int32.ofInt a) ↔ b < a := by rw [Int32.lt_iff_toInt_lt, wp_ti ha, wp_ti hb]
  by_cases hlt : b < a
  · rw [if_pos (e.mpr hlt), if_pos hlt]
  · rw [if_neg (fun q => hlt (e.mp q)), if_neg hlt]
theorem wl_ldi {x : Nat} {n : Int} {z : Int32} (hi : mj_ins m pc = some (.ldc x)) (hc : mj_con m x = some (.int z)) (hz : z = Int32.ofInt n) (hr : wl_R nn d m (pc + 2) lv (wp_i n :: st) h Q) : wl_R nn d m pc lv st h Q := by
  subst hz
  refine wl_s (pc' := pc + 2) (lv' := lv) (st' := wp_i n :: st) (h' := h) hi rfl rfl ?_ hr
  simp only [mj_st, hc]
  rfl
/-- bounds come free: the run ends -/
theorem wl_al {a : Nat} {x : Int} {vs : List Value} (hi : mj_ins m pc = some .iaload) (ha : h[a]? = some (1000, vs)) (hx : wp_r x) (hr : ∀ v, 0 ≤ x → x < vs.length → vs[x.toNat]? = some v → wl_R nn d m (pc + 1) lv (v :: st) h Q) : wl_R nn d m pc lv (wp_i x :: .ref a :: st) h Q := by
  refine wl_x hi rfl rfl (fun p l s g e => ?_)
  simp only [mj_st] at e
  cases hel : mj_el h a 1000 (Int32.ofInt x) with
  | none => rw [hel] at e; cases e
  | some v =>
    rw [hel] at e
    cases e
    unfold mj_el at hel
    rw [ha] at hel
    dsimp only at hel
    rw [if_pos rfl] at hel
    unfold mj_ix at hel
    rw [wp_ti hx] at hel
    by_cases hb : 0 ≤ x ∧ x < (vs.length : Int)
    · rw [if_pos hb] at hel
      exact hr v hb.1 hb.2 hel
    · rw [if_neg hb] at hel
      cases hel
theorem wl_as {a : Nat} {x y : Int} {vs : List Value} (hi : mj_ins m pc = some .iastore) (ha : h[a]? = some (1000, vs)) (hx : wp_r x) (hr : 0 ≤ x → x < vs.length → wl_R nn d m (pc + 1) lv st (h.set a (1000, vs.set x.toNat (wp_i y))) Q) : wl_R nn d m pc lv (wp_i y :: wp_i x :: .ref a :: st) h Q := by
  refine wl_x hi rfl rfl (fun p l s g e => ?_)
  simp only [mj_st] at e
  cases hes : mj_es mj_n0 h a 1000 (Int32.ofInt x) (wp_i y) with
  | none => rw [hes] at e; cases e
  | some h2 =>
    rw [hes] at e
    cases e
    unfold mj_es at hes
    rw [ha] at hes
    dsimp only at hes
    split at hes
    · unfold mj_ix at hes
      rw [wp_ti hx] at hes
      by_cases hb : 0 ≤ x ∧ x < (vs.length : Int)
      · rw [if_pos hb] at hes
        cases hes
        exact hr hb.1 hb.2
      · rw [if_neg hb] at hes
        cases hes
    · cases hes
end WLR
