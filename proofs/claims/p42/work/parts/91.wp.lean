/-! runs, with what holds at their end -/
def wp_R (d m pc : Nat) (lv : mj_L) (st : List Value) (h : mj_H) (Q : Option Value → mj_H → Prop) : Prop := ∃ f v h', mj_run f d m pc lv st h = some (v, h') ∧ Q v h'
abbrev wp_i (x : Int) : Value := .int (Int32.ofInt x)
section WPS
variable {d m pc : Nat} {lv : mj_L} {st : List Value} {h : mj_H} {Q : Option Value → mj_H → Prop}
theorem wp_s {i : Instr} {pc' : Nat} {lv' : mj_L} {st' : List Value} {h' : mj_H} (hi : mj_ins m pc = some i) (he : mj_end m i st = none) (hc : mj_call m i st h = none) (hs : mj_st m pc i lv st h = some (pc', lv', st', h')) (hr : wp_R d m pc' lv' st' h' Q) : wp_R d m pc lv st h Q := by
  obtain ⟨f, v, h2, r1, r2⟩ := hr
  exact ⟨f + 1, v, h2, mj_run_s hi he hc hs r1, r2⟩
theorem wp_c {i : Instr} {c : Nat} {as rest : List Value} {lv0 : mj_L} {Q1 : Option Value → mj_H → Prop} (hi : mj_ins m pc = some i) (he : mj_end m i st = none) (hc : mj_call m i st h = some (c, as, rest)) (hn : mj_ent (mj_nl c) as = some lv0) (h0 : wp_R d c 0 lv0 [] h Q1) (hr : ∀ v h1, Q1 v h1 → wp_R (d + 1) m (pc + 3) lv (v.toList ++ rest) h1 Q) : wp_R (d + 1) m pc lv st h Q := by
  obtain ⟨f1, v1, h1, a1, a2⟩ := h0
  obtain ⟨f, v, h2, r1, r2⟩ := hr v1 h1 a2
  exact ⟨max f1 f + 1, v, h2, mj_run_c hi he hc hn a1 r1, r2⟩
theorem wp_e {i : Instr} {v : Option Value} (hi : mj_ins m pc = some i) (he : mj_end m i st = some v) (hq : Q v h) : wp_R d m pc lv st h Q := by
  refine ⟨1, v, h, ?_, hq⟩
  unfold mj_run
  rw [hi]
  dsimp only
  rw [he]
theorem wp_mono {Q' : Option Value → mj_H → Prop} (hr : wp_R d m pc lv st h Q) (hq : ∀ v h', Q v h' → Q' v h') : wp_R d m pc lv st h Q' := by
  obtain ⟨f, v, h2, r1, r2⟩ := hr
  exact ⟨f, v, h2, r1, hq v h2 r2⟩
theorem wp_up {d' : Nat} (hd : d ≤ d') (hr : wp_R d m pc lv st h Q) : wp_R d' m pc lv st h Q := by
  obtain ⟨f, v, h2, r1, r2⟩ := hr
  exact ⟨f, v, h2, mj_run_mono (Nat.le_refl _) hd r1, r2⟩
/-- an int -/
theorem wp_ri {ty : FieldType} {x : Int} (hi : mj_ins m pc = some .ireturn) (ht : mj_ret m = some ty) (hn : narrow ty (wp_i x) = wp_i x) (hq : Q (some (wp_i x)) h) : wp_R d m pc lv [wp_i x] h Q := by
  refine wp_e hi ?_ hq
  simp only [mj_end, ht]
  exact if_pos hn
theorem wp_rv (hi : mj_ins m pc = some .return_) (ht : mj_ret m = none) (hq : Q none h) : wp_R d m pc lv [] h Q := by
  refine wp_e hi ?_ hq
  simp only [mj_end, ht]
theorem wp_iadd {x y z : Int} (hi : mj_ins m pc = some .iadd) (hz : x + y = z) (hr : wp_R d m (pc + 1) lv (wp_i z :: st) h Q) : wp_R d m pc lv (wp_i y :: wp_i x :: st) h Q := by
  refine wp_s hi rfl rfl rfl ?_
  subst hz
  show wp_R d m (pc + 1) lv (.int (Int32.ofInt x + Int32.ofInt y) :: st) h Q
  rw [← Int32.ofInt_add]
  exact hr
theorem wp_isub {x y z : Int} (hi : mj_ins m pc = some .isub) (hz : x - y = z) (hr : wp_R d m (pc + 1) lv (wp_i z :: st) h Q) : wp_R d m pc lv (wp_i y :: wp_i x :: st) h Q := by
  refine wp_s hi rfl rfl rfl ?_
  subst hz
  show wp_R d m (pc + 1) lv (.int (Int32.ofInt x - Int32.ofInt y) :: st) h Q
  rw [← Int32.ofInt_sub]
  exact hr
theorem wp_imul {x y z : Int} (hi : mj_ins m pc = some .imul) (hz : x * y = z) (hr : wp_R d m (pc + 1) lv (wp_i z :: st) h Q) : wp_R d m pc lv (wp_i y :: wp_i x :: st) h Q := by
  refine wp_s hi rfl rfl rfl ?_
  subst hz
  show wp_R d m (pc + 1) lv (.int (Int32.ofInt x * Int32.ofInt y) :: st) h Q
  rw [← Int32.ofInt_mul]
  exact hr
theorem wp_iinc {i : Nat} {n x z : Int} {lv' : mj_L} (hi : mj_ins m pc = some (.iinc i n)) (hx : mj_ld lv i = some (wp_i x)) (hl : i < lv.length) (hz : x + n = z) (hlv : mj_s1 lv i (wp_i z) = lv') (hr : wp_R d m (pc + 3) lv' st h Q) : wp_R d m pc lv st h Q := by
  refine wp_s (pc' := pc + 3) (lv' := lv') (st' := st) (h' := h) hi rfl rfl ?_ hr
  subst hz
  show (match mj_ld lv i with
    | some (.int x) => if i < lv.length then some (pc + 3, mj_s1 lv i (.int (x + Int32.ofInt n)), st, h) else none
    | _ => none) = _
  rw [hx]
  dsimp only
  rw [if_pos hl, ← hlv, wp_i, Int32.ofInt_add]
theorem wp_bp {n : Int} (hi : mj_ins m pc = some (.bipush n)) (hn : (Int8.ofInt n).toInt32 = Int32.ofInt n) (hr : wp_R d m (pc + 2) lv (wp_i n :: st) h Q) : wp_R d m pc lv st h Q := by
  refine wp_s hi rfl rfl rfl ?_
  rw [hn]
  exact hr
theorem wp_sp {n : Int} (hi : mj_ins m pc = some (.sipush n)) (hn : (Int16.ofInt n).toInt32 = Int32.ofInt n) (hr : wp_R d m (pc + 3) lv (wp_i n :: st) h Q) : wp_R d m pc lv st h Q := by
  refine wp_s hi rfl rfl rfl ?_
  rw [hn]
  exact hr
theorem wp_goto {off : Int} {t : Nat} (hi : mj_ins m pc = some (.goto off)) (ht : mj_j pc off = some t) (hr : wp_R d m t lv st h Q) : wp_R d m pc lv st h Q := by
  refine wp_s (pc' := t) hi rfl rfl ?_ hr
  show (mj_j pc off).map (fun t => (t, lv, st, h)) = _
  rw [ht]
  rfl
/-! comparisons -/
def wp_p (c : ClassFile.Cond) (x y : Int) : Prop := match c with
  | .eq => x = y
  | .ne => ¬ x = y
  | .lt => x < y
  | .ge => y ≤ x
  | .gt => y < x
  | .le => x ≤ y
abbrev wp_r (x : Int) : Prop := -2147483648 ≤ x ∧ x ≤ 2147483647
theorem wp_ti {x : Int} (hx : wp_r x) : (Int32.ofInt x).toInt = x := Int32.toInt_ofInt_of_le (by have := hx.1; omega) (by have := hx.2; omega)
theorem wp_cmp {c : ClassFile.Cond} {x y : Int} (hx : wp_r x) (hy : wp_r y) : mj_cmp c (Int32.ofInt x) (Int32.ofInt y) = true ↔ wp_p c x y := by
  have e1 := wp_ti hx
  have e2 := wp_ti hy
  cases c
  · show decide (Int32.ofInt x = Int32.ofInt y) = true ↔ x = y
    rw [decide_eq_true_eq, ← Int32.toInt_inj, e1, e2]
  · show decide (¬ Int32.ofInt x = Int32.ofInt y) = true ↔ ¬ x = y
    rw [decide_eq_true_eq, ← Int32.toInt_inj, e1, e2]
  · show decide (Int32.ofInt x < Int32.ofInt y) = true ↔ x < y
    rw [decide_eq_true_eq, Int32.lt_iff_toInt_lt, e1, e2]
  · show decide (Int32.ofInt y ≤ Int32.ofInt x) = true ↔ y ≤ x
    rw [decide_eq_true_eq, Int32.le_iff_toInt_le, e1, e2]
  · show decide (Int32.ofInt y < Int32.ofInt x) = true ↔ y < x
    rw [decide_eq_true_eq, Int32.lt_iff_toInt_lt, e1, e2]
  · show decide (Int32.ofInt x ≤ Int32.ofInt y) = true ↔ x ≤ y
    rw [decide_eq_true_eq, Int32.le_iff_toInt_le, e1, e2]
theorem wp_icmp {c : ClassFile.Cond} {off x y : Int} {t : Nat} (hi : mj_ins m pc = some (.if_icmp c off)) (ht : mj_j pc off = some t) (hx : wp_r x) (hy : wp_r y) (h1 : wp_p c x y → wp_R d m t lv st h Q) (h2 : ¬ wp_p c x y → wp_R d m (pc + 3) lv st h Q) : wp_R d m pc lv (wp_i y :: wp_i x :: st) h Q := by
  have e : mj_st m pc (.if_icmp c off) lv (wp_i y :: wp_i x :: st) h = some (if mj_cmp c (Int32.ofInt x) (Int32.ofInt y) then t else pc + 3, lv, st, h) := by
    show (match mj_j pc off, (wp_i y :: wp_i x :: st) with
      | some t, .int y :: .int x :: r => some (if mj_cmp c x y then t else pc + 3, lv, r, h)
      | _, _ => none) = _
    rw [ht]
  by_cases hp : wp_p c x y
  · rw [(wp_cmp hx hy).mpr hp, if_pos rfl] at e
    exact wp_s hi rfl rfl e (h1 hp)
  · have q : mj_cmp c (Int32.ofInt x) (Int32.ofInt y) = false := by
      cases q : mj_cmp c (Int32.ofInt x) (Int32.ofInt y) with
      | false => rfl
      | true => exact absurd ((wp_cmp hx hy).mp q) hp
    rw [q] at e
    exact wp_s hi rfl rfl e (h2 hp)
theorem wp_if {c : ClassFile.Cond} {off x : Int} {t : Nat} (hi : mj_ins m pc = some (.ifCond c off)) (ht : mj_j pc off = some t) (hx : wp_r x) (h1 : wp_p c x 0 → wp_R d m t lv st h Q) (h2 : ¬ wp_p c x 0 → wp_R d m (pc + 3) lv st h Q) : wp_R d m pc lv (wp_i x :: st) h Q := by
  have z0 : (0 : Int32) = Int32.ofInt 0 := by decide
  have hy : wp_r 0 := by omega
  have e : mj_st m pc (.ifCond c off) lv (wp_i x :: st) h = some (if mj_cmp c (Int32.ofInt x) (Int32.ofInt 0) then t else pc + 3, lv, st, h) := by
    show (match mj_j pc off, (wp_i x :: st) with
      | some t, .int x :: r => some (if mj_cmp c x 0 then t else pc + 3, lv, r, h)
      | _, _ => none) = _
    rw [ht, ← z0]
  by_cases hp : wp_p c x 0
  · rw [(wp_cmp hx hy).mpr hp, if_pos rfl] at e
    exact wp_s hi rfl rfl e (h1 hp)
  · have q : mj_cmp c (Int32.ofInt x) (Int32.ofInt 0) = false := by
      cases q : mj_cmp c (Int32.ofInt x) (Int32.ofInt 0) with
      | false => rfl
      | true => exact absurd ((wp_cmp hx hy).mp q) hp
    rw [q] at e
    exact wp_s hi rfl rfl e (h2 hp)
/-! fields, elements -/
theorem wp_gf {x a c k : Nat} {ty : FieldType} {w : Bool} {fs : List Value} {v : Value} (hi : mj_ins m pc = some (.getfield x)) (hf : mj_fld m x = some (c, k, ty, w)) (ha : h[a]? = some (c, fs)) (hv : fs[k]? = some v) (hr : wp_R d m (pc + 3) lv (v :: st) h Q) : wp_R d m pc lv (.ref a :: st) h Q := by
  refine wp_s (pc' := pc + 3) (lv' := lv) (st' := v :: st) (h' := h) hi rfl rfl ?_ hr
  simp only [mj_st, hf, ha, if_true, hv]
theorem wp_pf {x a c k : Nat} {ty : FieldType} {fs : List Value} {v : Value} (hi : mj_ins m pc = some (.putfield x)) (hf : mj_fld m x = some (c, k, ty, true)) (ha : h[a]? = some (c, fs)) (hn0 : mj_n0 ≤ a) (hk : k < fs.length) (hn : narrow ty v = v) (hfi : fits ty v = true) (hr : wp_R d m (pc + 3) lv st (h.set a (c, fs.set k v)) Q) : wp_R d m pc lv (v :: .ref a :: st) h Q := by
  refine wp_s (pc' := pc + 3) (lv' := lv) (st' := st) (h' := h.set a (c, fs.set k v)) hi rfl rfl ?_ hr
  simp only [mj_st, hf, ha]
  exact if_pos ⟨trivial, trivial, hn0, hk, hn, hfi⟩
theorem wp_ix {x : Int} {n : Nat} (hx : 0 ≤ x) (hl : x < n) (hn : n ≤ 2147483647) : mj_ix (Int32.ofInt x) n = some x.toNat := by
  unfold mj_ix
  rw [wp_ti (by omega), if_pos ⟨hx, hl⟩]
theorem wp_ial {a : Nat} {x : Int} {vs : List Value} {v : Value} (hi : mj_ins m pc = some .iaload) (ha : h[a]? = some (1000, vs)) (hx : 0 ≤ x) (hl : x < vs.length) (hn : vs.length ≤ 2147483647) (hv : vs[x.toNat]? = some v) (hr : wp_R d m (pc + 1) lv (v :: st) h Q) : wp_R d m pc lv (wp_i x :: .ref a :: st) h Q := by
  refine wp_s (pc' := pc + 1) (lv' := lv) (st' := v :: st) (h' := h) hi rfl rfl ?_ hr
  have e : mj_el h a 1000 (Int32.ofInt x) = some v := by
    unfold mj_el
    rw [ha]
    dsimp only
    rw [if_pos rfl, wp_ix hx hl hn]
    exact hv
  simp only [mj_st, e, Option.map_some]
theorem wp_ias {a : Nat} {x y : Int} {vs : List Value} (hi : mj_ins m pc = some .iastore) (ha : h[a]? = some (1000, vs)) (hn0 : mj_n0 ≤ a) (hx : 0 ≤ x) (hl : x < vs.length) (hn : vs.length ≤ 2147483647) (hr : wp_R d m (pc + 1) lv st (h.set a (1000, vs.set x.toNat (wp_i y))) Q) : wp_R d m pc lv (wp_i y :: wp_i x :: .ref a :: st) h Q := by
  refine wp_s (pc' := pc + 1) (lv' := lv) (st' := st) (h' := h.set a (1000, vs.set x.toNat (wp_i y))) hi rfl rfl ?_ hr
  have e : mj_es mj_n0 h a 1000 (Int32.ofInt x) (wp_i y) = some (h.set a (1000, vs.set x.toNat (wp_i y))) := by
    unfold mj_es
    rw [ha]
    dsimp only
    rw [if_pos ⟨rfl, hn0⟩, wp_ix hx hl hn]
  simp only [mj_st, e, Option.map_some]
/-! calls -/
theorem wp_vc {x c n b : Nat} {st0 rest as : List Value} {k : Nat} {fs : List Value} {lv0 : mj_L} {Q1 : Option Value → mj_H → Prop} (hi : mj_ins m pc = some (.invokevirtual x)) (hc : mj_cal m x = some (2, c, n)) (hd : st0.drop n = .ref b :: rest) (ha : h[b]? = some (k, fs)) (hk : k = mj_cls c) (hq : mj_cat rest ≤ 8) (has : .ref b :: (st0.take n).reverse = as) (hn : mj_ent (mj_nl c) as = some lv0) (h0 : wp_R d c 0 lv0 [] h Q1) (hr : ∀ v h1, Q1 v h1 → wp_R (d + 1) m (pc + 3) lv (v.toList ++ rest) h1 Q) : wp_R (d + 1) m pc lv st0 h Q := by
  refine wp_c hi rfl ?_ hn h0 hr
  subst has
  show (match mj_cal m x with
    | some (2, c, n) => match st0.drop n with
      | .ref b :: r => match h[b]? with
        | some (k, _) => if k = mj_cls c ∧ mj_cat r ≤ 8 then some (c, Value.ref b :: (st0.take n).reverse, r) else none
        | none => none
      | _ => none
    | _ => none) = _
  simp only [hc, hd, ha]
  exact if_pos ⟨hk, hq⟩
theorem wp_sc {x c n : Nat} {st0 rest as : List Value} {lv0 : mj_L} {Q1 : Option Value → mj_H → Prop} (hi : mj_ins m pc = some (.invokestatic x)) (hc : mj_cal m x = some (1, c, n)) (hl : n ≤ st0.length) (hd : st0.drop n = rest) (hq : mj_cat rest ≤ 8) (has : (st0.take n).reverse = as) (hn : mj_ent (mj_nl c) as = some lv0) (h0 : wp_R d c 0 lv0 [] h Q1) (hr : ∀ v h1, Q1 v h1 → wp_R (d + 1) m (pc + 3) lv (v.toList ++ rest) h1 Q) : wp_R (d + 1) m pc lv st0 h Q := by
  refine wp_c hi rfl ?_ hn h0 hr
  subst has hd
  show (match mj_cal m x with
    | some (1, c, n) => if n ≤ st0.length ∧ mj_cat (st0.drop n) ≤ 8 then some (c, (st0.take n).reverse, st0.drop n) else none
    | _ => none) = _
  rw [hc]
  exact if_pos ⟨hl, hq⟩
end WPS
/-- a contract as a run -/
theorem wp_K {d c : Nat} {K : sx_K} (hM : sx_M sx_PP d c K) {vs : List Value} {h : mj_H} {lv0 : mj_L} {B : Int} (hH : sx_H sx_TT 20 sx_tau h) (ha : sx_ag sx_tau K.1 vs) (hd : sx_lev K vs ≤ d) (hW : sx_W sx_tau h B) (hB : B + sx_cost K.2.2.2 ≤ sx_mx) (hn : mj_ent (mj_nl c) vs = some lv0) : wp_R d c 0 lv0 [] h (fun v h' => sx_H sx_TT 20 sx_tau h' ∧ sx_an sx_tau K.2.1 v ∧ sx_ef sx_tau K.2.2.2 h h' ∧ h'.length = h.length ∧ sx_W sx_tau h' (B + sx_cost K.2.2.2)) := by
  obtain ⟨lv1, e1, f, v, h', k⟩ := hM vs h hH ha hd B hW hB
  have e1 : mj_ent (mj_nl c) vs = some lv1 := e1
  rw [hn] at e1
  cases e1
  exact ⟨f, v, h', k⟩
theorem wp_iz {z : Int32} : Value.int z = wp_i z.toInt := by rw [wp_i, Int32.ofInt_toInt]
