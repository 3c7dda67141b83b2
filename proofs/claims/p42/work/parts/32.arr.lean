/-! arrays and making -/
theorem mj_arr_set (ad : Nat → Nat) (cA : ClassId) {vs : List Value} {j : Nat} (hj : j < vs.length) (v : Value) : (arrV cA vs.length (fun i => mj_cv ad (vs.getD i .null))).setSlot j (mj_cv ad v) = arrV cA (vs.set j v).length (fun i => mj_cv ad ((vs.set j v).getD i .null)) := by
  rw [arrV_store, List.length_set]
  congr 1
  funext i
  unfold updV
  by_cases h : i = j
  · subst h
    rw [if_pos rfl, List.getD_eq_getElem?_getD, List.getElem?_set_self hj]
    rfl
  · rw [if_neg h]
    dsimp only
    rw [List.getD_eq_getElem?_getD, List.getD_eq_getElem?_getD, List.getElem?_set_ne (Ne.symm h)]
section MJB
variable {p : Program} {l : Launch} {e : Env} {R : Room} {s : State} {mm : MethodId} {args : Array Value} {below : List Frame} {meth : Method} {c : Code} {H : Heap} {locs : List Loc} {cells slots : Nat} {Q : State → Prop} {D : va_G} {pre : Nat → Nat} {base m pc : Nat} {y : MethodName} {b : ByteArray} {n o ci : Nat} {rt : Option FieldType} {ls : Array Slot} {rest : List Value} {h : mj_H}
theorem mj_rd {a k : Nat} {i : Int32} {v : Value} (hk : 1000 ≤ k) (hs : mj_el h a k i = some v) (hR : mj_R D pre base s h H) : ∃ cell : Cell, H[mj_ad pre base a]? = some cell ∧ s.isArrayOf cell (mj_et k) ∧ cell.vm ≠ .unknown ∧ ¬ (i < 0 ∨ cell.slots.size ≤ i.toNatClampNeg) ∧ cell.slots[i.toNatClampNeg]? = some (mj_cv (mj_ad pre base) v) := by
  obtain ⟨vs, h1, h2, h3⟩ := mj_el_inv hs
  obtain ⟨cell, g1, g2, g3, g4, g5, g6⟩ := (hR.2.2.2.1 a _ h1).2.2 hk
  refine ⟨cell, g1, g2, g3, ?_, g6 _ _ h3⟩
  rintro (q | q)
  · exact h2 (Or.inl q)
  · exact h2 (Or.inr (Nat.le_trans g4 q))
/-- an array of our own is written: what the machine's rows leave -/
theorem mj_wr {a k : Nat} {i : Int32} {v : Value} {h' : mj_H} (hk : 1000 ≤ k) (hs : mj_es mj_n0 h a k i v = some h') (hR : mj_R D pre base s h H) (hS : va_S (fun q => base ≤ q) s.heap H locs) :
    h'.length = h.length ∧ mj_hsz h' = mj_hsz h ∧ ∃ (cA : ClassId) (N : Nat) (f : Nat → Value), H[mj_ad pre base a]? = some (arrV cA N f) ∧ ArrOfT s cA (mj_et k) ∧ va_RA s cA (mj_et k) ∧ ¬ (i < 0 ∨ N ≤ i.toNatClampNeg) ∧
      ∀ H1 : Heap, H1[mj_ad pre base a]? = some ((arrV cA N f).setSlot i.toNatClampNeg (mj_cv (mj_ad pre base) v)) → H1.size = H.size → (∀ q : Nat, q ≠ mj_ad pre base a → H1[q]? = H[q]?) → mj_R D pre base s h' H1 ∧ va_S (fun q => base ≤ q) s.heap H1 (locs ++ [⟨mj_ad pre base a, i.toNatClampNeg⟩]) := by
  obtain ⟨vs, h1, h2, h3, rfl⟩ := mj_es_inv hs
  obtain ⟨cA, g1, g2, g3⟩ := hR.2.2.2.2.1 a _ h2 h1 hk
  have hj : i.toNatClampNeg < vs.length := Nat.not_le.mp fun q => h3 (Or.inr q)
  have hla : a < h.length := (List.getElem?_eq_some_iff.mp h1).1
  refine ⟨List.length_set .., mj_hsz_set h1 (List.length_set ..), cA, vs.length, _, g3, g1, g2, h3, fun H1 e1 e2 e3 => ?_⟩
  rw [mj_arr_set _ _ hj] at e1
  have hm : mj_ma (mj_ad pre base) (mj_et k) (vs.set i.toNatClampNeg v) (mj_ad pre base a) s H1 := ⟨cA, g1, g2, e1⟩
  exact ⟨hR.set h2 hla e2 e3 ⟨fun z => absurd z (by dsimp only; omega), fun z => absurd z (by dsimp only; omega), fun _ => hm.wa⟩ (fun _ => hm), hS.put e2 e3 (by show base ≤ _; rw [mj_ad_new h2]; exact Nat.le_add_right _ _)⟩
/-- a cell of our own is made -/
theorem mj_mk {k : Nat} {vs : List Value} {cA : ClassId} {H1 : Heap} (hk : 1000 ≤ k) (hR : mj_R D pre base s h H) (hS : va_S (fun q => base ≤ q) s.heap H locs) (e1 : H1[H.size]? = some (arrV cA vs.length (fun j => mj_cv (mj_ad pre base) (vs.getD j .null)))) (e2 : H1.size = H.size + 1) (e3 : ∀ q : Nat, q < H.size → H1[q]? = H[q]?) (g1 : ArrOfT s cA (mj_et k)) (g2 : va_RA s cA (mj_et k)) :
    mj_R D pre base s (h ++ [(k, vs)]) H1 ∧ va_S (fun q => base ≤ q) s.heap H1 locs := by
  have hm : mj_ma (mj_ad pre base) (mj_et k) vs (mj_ad pre base h.length) s H1 := ⟨cA, g1, g2, by rw [hR.top]; exact e1⟩
  exact ⟨hR.push e2 e3 ⟨fun z => absurd z (by dsimp only; omega), fun z => absurd z (by dsimp only; omega), fun _ => hm.wa⟩ (fun _ => hm), ⟨Nat.le_trans hS.1 (by omega), fun q h1 h2 => (e3 q (Nat.lt_of_lt_of_le h1 hS.1)).trans (hS.2.1 q h1 h2), hS.2.2⟩⟩
theorem mj_aw_in {ty : FieldType} (h : Cond.arrayClass ty ∈ mj_aw) (hts : ∀ w ∈ mj_big, w.before args s = true) : (Cond.arrayClass ty).before args s = true := hts _ (mj_b8 h)
theorem mj_rep2 {N : Nat} {x : Value} (ad : Nat → Nat) (hx : mj_cv ad x = x) (cA : ClassId) : arrV cA N (fun _ => x) = arrV cA (List.replicate N x).length (fun j => mj_cv ad ((List.replicate N x).getD j .null)) := by
  rw [List.length_replicate]
  show ({ cls := cA, slots := Array.ofFn (n := N) fun j => x, vm := .none } : Cell) = { cls := cA, slots := Array.ofFn (n := N) fun j => mj_cv ad ((List.replicate N x).getD j.val .null), vm := .none }
  congr 2
  funext j
  rw [List.getD_eq_getElem?_getD, List.getElem?_replicate, if_pos j.isLt]
  exact hx.symm
theorem mj_k_newa (F : mj_Fr p R s mm args meth c D pre base m b n) (hme : mj_ms[m]? = some (y, b, n, rt, o, ci)) {t : ArrayType} {x : Int32} {k : Nat} {v : Value} (hk : 1000 ≤ k) (hty : newarray.typeOf t = mj_et k) (hdv : defaultValue (newarray.typeOf t) = v) (hvv : mj_cv (mj_ad pre base) v = v) (haw : Cond.arrayClass (newarray.typeOf t) ∈ mj_aw) (hcb : componentBytes (newarray.typeOf t) ≤ 8)
    (hi : mj_ins m pc = some (.newarray t)) (h0 : 0 ≤ x.toInt ∧ x.toInt < 1000000) (hR : mj_R D pre base s h H) (hS : va_S (fun q => base ≤ q) s.heap H locs) (hc : cells + 1 ≤ R.cells) (hsl : slots + x.toInt.toNat ≤ R.slots)
    (K : ∀ H1 : Heap, mj_R D pre base s (h ++ [(k, List.replicate x.toInt.toNat v)]) H1 → va_S (fun q => base ≤ q) s.heap H1 locs → W p l e R s mm args below meth c H1 locs (cells + 1) (slots + x.toInt.toNat) Q (F0 mm (pc + 2) ls (.ref (mj_ad pre base h.length) :: rest))) : W p l e R s mm args below meth c H locs cells slots Q (F0 mm pc ls (.int x :: rest)) := by
  obtain ⟨hx, hb, hml, hown, hts, hK, hin, hfr, hlo, hbs⟩ := F
  have hneg : ¬ x < 0 := by
    rw [Int32.lt_iff_toInt_lt]
    have : (0 : Int32).toInt = 0 := rfl
    omega
  have hb8 : x.toInt.toNat * componentBytes (newarray.typeOf t) ≤ 536870912 := by
    have h1 : x.toInt.toNat ≤ 1000000 := by omega
    calc x.toInt.toNat * componentBytes (newarray.typeOf t) ≤ 1000000 * 8 := Nat.mul_le_mul h1 hcb
      _ ≤ 536870912 := by decide
  refine va_newaK hx hb (mj_aw_in haw hts) rfl (mj_dn hme hi rfl) rfl hneg (rfl : x.toNatClampNeg = x.toInt.toNat) hb8 hc hsl rfl fun H1 cA e1 e2 e3 hA hN => ?_
  rw [hdv, mj_rep2 (mj_ad pre base) hvv] at e1
  rw [hty] at hA
  have hRA : va_RA s cA (mj_et k) := by
    rw [← hty]
    cases t <;> exact hN
  obtain ⟨r1, r2⟩ := mj_mk (vs := List.replicate x.toInt.toNat v) hk hR hS e1 e2 e3 hA hRA
  have := K H1 r1 r2
  rw [hR.top] at this
  exact this
end MJB
