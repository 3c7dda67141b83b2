/-! one step of the small machine is a walk of the machine -/
theorem mj_cal_inv {m x k a n : Nat} (h : mj_cal m x = some (k, a, n)) : (mj_o m, x, k, a, n) ∈ mj_ct := by
  unfold mj_cal at h
  cases hq : mj_ct.find? (fun e => e.1 == mj_o m && e.2.1 == x) with
  | none => rw [hq] at h; cases h
  | some q =>
    rw [hq] at h
    have hm := mj_find hq
    obtain ⟨q1, q2, q3⟩ := q
    cases h
    exact hm
theorem mj_con_inv {m x : Nat} {v : Value} (h : mj_con m x = some v) : (mj_o m, x, v) ∈ mj_kt := by
  unfold mj_con at h
  cases hq : mj_kt.find? (fun e => e.1 == mj_o m && e.2.1 == x) with
  | none => rw [hq] at h; cases h
  | some q =>
    rw [hq] at h
    have hm := mj_find hq
    obtain ⟨q1, q2, q3⟩ := q
    cases h
    exact hm
theorem mj_stt_inv {m x : Nat} {v : Value} (h : mj_stt m x = some v) : ∃ k, v = .ref k ∧ (mj_o m, x, k) ∈ mj_st0 := by
  unfold mj_stt at h
  cases hq : mj_st0.find? (fun e => e.1 == mj_o m && e.2.1 == x) with
  | none => rw [hq] at h; cases h
  | some q =>
    rw [hq] at h
    have hm := mj_find hq
    obtain ⟨q1, q2, q3⟩ := q
    cases h
    exact ⟨_, rfl, hm⟩
theorem mj_st0ok : ∀ q ∈ mj_st0, 1 ≤ q.2.2 ∧ q.2.2 - 1 < mj_sl0.length ∧ q.2.2 < mj_n0 := by decide +kernel
theorem mj_ktok : ∀ q ∈ mj_kt, ∀ k, q.2.2 = .ref k → k < mj_n0 ∧ 1 + mj_sl0.length ≤ k ∧ ∃ t, mj_tx[k - (1 + mj_sl0.length)]? = some t ∧ t.1 = mj_own q.1 ∧ t.2.1 = q.2.1 := by
  have h : ∀ q ∈ mj_kt, (match q.2.2 with | .ref k => decide (k < mj_n0 ∧ 1 + mj_sl0.length ≤ k) && (match mj_tx[k - (1 + mj_sl0.length)]? with | some t => decide (t.1 = mj_own q.1 ∧ t.2.1 = q.2.1) | none => false) | _ => true) = true := by decide +kernel
  intro q hq k hk
  have := h q hq
  rw [hk] at this
  simp only [Bool.and_eq_true, decide_eq_true_eq] at this
  obtain ⟨⟨h1, h2⟩, h3⟩ := this
  refine ⟨h1, h2, ?_⟩
  cases ht : mj_tx[k - (1 + mj_sl0.length)]? with
  | none => rw [ht] at h3; cases h3
  | some t =>
    rw [ht] at h3
    exact ⟨t, rfl, by simpa using h3⟩
theorem mj_anw_inv {m x c0 : Nat} (h : mj_anw m x = some c0) : mj_ncl m x = some c0 ∧ mj_nm c0 ∈ mj_ao := by
  unfold mj_anw at h
  cases hq : mj_ncl m x with
  | none => rw [hq] at h; cases h
  | some q =>
    rw [hq] at h
    dsimp only at h
    split at h
    · rename_i hc
      cases h
      refine ⟨rfl, ?_⟩
      have h1 := List.contains_iff_mem.mp hc
      unfold mj_aoc at h1
      have h2 := (List.mem_filter.mp h1).2
      exact List.contains_iff_mem.mp h2
    · cases h
section MJS
variable {p : Program} {l : Launch} {e : Env} {R : Room} {s : State} {mm : MethodId} {args : Array Value} {below : List Frame} {meth : Method} {c : Code} {H : Heap} {locs : List Loc} {cells slots : Nat} {Q : State → Prop} {D : va_G} {pre : Nat → Nat} {base m pc : Nat} {y : MethodName} {b : ByteArray} {n o ci : Nat} {rt : Option FieldType} {ls : Array Slot} {rest : List Value} {h : mj_H}
theorem mj_cwm (F : mj_Fr p R s mm args meth c D pre base m b n) {q : Nat × Nat × Nat × Nat × Nat} (hq : q ∈ mj_ct) : ∀ w ∈ mj_cwd q, w.before args s = true := fun w hw => F.2.2.2.2.1 w (mj_b5 (List.mem_flatMap.mpr ⟨_, hq, hw⟩))
theorem mj_k_slen (F : mj_Fr p R s mm args meth c D pre base m b n) (hsz : ls.size = n) (hme : mj_ms[m]? = some (y, b, n, rt, o, ci)) {x a q1 q2 : Nat} {vs : List Value} (hi : mj_ins m pc = some (.invokevirtual x)) (hcal : (mj_o m, x, 30, q1, q2) ∈ mj_ct) (ha : h[a]? = some (900, vs)) (hv : vs.length < 1000) (hcat : (rest.map fun v => v.category).sum ≤ 8) (hR : mj_R D pre base s h H) (hS : va_S (fun q => base ≤ q) s.heap H locs) (hc : cells ≤ R.cells) (hsl : slots ≤ R.slots)
    (K : W p l e R s mm args below meth c H locs cells slots Q (F0 mm (pc + 3) ls (.int (Int32.ofNat vs.length) :: rest))) : W p l e R s mm args below meth c H locs cells slots Q (F0 mm pc ls (.ref (mj_ad pre base a) :: rest)) := by
  obtain ⟨hx, hb, hml, hown, hts, hK, hin, hfr, hlo, hbs⟩ := id F
  have hww := mj_cwm F hcal
  obtain ⟨byt, adV, e1, e2, e3⟩ := (hR.2.2.2.1 a _ ha).2.1 rfl
  dsimp only at e1
  have hlen : byt.length = vs.length := by rw [e1, List.length_map]
  have hWd : ms_WdH byt (mj_ad pre base a) adV (fun q => base ≤ q) s H := ⟨e3, hR.2.2.2.2.2.2.1, hR.2.2.2.2.2.2.2⟩
  have hrecv : ∃ cellB : Cell, H[mj_ad pre base a]? = some cellB ∧ cellB.vm.isStatics = false ∧ s.vm.findClass "java/lang/String" = some cellB.cls := by
    obtain ⟨cell, g1, g2, g3, -⟩ := (e3.1 0 (by decide)).1
    exact ⟨cell, g1, g2, g3⟩
  refine vp_callSi (W.runV (Ts := mj_big) (own := mj_own (mj_o m)) (C := "java/lang/String") (b := mj_ad pre base a) (As := []) (rest := rest) ⟨hx, hb, hml, hown, hts⟩ (ms_length l byt (mj_ad pre base a) adV (fun q => base ≤ q) (by omega)) ⟨callB_of 0 hts (ms_gcb (mj_b9 (show Cond.code mj_ySL ms_cSL 1 (some .int) ∈ mj_jw by decide +kernel))) rfl rfl rfl (hww _ (List.mem_cons_of_mem _ (List.mem_cons_of_mem _ (List.mem_cons_of_mem _ List.mem_cons_self)))) (hww _ List.mem_cons_self) ⟨by decide, by decide, by decide +kernel⟩ ⟨by show 2 + 1 ≤ _; omega, by show 8 + (1 + 11) + 2 * 25 ≤ _; omega⟩, hww _ (List.mem_cons_of_mem _ List.mem_cons_self), hww _ (List.mem_cons_of_mem _ (List.mem_cons_of_mem _ List.mem_cons_self))⟩ ⟨ms_blind, hrecv, ms_at hWd⟩ rfl rfl hsz rfl (by show 2 * 0 + _ ≤ 8; omega) (mj_dn hme hi rfl) ⟨hc, hsl⟩) (fun r er => ?_)
  rw [er, hlen]
  exact K
theorem mj_k_schar (F : mj_Fr p R s mm args meth c D pre base m b n) (hsz : ls.size = n) (hme : mj_ms[m]? = some (y, b, n, rt, o, ci)) {x a q1 q2 : Nat} {i : Int32} {v : Value} (hi : mj_ins m pc = some (.invokevirtual x)) (hcal : (mj_o m, x, 31, q1, q2) ∈ mj_ct) (ha : mj_el h a 900 i = some v) (hvl : ∀ q ∈ h[a]?, q.2.length < 1000) (hcat : (rest.map fun v => v.category).sum ≤ 8) (hR : mj_R D pre base s h H) (hS : va_S (fun q => base ≤ q) s.heap H locs) (hc : cells ≤ R.cells) (hsl : slots ≤ R.slots)
    (K : W p l e R s mm args below meth c H locs cells slots Q (F0 mm (pc + 3) ls (v :: rest))) : W p l e R s mm args below meth c H locs cells slots Q (F0 mm pc ls (.int i :: .ref (mj_ad pre base a) :: rest)) := by
  obtain ⟨hx, hb, hml, hown, hts, hK, hin, hfr, hlo, hbs⟩ := id F
  have hww := mj_cwm F hcal
  obtain ⟨vs, ha1, ha2, ha3⟩ := mj_el_inv ha
  obtain ⟨byt, adV, e1, e2, e3⟩ := (hR.2.2.2.1 a _ ha1).2.1 rfl
  dsimp only at e1
  have hlen : byt.length = vs.length := by rw [e1, List.length_map]
  have hl1 : byt.length < 1000 := by rw [hlen]; exact hvl _ ha1
  have hv : Value.int (byt.getD i.toNatClampNeg 0 &&& 255) = v := by
    rw [e1, List.getElem?_map] at ha3
    cases hq : byt[i.toNatClampNeg]? with
    | none => rw [hq] at ha3; cases ha3
    | some z =>
      rw [hq] at ha3
      cases ha3
      rw [List.getD_eq_getElem?_getD, hq, Option.getD_some, e2 z (List.mem_of_getElem? hq)]
  have hWd : ms_WdH byt (mj_ad pre base a) adV (fun q => base ≤ q) s H := ⟨e3, hR.2.2.2.2.2.2.1, hR.2.2.2.2.2.2.2⟩
  have hrecv : ∃ cellB : Cell, H[mj_ad pre base a]? = some cellB ∧ cellB.vm.isStatics = false ∧ s.vm.findClass "java/lang/String" = some cellB.cls := by
    obtain ⟨cell, g1, g2, g3, -⟩ := (e3.1 0 (by decide)).1
    exact ⟨cell, g1, g2, g3⟩
  refine vp_callSi (W.runV (Ts := mj_big) (own := mj_own (mj_o m)) (C := "java/lang/String") (b := mj_ad pre base a) (As := [.int i]) (rest := rest) ⟨hx, hb, hml, hown, hts⟩ (ms_charAt l byt (mj_ad pre base a) adV (fun q => base ≤ q) i (by rw [hlen]; exact ha2) hl1) ⟨callB_of 1 hts (ms_gcb (mj_b9 (show Cond.code mj_ySC ms_cSC 2 (some .char) ∈ mj_jw by decide +kernel))) rfl rfl rfl (hww _ (List.mem_cons_of_mem _ (List.mem_cons_of_mem _ (List.mem_cons_of_mem _ List.mem_cons_self)))) (hww _ List.mem_cons_self) ⟨by decide, by decide, by decide +kernel⟩ ⟨by show 4 + 1 ≤ _; omega, by show 8 + (2 + 11) + 4 * 25 ≤ _; omega⟩, hww _ (List.mem_cons_of_mem _ List.mem_cons_self), hww _ (List.mem_cons_of_mem _ (List.mem_cons_of_mem _ List.mem_cons_self))⟩ ⟨ms_blind, hrecv, ms_at hWd⟩ rfl rfl hsz rfl (by show 2 * 0 + _ ≤ 8; omega) (mj_dn hme hi rfl) ⟨hc, hsl⟩) (fun r er => ?_)
  rw [er, hv]
  exact K
theorem mj_cmp_eq {c : ClassFile.Cond} {x y : Int32} {A B : Nat} : (if mj_cmp c x y then A else B) = (match c with | .eq => if x = y then A else B | .ne => if x = y then B else A | .lt => if x < y then A else B | .ge => if y ≤ x then A else B | .gt => if y < x then A else B | .le => if x ≤ y then A else B) := by
  cases c <;> simp [mj_cmp]
end MJS
