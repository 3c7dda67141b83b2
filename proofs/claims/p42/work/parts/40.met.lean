/-! a run of the small machine is a contract of the machine -/
set_option maxRecDepth 100000 in
theorem mj_msok : ∀ m, m < mj_ms.length → (mj_y m).cls = mj_own (mj_o m) ∧ plainName (mj_y m).cls = true ∧ (mj_ini m = 0 ∨ (mj_y m).name = "<init>") ∧ ((mj_y m).cls ≠ "java/lang/invoke/MethodHandle" ∧ (mj_y m).cls ≠ "java/lang/invoke/VarHandle") ∧ mj_nl m ≤ 30 := by decide +kernel
set_option maxRecDepth 100000 in
theorem mj_ctok : ∀ q ∈ mj_ct, q.2.2.1 = 0 ∨ 5 ≤ q.2.2.1 ∨ (1 ≤ q.2.2.2.1 ∧ q.2.2.2.1 < mj_ms.length ∧ (parseMethodDescriptor (mj_y q.2.2.2.1).desc).map (fun d => d.parameters.length) = some q.2.2.2.2 ∧ (q.2.2.1 = 2 → mj_cls q.2.2.2.1 < mj_nc ∧ mj_nm (mj_cls q.2.2.2.1) = (mj_y q.2.2.2.1).cls) ∧ (3 ≤ q.2.2.1 → (mj_y q.2.2.2.1).name = "<init>") ∧ (q.2.2.1 = 4 → Cond.methodLinkNest (mj_own q.1) q.2.1 (mj_y q.2.2.2.1) "ForestOfPoles" ∈ mj_nw)) := by decide +kernel
set_option maxRecDepth 100000 in
theorem mj_iret : ∀ m, m < mj_ms.length → (mj_y m).name = "<init>" → mj_ret m = none := by decide +kernel
theorem mj_gbb : GoodIn mj_big mj_big := fun w hw => ⟨hw, (mj_g_big w hw).2⟩
theorem mj_code_in {m : Nat} {y : MethodName} {b : ByteArray} {n : Nat} {rt : Option FieldType} {o ci : Nat} (hm : 1 ≤ m) (hme : mj_ms[m]? = some (y, b, n, rt, o, ci)) : Cond.code y b n rt ∈ mj_big := by
  refine mj_b1 (List.mem_map.mpr ⟨(y, b, n, rt, o, ci), List.mem_of_getElem? (i := m - 1) ?_, rfl⟩)
  rw [List.getElem?_drop, show 1 + (m - 1) = m by omega]
  exact hme
theorem mj_gcb {m : Nat} {y : MethodName} {b : ByteArray} {n : Nat} {rt : Option FieldType} {o ci : Nat} (hm : 1 ≤ m) (hme : mj_ms[m]? = some (y, b, n, rt, o, ci)) : GoodIn mj_big (Cond.code y b n rt :: mj_big) := fun w hw => (List.mem_cons.mp hw).elim (fun e => by rw [e]; exact mj_gbb _ (mj_code_in hm hme)) (mj_gbb w)
theorem mj_y_of {m : Nat} {y : MethodName} {b : ByteArray} {n : Nat} {rt : Option FieldType} {o ci : Nat} (hme : mj_ms[m]? = some (y, b, n, rt, o, ci)) : mj_y m = y ∧ mj_nl m = n ∧ mj_ret m = rt := by
  refine ⟨?_, ?_, ?_⟩
  · unfold mj_y; rw [hme]
  · unfold mj_nl; rw [hme]
  · unfold mj_ret; rw [hme]
/-! entry -/
theorem mj_av_cons (v : Value) (r : List Value) : mj_av (v :: r) = if v.category = 2 then some v :: none :: mj_av r else some v :: mj_av r := rfl
theorem mj_av_len (ad : Nat → Nat) : ∀ as : List Value, (lg_sl (as.map (mj_cv ad))).length = (mj_av as).length
  | [] => rfl
  | v :: r => by
    have ih := mj_av_len ad r
    unfold lg_sl at ih ⊢
    rw [List.map_cons, List.flatMap_cons, List.length_append, ih, mj_av_cons, mj_cv_cat]
    split <;> simp only [List.length_cons, List.length_nil] <;> omega
theorem mj_av_arg (ad : Nat → Nat) : ∀ (as : List Value) (k j i : Nat) (v : Value), mj_ld (mj_av as ++ List.replicate k none) i = some v → (j + i, mj_cv ad v) ∈ lv_args j (as.map (mj_cv ad))
  | [], k, j, i, v, h => by
    exfalso
    unfold mj_ld mj_av at h
    rw [List.nil_append, List.getElem?_replicate] at h
    split at h
    · rename_i q e
      split at e <;> cases e
    · cases h
  | w :: r, k, j, i, v, h => by
    have ih := mj_av_arg ad r k
    rw [mj_av_cons] at h
    rw [List.map_cons]
    unfold lv_args
    rw [mj_cv_cat]
    by_cases hw : w.category = 2
    · rw [if_pos hw] at h ⊢
      match i, h with
      | 0, h => cases h; exact List.mem_cons_self
      | 1, h => cases h
      | i + 2, h =>
        have := ih (j + 2) i v h
        rw [show j + 2 + i = j + (i + 2) by omega] at this
        exact List.mem_cons_of_mem _ this
    · rw [if_neg hw] at h ⊢
      match i, h with
      | 0, h => cases h; exact List.mem_cons_self
      | i + 1, h =>
        have := ih (j + 1) i v h
        rw [show j + 1 + i = j + (i + 1) by omega] at this
        exact List.mem_cons_of_mem _ this
theorem mj_ent_lr {ad : Nat → Nat} {n : Nat} {as : List Value} {lv0 : mj_L} (h : mj_ent n as = some lv0) : mj_lr ad lv0 ((lg_sl (as.map (mj_cv ad)) ++ List.replicate (n - (lg_sl (as.map (mj_cv ad))).length) Slot.unset).toArray) n := by
  unfold mj_ent at h
  split at h
  · rename_i hl
    cases h
    have h1 := lv_entry (as.map (mj_cv ad)) (n := n) (by rw [mj_av_len]; exact hl)
    refine ⟨h1.1, h1.2.1, by rw [List.length_append, List.length_replicate]; omega, fun i v hv => ?_⟩
    have := mj_av_arg ad as _ 0 i v hv
    rw [Nat.zero_add] at this
    exact h1.2.2 _ this
  · cases h
/-! the contract -/
def mj_Pc (D : va_G) (pre : Nat → Nat) (base : Nat) (as : List Value) (h : mj_H) : Array Value → State → Prop := va_Pc (as.map (mj_cv (mj_ad pre base))) (fun U => mj_R D pre base U h U.heap ∧ mj_K D pre U ∧ base ≤ U.heap.size)
def mj_Qc (D : va_G) (pre : Nat → Nat) (base : Nat) (r : Option Value) (h' : mj_H) : Array Value → State → Outcome → State → Prop := fun _ st oc t => (oc = .returned (r.map (mj_cv (mj_ad pre base))) ∧ mj_R D pre base t h' t.heap) ∧ va_F (fun q => base ≤ q) st t
def mj_rm (d : Nat) (h h' : mj_H) : Room := { frames := d + 6, cells := h'.length - h.length, slots := mj_hsz h' - mj_hsz h, locals := d * 60 + 200 }
/-- from a place in a method's code on -/
def mj_Wk (d m pc : Nat) (lv : mj_L) (st : List Value) (h : mj_H) (r : Option Value) (h' : mj_H) : Prop :=
  ∀ (l : Launch) (D : va_G) (pre : Nat → Nat) (base : Nat) (y : MethodName) (b : ByteArray) (n : Nat) (rt : Option FieldType) (o ci : Nat), mj_ms[m]? = some (y, b, n, rt, o, ci) →
  ∀ (p : Program) (e : Env) (R : Room) (s : State) (mm : MethodId) (args : Array Value) (below : List Frame) (meth : Method) (c : Code) (Q : State → Prop) (H : Heap) (locs : List Loc) (ls : Array Slot) (cells slots : Nat),
  mj_Fr p R s mm args meth c D pre base m b n → d + 6 ≤ R.frames → d * 60 + 200 ≤ R.locals → mj_R D pre base s h H → va_S (fun q => base ≤ q) s.heap H locs → mj_lr (mj_ad pre base) lv ls n →
  cells + (h'.length - h.length) ≤ R.cells → slots + (mj_hsz h' - mj_hsz h) ≤ R.slots →
  (∀ (H' : Heap) (locs' : List Loc) (ls' : Array Slot) (pc' : Nat) (i : Instr) (st' : List Value), mj_ins m pc' = some i → mj_end m i st' = some r → mj_R D pre base s h' H' → va_S (fun q => base ≤ q) s.heap H' locs' → W p l e R s mm args below meth c H' locs' (cells + (h'.length - h.length)) (slots + (mj_hsz h' - mj_hsz h)) Q (F0 mm pc' ls' (st'.map (mj_cv (mj_ad pre base))))) →
  W p l e R s mm args below meth c H locs cells slots Q (F0 mm pc ls (st.map (mj_cv (mj_ad pre base))))
theorem mj_met {d m : Nat} {as : List Value} {lv0 : mj_L} {h h' : mj_H} {r : Option Value} (hm : 1 ≤ m) {y : MethodName} {b : ByteArray} {n : Nat} {rt : Option FieldType} {o ci : Nat} (hme : mj_ms[m]? = some (y, b, n, rt, o, ci)) (hent : mj_ent (mj_nl m) as = some lv0) (hw : mj_Wk d m 0 lv0 [] h r h') (l : Launch) (D : va_G) (pre : Nat → Nat) (base : Nat) :
    Met l y (Cond.code y b n rt :: mj_big) (mj_rm d h h') (mj_Pc D pre base as h) (mj_Qc D pre base r h') (h'.length - h.length) (mj_hsz h' - mj_hsz h) (fun q => base ≤ q) := by
  obtain ⟨ey, en, er⟩ := mj_y_of hme
  obtain ⟨t1, t2, t3, t4, t5⟩ := mj_msok m (mj_ini_len hme)
  rw [ey] at t1 t2 t3 t4
  rw [en] at hent
  refine Met.ofW (cc := b) (maxL := n) (ret := rt) t2 rfl ?_
  intro p e s mm args below meth c s₁ B hml hv
  obtain ⟨rfl, hR, hK, hbs⟩ := hv
  have hts := atoms_spec (ws := Cond.code y b n rt :: mj_big) B.pre
  have hown : s.vm.findClass (mj_own (mj_o m)) = some mm.cls := by
    rw [← t1]
    exact findClass_of_methodNamed B.named
  have hr := B.returns
  have hb := B.bytes
  have hx := B.exec
  have hlocks := B.notSynchronized
  have F : mj_Fr p (headSpec (Cond.code y b n rt :: mj_big) (mj_rm d h h')).room s mm (as.map (mj_cv (mj_ad pre base))).toArray meth c D pre base m b n := by
    refine ⟨hx, hb, hml, hown, fun w hw => hts w (List.mem_cons_of_mem _ hw), hK, fun hi => ?_, Nat.le_add_left 6 d, ?_, hbs⟩
    · rcases t3 with z | z
      · exact absurd z hi
      · rw [← z]
        exact (name_of_methodNamed B.named B.method).1
    · show 200 ≤ d * 60 + 200
      omega
  rw [lg_entry_eq]
  refine hw l D pre base y b n rt o ci hme p e _ s mm _ below meth c _ s.heap [] _ 0 0 F (Nat.le_refl _) (Nat.le_refl _) hR va_S.rf (mj_ent_lr hent) (by rw [Nat.zero_add]; exact Nat.le_refl _) (by rw [Nat.zero_add]; exact Nat.le_refl _) ?_
  intro H' locs' ls' pc' i st' hi he hR' hS'
  rw [Nat.zero_add, Nat.zero_add]
  have hq : ∀ (t : State), t.heap = H' → s.WarmedH t.vm → mj_R D pre base t h' t.heap := fun t ht hW => by rw [ht]; exact hR'.moved hW.alike
  unfold mj_end at he
  split at he
  · split at he
    · rename_i e1
      cases he
      rw [er] at e1
      exact W.vret hx hb (by rw [hr, e1]) (fun t ht hW => ⟨⟨rfl, hq t ht hW⟩, hS'.F ht⟩) hS'.2.2 (mj_dn hme hi rfl) hlocks
    · cases he
  · split at he
    · rename_i ty e1
      split at he
      · rename_i hnar
        cases he
        rw [er] at e1
        exact W.zret hx hb (by rw [hr, e1]) hnar (fun t ht hW => ⟨⟨rfl, hq t ht hW⟩, hS'.F ht⟩) hS'.2.2 (mj_dn hme hi rfl) hlocks
      · cases he
    · cases he
  · split at he
    · rename_i e1
      cases he
      rw [er] at e1
      exact W.lret hx hb (by rw [hr, e1]) (fun t ht hW => ⟨⟨rfl, hq t ht hW⟩, hS'.F ht⟩) hS'.2.2 (mj_dn hme hi rfl) hlocks
    · cases he
  · split at he
    · rename_i e1
      cases he
      rw [er] at e1
      exact W.aret hx hb (by rw [hr, e1]) (Or.inl ⟨_, rfl⟩) (Or.inr ⟨_, rfl⟩) (fun t ht hW => ⟨⟨rfl, hq t ht hW⟩, hS'.F ht⟩) hS'.2.2 (mj_dn hme hi rfl) hlocks
    · cases he
  · cases he
section MJV
variable {p : Program} {l : Launch} {e : Env} {R : Room} {s : State} {mm : MethodId} {args : Array Value} {below : List Frame} {meth : Method} {c : Code} {H : Heap} {locs : List Loc} {cells slots mc ms : Nat} {Q : State → Prop} {D : va_G} {pre : Nat → Nat} {base pc : Nat} {ls : Array Slot} {rest st0 : List Value} {a : Array Value} {r : Option Value} {h' : mj_H}
theorem mj_callW (hr : va_Run p l e R s mm args below meth c H locs cells slots mc ms (F0 mm pc ls st0) rest (mj_Qc D pre base r h' a) (fun q => base ≤ q)) (hS : va_S (fun q => base ≤ q) s.heap H locs)
    (kk : ∀ (H1 : Heap) (locs1 : List Loc), mj_R D pre base s h' H1 → va_S (fun q => base ≤ q) s.heap H1 locs1 → W p l e R s mm args below meth c H1 locs1 (cells + mc) (slots + ms) Q (F0 mm (pc + 3) ls ((r.map (mj_cv (mj_ad pre base))).toList ++ rest))) : W p l e R s mm args below meth c H locs cells slots Q (F0 mm pc ls st0) := by
  intro T hT X
  obtain ⟨v, st₀, t, T', L, h0, X', hL, e1, e2, ⟨⟨hv, hb⟩, hz, hk⟩, st⟩ := hr T hT X
  cases hv
  rw [h0] at hz hk
  have hal : s.vm.Alike t.vm := by rw [← e2]; exact X'.warmed.alike
  obtain ⟨t2, a1, b1⟩ := kk T'.heap (locs ++ L) (by rw [e1]; exact hb.moved hal.symm)
    ⟨Nat.le_trans hS.1 (by rw [e1]; exact hz), fun q h1 h2 => by rw [e1, hk q (Nat.lt_of_lt_of_le h1 hS.1) h2]; exact hS.2.1 q h1 h2, fun q hq => by
      rcases List.mem_append.mp hq with h | h
      · exact hS.2.2 q h
      · exact hL q h⟩ T' rfl X'
  exact ⟨t2, st t2 a1, b1⟩
theorem mj_Pc_blind {as : List Value} {h : mj_H} : FrameBlind (mj_Pc D pre base as h) := by
  intro a U g mk q
  obtain ⟨q0, q1, q2, q3⟩ := q
  exact ⟨q0, q1.moved (Vm.Alike.refl U.vm), mj_K.same (s := U) (U := U.calling g mk a) rfl q2, q3⟩
end MJV
