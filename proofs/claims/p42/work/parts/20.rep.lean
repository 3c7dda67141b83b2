/-! small data beside the machine's heap -/
def mj_cv (ad : Nat → Nat) : Value → Value
  | .ref k => .ref (ad k)
  | v => v
theorem mj_cv_cat (ad : Nat → Nat) (v : Value) : (mj_cv ad v).category = v.category := by cases v <;> rfl
def mj_ad (pre : Nat → Nat) (base k : Nat) : Nat := if k < mj_n0 then pre k else base + (k - mj_n0)
/-- what an array of a kind holds -/
def mj_et (k : Nat) : FieldType := if k = 1000 then .int else if k = 1001 then .boolean else if k = 1005 then .long else .object (mj_nm (k - 1100))
/-- an array that can be read -/
def mj_wa (ad : Nat → Nat) (ty : FieldType) (vs : List Value) (a : Nat) (s : State) (H : Heap) : Prop := ∃ cell : Cell, H[a]? = some cell ∧ s.isArrayOf cell ty ∧ cell.vm ≠ .unknown ∧ vs.length ≤ cell.slots.size ∧ cell.slots.size.toInt32 = Int32.ofNat vs.length ∧ ∀ (j : Nat) (v : Value), vs[j]? = some v → cell.slots[j]? = some (mj_cv ad v)
/-- an array that was made here -/
def mj_ma (ad : Nat → Nat) (ty : FieldType) (vs : List Value) (a : Nat) (s : State) (H : Heap) : Prop := ∃ cA : ClassId, ArrOfT s cA ty ∧ va_RA s cA ty ∧ H[a]? = some (arrV cA vs.length (fun j => mj_cv ad (vs.getD j .null)))
/-- a String constant -/
def mj_sx (vs : List Value) (a : Nat) (A : Nat → Prop) (s : State) (H : Heap) : Prop := ∃ (byt : List Int32) (adV : Nat → Nat), vs = byt.map Value.int ∧ (∀ b ∈ byt, b &&& 255 = b) ∧ vk_S 1 [byt.length] [byt] (fun _ => a) adV A s H
def mj_at (D : va_G) (ad : Nat → Nat) (A : Nat → Prop) (s : State) (c : mj_C) (a : Nat) (H : Heap) : Prop :=
  (c.1 < 900 → va_at D mj_cl (a, .inr (c.1, c.2.map (mj_cv ad))) H) ∧ (c.1 = 900 → mj_sx c.2 a A s H) ∧ (1000 ≤ c.1 → mj_wa ad (mj_et c.1) c.2 a s H)
def mj_R (D : va_G) (pre : Nat → Nat) (base : Nat) (s : State) (h : mj_H) (H : Heap) : Prop :=
  mj_n0 ≤ h.length ∧ H.size = base + (h.length - mj_n0) ∧ (∀ k, k < mj_n0 → pre k < base) ∧
  (∀ (k : Nat) (c : mj_C), h[k]? = some c → mj_at D (mj_ad pre base) (fun q => base ≤ q) s c (mj_ad pre base k) H) ∧
  (∀ (k : Nat) (c : mj_C), mj_n0 ≤ k → h[k]? = some c → 1000 ≤ c.1 → mj_ma (mj_ad pre base) (mj_et c.1) c.2 (mj_ad pre base k) s H) ∧
  (∀ k, k < mj_sl0.length → va_Z (mj_s0 (k + 1)).1 (mj_s0 (k + 1)).2.1 (mj_s0 (k + 1)).2.2 (.ref (pre (k + 1))) (fun q => base ≤ q) s H) ∧
  va_Z "java/lang/String" "COMPACT_STRINGS" "Z" (.int 1) (fun q => base ≤ q) s H ∧ va_Zq "jdk/internal/util/Preconditions" "SIOOBE_FORMATTER" "Ljava/util/function/BiFunction;" (fun q => base ≤ q) s H
def mj_K (D : va_G) (pre : Nat → Nat) (s : State) : Prop :=
  va_K D mj_cl [] s ∧ (∀ w ∈ mj_nw, va_Nw w s) ∧ (∀ C ∈ mj_ao, va_AO C s) ∧ ∀ (j : Nat) (t : String × Nat × String), mj_tx[j]? = some t → vk_R t.1 t.2.1 t.2.2 (pre (1 + mj_sl0.length + j)) s
theorem mj_ad_old {pre : Nat → Nat} {base k : Nat} (h : k < mj_n0) : mj_ad pre base k = pre k := if_pos h
theorem mj_ad_new {pre : Nat → Nat} {base k : Nat} (h : mj_n0 ≤ k) : mj_ad pre base k = base + (k - mj_n0) := if_neg (Nat.not_lt.mpr h)
theorem mj_ad_ne {pre : Nat → Nat} {base k a : Nat} (hp : ∀ k, k < mj_n0 → pre k < base) (ha : mj_n0 ≤ a) (hk : k ≠ a) : mj_ad pre base k ≠ mj_ad pre base a := by
  rw [mj_ad_new ha]
  by_cases h : k < mj_n0
  · rw [mj_ad_old h]
    have := hp k h
    omega
  · rw [mj_ad_new (Nat.not_lt.mp h)]
    omega
theorem mj_wa.kept {ad : Nat → Nat} {ty : FieldType} {vs : List Value} {a : Nat} {s : State} {H H1 : Heap} (h : mj_wa ad ty vs a s H) (hq : H1[a]? = H[a]?) : mj_wa ad ty vs a s H1 := by
  obtain ⟨cell, h1, h2⟩ := h
  exact ⟨cell, by rw [hq]; exact h1, h2⟩
theorem mj_ma.kept {ad : Nat → Nat} {ty : FieldType} {vs : List Value} {a : Nat} {s : State} {H H1 : Heap} (h : mj_ma ad ty vs a s H) (hq : H1[a]? = H[a]?) : mj_ma ad ty vs a s H1 := by
  obtain ⟨cA, h1, h2, h3⟩ := h
  exact ⟨cA, h1, h2, by rw [hq]; exact h3⟩
theorem mj_ma.wa {ad : Nat → Nat} {ty : FieldType} {vs : List Value} {a : Nat} {s : State} {H : Heap} (h : mj_ma ad ty vs a s H) : mj_wa ad ty vs a s H := by
  obtain ⟨cA, h1, h2, h3⟩ := h
  refine ⟨_, h3, h1 _ _, (fun q => by cases q), (by rw [arrV_size]; exact Nat.le_refl _), (by rw [arrV_size]), fun j v hv => ?_⟩
  have hj : j < vs.length := (List.getElem?_eq_some_iff.mp hv).1
  rw [arrV_read _ _ hj]
  simp [List.getD_eq_getElem?_getD, hv]
theorem mj_at.kept {D : va_G} {ad : Nat → Nat} {A : Nat → Prop} {s : State} {c : mj_C} {a : Nat} {H H1 : Heap} (h : mj_at D ad A s c a H) (hq : H1[a]? = H[a]?) (hA : ∀ q : Nat, q < H.size → ¬ A q → H1[q]? = H[q]?) : mj_at D ad A s c a H1 := by
  refine ⟨fun hc => (h.1 hc).kept hq, fun hc => ?_, fun hc => (h.2.2 hc).kept hq⟩
  obtain ⟨byt, adV, e1, e2, e3⟩ := h.2.1 hc
  exact ⟨byt, adV, e1, e2, e3.kept hA⟩
theorem mj_at.moved {D : va_G} {ad : Nat → Nat} {A : Nat → Prop} {s U : State} {c : mj_C} {a : Nat} {H : Heap} (hv : s.vm.Alike U.vm) (h : mj_at D ad A s c a H) : mj_at D ad A U c a H := by
  refine ⟨h.1, fun hc => ?_, fun hc => ?_⟩
  · obtain ⟨byt, adV, e1, e2, e3⟩ := h.2.1 hc
    exact ⟨byt, adV, e1, e2, e3.moved hv⟩
  · obtain ⟨cell, h1, h2, h3⟩ := h.2.2 hc
    exact ⟨cell, h1, State.isArrayOf_alike hv h2, h3⟩
theorem mj_R.moved {D : va_G} {pre : Nat → Nat} {base : Nat} {s U : State} {h : mj_H} {H : Heap} (hv : s.vm.Alike U.vm) (hR : mj_R D pre base s h H) : mj_R D pre base U h H := by
  obtain ⟨h1, h2, h3, h4, h5, h6, h7, h8⟩ := hR
  refine ⟨h1, h2, h3, fun k c hc => (h4 k c hc).moved hv, fun k c hk hc hl => ?_, fun k hk => (h6 k hk).moved hv, h7.moved hv, h8.moved hv⟩
  obtain ⟨cA, g1, g2, g3⟩ := h5 k c hk hc hl
  exact ⟨cA, arrOfT_moved hv g1, g2.moved hv, g3⟩
def mj_isN : Cond → Bool
  | .methodLinkNest _ _ _ _ => true
  | _ => false
theorem mj_nwok : ∀ w ∈ mj_nw, ∃ (a : String) (i : Nat) (x : MethodName) (hh : String), w = .methodLinkNest a i x hh := by
  have h : ∀ w ∈ mj_nw, mj_isN w = true := by decide +kernel
  intro w hw
  have := h w hw
  cases w with
  | methodLinkNest a i x hh => exact ⟨a, i, x, hh, rfl⟩
  | _ => cases this
theorem mj_K.warm {D : va_G} {pre : Nat → Nat} {s U : State} (hW : s.WarmedH U.vm) (h : mj_K D pre s) : mj_K D pre U := by
  obtain ⟨h1, h2, h3, h4⟩ := h
  refine ⟨h1.moved hW.alike, fun w hw => ?_, fun C hC => (h3 C hC).moved hW.alike, fun j t ht => (h4 j t ht).warm hW⟩
  have hz := h2 w hw
  obtain ⟨a, i, x, hh, rfl⟩ := mj_nwok w hw
  exact hz.warmM hW
theorem mj_K.same {D : va_G} {pre : Nat → Nat} {s U : State} (hv : U.vm = s.vm) (h : mj_K D pre s) : mj_K D pre U := by
  obtain ⟨h1, h2, h3, h4⟩ := h
  have ha : s.vm.Alike U.vm := by rw [hv]; exact Vm.Alike.refl _
  refine ⟨h1.moved ha, fun w hw => ?_, fun C hC => (h3 C hC).moved ha, fun j t ht => (h4 j t ht).same hv⟩
  have hz := h2 w hw
  obtain ⟨a, i, x, hh, rfl⟩ := mj_nwok w hw
  exact hz.same rfl hv.symm
/-- one cell is written -/
theorem mj_R.set {D : va_G} {pre : Nat → Nat} {base : Nat} {s : State} {h : mj_H} {H H1 : Heap} (hR : mj_R D pre base s h H) {a : Nat} {c : mj_C} (ha : mj_n0 ≤ a) (hl : a < h.length) (hz : H1.size = H.size) (oq : ∀ q : Nat, q ≠ mj_ad pre base a → H1[q]? = H[q]?)
    (hc : mj_at D (mj_ad pre base) (fun q => base ≤ q) s c (mj_ad pre base a) H1) (hm : 1000 ≤ c.1 → mj_ma (mj_ad pre base) (mj_et c.1) c.2 (mj_ad pre base a) s H1) : mj_R D pre base s (h.set a c) H1 := by
  obtain ⟨h1, h2, h3, h4, h5, h6, h7, h8⟩ := hR
  have hA : ∀ q : Nat, q < H.size → ¬ base ≤ q → H1[q]? = H[q]? := fun q _ hq => oq q (by rw [mj_ad_new ha]; omega)
  refine ⟨by rw [List.length_set]; exact h1, by rw [List.length_set, hz]; exact h2, h3, fun k d hd => ?_, fun k d hk hd hd1 => ?_, fun k hk => (h6 k hk).kept hA, h7.kept hA, h8.kept hA⟩
  · by_cases e : k = a
    · subst e
      rw [List.getElem?_set_self hl] at hd
      cases hd
      exact hc
    · rw [List.getElem?_set_ne (Ne.symm e)] at hd
      exact (h4 k d hd).kept (oq _ (mj_ad_ne h3 ha e)) hA
  · by_cases e : k = a
    · subst e
      rw [List.getElem?_set_self hl] at hd
      cases hd
      exact hm hd1
    · rw [List.getElem?_set_ne (Ne.symm e)] at hd
      exact (h5 k d hk hd hd1).kept (oq _ (mj_ad_ne h3 ha e))
/-- one cell is made -/
theorem mj_R.push {D : va_G} {pre : Nat → Nat} {base : Nat} {s : State} {h : mj_H} {H H1 : Heap} (hR : mj_R D pre base s h H) {c : mj_C} (hz : H1.size = H.size + 1) (oq : ∀ q : Nat, q < H.size → H1[q]? = H[q]?)
    (hc : mj_at D (mj_ad pre base) (fun q => base ≤ q) s c (mj_ad pre base h.length) H1) (hm : 1000 ≤ c.1 → mj_ma (mj_ad pre base) (mj_et c.1) c.2 (mj_ad pre base h.length) s H1) : mj_R D pre base s (h ++ [c]) H1 := by
  obtain ⟨h1, h2, h3, h4, h5, h6, h7, h8⟩ := hR
  have hlt : ∀ k, k < h.length → mj_ad pre base k < H.size := by
    intro k hk
    by_cases e : k < mj_n0
    · rw [mj_ad_old e]
      have := h3 k e
      omega
    · rw [mj_ad_new (Nat.not_lt.mp e)]
      omega
  refine ⟨by rw [List.length_append]; exact Nat.le_trans h1 (Nat.le_add_right _ _), by rw [List.length_append, hz]; simp only [List.length_cons, List.length_nil]; omega, h3, fun k d hd => ?_, fun k d hk hd hd1 => ?_, fun k hk => (h6 k hk).kept (fun q hq _ => oq q hq), h7.kept (fun q hq _ => oq q hq), h8.kept (fun q hq _ => oq q hq)⟩
  · by_cases e : k < h.length
    · rw [List.getElem?_append_left e] at hd
      exact (h4 k d hd).kept (oq _ (hlt k e)) (fun q hq _ => oq q hq)
    · have e2 : k = h.length := by
        have := (List.getElem?_eq_some_iff.mp hd).1
        rw [List.length_append] at this
        simp only [List.length_cons, List.length_nil] at this
        omega
      subst e2
      rw [List.getElem?_append_right (Nat.le_refl _), Nat.sub_self] at hd
      cases hd
      exact hc
  · by_cases e : k < h.length
    · rw [List.getElem?_append_left e] at hd
      exact (h5 k d hk hd hd1).kept (oq _ (hlt k e))
    · have e2 : k = h.length := by
        have := (List.getElem?_eq_some_iff.mp hd).1
        rw [List.length_append] at this
        simp only [List.length_cons, List.length_nil] at this
        omega
      subst e2
      rw [List.getElem?_append_right (Nat.le_refl _), Nat.sub_self] at hd
      cases hd
      exact hm hd1
theorem mj_R.top {D : va_G} {pre : Nat → Nat} {base : Nat} {s : State} {h : mj_H} {H : Heap} (hR : mj_R D pre base s h H) : mj_ad pre base h.length = H.size := by
  rw [mj_ad_new hR.1, hR.2.1]
/-! the locals -/
def mj_lr (ad : Nat → Nat) (lv : mj_L) (ls : Array Slot) (n : Nat) : Prop := ls.size = n ∧ lv_wf ls ∧ lv.length = n ∧ ∀ (i : Nat) (v : Value), mj_ld lv i = some v → ls[i]? = some (.val (mj_cv ad v))
/-- the listed values that a row of the kit speaks of -/
def mj_ll0 (ad : Nat → Nat) (lv : mj_L) : List (Nat × Value) := (List.range lv.length).filterMap fun i => (mj_ld lv i).map fun v => (i, mj_cv ad v)
theorem mj_ll0_mem {ad : Nat → Nat} {lv : mj_L} {i : Nat} {v : Value} (h : mj_ld lv i = some v) : (i, mj_cv ad v) ∈ mj_ll0 ad lv := by
  have hi : i < lv.length := by
    unfold mj_ld at h
    cases hl : lv[i]? with
    | none => rw [hl] at h; cases h
    | some x => exact (List.getElem?_eq_some_iff.mp hl).1
  exact List.mem_filterMap.mpr ⟨i, List.mem_range.mpr hi, by rw [h]; rfl⟩
theorem mj_lr.has {ad : Nat → Nat} {lv : mj_L} {ls : Array Slot} {n : Nat} (h : mj_lr ad lv ls n) : lv_has ls n (mj_ll0 ad lv) := by
  refine ⟨h.1, h.2.1, fun q hq => ?_⟩
  obtain ⟨i, -, hi⟩ := List.mem_filterMap.mp hq
  cases hl : mj_ld lv i with
  | none => rw [hl] at hi; cases hi
  | some v =>
    rw [hl] at hi
    cases hi
    exact h.2.2.2 i v hl
theorem mj_ld_set {lv : mj_L} {i j : Nat} {x : Option Value} : mj_ld (lv.set i x) j = if i = j ∧ j < lv.length then x else mj_ld lv j := by
  unfold mj_ld
  rw [List.getElem?_set]
  by_cases h : i = j
  · subst h
    by_cases hl : i < lv.length
    · simp [hl]
      cases x <;> rfl
    · simp [hl]
  · simp [h]
theorem mj_clr_len (lv : mj_L) (i : Nat) : (mj_clr lv i).length = lv.length := by
  unfold mj_clr
  cases i with
  | zero => rfl
  | succ j =>
    dsimp only
    split
    · split
      · exact List.length_set ..
      · rfl
    · rfl
theorem mj_clr_ld {lv : mj_L} {i j : Nat} {v : Value} (h : mj_ld (mj_clr lv i) j = some v) : mj_ld lv j = some v ∧ ¬ (j + 1 = i ∧ v.category = 2) := by
  unfold mj_clr at h
  cases i with
  | zero => exact ⟨h, fun q => by omega⟩
  | succ k =>
    dsimp only at h
    cases hk : mj_ld lv k with
    | none =>
      rw [hk] at h
      refine ⟨h, fun q => ?_⟩
      have e : j = k := by omega
      rw [e, hk] at h
      cases h
    | some w =>
      rw [hk] at h
      dsimp only at h
      by_cases hc : w.category = 2
      · rw [if_pos hc, mj_ld_set] at h
        by_cases e : k = j
        · subst e
          by_cases hl : k < lv.length
          · rw [if_pos ⟨rfl, hl⟩] at h
            cases h
          · rw [if_neg (fun q => hl q.2)] at h
            exfalso
            apply hl
            unfold mj_ld at h
            cases hq : lv[k]? with
            | none => rw [hq] at h; cases h
            | some x => exact (List.getElem?_eq_some_iff.mp hq).1
        · rw [if_neg (fun q => e q.1)] at h
          exact ⟨h, fun q => e (by omega)⟩
      · rw [if_neg hc] at h
        refine ⟨h, fun q => ?_⟩
        have e : j = k := by omega
        rw [e, hk] at h
        cases h
        exact hc q.2
/-- a store of one word, as the kit's rows give it -/
theorem mj_lr.s1 {ad : Nat → Nat} {lv : mj_L} {ls' : Array Slot} {n i : Nat} {v : Value} (hn : lv.length = n) (h : lv_has ls' n ((i, mj_cv ad v) :: (mj_ll0 ad lv).filter (fun q => !(q.1 == i) && !(q.1 + 1 == i && q.2.category == 2)))) : mj_lr ad (mj_s1 lv i v) ls' n := by
  refine ⟨h.1, h.2.1, by unfold mj_s1; rw [List.length_set, mj_clr_len]; exact hn, fun j w hw => ?_⟩
  unfold mj_s1 at hw
  rw [mj_ld_set] at hw
  by_cases e : i = j
  · subst e
    by_cases hl : i < (mj_clr lv i).length
    · rw [if_pos ⟨rfl, hl⟩] at hw
      cases hw
      exact h.2.2 _ List.mem_cons_self
    · exfalso
      rw [if_neg (fun q => hl q.2)] at hw
      have := (mj_clr_ld hw).1
      rw [mj_clr_len] at hl
      apply hl
      unfold mj_ld at this
      cases hq : lv[i]? with
      | none => rw [hq] at this; cases this
      | some x => exact (List.getElem?_eq_some_iff.mp hq).1
  · rw [if_neg (fun q => e q.1)] at hw
    obtain ⟨h1, h2⟩ := mj_clr_ld hw
    refine h.2.2 (j, mj_cv ad w) (List.mem_cons_of_mem _ (List.mem_filter.mpr ⟨mj_ll0_mem h1, ?_⟩))
    have e1 : (j == i) = false := by simp; omega
    simp only [e1, Bool.not_false, Bool.true_and, Bool.not_eq_true', Bool.and_eq_false_iff, beq_eq_false_iff_ne, ne_eq]
    rw [mj_cv_cat]
    by_cases hj : j + 1 = i
    · exact Or.inr fun q => h2 ⟨hj, q⟩
    · exact Or.inl hj
theorem mj_lr.s2 {ad : Nat → Nat} {lv : mj_L} {ls' : Array Slot} {n i : Nat} {v : Value} (hn : lv.length = n) (h : lv_has ls' n ((i, mj_cv ad v) :: (mj_ll0 ad lv).filter (fun q => !(q.1 == i) && (!(q.1 == i + 1) && !(q.1 + 1 == i && q.2.category == 2))))) : mj_lr ad (mj_s2 lv i v) ls' n := by
  refine ⟨h.1, h.2.1, by unfold mj_s2; rw [List.length_set, List.length_set, mj_clr_len]; exact hn, fun j w hw => ?_⟩
  unfold mj_s2 at hw
  rw [mj_ld_set, List.length_set] at hw
  by_cases e0 : i + 1 = j
  · subst e0
    by_cases hl : i + 1 < (mj_clr lv i).length
    · rw [if_pos ⟨rfl, hl⟩] at hw
      cases hw
    · exfalso
      rw [if_neg (fun q => hl q.2), mj_ld_set, if_neg (fun q => by omega)] at hw
      have := (mj_clr_ld hw).1
      rw [mj_clr_len] at hl
      apply hl
      unfold mj_ld at this
      cases hq : lv[i + 1]? with
      | none => rw [hq] at this; cases this
      | some x => exact (List.getElem?_eq_some_iff.mp hq).1
  · rw [if_neg (fun q => e0 q.1), mj_ld_set] at hw
    by_cases e : i = j
    · subst e
      by_cases hl : i < (mj_clr lv i).length
      · rw [if_pos ⟨rfl, hl⟩] at hw
        cases hw
        exact h.2.2 _ List.mem_cons_self
      · exfalso
        rw [if_neg (fun q => hl q.2)] at hw
        have := (mj_clr_ld hw).1
        rw [mj_clr_len] at hl
        apply hl
        unfold mj_ld at this
        cases hq : lv[i]? with
        | none => rw [hq] at this; cases this
        | some x => exact (List.getElem?_eq_some_iff.mp hq).1
    · rw [if_neg (fun q => e q.1)] at hw
      obtain ⟨h1, h2⟩ := mj_clr_ld hw
      refine h.2.2 (j, mj_cv ad w) (List.mem_cons_of_mem _ (List.mem_filter.mpr ⟨mj_ll0_mem h1, ?_⟩))
      have e1 : (j == i) = false := by simp; omega
      have e2 : (j == i + 1) = false := by simp; omega
      simp only [e1, e2, Bool.not_false, Bool.true_and, Bool.not_eq_true', Bool.and_eq_false_iff, beq_eq_false_iff_ne, ne_eq]
      rw [mj_cv_cat]
      by_cases hj : j + 1 = i
      · exact Or.inr fun q => h2 ⟨hj, q⟩
      · exact Or.inl hj
