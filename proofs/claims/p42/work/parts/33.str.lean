/-! length() and charAt(k) of a String constant: the JDK's own methods -/
def ms_Wd (byt : List Int32) (a : Nat) (adV : Nat → Nat) (A : Nat → Prop) (U : State) : Prop := vk_S 1 [byt.length] [byt] (fun _ => a) adV A U U.heap ∧ va_Z "java/lang/String" "COMPACT_STRINGS" "Z" (.int 1) A U U.heap ∧ va_Zq "jdk/internal/util/Preconditions" "SIOOBE_FORMATTER" "Ljava/util/function/BiFunction;" A U U.heap
def ms_rm (f : Nat) : Room := { frames := f, cells := 0, slots := 0, locals := f * 25 }
def ms_yCo : MethodName := ⟨"java/lang/String", "coder", "()B"⟩
def ms_yLa : MethodName := ⟨"java/lang/String", "isLatin1", "()Z"⟩
def ms_yLC : MethodName := ⟨"java/lang/StringLatin1", "charAt", "([BI)C"⟩
def ms_yCI : MethodName := ⟨"java/lang/String", "checkIndex", "(II)V"⟩
def ms_yPI : MethodName := ⟨"jdk/internal/util/Preconditions", "checkIndex", "(IILjava/util/function/BiFunction;)I"⟩
theorem ms_blind {byt : List Int32} {a : Nat} {adV : Nat → Nat} {A : Nat → Prop} {as : List Value} : FrameBlind (va_Pc as (ms_Wd byt a adV A)) := by
  intro x U g mk q
  obtain ⟨q0, q1, q2, q3⟩ := q
  exact ⟨q0, q1.moved (Vm.Alike.refl U.vm), q2.moved (Vm.Alike.refl U.vm), q3.moved (Vm.Alike.refl U.vm)⟩
def ms_WdH (byt : List Int32) (a : Nat) (adV : Nat → Nat) (A : Nat → Prop) (U : State) (H : Heap) : Prop := vk_S 1 [byt.length] [byt] (fun _ => a) adV A U H ∧ va_Z "java/lang/String" "COMPACT_STRINGS" "Z" (.int 1) A U H ∧ va_Zq "jdk/internal/util/Preconditions" "SIOOBE_FORMATTER" "Ljava/util/function/BiFunction;" A U H
theorem ms_at {byt : List Int32} {a : Nat} {adV : Nat → Nat} {A : Nat → Prop} {s : State} {H : Heap} {as : List Value} (h : ms_WdH byt a adV A s H) : ∀ U : State, U.heap = H → s.WarmedH U.vm → va_Pc as (ms_Wd byt a adV A) as.toArray U := by
  intro U hU hW
  obtain ⟨q1, q2, q3⟩ := h
  refine ⟨rfl, ?_, ?_, ?_⟩
  · rw [hU]; exact q1.moved hW.alike
  · rw [hU]; exact q2.moved hW.alike
  · rw [hU]; exact q3.moved hW.alike
theorem ms_gcb {w : Cond} (h : w ∈ mj_big) : GoodIn mj_big (w :: mj_big) := fun u hu => (List.mem_cons.mp hu).elim (fun e => by rw [e]; exact ⟨h, (mj_g_big w h).2⟩) (fun h => ⟨h, (mj_g_big u h).2⟩)
set_option maxHeartbeats 1000000 in
set_option maxRecDepth 20000 in
theorem ms_coder (l : Launch) (byt : List Int32) (a : Nat) (adV : Nat → Nat) (A : Nat → Prop) : Met l ms_yCo (Cond.code ms_yCo ms_cCo 1 (some .byte) :: mj_big) (ms_rm 1) (va_Pc [.ref a] (ms_Wd byt a adV A)) (vp_Si (fun r => r = 0)) 0 0 (fun _ => False) := by
  refine Met.ofW (cc := ms_cCo) (maxL := 1) (ret := (some .byte)) (by decide) rfl ?_
  intro p e s m args below meth c s₁ B hml hv
  obtain ⟨rfl, hS1, hZ, hZq⟩ := hv
  have hWd : ms_WdH byt a adV A s s.heap := ⟨hS1, hZ, hZq⟩
  have hx := B.exec
  have hb := B.bytes
  have hr := B.returns
  have hts0 := atoms_spec (ws := Cond.code ms_yCo ms_cCo 1 (some .byte) :: mj_big) B.pre
  have hts : ∀ w ∈ mj_big, w.before _ s = true := fun w hw => hts0 w (List.mem_cons_of_mem _ hw)
  have hown : s.vm.findClass ms_yCo.cls = some m.cls := findClass_of_methodNamed B.named
  have hlocks := B.notSynchronized
  have hj : ∀ w ∈ mj_jw, w.before _ s = true := fun w hw => hts w (mj_b9 hw)
  have hS : va_S A s.heap s.heap [] := va_S.rf
  obtain ⟨hO, hC, hV, hT⟩ := hS1.1 0 (by decide)
  have hl := lv_entry ([.ref a]) (n := 1) (Nat.le_of_ble_eq_true rfl)
  rw [lg_entry_eq]
  generalize (lg_sl ([.ref a]) ++ List.replicate (1 - (lg_sl ([.ref a])).length) Slot.unset).toArray = ls at hl ⊢
  refine va_gets hx hb hZ hS hown (hj (.fieldLink "java/lang/String" 38 "java/lang/String" "COMPACT_STRINGS" "Z") (by decide +kernel)) (fun _ h => h) (show decode ms_cCo 0 = .ok (.getstatic 38, 3) by decide +kernel) ?_
  refine lv_if_eq (tgt := 13) hx hb (show decode ms_cCo 3 = .ok (.ifCond .eq 10, 3) by decide +kernel) (by decide) (fun h => absurd h (by decide)) (fun _ => ?_)
  refine lv_aload_n hx hb (show decode ms_cCo 6 = .ok (.aload_n 0, 1) by decide +kernel) rfl (lv_at hl 0 rfl) ?_
  refine vk_getf hx hb hC hS hown (hj (.fieldLink "java/lang/String" 15 "java/lang/String" "coder" "B") (by decide +kernel)) (fun _ h => h) (show decode ms_cCo 7 = .ok (.getfield 15, 3) by decide +kernel) ?_
  refine lv_goto (tgt := 14) hx hb (show decode ms_cCo 10 = .ok (.goto 4, 3) by decide +kernel) (by decide) ?_
  exact W.zret hx hb hr (by decide) (fun t ht hW => ⟨0, rfl, rfl, ht⟩) (fun q h => by cases h) (show decode ms_cCo 14 = .ok (.ireturn, 1) by decide +kernel)
set_option maxHeartbeats 1000000 in
set_option maxRecDepth 20000 in
theorem ms_latin (l : Launch) (byt : List Int32) (a : Nat) (adV : Nat → Nat) (A : Nat → Prop) : Met l ms_yLa (Cond.code ms_yLa ms_cLa 1 (some .boolean) :: mj_big) (ms_rm 1) (va_Pc [.ref a] (ms_Wd byt a adV A)) (vp_Si (fun r => r = 1)) 0 0 (fun _ => False) := by
  refine Met.ofW (cc := ms_cLa) (maxL := 1) (ret := (some .boolean)) (by decide) rfl ?_
  intro p e s m args below meth c s₁ B hml hv
  obtain ⟨rfl, hS1, hZ, hZq⟩ := hv
  have hWd : ms_WdH byt a adV A s s.heap := ⟨hS1, hZ, hZq⟩
  have hx := B.exec
  have hb := B.bytes
  have hr := B.returns
  have hts0 := atoms_spec (ws := Cond.code ms_yLa ms_cLa 1 (some .boolean) :: mj_big) B.pre
  have hts : ∀ w ∈ mj_big, w.before _ s = true := fun w hw => hts0 w (List.mem_cons_of_mem _ hw)
  have hown : s.vm.findClass ms_yLa.cls = some m.cls := findClass_of_methodNamed B.named
  have hlocks := B.notSynchronized
  have hj : ∀ w ∈ mj_jw, w.before _ s = true := fun w hw => hts w (mj_b9 hw)
  have hS : va_S A s.heap s.heap [] := va_S.rf
  obtain ⟨hO, hC, hV, hT⟩ := hS1.1 0 (by decide)
  have hl := lv_entry ([.ref a]) (n := 1) (Nat.le_of_ble_eq_true rfl)
  rw [lg_entry_eq]
  generalize (lg_sl ([.ref a]) ++ List.replicate (1 - (lg_sl ([.ref a])).length) Slot.unset).toArray = ls at hl ⊢
  refine va_gets hx hb hZ hS hown (hj (.fieldLink "java/lang/String" 38 "java/lang/String" "COMPACT_STRINGS" "Z") (by decide +kernel)) (fun _ h => h) (show decode ms_cLa 0 = .ok (.getstatic 38, 3) by decide +kernel) ?_
  refine lv_if_eq (tgt := 17) hx hb (show decode ms_cLa 3 = .ok (.ifCond .eq 14, 3) by decide +kernel) (by decide) (fun h => absurd h (by decide)) (fun _ => ?_)
  refine lv_aload_n hx hb (show decode ms_cLa 6 = .ok (.aload_n 0, 1) by decide +kernel) rfl (lv_at hl 0 rfl) ?_
  refine vk_getf hx hb hC hS hown (hj (.fieldLink "java/lang/String" 15 "java/lang/String" "coder" "B") (by decide +kernel)) (fun _ h => h) (show decode ms_cLa 7 = .ok (.getfield 15, 3) by decide +kernel) ?_
  refine lv_if_ne (tgt := 17) hx hb (show decode ms_cLa 10 = .ok (.ifCond .ne 7, 3) by decide +kernel) (by decide) (fun h => absurd rfl h) (fun _ => ?_)
  refine lv_iconst (v := 1) hx hb (show decode ms_cLa 13 = .ok (.iconst 1, 1) by decide +kernel) (by decide) ?_
  refine lv_goto (tgt := 18) hx hb (show decode ms_cLa 14 = .ok (.goto 4, 3) by decide +kernel) (by decide) ?_
  exact W.zret hx hb hr (by decide) (fun t ht hW => ⟨1, rfl, rfl, ht⟩) (fun q h => by cases h) (show decode ms_cLa 18 = .ok (.ireturn, 1) by decide +kernel)
set_option maxHeartbeats 1000000 in
set_option maxRecDepth 20000 in
theorem ms_pidx (l : Launch) (byt : List Int32) (a : Nat) (adV : Nat → Nat) (A : Nat → Prop) (i k : Int32) (fm : Value) (hf : fm = .null ∨ ∃ t, fm = .ref t) (h0 : ¬ i < 0) (h1 : i < k) : Met l ms_yPI (Cond.code ms_yPI ms_cPI 3 (some .int) :: mj_big) (ms_rm 1) (va_Pc [.int i, .int k, fm] (ms_Wd byt a adV A)) (vp_Si (fun _ => True)) 0 0 (fun _ => False) := by
  refine Met.ofW (cc := ms_cPI) (maxL := 3) (ret := (some .int)) (by decide) rfl ?_
  intro p e s m args below meth c s₁ B hml hv
  obtain ⟨rfl, hS1, hZ, hZq⟩ := hv
  have hWd : ms_WdH byt a adV A s s.heap := ⟨hS1, hZ, hZq⟩
  have hx := B.exec
  have hb := B.bytes
  have hr := B.returns
  have hts0 := atoms_spec (ws := Cond.code ms_yPI ms_cPI 3 (some .int) :: mj_big) B.pre
  have hts : ∀ w ∈ mj_big, w.before _ s = true := fun w hw => hts0 w (List.mem_cons_of_mem _ hw)
  have hown : s.vm.findClass ms_yPI.cls = some m.cls := findClass_of_methodNamed B.named
  have hlocks := B.notSynchronized
  have hj : ∀ w ∈ mj_jw, w.before _ s = true := fun w hw => hts w (mj_b9 hw)
  have hS : va_S A s.heap s.heap [] := va_S.rf
  obtain ⟨hO, hC, hV, hT⟩ := hS1.1 0 (by decide)
  have hcf : fm.category = 1 := by rcases hf with rfl | ⟨t, rfl⟩ <;> rfl
  have hl := lv_entry ([.int i, .int k, fm]) (n := 3) (by rcases hf with rfl | ⟨t, rfl⟩ <;> exact Nat.le_of_ble_eq_true rfl)
  rw [lg_entry_eq]
  generalize (lg_sl ([.int i, .int k, fm]) ++ List.replicate (3 - (lg_sl ([.int i, .int k, fm])).length) Slot.unset).toArray = ls at hl ⊢
  refine lv_iload_n hx hb (show decode ms_cPI 0 = .ok (.iload_n 0, 1) by decide +kernel) rfl (lv_at hl 0 rfl) ?_
  refine lv_if_lt (tgt := 9) hx hb (show decode ms_cPI 1 = .ok (.ifCond .lt 8, 3) by decide +kernel) (by decide) (fun h => absurd h h0) (fun _ => ?_)
  refine lv_iload_n hx hb (show decode ms_cPI 4 = .ok (.iload_n 0, 1) by decide +kernel) rfl (lv_at hl 0 rfl) ?_
  refine lv_iload_n hx hb (show decode ms_cPI 5 = .ok (.iload_n 1, 1) by decide +kernel) rfl (lv_at hl 1 rfl) ?_
  refine lv_icmp_lt (tgt := 16) hx hb (show decode ms_cPI 6 = .ok (.if_icmp .lt 10, 3) by decide +kernel) (by decide) (fun _ => ?_) (fun h => absurd h1 h)
  refine lv_iload_n hx hb (show decode ms_cPI 16 = .ok (.iload_n 0, 1) by decide +kernel) rfl (lv_at hl 0 rfl) ?_
  exact W.iret hx hb hr (fun t ht hW => ⟨i, rfl, trivial, ht⟩) (fun q h => by cases h) (show decode ms_cPI 17 = .ok (.ireturn, 1) by decide +kernel)
set_option maxHeartbeats 1000000 in
set_option maxRecDepth 20000 in
theorem ms_cidx (l : Launch) (byt : List Int32) (a : Nat) (adV : Nat → Nat) (A : Nat → Prop) (i k : Int32) (h0 : ¬ i < 0) (h1 : i < k) : Met l ms_yCI (Cond.code ms_yCI ms_cCI 2 none :: mj_big) (ms_rm 2) (va_Pc [.int i, .int k] (ms_Wd byt a adV A)) (va_Sv (fun _ => True)) 0 0 (fun _ => False) := by
  refine Met.ofW (cc := ms_cCI) (maxL := 2) (ret := none) (by decide) rfl ?_
  intro p e s m args below meth c s₁ B hml hv
  obtain ⟨rfl, hS1, hZ, hZq⟩ := hv
  have hWd : ms_WdH byt a adV A s s.heap := ⟨hS1, hZ, hZq⟩
  have hx := B.exec
  have hb := B.bytes
  have hr := B.returns
  have hts0 := atoms_spec (ws := Cond.code ms_yCI ms_cCI 2 none :: mj_big) B.pre
  have hts : ∀ w ∈ mj_big, w.before _ s = true := fun w hw => hts0 w (List.mem_cons_of_mem _ hw)
  have hown : s.vm.findClass ms_yCI.cls = some m.cls := findClass_of_methodNamed B.named
  have hlocks := B.notSynchronized
  have hj : ∀ w ∈ mj_jw, w.before _ s = true := fun w hw => hts w (mj_b9 hw)
  have hS : va_S A s.heap s.heap [] := va_S.rf
  obtain ⟨hO, hC, hV, hT⟩ := hS1.1 0 (by decide)
  have hl := lv_entry ([.int i, .int k]) (n := 2) (Nat.le_of_ble_eq_true rfl)
  rw [lg_entry_eq]
  generalize (lg_sl ([.int i, .int k]) ++ List.replicate (2 - (lg_sl ([.int i, .int k])).length) Slot.unset).toArray = ls at hl ⊢
  refine lv_iload_n hx hb (show decode ms_cCI 0 = .ok (.iload_n 0, 1) by decide +kernel) rfl (lv_at hl 0 rfl) ?_
  refine lv_iload_n hx hb (show decode ms_cCI 1 = .ok (.iload_n 1, 1) by decide +kernel) rfl (lv_at hl 1 rfl) ?_
  obtain ⟨fm, hf, hZf⟩ : ∃ fm : Value, (fm = .null ∨ ∃ t, fm = .ref t) ∧ va_Z "jdk/internal/util/Preconditions" "SIOOBE_FORMATTER" "Ljava/util/function/BiFunction;" fm A s s.heap := by
    rcases hZq with z | ⟨t, z⟩
    · exact ⟨_, Or.inl rfl, z⟩
    · exact ⟨_, Or.inr ⟨t, rfl⟩, z⟩
  refine va_gets hx hb hZf hS hown (hj (.fieldLink "java/lang/String" 1053 "jdk/internal/util/Preconditions" "SIOOBE_FORMATTER" "Ljava/util/function/BiFunction;") (by decide +kernel)) (fun _ h => h) (show decode ms_cCI 2 = .ok (.getstatic 1053, 3) by decide +kernel) ?_
  refine vp_callSi (W.runS (Ts := mj_big) (own := ms_yCI.cls) (As := [.int i, .int k, fm]) (rest := []) ⟨hx, hb, hml, hown, hts⟩ (ms_pidx l byt a adV A i k fm hf h0 h1) ⟨(callB_of 3 hts (ms_gcb (mj_b9 (show Cond.code ms_yPI ms_cPI 3 (some .int) ∈ mj_jw by decide +kernel))) rfl rfl rfl (hj (.initialized ms_yPI.cls) (by decide +kernel)) (hj (.methodLink "java/lang/String" 1059 ms_yPI) (by decide +kernel)) ⟨by decide, by decide, by decide +kernel⟩ ⟨Nat.le_of_ble_eq_true rfl, Nat.le_of_ble_eq_true rfl⟩), hj (.static ms_yPI) (by decide +kernel)⟩ ⟨ms_blind, ms_at hWd⟩ rfl rfl hl.1 rfl (by show 2 * 0 + 0 ≤ 8; decide) (show decode ms_cCI 5 = .ok (.invokestatic 1059, 3) by decide +kernel) ⟨Nat.le_refl _, Nat.le_refl _⟩) (fun r _ => ?_)
  refine lv_pop hx hb (show decode ms_cCI 8 = .ok (.pop, 1) by decide +kernel) rfl ?_
  exact W.vret hx hb hr (fun t ht hW => ⟨rfl, trivial, ht⟩) (fun q h => by cases h) (show decode ms_cCI 9 = .ok (.return_, 1) by decide +kernel)
set_option maxHeartbeats 1000000 in
set_option maxRecDepth 20000 in
theorem ms_lchar (l : Launch) (byt : List Int32) (a : Nat) (adV : Nat → Nat) (A : Nat → Prop) (i : Int32) (hi : vp_in i byt.length) (hlen : byt.length < 1000) : Met l ms_yLC (Cond.code ms_yLC ms_cLC 2 (some .char) :: mj_big) (ms_rm 3) (va_Pc [.ref (adV 0), .int i] (ms_Wd byt a adV A)) (vp_Si (fun r => r = byt.getD i.toNatClampNeg 0 &&& 255)) 0 0 (fun _ => False) := by
  refine Met.ofW (cc := ms_cLC) (maxL := 2) (ret := (some .char)) (by decide) rfl ?_
  intro p e s m args below meth c s₁ B hml hv
  obtain ⟨rfl, hS1, hZ, hZq⟩ := hv
  have hWd : ms_WdH byt a adV A s s.heap := ⟨hS1, hZ, hZq⟩
  have hx := B.exec
  have hb := B.bytes
  have hr := B.returns
  have hts0 := atoms_spec (ws := Cond.code ms_yLC ms_cLC 2 (some .char) :: mj_big) B.pre
  have hts : ∀ w ∈ mj_big, w.before _ s = true := fun w hw => hts0 w (List.mem_cons_of_mem _ hw)
  have hown : s.vm.findClass ms_yLC.cls = some m.cls := findClass_of_methodNamed B.named
  have hlocks := B.notSynchronized
  have hj : ∀ w ∈ mj_jw, w.before _ s = true := fun w hw => hts w (mj_b9 hw)
  have hS : va_S A s.heap s.heap [] := va_S.rf
  obtain ⟨hO, hC, hV, hT⟩ := hS1.1 0 (by decide)
  have hl := lv_entry ([.ref (adV 0), .int i]) (n := 2) (Nat.le_of_ble_eq_true rfl)
  rw [lg_entry_eq]
  generalize (lg_sl ([.ref (adV 0), .int i]) ++ List.replicate (2 - (lg_sl ([.ref (adV 0), .int i])).length) Slot.unset).toArray = ls at hl ⊢
  refine lv_iload_n hx hb (show decode ms_cLC 0 = .ok (.iload_n 1, 1) by decide +kernel) rfl (lv_at hl 1 rfl) ?_
  refine lv_aload_n hx hb (show decode ms_cLC 1 = .ok (.aload_n 0, 1) by decide +kernel) rfl (lv_at hl 0 rfl) ?_
  refine va_tlen hx hb hT hS rfl (show decode ms_cLC 2 = .ok (.arraylength, 1) by decide +kernel) ?_
  have hi1 : i < Int32.ofNat byt.length := by
    obtain ⟨j, hj1, hj2⟩ := vp_in_of hi (by omega)
    rw [hj2]
    exact nI_lt hj1 (by omega)
  refine va_csv (W.runS (Ts := mj_big) (own := ms_yLC.cls) (As := [.int i, .int (Int32.ofNat byt.length)]) (rest := []) ⟨hx, hb, hml, hown, hts⟩ (ms_cidx l byt a adV A i (Int32.ofNat byt.length) (fun q => hi (Or.inl q)) hi1) ⟨(callB_of 2 hts (ms_gcb (mj_b9 (show Cond.code ms_yCI ms_cCI 2 none ∈ mj_jw by decide +kernel))) rfl rfl rfl (hj (.initialized ms_yCI.cls) (by decide +kernel)) (hj (.methodLink "java/lang/StringLatin1" 9 ms_yCI) (by decide +kernel)) ⟨by decide, by decide, by decide +kernel⟩ ⟨Nat.le_of_ble_eq_true rfl, Nat.le_of_ble_eq_true rfl⟩), hj (.static ms_yCI) (by decide +kernel)⟩ ⟨ms_blind, ms_at hWd⟩ rfl rfl hl.1 rfl (by show 2 * 0 + 0 ≤ 8; decide) (show decode ms_cLC 3 = .ok (.invokestatic 9, 3) by decide +kernel) ⟨Nat.le_refl _, Nat.le_refl _⟩) (fun _ => ?_)
  refine lv_aload_n hx hb (show decode ms_cLC 6 = .ok (.aload_n 0, 1) by decide +kernel) rfl (lv_at hl 0 rfl) ?_
  refine lv_iload_n hx hb (show decode ms_cLC 7 = .ok (.iload_n 1, 1) by decide +kernel) rfl (lv_at hl 1 rfl) ?_
  refine va_tb hx hb hT hS hi rfl (show decode ms_cLC 8 = .ok (.baload, 1) by decide +kernel) ?_
  refine lv_sipush (v := 255) hx hb (show decode ms_cLC 9 = .ok (.sipush 255, 3) by decide +kernel) (by decide) ?_
  refine lv_iand hx hb (show decode ms_cLC 12 = .ok (.iand, 1) by decide +kernel) ?_
  refine lv_i2c hx hb (show decode ms_cLC 13 = .ok (.i2c, 1) by decide +kernel) (sc_c2 _) ?_
  exact W.zret hx hb hr (sc_nar _) (fun t ht hW => ⟨_, rfl, rfl, ht⟩) (fun q h => by cases h) (show decode ms_cLC 14 = .ok (.ireturn, 1) by decide +kernel)
set_option maxHeartbeats 1000000 in
set_option maxRecDepth 20000 in
theorem ms_length (l : Launch) (byt : List Int32) (a : Nat) (adV : Nat → Nat) (A : Nat → Prop) (hlen : byt.length < 1000) : Met l mj_ySL (Cond.code mj_ySL ms_cSL 1 (some .int) :: mj_big) (ms_rm 2) (va_Pc [.ref a] (ms_Wd byt a adV A)) (vp_Si (fun r => r = Int32.ofNat byt.length)) 0 0 (fun _ => False) := by
  refine Met.ofW (cc := ms_cSL) (maxL := 1) (ret := (some .int)) (by decide) rfl ?_
  intro p e s m args below meth c s₁ B hml hv
  obtain ⟨rfl, hS1, hZ, hZq⟩ := hv
  have hWd : ms_WdH byt a adV A s s.heap := ⟨hS1, hZ, hZq⟩
  have hx := B.exec
  have hb := B.bytes
  have hr := B.returns
  have hts0 := atoms_spec (ws := Cond.code mj_ySL ms_cSL 1 (some .int) :: mj_big) B.pre
  have hts : ∀ w ∈ mj_big, w.before _ s = true := fun w hw => hts0 w (List.mem_cons_of_mem _ hw)
  have hown : s.vm.findClass mj_ySL.cls = some m.cls := findClass_of_methodNamed B.named
  have hlocks := B.notSynchronized
  have hj : ∀ w ∈ mj_jw, w.before _ s = true := fun w hw => hts w (mj_b9 hw)
  have hS : va_S A s.heap s.heap [] := va_S.rf
  obtain ⟨hO, hC, hV, hT⟩ := hS1.1 0 (by decide)
  have hl := lv_entry ([.ref a]) (n := 1) (Nat.le_of_ble_eq_true rfl)
  rw [lg_entry_eq]
  generalize (lg_sl ([.ref a]) ++ List.replicate (1 - (lg_sl ([.ref a])).length) Slot.unset).toArray = ls at hl ⊢
  refine lv_aload_n hx hb (show decode ms_cSL 0 = .ok (.aload_n 0, 1) by decide +kernel) rfl (lv_at hl 0 rfl) ?_
  refine vk_getf hx hb hV hS hown (hj (.fieldLink "java/lang/String" 9 "java/lang/String" "value" "[B") (by decide +kernel)) (fun _ h => h) (show decode ms_cSL 1 = .ok (.getfield 9, 3) by decide +kernel) ?_
  refine va_tlen hx hb hT hS rfl (show decode ms_cSL 4 = .ok (.arraylength, 1) by decide +kernel) ?_
  refine lv_aload_n hx hb (show decode ms_cSL 5 = .ok (.aload_n 0, 1) by decide +kernel) rfl (lv_at hl 0 rfl) ?_
  refine vp_callSi (W.runV (Ts := mj_big) (own := mj_ySL.cls) (C := "java/lang/String") (b := a) (As := []) (rest := [.int (Int32.ofNat byt.length)]) ⟨hx, hb, hml, hown, hts⟩ (ms_coder l byt a adV A) ⟨(callB_of 0 hts (ms_gcb (mj_b9 (show Cond.code ms_yCo ms_cCo 1 (some .byte) ∈ mj_jw by decide +kernel))) rfl rfl rfl (hj (.initialized ms_yCo.cls) (by decide +kernel)) (hj (.methodLink "java/lang/String" 335 ms_yCo) (by decide +kernel)) ⟨by decide, by decide, by decide +kernel⟩ ⟨Nat.le_of_ble_eq_true rfl, Nat.le_of_ble_eq_true rfl⟩), hj (.instanceMethod ms_yCo) (by decide +kernel), hj (.selects "java/lang/String" ms_yCo ms_yCo) (by decide +kernel)⟩ ⟨ms_blind, vk_recv hS1 (by decide : 0 < 1) hS, ms_at hWd⟩ rfl rfl hl.1 rfl (by show 2 * 0 + 1 ≤ 8; decide) (show decode ms_cSL 6 = .ok (.invokevirtual 335, 3) by decide +kernel) ⟨Nat.le_refl _, Nat.le_refl _⟩) (fun r er => ?_)
  subst er
  refine lv_ishr hx hb (show decode ms_cSL 9 = .ok (.ishr, 1) by decide +kernel) ?_
  have e1 : Int32.ofNat byt.length >>> ((0 : Int32) &&& 31) = Int32.ofNat byt.length := sc_shr0 (n := byt.length) (by omega)
  rw [e1]
  exact W.iret hx hb hr (fun t ht hW => ⟨_, rfl, rfl, ht⟩) (fun q h => by cases h) (show decode ms_cSL 10 = .ok (.ireturn, 1) by decide +kernel)
set_option maxHeartbeats 1000000 in
set_option maxRecDepth 20000 in
theorem ms_charAt (l : Launch) (byt : List Int32) (a : Nat) (adV : Nat → Nat) (A : Nat → Prop) (i : Int32) (hi : vp_in i byt.length) (hlen : byt.length < 1000) : Met l mj_ySC (Cond.code mj_ySC ms_cSC 2 (some .char) :: mj_big) (ms_rm 4) (va_Pc [.ref a, .int i] (ms_Wd byt a adV A)) (vp_Si (fun r => r = byt.getD i.toNatClampNeg 0 &&& 255)) 0 0 (fun _ => False) := by
  refine Met.ofW (cc := ms_cSC) (maxL := 2) (ret := (some .char)) (by decide) rfl ?_
  intro p e s m args below meth c s₁ B hml hv
  obtain ⟨rfl, hS1, hZ, hZq⟩ := hv
  have hWd : ms_WdH byt a adV A s s.heap := ⟨hS1, hZ, hZq⟩
  have hx := B.exec
  have hb := B.bytes
  have hr := B.returns
  have hts0 := atoms_spec (ws := Cond.code mj_ySC ms_cSC 2 (some .char) :: mj_big) B.pre
  have hts : ∀ w ∈ mj_big, w.before _ s = true := fun w hw => hts0 w (List.mem_cons_of_mem _ hw)
  have hown : s.vm.findClass mj_ySC.cls = some m.cls := findClass_of_methodNamed B.named
  have hlocks := B.notSynchronized
  have hj : ∀ w ∈ mj_jw, w.before _ s = true := fun w hw => hts w (mj_b9 hw)
  have hS : va_S A s.heap s.heap [] := va_S.rf
  obtain ⟨hO, hC, hV, hT⟩ := hS1.1 0 (by decide)
  have hl := lv_entry ([.ref a, .int i]) (n := 2) (Nat.le_of_ble_eq_true rfl)
  rw [lg_entry_eq]
  generalize (lg_sl ([.ref a, .int i]) ++ List.replicate (2 - (lg_sl ([.ref a, .int i])).length) Slot.unset).toArray = ls at hl ⊢
  refine lv_aload_n hx hb (show decode ms_cSC 0 = .ok (.aload_n 0, 1) by decide +kernel) rfl (lv_at hl 0 rfl) ?_
  refine vp_callSi (W.runV (Ts := mj_big) (own := mj_ySC.cls) (C := "java/lang/String") (b := a) (As := []) (rest := []) ⟨hx, hb, hml, hown, hts⟩ (ms_latin l byt a adV A) ⟨(callB_of 0 hts (ms_gcb (mj_b9 (show Cond.code ms_yLa ms_cLa 1 (some .boolean) ∈ mj_jw by decide +kernel))) rfl rfl rfl (hj (.initialized ms_yLa.cls) (by decide +kernel)) (hj (.methodLink "java/lang/String" 492 ms_yLa) (by decide +kernel)) ⟨by decide, by decide, by decide +kernel⟩ ⟨Nat.le_of_ble_eq_true rfl, Nat.le_of_ble_eq_true rfl⟩), hj (.instanceMethod ms_yLa) (by decide +kernel), hj (.selects "java/lang/String" ms_yLa ms_yLa) (by decide +kernel)⟩ ⟨ms_blind, vk_recv hS1 (by decide : 0 < 1) hS, ms_at hWd⟩ rfl rfl hl.1 rfl (by show 2 * 0 + 0 ≤ 8; decide) (show decode ms_cSC 1 = .ok (.invokevirtual 492, 3) by decide +kernel) ⟨Nat.le_refl _, Nat.le_refl _⟩) (fun r er => ?_)
  subst er
  refine lv_if_eq (tgt := 16) hx hb (show decode ms_cSC 4 = .ok (.ifCond .eq 12, 3) by decide +kernel) (by decide) (fun h => absurd h (by decide)) (fun _ => ?_)
  refine lv_aload_n hx hb (show decode ms_cSC 7 = .ok (.aload_n 0, 1) by decide +kernel) rfl (lv_at hl 0 rfl) ?_
  refine vk_getf hx hb hV hS hown (hj (.fieldLink "java/lang/String" 9 "java/lang/String" "value" "[B") (by decide +kernel)) (fun _ h => h) (show decode ms_cSC 8 = .ok (.getfield 9, 3) by decide +kernel) ?_
  refine lv_iload_n hx hb (show decode ms_cSC 11 = .ok (.iload_n 1, 1) by decide +kernel) rfl (lv_at hl 1 rfl) ?_
  refine vp_callSi (W.runS (Ts := mj_big) (own := mj_ySC.cls) (As := [.ref (adV 0), .int i]) (rest := []) ⟨hx, hb, hml, hown, hts⟩ (ms_lchar l byt a adV A i hi hlen) ⟨(callB_of 2 hts (ms_gcb (mj_b9 (show Cond.code ms_yLC ms_cLC 2 (some .char) ∈ mj_jw by decide +kernel))) rfl rfl rfl (hj (.initialized ms_yLC.cls) (by decide +kernel)) (hj (.methodLink "java/lang/String" 495 ms_yLC) (by decide +kernel)) ⟨by decide, by decide, by decide +kernel⟩ ⟨Nat.le_of_ble_eq_true rfl, Nat.le_of_ble_eq_true rfl⟩), hj (.static ms_yLC) (by decide +kernel)⟩ ⟨ms_blind, ms_at hWd⟩ rfl rfl hl.1 rfl (by show 2 * 0 + 0 ≤ 8; decide) (show decode ms_cSC 12 = .ok (.invokestatic 495, 3) by decide +kernel) ⟨Nat.le_refl _, Nat.le_refl _⟩) (fun r er => ?_)
  subst er
  exact W.zret hx hb hr (sc_nar _) (fun t ht hW => ⟨_, rfl, rfl, ht⟩) (fun q h => by cases h) (show decode ms_cSC 15 = .ok (.ireturn, 1) by decide +kernel)
