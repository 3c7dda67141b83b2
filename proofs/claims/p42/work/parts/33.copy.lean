/-! a stretch of an int array copied; an object, an array of references made; a reference stored -/
theorem mj_cpl_len {f g : List Value} {sp dp n : Nat} (h1 : sp + n ≤ f.length) (h2 : dp + n ≤ g.length) : (mj_cpl f g sp dp n).length = g.length := by
  unfold mj_cpl
  simp only [List.length_append, List.length_take, List.length_drop]
  omega
theorem mj_cpl_get {f g : List Value} {sp dp n j : Nat} (h1 : sp + n ≤ f.length) (h2 : dp + n ≤ g.length) : (mj_cpl f g sp dp n)[j]? = if dp ≤ j ∧ j < dp + n then f[sp + (j - dp)]? else g[j]? := by
  unfold mj_cpl
  by_cases a : j < dp
  · rw [List.getElem?_append_left (by rw [List.length_take]; omega), List.getElem?_take_of_lt a, if_neg (by omega)]
  · rw [List.getElem?_append_right (by rw [List.length_take]; omega), List.length_take, Nat.min_eq_left (by omega)]
    by_cases b : j < dp + n
    · rw [List.getElem?_append_left (by rw [List.length_take, List.length_drop]; omega), List.getElem?_take_of_lt (by omega), List.getElem?_drop, if_pos ⟨by omega, b⟩]
    · rw [List.getElem?_append_right (by rw [List.length_take, List.length_drop]; omega), List.length_take, List.length_drop, List.getElem?_drop, if_neg (by omega)]
      congr 1
      omega
theorem mj_cpl_cell (ad : Nat → Nat) (c0 c1 : ClassId) {f g : List Value} {sp dp n : Nat} (h1 : sp + n ≤ f.length) (h2 : dp + n ≤ g.length) :
    (arrV c1 g.length (fun j => mj_cv ad (g.getD j .null))).storeRun dp ((arrV c0 f.length (fun j => mj_cv ad (f.getD j .null))).stretch sp n) = arrV c1 (mj_cpl f g sp dp n).length (fun j => mj_cv ad ((mj_cpl f g sp dp n).getD j .null)) := by
  have e := va_copied (fun v : Value => mj_cv ad v) c0 c1 (n0 := f.length) (n1 := g.length) (sp := sp) (dp := dp) (n := n) (fun j => f.getD j .null) (fun j => g.getD j .null) h1
  rw [e, mj_cpl_len h1 h2]
  congr 1
  funext j
  rw [List.getD_eq_getElem?_getD, mj_cpl_get h1 h2]
  unfold va_cpy
  split
  · dsimp only
    rw [List.getD_eq_getElem?_getD]
  · dsimp only
    rw [List.getD_eq_getElem?_getD]
section MJC
variable {p : Program} {l : Launch} {e : Env} {R : Room} {s : State} {mm : MethodId} {args : Array Value} {below : List Frame} {meth : Method} {c : Code} {H : Heap} {locs : List Loc} {cells slots : Nat} {Q : State → Prop} {D : va_G} {pre : Nat → Nat} {base m pc : Nat} {y : MethodName} {b : ByteArray} {n o ci : Nat} {rt : Option FieldType} {ls : Array Slot} {rest : List Value} {h : mj_H}
theorem mj_nn {z : Int32} (hz : 0 ≤ z.toInt) : ¬ z < 0 := by
  rw [Int32.lt_iff_toInt_lt]
  have : (0 : Int32).toInt = 0 := rfl
  omega
theorem mj_k_copy (F : mj_Fr p R s mm args meth c D pre base m b n) (hsz : ls.size = n) (hme : mj_ms[m]? = some (y, b, n, rt, o, ci)) {x a0 a1 q8 q9 : Nat} {f g : List Value} {k sp dp : Int32} (hi : mj_ins m pc = some (.invokestatic x)) (hcal : (mj_o m, x, 20, q8, q9) ∈ mj_ct) (ha0 : h[a0]? = some (1000, f)) (ha1 : h[a1]? = some (1000, g)) (hn1 : mj_n0 ≤ a1) (hn0 : mj_n0 ≤ a0) (hcat : (rest.map fun v => v.category).sum ≤ 8)
    (h0 : 0 ≤ k.toInt) (h1 : 0 ≤ sp.toInt) (h2 : 0 ≤ dp.toInt) (h3 : sp.toInt.toNat + k.toInt.toNat ≤ f.length) (h4 : dp.toInt.toNat + k.toInt.toNat ≤ g.length) (hall : ((f.drop sp.toInt.toNat).take k.toInt.toNat).all mj_isI = true) (hR : mj_R D pre base s h H) (hS : va_S (fun q => base ≤ q) s.heap H locs)
    (K : ∀ (H1 : Heap) (locs1 : List Loc), mj_R D pre base s (h.set a1 (1000, mj_cpl f g sp.toInt.toNat dp.toInt.toNat k.toInt.toNat)) H1 → va_S (fun q => base ≤ q) s.heap H1 locs1 → W p l e R s mm args below meth c H1 locs1 cells slots Q (F0 mm (pc + 3) ls rest)) :
    W p l e R s mm args below meth c H locs cells slots Q (F0 mm pc ls (.int k :: .int dp :: .ref (mj_ad pre base a1) :: .int sp :: .ref (mj_ad pre base a0) :: rest)) := by
  obtain ⟨hx, hb, hml, hown, hts, hK, hin, hfr, hlo, hbs⟩ := F
  have hw : ∀ w ∈ mj_cwd (mj_o m, x, 20, q8, q9), w.before args s = true := fun w hw => hts w (mj_b5 (List.mem_flatMap.mpr ⟨_, hcal, hw⟩))
  have hlink : (Cond.methodLink (mj_own (mj_o m)) x arraycopyName).before args s = true := hw _ List.mem_cons_self
  have hnat : (Cond.native arraycopyName).before args s = true := hw _ (List.mem_cons_of_mem _ List.mem_cons_self)
  have hstat : (Cond.static arraycopyName).before args s = true := hw _ (List.mem_cons_of_mem _ (List.mem_cons_of_mem _ List.mem_cons_self))
  have hini : (Cond.initialized "java/lang/System").before args s = true := hw _ (List.mem_cons_of_mem _ (List.mem_cons_of_mem _ (List.mem_cons_of_mem _ List.mem_cons_self)))
  obtain ⟨c0, q1, q2, q3⟩ := hR.2.2.2.2.1 a0 _ hn0 ha0 (Nat.le_refl _)
  obtain ⟨c1, r1, r2, r3⟩ := hR.2.2.2.2.1 a1 _ hn1 ha1 (Nat.le_refl _)
  dsimp only at q1 q2 q3 r1 r2 r3
  have nn : ∀ z : Int32, 0 ≤ z.toInt → z.toInt = (z.toNatClampNeg : Int) := by
    intro z hz
    show z.toInt = ((z.toInt.toNat : Nat) : Int)
    omega
  intro T hT X
  obtain ⟨-, k0, hk0, cm0, hkk0⟩ := q1 f.length (fun j => mj_cv (mj_ad pre base) (f.getD j .null))
  obtain ⟨-, k1, hk1, cm1, hkk1⟩ := r1 g.length (fun j => mj_cv (mj_ad pre base) (g.getD j .null))
  have hel : ∀ i, i < k.toInt.toNat → ∃ z : Int32, f.getD (sp.toInt.toNat + i) .null = .int z := by
    intro i hi
    have hlt : sp.toInt.toNat + i < f.length := by omega
    have hm : f[sp.toInt.toNat + i] ∈ (f.drop sp.toInt.toNat).take k.toInt.toNat := by
      refine List.mem_of_getElem? (i := i) ?_
      rw [List.getElem?_take_of_lt hi, List.getElem?_drop]
      exact List.getElem?_eq_getElem hlt
    have hz := List.all_eq_true.mp hall _ hm
    rw [List.getD_eq_getElem?_getD, List.getElem?_eq_getElem hlt, Option.getD_some]
    revert hz
    cases f[sp.toInt.toNat + i] with
    | int z => exact fun _ => ⟨z, rfl⟩
    | _ => intro hz; cases hz
  obtain ⟨vm', X', step⟩ := X.arraycopy hx hown hlink hnat hstat hini (src := mj_ad pre base a0) (dst := mj_ad pre base a1) (cs := arrV c0 f.length (fun j => mj_cv (mj_ad pre base) (f.getD j .null))) (cd := arrV c1 g.length (fun j => mj_cv (mj_ad pre base) (g.getD j .null))) (srcPos := sp) (destPos := dp) (n := k) (by rw [hT]; exact q3) (by rw [hT]; exact r3)
    (fun _ h => by cases h) (fun _ h => by cases h) (fun h => by cases h) (fun h => by cases h) hk0 hk1 hkk0 hkk1 (by simp [mj_et, refKind]) (mj_nn h1) (mj_nn h2) (mj_nn h0)
    (by rw [nn sp h1, nn k h0, arrV_size]; show ¬ _ > (f.length : Int); have e1 : sp.toNatClampNeg = sp.toInt.toNat := rfl; have e2 : k.toNatClampNeg = k.toInt.toNat := rfl; omega)
    (by rw [nn dp h2, nn k h0, arrV_size]; show ¬ _ > (g.length : Int); have e1 : dp.toNatClampNeg = dp.toInt.toNat := rfl; have e2 : k.toNatClampNeg = k.toInt.toNat := rfl; omega)
    (fun vm₁ _ i hi => by
      have hi' : i < k.toInt.toNat := hi
      obtain ⟨z, hz⟩ := hel i hi'
      have e : (arrV c0 f.length (fun j => mj_cv (mj_ad pre base) (f.getD j .null))).slots.getD (sp.toNatClampNeg + i) .null = .int z := by
        rw [Array.getD_eq_getD_getElem?, arrV_read _ _ (show sp.toNatClampNeg + i < f.length by have e1 : sp.toNatClampNeg = sp.toInt.toNat := rfl; omega)]
        show mj_cv _ (f.getD (sp.toInt.toNat + i) .null) = _
        rw [hz]
        rfl
      refine ⟨?_, ?_⟩
      · rw [e]
        rfl
      · rw [e]
        exact trivial)
    (g := F0 mm pc ls (.int k :: .int dp :: .ref (mj_ad pre base a1) :: .int sp :: .ref (mj_ad pre base a0) :: rest)) rfl (by rw [hml]; exact hsz) (rest := rest) rfl (by rw [hb]; exact mj_dn hme hi rfl) (Nat.le_trans (by decide) hfr) (by show 2 * 0 + _ + _ ≤ _; have : nativeFrameWords "java/lang/System" "arraycopy" 5 + 11 ≤ 50 := (by decide +kernel); omega)
  have e1 : copied (arrV c0 f.length (fun j => mj_cv (mj_ad pre base) (f.getD j .null))) (arrV c1 g.length (fun j => mj_cv (mj_ad pre base) (g.getD j .null))) sp dp k = arrV c1 (mj_cpl f g sp.toInt.toNat dp.toInt.toNat k.toInt.toNat).length (fun j => mj_cv (mj_ad pre base) ((mj_cpl f g sp.toInt.toNat dp.toInt.toNat k.toInt.toNat).getD j .null)) := mj_cpl_cell (mj_ad pre base) c0 c1 h3 h4
  rw [e1] at X' step
  generalize hcell : arrV c1 (mj_cpl f g sp.toInt.toNat dp.toInt.toNat k.toInt.toNat).length (fun j => mj_cv (mj_ad pre base) ((mj_cpl f g sp.toInt.toNat dp.toInt.toNat k.toInt.toNat).getD j .null)) = cl at X' step
  have hl : mj_ad pre base a1 < H.size := (Array.getElem?_eq_some_iff.mp r3).1
  have hheap : ((T.setVm vm').setCell (mj_ad pre base a1) cl).heap = H.setIfInBounds (mj_ad pre base a1) cl := by rw [← hT]; rfl
  have oq : ∀ q : Nat, q ≠ mj_ad pre base a1 → (H.setIfInBounds (mj_ad pre base a1) cl)[q]? = H[q]? := fun q hq => by simp [Array.getElem?_setIfInBounds, Ne.symm hq]
  have hsame : (H.setIfInBounds (mj_ad pre base a1) cl)[mj_ad pre base a1]? = some cl := by simp [Array.getElem?_setIfInBounds, hl]
  have hm : mj_ma (mj_ad pre base) (mj_et 1000) (mj_cpl f g sp.toInt.toNat dp.toInt.toNat k.toInt.toNat) (mj_ad pre base a1) s (H.setIfInBounds (mj_ad pre base a1) cl) := ⟨c1, r1, r2, by rw [hcell]; exact hsame⟩
  have hla : a1 < h.length := (List.getElem?_eq_some_iff.mp ha1).1
  have hbase : base ≤ mj_ad pre base a1 := by rw [mj_ad_new hn1]; exact Nat.le_add_right _ _
  obtain ⟨t, g1, g2⟩ := K _ _ (hR.set hn1 hla (by simp) oq ⟨fun z => absurd z (by dsimp only; omega), fun z => absurd z (by dsimp only; omega), fun _ => hm.wa⟩ (fun _ => hm)) ⟨by simp; exact hS.1, fun q g1 g2 => by
      rw [oq q (fun e => g2 (by show base ≤ q; rw [e]; exact hbase))]
      exact hS.2.1 q g1 g2, fun q hq => by
      rcases List.mem_append.mp hq with h | h
      · exact hS.2.2 q h
      · obtain ⟨z, -, hz⟩ := List.mem_map.mp h
        rw [← hz]
        exact hbase⟩ _ hheap X'
  exact ⟨t, step t g1, g2⟩
theorem mj_ncl_inv {m x c0 : Nat} (h : mj_ncl m x = some c0) : (mj_o m, x, c0) ∈ mj_nt := by
  unfold mj_ncl at h
  cases hq : mj_nt.find? (fun e => e.1 == mj_o m && e.2.1 == x) with
  | none => rw [hq] at h; cases h
  | some q =>
    rw [hq] at h
    have hm := mj_find hq
    obtain ⟨q1, q2, q3⟩ := q
    cases h
    exact hm
theorem mj_ntok : ∀ q ∈ mj_nt, q.2.2 < mj_nc := by decide +kernel
theorem mj_nt_in {o x c0 : Nat} (h : (o, x, c0) ∈ mj_nt) : Cond.classLink (mj_own o) x (mj_nm c0) ∈ mj_big ∧ Cond.instantiable (mj_nm c0) (mj_N c0) ∈ mj_big ∧ Cond.initialized (mj_nm c0) ∈ mj_big :=
  ⟨mj_b6 (List.mem_flatMap.mpr ⟨_, h, List.mem_cons_self⟩), mj_b6 (List.mem_flatMap.mpr ⟨_, h, List.mem_cons_of_mem _ List.mem_cons_self⟩), mj_b6 (List.mem_flatMap.mpr ⟨_, h, List.mem_cons_of_mem _ (List.mem_cons_of_mem _ List.mem_cons_self)⟩)⟩
/-- the fields of a new object -/
def mj_df (c0 : Nat) : List Value := (mj_cf.getD c0 []).map (fun f => defaultValue f.2.2.2.2)
theorem mj_df_len (c0 : Nat) : (mj_df c0).length = mj_N c0 := by simp [mj_df, mj_N]
theorem mj_dfok : ∀ c0, c0 < mj_nc → ∀ k, k < mj_N c0 → defaultValue (mj_ty c0 k) = (mj_df c0).getD k .null ∧ ∀ q, (mj_df c0).getD k .null ≠ .ref q := by
  have h : ∀ c0, c0 < mj_nc → ∀ k, k < mj_N c0 → defaultValue (mj_ty c0 k) = (mj_df c0).getD k .null ∧ (match (mj_df c0).getD k .null with | .ref _ => false | _ => true) = true := by decide +kernel
  intro c0 h0 k hk
  obtain ⟨h1, h2⟩ := h c0 h0 k hk
  exact ⟨h1, fun q hq => by rw [hq] at h2; cases h2⟩
theorem mj_k_new (F : mj_Fr p R s mm args meth c D pre base m b n) (hme : mj_ms[m]? = some (y, b, n, rt, o, ci)) {x c0 : Nat} (hi : mj_ins m pc = some (.new x)) (hn : mj_ncl m x = some c0) (hR : mj_R D pre base s h H) (hS : va_S (fun q => base ≤ q) s.heap H locs) (hc : cells + 1 ≤ R.cells) (hsl : slots + mj_N c0 ≤ R.slots)
    (K : ∀ H1 : Heap, mj_R D pre base s (h ++ [(c0, mj_df c0)]) H1 → va_S (fun q => base ≤ q) s.heap H1 locs → W p l e R s mm args below meth c H1 locs (cells + 1) (slots + mj_N c0) Q (F0 mm (pc + 3) ls (.ref (mj_ad pre base h.length) :: rest))) : W p l e R s mm args below meth c H locs cells slots Q (F0 mm pc ls rest) := by
  obtain ⟨hx, hb, hml, hown, hts, hK, hin, hfr, hlo, hbs⟩ := F
  have hmem := mj_ncl_inv hn
  have hlt : c0 < mj_nc := mj_ntok _ hmem
  obtain ⟨w1, w2, w3⟩ := mj_nt_in hmem
  have hcl := mj_cl_get hlt
  have hKn := hK.1.1 c0 _ hcl
  refine W.newcK hx hb hown (hts _ w1) (hts _ w2) (hts _ w3) rfl (mj_dn hme hi rfl) hc hsl hKn.2.1 rfl fun H1 kC hkC e1 z1 o1 => ?_
  have hob := u_born (mj_ty c0) hts (mj_lw_in hlt) hKn hkC e1 (fun k hk => (mj_fok c0 hlt k hk).1)
  have hat : va_at D mj_cl (H.size, .inr (c0, (mj_df c0).map (mj_cv (mj_ad pre base)))) H1 := by
    refine ⟨_, hcl, hob.to fun k hk => ?_⟩
    obtain ⟨g1, g2⟩ := mj_dfok c0 hlt k hk
    have hkl : k < (mj_df c0).length := by rw [mj_df_len]; exact hk
    show defaultValue (mj_ty c0 k) = ((mj_df c0).map (mj_cv (mj_ad pre base))).getD k .null
    rw [List.getD_eq_getElem?_getD, List.getElem?_map, List.getElem?_eq_getElem hkl]
    rw [List.getD_eq_getElem?_getD, List.getElem?_eq_getElem hkl] at g1 g2
    simp only [Option.getD_some, Option.map_some] at g1 g2 ⊢
    rw [g1]
    cases hv : (mj_df c0)[k] with
    | ref q => exact absurd hv (g2 q)
    | _ => rfl
  have r1 : mj_R D pre base s (h ++ [(c0, mj_df c0)]) H1 := hR.push z1 o1 ⟨fun _ => by rw [hR.top]; exact hat, fun z => absurd z (by have := mj_nc9; dsimp only; omega), fun z => absurd z (by have := mj_nc9; dsimp only at z; omega)⟩ (fun z => absurd z (by have := mj_nc9; dsimp only; omega))
  have := K H1 r1 ⟨Nat.le_trans hS.1 (by omega), fun q h1 h2 => (o1 q (Nat.lt_of_lt_of_le h1 hS.1)).trans (hS.2.1 q h1 h2), hS.2.2⟩
  rw [hR.top] at this
  exact this
theorem mj_k_anew (F : mj_Fr p R s mm args meth c D pre base m b n) (hme : mj_ms[m]? = some (y, b, n, rt, o, ci)) {x c0 : Nat} {k : Int32} (hi : mj_ins m pc = some (.anewarray x)) (hn : mj_ncl m x = some c0) (hao : mj_nm c0 ∈ mj_ao) (h0 : 0 ≤ k.toInt ∧ k.toInt < 1000000) (hR : mj_R D pre base s h H) (hS : va_S (fun q => base ≤ q) s.heap H locs) (hc : cells + 1 ≤ R.cells) (hsl : slots + k.toInt.toNat ≤ R.slots)
    (K : ∀ H1 : Heap, mj_R D pre base s (h ++ [(1100 + c0, List.replicate k.toInt.toNat .null)]) H1 → va_S (fun q => base ≤ q) s.heap H1 locs → W p l e R s mm args below meth c H1 locs (cells + 1) (slots + k.toInt.toNat) Q (F0 mm (pc + 3) ls (.ref (mj_ad pre base h.length) :: rest))) : W p l e R s mm args below meth c H locs cells slots Q (F0 mm pc ls (.int k :: rest)) := by
  obtain ⟨hx, hb, hml, hown, hts, hK, hin, hfr, hlo, hbs⟩ := F
  have hmem := mj_ncl_inv hn
  obtain ⟨w1, -, -⟩ := mj_nt_in hmem
  have het : mj_et (1100 + c0) = .object (mj_nm c0) := by
    unfold mj_et
    rw [if_neg (by omega), if_neg (by omega), if_neg (by omega), Nat.add_sub_cancel_left]
  have hnn : ¬ k < 0 := mj_nn h0.1
  refine W.anew hx hb hown (hts _ w1) (va_AO.use (hK.2.2.1 _ hao)) rfl (mj_dn hme hi rfl) rfl hnn (by have e1 : k.toNatClampNeg = k.toInt.toNat := rfl; omega) hc (by have e1 : k.toNatClampNeg = k.toInt.toNat := rfl; omega) fun cA kA comp f1 f2 f3 f4 => ?_
  generalize hH1 : H.push ({ cls := cA, slots := Array.replicate k.toNatClampNeg .null, vm := .none } : Cell) = H1
  have z1 : H1.size = H.size + 1 := by rw [← hH1, Array.size_push]
  have e1 : H1[H.size]? = some (arrV cA k.toInt.toNat (fun _ => .null)) := by
    rw [← hH1, Array.getElem?_push_size, ← arrV_new]
    rfl
  have o1 : ∀ q : Nat, q < H.size → H1[q]? = H[q]? := fun q hq => by rw [← hH1, Array.getElem?_push, if_neg (Nat.ne_of_lt hq)]
  have hAr : ArrOfT s cA (mj_et (1100 + c0)) := by
    rw [het]
    exact fun N z => ⟨(fun k h => by cases h), kA, f2, comp, f3⟩
  have hRA : va_RA s cA (mj_et (1100 + c0)) := by
    rw [het]
    exact ⟨kA, comp, f2, f3, f4, f1⟩
  rw [mj_rep2 (x := .null) (mj_ad pre base) rfl] at e1
  obtain ⟨r1, r2⟩ := mj_mk (k := 1100 + c0) (by omega) hR hS e1 z1 o1 hAr hRA
  have := K H1 r1 r2
  rw [hR.top] at this
  exact this
theorem mj_k_aast (F : mj_Fr p R s mm args meth c D pre base m b n) (hme : mj_ms[m]? = some (y, b, n, rt, o, ci)) {a v c0 : Nat} {fs : List Value} {i : Int32} {h' : mj_H} (hi : mj_ins m pc = some .aastore) (hv : h[v]? = some (c0, fs)) (hc0 : c0 < mj_nc) (hs : mj_es mj_n0 h a (1100 + c0) i (.ref v) = some h') (hR : mj_R D pre base s h H) (hS : va_S (fun q => base ≤ q) s.heap H locs)
    (K : ∀ (H1 : Heap) (locs1 : List Loc), mj_R D pre base s h' H1 → va_S (fun q => base ≤ q) s.heap H1 locs1 → W p l e R s mm args below meth c H1 locs1 cells slots Q (F0 mm (pc + 1) ls rest)) : W p l e R s mm args below meth c H locs cells slots Q (F0 mm pc ls (.ref (mj_ad pre base v) :: .int i :: .ref (mj_ad pre base a) :: rest)) := by
  obtain ⟨hx, hb, hml, hown, hts, hK, hin, hfr, hlo, hbs⟩ := F
  obtain ⟨-, -, cA, N, f, g1, g2, g3, g4, g5⟩ := mj_wr (k := 1100 + c0) (by omega) hs hR hS
  have het : mj_et (1100 + c0) = .object (mj_nm c0) := by
    unfold mj_et
    rw [if_neg (by omega), if_neg (by omega), if_neg (by omega), Nat.add_sub_cancel_left]
  rw [het] at g3
  obtain ⟨kA, comp, k1, k2, k3, -⟩ := g3
  obtain ⟨r', hr', cellV, v1, v2, v3, -⟩ := (hR.2.2.2.1 v _ hv).1 (Nat.lt_trans hc0 mj_nc9)
  have hcls := (hK.1.1 c0 _ (mj_cl_get hc0)).2
  have hcomp : comp = D.1 c0 := Option.some.inj (k3.symm.trans hcls.1)
  subst hcomp
  obtain ⟨kC, hkC, -⟩ := hcls.2
  have hlt : i.toNatClampNeg < N := Nat.not_le.mp fun q => g4 (Or.inr q)
  refine W.aast hx hb g1 (fun q h => by cases h) (fun h => by cases h) k1 k2 rfl hkC ⟨fun q => g4 (Or.inl q), by rw [arrV_size]; exact hlt⟩ v1 (fun q h => by rw [v3] at h; cases h) (by rw [v2]; exact hkC) (by rw [v2]; exact va_assign hcls) rfl rfl (mj_dn hme hi rfl) fun H1 e z oq => ?_
  obtain ⟨r1, r2⟩ := g5 H1 e z oq
  exact K H1 _ r1 r2
end MJC
