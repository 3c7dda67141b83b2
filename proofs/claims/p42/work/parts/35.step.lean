section MJT
variable {p : Program} {l : Launch} {e : Env} {R : Room} {s : State} {mm : MethodId} {args : Array Value} {below : List Frame} {meth : Method} {c : Code} {H : Heap} {locs : List Loc} {cells slots : Nat} {Q : State → Prop} {D : va_G} {pre : Nat → Nat} {base m pc : Nat} {y : MethodName} {b : ByteArray} {n o ci : Nat} {rt : Option FieldType} {ls : Array Slot} {rest : List Value} {h : mj_H}
theorem mj_catm (ad : Nat → Nat) (st : List Value) : ((st.map (mj_cv ad)).map fun v => v.category).sum = mj_cat st := by
  unfold mj_cat
  rw [List.map_map]
  congr 1
  apply List.map_congr_left
  intro v _
  exact mj_cv_cat ad v
theorem mj_char (F : mj_Fr p R s mm args meth c D pre base m b n) {a j : Nat} {vs : List Value} {v : Value} (hR : mj_R D pre base s h H) (ha : h[a]? = some (900, vs)) (hv : vs[j]? = some v) {g : Value → JFrame} (K : W p l e R s mm args below meth c H locs cells slots Q (g (mj_cv (mj_ad pre base) v))) : W p l e R s mm args below meth c H locs cells slots Q (g v) := by
  obtain ⟨byt, adV, e1, -⟩ := (hR.2.2.2.1 a _ ha).2.1 rfl
  have hm : v ∈ byt.map Value.int := by rw [← e1]; exact List.mem_of_getElem? hv
  obtain ⟨z, -, rfl⟩ := List.mem_map.mp hm
  exact K
set_option maxHeartbeats 4000000 in
set_option maxRecDepth 100000 in
theorem mj_step {i : Instr} {lv : mj_L} {st : List Value} {pc' : Nat} {lv' : mj_L} {st' : List Value} {h' : mj_H} (F : mj_Fr p R s mm args meth c D pre base m b n) (hme : mj_ms[m]? = some (y, b, n, rt, o, ci)) (hi : mj_ins m pc = some i) (hs : mj_st m pc i lv st h = some (pc', lv', st', h')) (hR : mj_R D pre base s h H) (hS : va_S (fun q => base ≤ q) s.heap H locs) (hl : mj_lr (mj_ad pre base) lv ls n)
    (hc : cells + (h'.length - h.length) ≤ R.cells) (hsl : slots + (mj_hsz h' - mj_hsz h) ≤ R.slots)
    (k : ∀ (H' : Heap) (locs' : List Loc) (ls' : Array Slot), mj_R D pre base s h' H' → va_S (fun q => base ≤ q) s.heap H' locs' → mj_lr (mj_ad pre base) lv' ls' n → W p l e R s mm args below meth c H' locs' (cells + (h'.length - h.length)) (slots + (mj_hsz h' - mj_hsz h)) Q (F0 mm pc' ls' (st'.map (mj_cv (mj_ad pre base))))) :
    W p l e R s mm args below meth c H locs cells slots Q (F0 mm pc ls (st.map (mj_cv (mj_ad pre base)))) := by
  obtain ⟨hx, hb, hml, hown, hts, hK, hin, hfr, hlo, hbs⟩ := id F
  have hc0 : cells ≤ R.cells := Nat.le_trans (Nat.le_add_right _ _) hc
  have hs0 : slots ≤ R.slots := Nat.le_trans (Nat.le_add_right _ _) hsl
  cases i with
  | iconst z =>
    cases hs
    exact lv_iconst hx hb (mj_dn hme hi rfl) rfl (mj_cs rfl rfl (k H locs ls hR hS hl))
  | bipush z =>
    cases hs
    exact lv_bipush hx hb (mj_dn hme hi rfl) rfl (mj_cs rfl rfl (k H locs ls hR hS hl))
  | sipush z =>
    cases hs
    exact lv_sipush hx hb (mj_dn hme hi rfl) rfl (mj_cs rfl rfl (k H locs ls hR hS hl))
  | lconst z =>
    cases hs
    exact lv_lconst hx hb (mj_dn hme hi rfl) rfl (mj_cs rfl rfl (k H locs ls hR hS hl))
  | ldc x =>
    simp only [mj_st] at hs
    split at hs
    · rename_i v hv
      cases hs
      exact lv_ldc hx hb hown (hts _ (mj_b7 (List.mem_filterMap.mpr ⟨_, mj_con_inv hv, rfl⟩))) (mj_dn hme hi rfl) (mj_cs rfl rfl (k H locs ls hR hS hl))
    · rename_i v hv
      cases hs
      obtain ⟨g1, g2, t, g3, g4, g5⟩ := mj_ktok _ (mj_con_inv hv) v rfl
      have hz := hK.2.2.2 _ t g3
      have e1 : 1 + mj_sl0.length + (v - (1 + mj_sl0.length)) = v := by omega
      rw [e1, g4, g5] at hz
      have K0 := (mj_cs rfl rfl (k H locs ls hR hS hl))
      rw [show (List.map (mj_cv (mj_ad pre base)) (Value.ref v :: st)) = Value.ref (pre v) :: List.map (mj_cv (mj_ad pre base)) st from by rw [List.map_cons]; show Value.ref (mj_ad pre base v) :: _ = _; rw [mj_ad_old g1]] at K0
      exact va_ldcS hx hb hown hz (mj_dn hme hi rfl) K0
    · cases hs
  | ldc_w x =>
    simp only [mj_st] at hs
    split at hs
    · rename_i v hv
      cases hs
      exact lv_ldcw hx hb hown (hts _ (mj_b7 (List.mem_filterMap.mpr ⟨_, mj_con_inv hv, rfl⟩))) (mj_dn hme hi rfl) (mj_cs rfl rfl (k H locs ls hR hS hl))
    · cases hs
  | ldc2_w x =>
    simp only [mj_st] at hs
    split at hs
    · rename_i v hv
      cases hs
      exact lv_ldc2 hx hb hown (hts _ (mj_b7 (List.mem_filterMap.mpr ⟨_, mj_con_inv hv, rfl⟩))) (mj_dn hme hi rfl) (mj_cs rfl rfl (k H locs ls hR hS hl))
    · cases hs
  | getstatic x =>
    simp only [mj_st] at hs
    split at hs
    · rename_i v hv
      cases hs
      obtain ⟨q, hq, hmem⟩ := mj_stt_inv hv
      cases hq
      obtain ⟨g1, g2, g3⟩ := mj_st0ok _ hmem
      dsimp only at g1 g2 g3
      have hz := hR.2.2.2.2.2.1 (v - 1) g2
      have e1 : v - 1 + 1 = v := Nat.sub_add_cancel g1
      rw [e1] at hz
      have hw := hts _ (mj_b4 (List.mem_map.mpr ⟨_, hmem, rfl⟩))
      obtain ⟨cf, kf, fi, f, a, cell, z1, z2, z3, z4, z5, z6, z7, z8⟩ := hz
      have K0 := (mj_cs rfl rfl (k H locs ls hR hS hl))
      rw [show (List.map (mj_cv (mj_ad pre base)) (Value.ref v :: st)) = Value.ref (pre v) :: List.map (mj_cv (mj_ad pre base)) st from by rw [List.map_cons]; show Value.ref (mj_ad pre base v) :: _ = _; rw [mj_ad_old g3]] at K0
      exact W.gets hx hb hown hw z1 z2 z3 z4 z5 (fun e => by rw [e] at z6; cases z6) z7 rfl (mj_dn hme hi rfl) K0
    · cases hs
  | iload z =>
    obtain ⟨a, ha, e⟩ := mj_li_inv hs
    cases e
    exact lv_iload hx hb (mj_dn hme hi rfl) (hl.2.2.2 _ _ ha) (mj_cs rfl rfl (k H locs ls hR hS hl))
  | iload_n z =>
    obtain ⟨a, ha, e⟩ := mj_li_inv hs
    cases e
    exact lv_iload_n hx hb (mj_dn hme hi rfl) rfl (hl.2.2.2 _ _ ha) (mj_cs rfl rfl (k H locs ls hR hS hl))
  | lload z =>
    obtain ⟨a, ha, e⟩ := mj_lo_inv hs
    cases e
    exact lv_lload hx hb (mj_dn hme hi rfl) (hl.2.2.2 _ _ ha) (mj_cs rfl rfl (k H locs ls hR hS hl))
  | lload_n z =>
    obtain ⟨a, ha, e⟩ := mj_lo_inv hs
    cases e
    exact lv_lload_n hx hb (mj_dn hme hi rfl) rfl (hl.2.2.2 _ _ ha) (mj_cs rfl rfl (k H locs ls hR hS hl))
  | aload z =>
    obtain ⟨a, ha, e⟩ := mj_la_inv hs
    cases e
    exact lv_aload hx hb (mj_dn hme hi rfl) (hl.2.2.2 _ _ ha) (mj_cs rfl rfl (k H locs ls hR hS hl))
  | aload_n z =>
    obtain ⟨a, ha, e⟩ := mj_la_inv hs
    cases e
    exact lv_aload_n hx hb (mj_dn hme hi rfl) rfl (hl.2.2.2 _ _ ha) (mj_cs rfl rfl (k H locs ls hR hS hl))
  | istore z =>
    obtain ⟨a, r, rfl, hlt, e⟩ := mj_si_inv hs
    cases e
    exact lv_istore hx hb (mj_dn hme hi rfl) hl.has (by rw [← hl.2.2.1]; exact hlt) rfl (fun ls1 h1 => mj_cs rfl rfl (k H locs ls1 hR hS (mj_lr.s1 hl.2.2.1 h1)))
  | istore_n z =>
    obtain ⟨a, r, rfl, hlt, e⟩ := mj_si_inv hs
    cases e
    exact lv_istore_n hx hb (mj_dn hme hi rfl) rfl hl.has (by rw [← hl.2.2.1]; exact hlt) rfl (fun ls1 h1 => mj_cs rfl rfl (k H locs ls1 hR hS (mj_lr.s1 hl.2.2.1 h1)))
  | lstore z =>
    obtain ⟨a, r, rfl, hlt, e⟩ := mj_sl_inv hs
    cases e
    exact lv_lstore hx hb (mj_dn hme hi rfl) hl.has (by rw [← hl.2.2.1]; exact hlt) rfl (fun ls1 h1 => mj_cs rfl rfl (k H locs ls1 hR hS (mj_lr.s2 hl.2.2.1 h1)))
  | lstore_n z =>
    obtain ⟨a, r, rfl, hlt, e⟩ := mj_sl_inv hs
    cases e
    exact lv_lstore_n hx hb (mj_dn hme hi rfl) rfl hl.has (by rw [← hl.2.2.1]; exact hlt) rfl (fun ls1 h1 => mj_cs rfl rfl (k H locs ls1 hR hS (mj_lr.s2 hl.2.2.1 h1)))
  | astore z =>
    obtain ⟨a, r, rfl, hlt, e⟩ := mj_sa_inv hs
    cases e
    exact lv_astore hx hb (mj_dn hme hi rfl) hl.has (by rw [← hl.2.2.1]; exact hlt) rfl (fun ls1 h1 => mj_cs rfl rfl (k H locs ls1 hR hS (mj_lr.s1 hl.2.2.1 h1)))
  | astore_n z =>
    obtain ⟨a, r, rfl, hlt, e⟩ := mj_sa_inv hs
    cases e
    exact lv_astore_n hx hb (mj_dn hme hi rfl) rfl hl.has (by rw [← hl.2.2.1]; exact hlt) rfl (fun ls1 h1 => mj_cs rfl rfl (k H locs ls1 hR hS (mj_lr.s1 hl.2.2.1 h1)))
  | iinc z w =>
    simp only [mj_st] at hs
    split at hs
    · rename_i a ha
      split at hs
      · rename_i hlt
        cases hs
        obtain ⟨j, hj⟩ := List.mem_iff_getElem?.mp (mj_ll0_mem (ad := mj_ad pre base) ha)
        exact lv_iinc hx hb (mj_dn hme hi rfl) hl.has hj rfl (by rw [← hl.2.2.1]; exact hlt) rfl (fun ls1 h1 => mj_cs rfl rfl (k H locs ls1 hR hS (mj_lr.s1 hl.2.2.1 h1)))
      · cases hs
    · cases hs
  | iadd =>
    obtain ⟨a, a2, r, rfl, e⟩ := mj_ii_inv hs
    cases e
    exact lv_iadd hx hb (mj_dn hme hi rfl) (mj_cs rfl rfl (k H locs ls hR hS hl))
  | isub =>
    obtain ⟨a, a2, r, rfl, e⟩ := mj_ii_inv hs
    cases e
    exact lv_isub hx hb (mj_dn hme hi rfl) (mj_cs rfl rfl (k H locs ls hR hS hl))
  | imul =>
    obtain ⟨a, a2, r, rfl, e⟩ := mj_ii_inv hs
    cases e
    exact lv_imul hx hb (mj_dn hme hi rfl) (mj_cs rfl rfl (k H locs ls hR hS hl))
  | iand =>
    obtain ⟨a, a2, r, rfl, e⟩ := mj_ii_inv hs
    cases e
    exact lv_iand hx hb (mj_dn hme hi rfl) (mj_cs rfl rfl (k H locs ls hR hS hl))
  | ior =>
    obtain ⟨a, a2, r, rfl, e⟩ := mj_ii_inv hs
    cases e
    exact lv_ior hx hb (mj_dn hme hi rfl) (mj_cs rfl rfl (k H locs ls hR hS hl))
  | ixor =>
    obtain ⟨a, a2, r, rfl, e⟩ := mj_ii_inv hs
    cases e
    exact lv_ixor hx hb (mj_dn hme hi rfl) (mj_cs rfl rfl (k H locs ls hR hS hl))
  | ishl =>
    obtain ⟨a, a2, r, rfl, e⟩ := mj_ii_inv hs
    cases e
    exact lv_ishl hx hb (mj_dn hme hi rfl) (mj_cs rfl rfl (k H locs ls hR hS hl))
  | ishr =>
    obtain ⟨a, a2, r, rfl, e⟩ := mj_ii_inv hs
    cases e
    exact lv_ishr hx hb (mj_dn hme hi rfl) (mj_cs rfl rfl (k H locs ls hR hS hl))
  | iushr =>
    obtain ⟨a, a2, r, rfl, e⟩ := mj_ii_inv hs
    cases e
    exact lv_iushr hx hb (mj_dn hme hi rfl) rfl (mj_cs rfl rfl (k H locs ls hR hS hl))
  | ladd =>
    obtain ⟨a, a2, r, rfl, e⟩ := mj_ll_inv hs
    cases e
    exact lv_ladd hx hb (mj_dn hme hi rfl) (mj_cs rfl rfl (k H locs ls hR hS hl))
  | lsub =>
    obtain ⟨a, a2, r, rfl, e⟩ := mj_ll_inv hs
    cases e
    exact lv_lsub hx hb (mj_dn hme hi rfl) (mj_cs rfl rfl (k H locs ls hR hS hl))
  | lmul =>
    obtain ⟨a, a2, r, rfl, e⟩ := mj_ll_inv hs
    cases e
    exact lv_lmul hx hb (mj_dn hme hi rfl) (mj_cs rfl rfl (k H locs ls hR hS hl))
  | land =>
    obtain ⟨a, a2, r, rfl, e⟩ := mj_ll_inv hs
    cases e
    exact lv_land hx hb (mj_dn hme hi rfl) (mj_cs rfl rfl (k H locs ls hR hS hl))
  | lor =>
    obtain ⟨a, a2, r, rfl, e⟩ := mj_ll_inv hs
    cases e
    exact lv_lor hx hb (mj_dn hme hi rfl) (mj_cs rfl rfl (k H locs ls hR hS hl))
  | lxor =>
    obtain ⟨a, a2, r, rfl, e⟩ := mj_ll_inv hs
    cases e
    exact lv_lxor hx hb (mj_dn hme hi rfl) (mj_cs rfl rfl (k H locs ls hR hS hl))
  | ineg =>
    simp only [mj_st] at hs
    split at hs
    · cases hs
      exact lv_ineg hx hb (mj_dn hme hi rfl) (mj_cs rfl rfl (k H locs ls hR hS hl))
    · cases hs
  | lneg =>
    simp only [mj_st] at hs
    split at hs
    · cases hs
      exact lv_lneg hx hb (mj_dn hme hi rfl) (mj_cs rfl rfl (k H locs ls hR hS hl))
    · cases hs
  | lcmp =>
    simp only [mj_st] at hs
    split at hs
    · cases hs
      exact W.lcmp hx hb (mj_dn hme hi rfl) (mj_cs rfl rfl (k H locs ls hR hS hl))
    · cases hs
  | i2l =>
    simp only [mj_st] at hs
    split at hs
    · cases hs
      exact lv_i2l hx hb (mj_dn hme hi rfl) rfl (mj_cs rfl rfl (k H locs ls hR hS hl))
    · cases hs
  | l2i =>
    simp only [mj_st] at hs
    split at hs
    · cases hs
      exact lv_l2i hx hb (mj_dn hme hi rfl) rfl (mj_cs rfl rfl (k H locs ls hR hS hl))
    · cases hs
  | i2c =>
    simp only [mj_st] at hs
    split at hs
    · cases hs
      exact lv_i2c hx hb (mj_dn hme hi rfl) rfl (mj_cs rfl rfl (k H locs ls hR hS hl))
    · cases hs
  | lshl =>
    simp only [mj_st] at hs
    split at hs
    · cases hs
      exact lv_lshl hx hb (mj_dn hme hi rfl) rfl (mj_cs rfl rfl (k H locs ls hR hS hl))
    · cases hs
  | lshr =>
    simp only [mj_st] at hs
    split at hs
    · cases hs
      exact lv_lshr hx hb (mj_dn hme hi rfl) rfl (mj_cs rfl rfl (k H locs ls hR hS hl))
    · cases hs
  | idiv =>
    simp only [mj_st] at hs
    split at hs
    · split at hs
      · cases hs
      · rename_i hne
        cases hs
        exact lv_idiv hx hb (mj_dn hme hi rfl) hne (mj_cs rfl rfl (k H locs ls hR hS hl))
    · cases hs
  | irem =>
    simp only [mj_st] at hs
    split at hs
    · split at hs
      · cases hs
      · rename_i hne
        cases hs
        exact lv_irem hx hb (mj_dn hme hi rfl) hne (mj_cs rfl rfl (k H locs ls hR hS hl))
    · cases hs
  | ldiv =>
    simp only [mj_st] at hs
    split at hs
    · split at hs
      · cases hs
      · rename_i hne
        cases hs
        exact lv_ldiv hx hb (mj_dn hme hi rfl) hne (mj_cs rfl rfl (k H locs ls hR hS hl))
    · cases hs
  | lrem =>
    simp only [mj_st] at hs
    split at hs
    · split at hs
      · cases hs
      · rename_i hne
        cases hs
        exact lv_lrem hx hb (mj_dn hme hi rfl) hne (mj_cs rfl rfl (k H locs ls hR hS hl))
    · cases hs
  | dup =>
    simp only [mj_st] at hs
    split at hs
    · split at hs
      · rename_i hne
        cases hs
        exact lv_dup hx hb (mj_dn hme hi rfl) (by rw [mj_cv_cat]; exact hne) (mj_cs rfl rfl (k H locs ls hR hS hl))
      · cases hs
    · cases hs
  | pop =>
    simp only [mj_st] at hs
    split at hs
    · split at hs
      · rename_i hne
        cases hs
        exact lv_pop hx hb (mj_dn hme hi rfl) (by rw [mj_cv_cat]; exact hne) (mj_cs rfl rfl (k H locs ls hR hS hl))
      · cases hs
    · cases hs
  | pop2 =>
    simp only [mj_st] at hs
    split at hs
    · split at hs
      · rename_i hne
        cases hs
        exact lv_pop2_2 hx hb (mj_dn hme hi rfl) (by rw [mj_cv_cat]; exact hne) (mj_cs rfl rfl (k H locs ls hR hS hl))
      · cases hs
    · cases hs
  | dup2 =>
    simp only [mj_st] at hs
    split at hs
    · split at hs
      · rename_i hne
        cases hs
        exact lv_dup2_11 hx hb (mj_dn hme hi rfl) (by rw [mj_cv_cat]; exact hne.1) (by rw [mj_cv_cat]; exact hne.2) (mj_cs rfl rfl (k H locs ls hR hS hl))
      · cases hs
    · cases hs
  | goto off =>
    simp only [mj_st] at hs
    obtain ⟨t, ht, e⟩ := Option.map_eq_some_iff.mp hs
    cases e
    exact lv_goto hx hb (mj_dn hme hi rfl) (mj_j_inv ht) (mj_cs rfl rfl (k H locs ls hR hS hl))
  | ifCond cd off =>
    simp only [mj_st] at hs
    split at hs
    · rename_i hj
      have hj := mj_j_inv hj
      cases hs
      have K0 := (mj_cs rfl rfl (k H locs ls hR hS hl))
      rw [mj_cmp_eq] at K0
      cases cd with
      | eq => exact lv_if_eq hx hb (mj_dn hme hi rfl) hj (fun hc => by dsimp only at K0; rw [if_pos hc] at K0; exact K0) (fun hc => by dsimp only at K0; rw [if_neg hc] at K0; exact K0)
      | lt => exact lv_if_lt hx hb (mj_dn hme hi rfl) hj (fun hc => by dsimp only at K0; rw [if_pos hc] at K0; exact K0) (fun hc => by dsimp only at K0; rw [if_neg hc] at K0; exact K0)
      | ge => exact lv_if_ge hx hb (mj_dn hme hi rfl) hj (fun hc => by dsimp only at K0; rw [if_pos hc] at K0; exact K0) (fun hc => by dsimp only at K0; rw [if_neg hc] at K0; exact K0)
      | gt => exact lv_if_gt hx hb (mj_dn hme hi rfl) hj (fun hc => by dsimp only at K0; rw [if_pos hc] at K0; exact K0) (fun hc => by dsimp only at K0; rw [if_neg hc] at K0; exact K0)
      | le => exact lv_if_le hx hb (mj_dn hme hi rfl) hj (fun hc => by dsimp only at K0; rw [if_pos hc] at K0; exact K0) (fun hc => by dsimp only at K0; rw [if_neg hc] at K0; exact K0)
      | ne => exact lv_if_ne hx hb (mj_dn hme hi rfl) hj (fun hc => by dsimp only at K0; rw [if_neg hc] at K0; exact K0) (fun hc => by dsimp only at K0; rw [if_pos hc] at K0; exact K0)
    · cases hs
  | if_icmp cd off =>
    simp only [mj_st] at hs
    split at hs
    · rename_i hj
      have hj := mj_j_inv hj
      cases hs
      have K0 := (mj_cs rfl rfl (k H locs ls hR hS hl))
      rw [mj_cmp_eq] at K0
      cases cd with
      | eq => exact lv_icmp_eq hx hb (mj_dn hme hi rfl) hj (fun hc => by dsimp only at K0; rw [if_pos hc] at K0; exact K0) (fun hc => by dsimp only at K0; rw [if_neg hc] at K0; exact K0)
      | lt => exact lv_icmp_lt hx hb (mj_dn hme hi rfl) hj (fun hc => by dsimp only at K0; rw [if_pos hc] at K0; exact K0) (fun hc => by dsimp only at K0; rw [if_neg hc] at K0; exact K0)
      | ge => exact lv_icmp_ge hx hb (mj_dn hme hi rfl) hj (fun hc => by dsimp only at K0; rw [if_pos hc] at K0; exact K0) (fun hc => by dsimp only at K0; rw [if_neg hc] at K0; exact K0)
      | gt => exact lv_icmp_gt hx hb (mj_dn hme hi rfl) hj (fun hc => by dsimp only at K0; rw [if_pos hc] at K0; exact K0) (fun hc => by dsimp only at K0; rw [if_neg hc] at K0; exact K0)
      | le => exact lv_icmp_le hx hb (mj_dn hme hi rfl) hj (fun hc => by dsimp only at K0; rw [if_pos hc] at K0; exact K0) (fun hc => by dsimp only at K0; rw [if_neg hc] at K0; exact K0)
      | ne => exact lv_icmp_ne hx hb (mj_dn hme hi rfl) hj (fun hc => by dsimp only at K0; rw [if_neg hc] at K0; exact K0) (fun hc => by dsimp only at K0; rw [if_pos hc] at K0; exact K0)
    · cases hs
  | tableswitch dflt lo hi2 offs =>
    obtain ⟨y9, b9, n9, r9, o9, c9, len, g1, g2, -⟩ := mj_dec hi
    rw [hme] at g1
    cases g1
    simp only [mj_st] at hs
    split at hs
    · split at hs
      · rename_i hout
        obtain ⟨t, ht, e⟩ := Option.map_eq_some_iff.mp hs
        cases e
        exact lv_tableOut hx hb g2 hout (mj_j_inv ht) (mj_cs rfl rfl (k H locs ls hR hS hl))
      · rename_i hin2
        split at hs
        · rename_i off hoff
          obtain ⟨t, ht, e⟩ := Option.map_eq_some_iff.mp hs
          cases e
          exact lv_tableIn hx hb g2 (fun q => hin2 (Or.inl q)) (fun q => hin2 (Or.inr q)) hoff (mj_j_inv ht) (mj_cs rfl rfl (k H locs ls hR hS hl))
        · cases hs
    · cases hs
  | lookupswitch dflt ps =>
    obtain ⟨y9, b9, n9, r9, o9, c9, len, g1, g2, -⟩ := mj_dec hi
    rw [hme] at g1
    cases g1
    simp only [mj_st] at hs
    split at hs
    · split at hs
      · rename_i hp
        obtain ⟨t, ht, e⟩ := Option.map_eq_some_iff.mp hs
        cases e
        exact lv_lookup hx hb g2 hp rfl (mj_j_inv ht) (mj_cs rfl rfl (k H locs ls hR hS hl))
      · cases hs
    · cases hs
  | iaload =>
    simp only [mj_st] at hs
    split at hs
    · obtain ⟨v, hv, e⟩ := Option.map_eq_some_iff.mp hs
      cases e
      obtain ⟨cell, g1, g2, g3, g4, g5⟩ := mj_rd (by decide) hv hR
      exact W.iald hx hb g1 g2 g3 g4 g5 rfl rfl (mj_dn hme hi rfl) (mj_cs rfl rfl (k H locs ls hR hS hl))
    · cases hs
  | baload =>
    simp only [mj_st] at hs
    split at hs
    · obtain ⟨v, hv, e⟩ := Option.map_eq_some_iff.mp hs
      cases e
      obtain ⟨cell, g1, g2, g3, g4, g5⟩ := mj_rd (by decide) hv hR
      exact W.zald hx hb g1 g2 g3 g4 g5 rfl rfl (mj_dn hme hi rfl) (mj_cs rfl rfl (k H locs ls hR hS hl))
    · cases hs
  | laload =>
    simp only [mj_st] at hs
    split at hs
    · obtain ⟨v, hv, e⟩ := Option.map_eq_some_iff.mp hs
      cases e
      obtain ⟨cell, g1, g2, g3, g4, g5⟩ := mj_rd (by decide) hv hR
      exact W.lald hx hb g1 g2 g3 g4 g5 rfl rfl (mj_dn hme hi rfl) (mj_cs rfl rfl (k H locs ls hR hS hl))
    · cases hs
  | aaload =>
    simp only [mj_st] at hs
    split at hs
    · split at hs
      · split at hs
        · rename_i k0 _ _ hk0
          obtain ⟨v, hv, e⟩ := Option.map_eq_some_iff.mp hs
          cases e
          obtain ⟨cell, g1, g2, g3, g4, g5⟩ := mj_rd (by omega) hv hR
          have het : (mj_et k0).isReference = true := by
            unfold mj_et
            rw [if_neg (by omega), if_neg (by omega), if_neg (by omega)]
            rfl
          exact W.aald hx hb g1 g2 het g3 g4 g5 rfl rfl (mj_dn hme hi rfl) (mj_cs rfl rfl (k H locs ls hR hS hl))
        · cases hs
      · cases hs
    · cases hs
  | iastore =>
    simp only [mj_st] at hs
    split at hs
    · obtain ⟨h1, hh, e⟩ := Option.map_eq_some_iff.mp hs
      cases e
      obtain ⟨e1, e2, cA, N, f, g1, g2, g3, g4, g5⟩ := mj_wr (by decide) hh hR hS
      exact W.iast hx hb g1 (g2 _ _) (fun q => by cases q) (by rw [arrV_size]; exact g4) rfl rfl (mj_dn hme hi rfl) (fun H1 z1 z2 z3 => mj_cs e1 e2 (k H1 _ ls (g5 H1 z1 z2 z3).1 (g5 H1 z1 z2 z3).2 hl))
    · cases hs
  | bastore =>
    simp only [mj_st] at hs
    split at hs
    · obtain ⟨h1, hh, e⟩ := Option.map_eq_some_iff.mp hs
      cases e
      obtain ⟨e1, e2, cA, N, f, g1, g2, g3, g4, g5⟩ := mj_wr (by decide) hh hR hS
      exact W.zast hx hb g1 (g2 _ _) (fun q => by cases q) (by rw [arrV_size]; exact g4) rfl rfl (mj_dn hme hi rfl) (fun H1 z1 z2 z3 => mj_cs e1 e2 (k H1 _ ls (g5 H1 z1 z2 z3).1 (g5 H1 z1 z2 z3).2 hl))
    · cases hs
  | lastore =>
    simp only [mj_st] at hs
    split at hs
    · obtain ⟨h1, hh, e⟩ := Option.map_eq_some_iff.mp hs
      cases e
      obtain ⟨e1, e2, cA, N, f, g1, g2, g3, g4, g5⟩ := mj_wr (by decide) hh hR hS
      exact W.last hx hb g1 (g2 _ _) (fun q => by cases q) (by rw [arrV_size]; exact g4) rfl rfl (mj_dn hme hi rfl) (fun H1 z1 z2 z3 => mj_cs e1 e2 (k H1 _ ls (g5 H1 z1 z2 z3).1 (g5 H1 z1 z2 z3).2 hl))
    · cases hs
  | aastore =>
    simp only [mj_st] at hs
    split at hs
    · split at hs
      · split at hs
        · rename_i hv ha hc
          obtain ⟨hc, hc2⟩ := hc
          subst hc
          obtain ⟨h1, hh, e⟩ := Option.map_eq_some_iff.mp hs
          cases e
          obtain ⟨e1, e2, -⟩ := mj_wr (by omega) hh hR hS
          exact mj_k_aast F hme hi hv hc2 hh hR hS (fun H1 locs1 r1 r2 => mj_cs e1 e2 (k H1 locs1 ls r1 r2 hl))
        · cases hs
      · cases hs
    · cases hs
  | arraylength =>
    simp only [mj_st] at hs
    split at hs
    · split at hs
      · split at hs
        · rename_i ha hk0
          cases hs
          obtain ⟨cell, g1, g2, g3, g4, g5, g6⟩ := (hR.2.2.2.1 _ _ ha).2.2 hk0.1
          exact W.alen hx hb g1 g2 g5 rfl rfl (mj_dn hme hi rfl) (mj_cs rfl rfl (k H locs ls hR hS hl))
        · cases hs
      · cases hs
    · cases hs
  | newarray t =>
    simp only [mj_st] at hs
    split at hs
    · split at hs
      · rename_i h0
        split at hs
        · cases hs
          simp only [List.length_append, mj_hsz_push, List.length_cons, List.length_nil, List.length_replicate, Nat.add_sub_cancel_left] at hc hsl k
          exact mj_k_newa F hme (k := 1000) (by decide) rfl rfl rfl (by decide +kernel) (by decide) hi h0 hR hS hc hsl (fun H1 r1 r2 => k H1 locs ls r1 r2 hl)
        · cases hs
          simp only [List.length_append, mj_hsz_push, List.length_cons, List.length_nil, List.length_replicate, Nat.add_sub_cancel_left] at hc hsl k
          exact mj_k_newa F hme (k := 1001) (by decide) rfl rfl rfl (by decide +kernel) (by decide) hi h0 hR hS hc hsl (fun H1 r1 r2 => k H1 locs ls r1 r2 hl)
        · cases hs
          simp only [List.length_append, mj_hsz_push, List.length_cons, List.length_nil, List.length_replicate, Nat.add_sub_cancel_left] at hc hsl k
          exact mj_k_newa F hme (k := 1005) (by decide) rfl rfl rfl (by decide +kernel) (by decide) hi h0 hR hS hc hsl (fun H1 r1 r2 => k H1 locs ls r1 r2 hl)
        · cases hs
      · cases hs
    · cases hs
  | anewarray x =>
    simp only [mj_st] at hs
    split at hs
    · split at hs
      · rename_i hn
        split at hs
        · rename_i h0
          cases hs
          obtain ⟨g1, g2⟩ := mj_anw_inv hn
          simp only [List.length_append, mj_hsz_push, List.length_cons, List.length_nil, List.length_replicate, Nat.add_sub_cancel_left] at hc hsl k
          exact mj_k_anew F hme hi g1 g2 h0 hR hS hc hsl (fun H1 r1 r2 => k H1 locs ls r1 r2 hl)
        · cases hs
      · cases hs
    · cases hs
  | new x =>
    simp only [mj_st] at hs
    split at hs
    · rename_i c0 fs hn
      cases hs
      unfold mj_new at hn
      split at hn
      · rename_i c1 hn1
        cases hn
        have e1 := mj_df_len c0
        unfold mj_df at e1
        simp only [List.length_append, mj_hsz_push, List.length_cons, List.length_nil, Nat.add_sub_cancel_left, e1] at hc hsl k
        exact mj_k_new F hme hi hn1 hR hS hc hsl (fun H1 r1 r2 => k H1 locs ls r1 r2 hl)
      · cases hn
    · cases hs
  | getfield x =>
    simp only [mj_st] at hs
    split at hs
    · split at hs
      · rename_i hf ha
        split at hs
        · rename_i he
          subst he
          split at hs
          · rename_i v hv
            cases hs
            exact mj_k_get F hme hi hf ha hv hR (mj_cs rfl rfl (k H locs ls hR hS hl))
          · cases hs
        · cases hs
      · cases hs
    · cases hs
  | putfield x =>
    simp only [mj_st] at hs
    split at hs
    · split at hs
      · rename_i hf ha
        split at hs
        · rename_i he
          obtain ⟨he, hw, hn0, hkl, hnar, hfit⟩ := he
          subst he
          subst hw
          cases hs
          exact mj_k_put F hme hi hf ha hn0 hkl hnar hfit hR hS (fun H1 locs1 r1 r2 => mj_cs (List.length_set ..) (mj_hsz_set ha (List.length_set ..)) (k H1 locs1 ls r1 r2 hl))
        · cases hs
      · cases hs
    · cases hs
  | invokespecial x =>
    simp only [mj_st] at hs
    split at hs
    · rename_i hcal
      split at hs
      · rename_i hcat
        cases hs
        have hw := mj_cwm F (mj_cal_inv hcal)
        exact W.objInit hx hb hown (hw _ List.mem_cons_self) (hw _ (List.mem_cons_of_mem _ List.mem_cons_self)) (hw _ (List.mem_cons_of_mem _ (List.mem_cons_of_mem _ List.mem_cons_self))) rfl (by rw [hml]; exact hl.1) rfl (mj_dn hme hi rfl) (Nat.le_trans (by decide) hfr) (by rw [mj_catm]; show 2 * 0 + mj_cat _ + 12 ≤ _; omega) (mj_cs rfl rfl (k H locs ls hR hS hl))
      · cases hs
    · cases hs
  | invokestatic x =>
    simp only [mj_st] at hs
    split at hs
    · rename_i hcal
      split at hs
      · rename_i hcat
        cases hs
        have hw := mj_cwm F (mj_cal_inv hcal)
        exact va_mmax hx hb (by rw [hml]; exact hl.1.symm) hown (hw _ List.mem_cons_self) (hw _ (List.mem_cons_of_mem _ List.mem_cons_self)) (hw _ (List.mem_cons_of_mem _ (List.mem_cons_of_mem _ List.mem_cons_self))) (hw _ (List.mem_cons_of_mem _ (List.mem_cons_of_mem _ (List.mem_cons_of_mem _ List.mem_cons_self)))) (Nat.le_trans (by decide) hfr) (by rw [mj_catm]; omega) hc0 hs0 (mj_dn hme hi rfl) (mj_cs rfl rfl (k H locs ls hR hS hl))
      · cases hs
    · rename_i hcal
      split at hs
      · rename_i hcat
        cases hs
        have hw := mj_cwm F (mj_cal_inv hcal)
        exact va_mmin hx hb (by rw [hml]; exact hl.1.symm) hown (hw _ List.mem_cons_self) (hw _ (List.mem_cons_of_mem _ List.mem_cons_self)) (hw _ (List.mem_cons_of_mem _ (List.mem_cons_of_mem _ List.mem_cons_self))) (hw _ (List.mem_cons_of_mem _ (List.mem_cons_of_mem _ (List.mem_cons_of_mem _ List.mem_cons_self)))) (Nat.le_trans (by decide) hfr) (by rw [mj_catm]; omega) hc0 hs0 (mj_dn hme hi rfl) (mj_cs rfl rfl (k H locs ls hR hS hl))
      · cases hs
    · rename_i hcal
      split at hs
      · rename_i hcat
        cases hs
        have hw := mj_cwm F (mj_cal_inv hcal)
        exact va_mabs hx hb (by rw [hml]; exact hl.1.symm) hown (hw _ List.mem_cons_self) (hw _ (List.mem_cons_of_mem _ List.mem_cons_self)) (hw _ (List.mem_cons_of_mem _ (List.mem_cons_of_mem _ List.mem_cons_self))) (hw _ (List.mem_cons_of_mem _ (List.mem_cons_of_mem _ (List.mem_cons_of_mem _ List.mem_cons_self)))) (Nat.le_trans (by decide) hfr) (by rw [mj_catm]; omega) hc0 hs0 (mj_dn hme hi rfl) (mj_cs rfl rfl (k H locs ls hR hS hl))
      · cases hs
    · rename_i hcal
      split at hs
      · rename_i hcat
        cases hs
        have hw := mj_cwm F (mj_cal_inv hcal)
        exact va_mmax_long hx hb (by rw [hml]; exact hl.1.symm) hown (hw _ List.mem_cons_self) (hw _ (List.mem_cons_of_mem _ List.mem_cons_self)) (hw _ (List.mem_cons_of_mem _ (List.mem_cons_of_mem _ List.mem_cons_self))) (hw _ (List.mem_cons_of_mem _ (List.mem_cons_of_mem _ (List.mem_cons_of_mem _ List.mem_cons_self)))) (Nat.le_trans (by decide) hfr) (by rw [mj_catm]; omega) hc0 hs0 (mj_dn hme hi rfl) (mj_cs rfl rfl (k H locs ls hR hS hl))
      · cases hs
    · rename_i hcal
      split at hs
      · rename_i hcat
        cases hs
        have hw := mj_cwm F (mj_cal_inv hcal)
        exact va_mmin_long hx hb (by rw [hml]; exact hl.1.symm) hown (hw _ List.mem_cons_self) (hw _ (List.mem_cons_of_mem _ List.mem_cons_self)) (hw _ (List.mem_cons_of_mem _ (List.mem_cons_of_mem _ List.mem_cons_self))) (hw _ (List.mem_cons_of_mem _ (List.mem_cons_of_mem _ (List.mem_cons_of_mem _ List.mem_cons_self)))) (Nat.le_trans (by decide) hfr) (by rw [mj_catm]; omega) hc0 hs0 (mj_dn hme hi rfl) (mj_cs rfl rfl (k H locs ls hR hS hl))
      · cases hs
    · rename_i hcal
      split at hs
      · rename_i ha0 ha1
        split at hs
        · rename_i hq
          obtain ⟨hcat, g1, g2, g3, g4, g5, g6, g7, g8⟩ := hq
          cases hs
          have hlen := mj_cpl_len g6 g7
          exact mj_k_copy F hl.1 hme hi (mj_cal_inv hcal) ha0 ha1 g1 g2 (by rw [mj_catm]; exact hcat) g3 g4 g5 g6 g7 g8 hR hS (fun H1 locs1 r1 r2 => mj_cs (List.length_set ..) (mj_hsz_set ha1 hlen) (k H1 locs1 ls r1 r2 hl))
        · cases hs
      · cases hs
    · cases hs
  | invokevirtual x =>
    simp only [mj_st] at hs
    split at hs
    · rename_i hcal
      split at hs
      · rename_i ha
        split at hs
        · rename_i hq
          cases hs
          exact mj_k_slen F hl.1 hme hi (mj_cal_inv hcal) ha hq.2 (by rw [mj_catm]; exact hq.1) hR hS hc0 hs0 (mj_cs rfl rfl (k H locs ls hR hS hl))
        · cases hs
      · cases hs
    · rename_i hcal
      split at hs
      · rename_i v hv
        split at hs
        · rename_i hq
          cases hs
          obtain ⟨vs, z1, z2, z3⟩ := mj_el_inv hv
          exact mj_k_schar F hl.1 hme hi (mj_cal_inv hcal) hv hq.2 (by rw [mj_catm]; exact hq.1) hR hS hc0 hs0 (mj_char (g := fun u => F0 mm (pc + 3) ls (u :: List.map (mj_cv (mj_ad pre base)) _)) F hR z1 z3 (mj_cs rfl rfl (k H locs ls hR hS hl)))
        · cases hs
      · cases hs
    · cases hs
  | _ => cases hs
end MJT
