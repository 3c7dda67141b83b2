/-! what the tables' entries say -/
theorem mj_find {α : Type} {L : List (Nat × Nat × α)} {o x : Nat} {q : Nat × Nat × α} (h : L.find? (fun e => e.1 == o && e.2.1 == x) = some q) : (o, x, q.2.2) ∈ L := by
  have h1 := List.find?_some h
  have h2 := List.mem_of_find?_eq_some h
  obtain ⟨a, b, d⟩ := q
  simp only [Bool.and_eq_true, beq_iff_eq] at h1
  obtain ⟨rfl, rfl⟩ := h1
  exact h2
theorem mj_b1 {w : Cond} (h : w ∈ mj_cw) : w ∈ mj_big := List.mem_append_left _ h
theorem mj_b2 {w : Cond} (h : w ∈ mj_lw) : w ∈ mj_big := List.mem_append_right _ (List.mem_append_left _ h)
theorem mj_b3 {w : Cond} (h : w ∈ mj_fw) : w ∈ mj_big := List.mem_append_right _ (List.mem_append_right _ (List.mem_append_left _ h))
theorem mj_b4 {w : Cond} (h : w ∈ mj_zw) : w ∈ mj_big := List.mem_append_right _ (List.mem_append_right _ (List.mem_append_right _ (List.mem_append_left _ h)))
theorem mj_b5 {w : Cond} (h : w ∈ mj_mw) : w ∈ mj_big := List.mem_append_right _ (List.mem_append_right _ (List.mem_append_right _ (List.mem_append_right _ (List.mem_append_left _ h))))
theorem mj_b6 {w : Cond} (h : w ∈ mj_nww) : w ∈ mj_big := List.mem_append_right _ (List.mem_append_right _ (List.mem_append_right _ (List.mem_append_right _ (List.mem_append_right _ (List.mem_append_left _ h)))))
theorem mj_b7 {w : Cond} (h : w ∈ mj_kw) : w ∈ mj_big := List.mem_append_right _ (List.mem_append_right _ (List.mem_append_right _ (List.mem_append_right _ (List.mem_append_right _ (List.mem_append_right _ (List.mem_append_left _ h))))))
theorem mj_b8 {w : Cond} (h : w ∈ mj_aw) : w ∈ mj_big := List.mem_append_right _ (List.mem_append_right _ (List.mem_append_right _ (List.mem_append_right _ (List.mem_append_right _ (List.mem_append_right _ (List.mem_append_right _ (List.mem_append_left _ h)))))))
theorem mj_b9 {w : Cond} (h : w ∈ mj_jw) : w ∈ mj_big := List.mem_append_right _ (List.mem_append_right _ (List.mem_append_right _ (List.mem_append_right _ (List.mem_append_right _ (List.mem_append_right _ (List.mem_append_right _ (List.mem_append_right _ h)))))))
theorem mj_cfl : mj_cf.length = mj_nc := by decide +kernel
theorem mj_nc9 : mj_nc < 900 := by decide +kernel
theorem mj_fok : ∀ c, c < mj_nc → ∀ k, k < mj_N c → parseFieldDescriptor (mj_T c k).2.2.1 = some (mj_ty c k) ∧ (mj_T c k).1 = mj_nm c := by decide +kernel
theorem mj_nmok : ∀ c, c < mj_nc → ∀ a, a < mj_N c → ∀ b, b < mj_N c → a ≠ b → (mj_T c a).2.1 ≠ (mj_T c b).2.1 := by decide +kernel
set_option maxRecDepth 100000 in
theorem mj_iniok : ∀ m, m < mj_ms.length → mj_ini m = 0 ∨ mj_own (mj_o m) = mj_nm (mj_ini m - 1) := by decide +kernel
theorem mj_cl_get {c : Nat} (h : c < mj_nc) : mj_cl[c]? = some (mj_nm c, mj_T c, mj_N c) := by simp [mj_cl, h]
theorem mj_fe_lt {c k : Nat} {q : String × String × String × Bool × FieldType} (h : mj_fe c k = some q) : c < mj_nc ∧ k < mj_N c := by
  unfold mj_fe at h
  cases hc : mj_cf[c]? with
  | none => rw [hc] at h; cases h
  | some l =>
    rw [hc] at h
    have h1 : c < mj_cf.length := (List.getElem?_eq_some_iff.mp hc).1
    have h2 : k < l.length := (List.getElem?_eq_some_iff.mp h).1
    refine ⟨by rw [← mj_cfl]; exact h1, ?_⟩
    unfold mj_N
    rw [List.getD_eq_getElem?_getD, hc]
    exact h2
theorem mj_fld_inv {m x c k : Nat} {ty : FieldType} {w : Bool} (h : mj_fld m x = some (c, k, ty, w)) : (mj_o m, x, c, k) ∈ mj_ft ∧ c < mj_nc ∧ k < mj_N c ∧ mj_ty c k = ty ∧ w = (!(mj_T c k).2.2.2 || mj_ini m == c + 1) := by
  unfold mj_fld at h
  cases hq : mj_ft.find? (fun e => e.1 == mj_o m && e.2.1 == x) with
  | none => rw [hq] at h; cases h
  | some q =>
    rw [hq] at h
    have hm := mj_find hq
    obtain ⟨q1, q2, c', k'⟩ := q
    dsimp only at h hm
    cases hf : mj_fe c' k' with
    | none => rw [hf] at h; cases h
    | some r =>
      rw [hf] at h
      obtain ⟨a, b, d, fin, ty'⟩ := r
      cases h
      obtain ⟨l1, l2⟩ := mj_fe_lt hf
      refine ⟨hm, l1, l2, ?_, ?_⟩
      · unfold mj_ty
        rw [hf]
      · unfold mj_T
        rw [hf]
theorem mj_lw_in {c : Nat} (h : c < mj_nc) : ∀ w ∈ u_ws (mj_nm c) (mj_T c) (mj_N c), w ∈ mj_big := fun w hw => mj_b2 (List.mem_flatMap.mpr ⟨c, List.mem_range.mpr h, hw⟩)
theorem mj_fw_in {o x c k : Nat} (h : (o, x, c, k) ∈ mj_ft) : Cond.fieldLink (mj_own o) x (mj_nm c) (mj_T c k).2.1 (mj_T c k).2.2.1 ∈ mj_big := mj_b3 (List.mem_map.mpr ⟨_, h, rfl⟩)
section MJH
variable {p : Program} {l : Launch} {e : Env} {R : Room} {s : State} {mm : MethodId} {args : Array Value} {below : List Frame} {meth : Method} {c : Code} {H : Heap} {locs : List Loc} {cells slots : Nat} {Q : State → Prop} {D : va_G} {pre : Nat → Nat} {base m pc : Nat} {y : MethodName} {b : ByteArray} {n o ci : Nat} {rt : Option FieldType} {ls : Array Slot} {rest : List Value} {h : mj_H}
theorem mj_k_get (F : mj_Fr p R s mm args meth c D pre base m b n) (hme : mj_ms[m]? = some (y, b, n, rt, o, ci)) {x c0 k a : Nat} {ty : FieldType} {w : Bool} {fs : List Value} {v : Value} (hi : mj_ins m pc = some (.getfield x)) (hf : mj_fld m x = some (c0, k, ty, w)) (ha : h[a]? = some (c0, fs)) (hv : fs[k]? = some v) (hR : mj_R D pre base s h H)
    (K : W p l e R s mm args below meth c H locs cells slots Q (F0 mm (pc + 3) ls (mj_cv (mj_ad pre base) v :: rest))) : W p l e R s mm args below meth c H locs cells slots Q (F0 mm pc ls (.ref (mj_ad pre base a) :: rest)) := by
  obtain ⟨hx, hb, hml, hown, hts, hK, hin, hfr, hlo, hbs⟩ := F
  obtain ⟨h1, h2, h3, h4, h5⟩ := mj_fld_inv hf
  have hat := (hR.2.2.2.1 a _ ha).1 (Nat.lt_trans h2 mj_nc9)
  have hP : va_P D mj_cl [(mj_ad pre base a, .inr (c0, fs.map (mj_cv (mj_ad pre base))))] H := by
    intro j q hj
    cases j with
    | zero => cases hj; exact hat
    | succ j => cases hj
  exact va_get (v := mj_cv (mj_ad pre base) v) hx hb hts (mj_lw_in h2) hown hK.1 hP 0 rfl (mj_cl_get h2) k h3 (hts _ (mj_fw_in h1)) (fun _ h9 => by rw [(mj_fok c0 h2 k h3).2] at h9; exact h9) (by rw [List.getElem?_map, hv]; rfl) (mj_dn hme hi rfl) K
theorem mj_ini_len {m : Nat} (h : mj_ms[m]? = some (y, b, n, rt, o, ci)) : m < mj_ms.length := (List.getElem?_eq_some_iff.mp h).1
theorem mj_k_put (F : mj_Fr p R s mm args meth c D pre base m b n) (hme : mj_ms[m]? = some (y, b, n, rt, o, ci)) {x c0 k a : Nat} {ty : FieldType} {fs : List Value} {v : Value} (hi : mj_ins m pc = some (.putfield x)) (hf : mj_fld m x = some (c0, k, ty, true)) (ha : h[a]? = some (c0, fs)) (ha0 : mj_n0 ≤ a) (hkl : k < fs.length) (hn : narrow ty v = v) (hfit : fits ty v = true) (hR : mj_R D pre base s h H) (hS : va_S (fun q => base ≤ q) s.heap H locs)
    (K : ∀ (H1 : Heap) (locs1 : List Loc), mj_R D pre base s (h.set a (c0, fs.set k v)) H1 → va_S (fun q => base ≤ q) s.heap H1 locs1 → W p l e R s mm args below meth c H1 locs1 cells slots Q (F0 mm (pc + 3) ls rest)) : W p l e R s mm args below meth c H locs cells slots Q (F0 mm pc ls (mj_cv (mj_ad pre base) v :: .ref (mj_ad pre base a) :: rest)) := by
  obtain ⟨hx, hb, hml, hown, hts, hK, hin, hfr, hlo, hbs⟩ := F
  obtain ⟨h1, h2, h3, h4, h5⟩ := mj_fld_inv hf
  have hat := (hR.2.2.2.1 a _ ha).1 (Nat.lt_trans h2 mj_nc9)
  have hlinw := hts _ (mj_fw_in h1)
  have hlays := mj_lw_in h2
  obtain ⟨hp1, hp2⟩ := mj_fok c0 h2 k h3
  have hnm := mj_nmok c0 h2
  have hc := mj_cl_get h2
  have hap := va_apart (own := mj_own (mj_o m)) hts hlays (mj_ty c0) (fun k hk => (mj_fok c0 h2 k hk).1) hnm hK.1 hc
  have hn2 : narrow ty (mj_cv (mj_ad pre base) v) = mj_cv (mj_ad pre base) v := by
    cases v with
    | ref q => cases ty <;> rfl
    | _ => exact hn
  have hfit2 : fits ty (mj_cv (mj_ad pre base) v) = true := by
    cases v with
    | ref q => cases ty <;> first | exact hfit | rfl
    | _ => exact hfit
  obtain ⟨r, e1, cell, q1, q2, q3, q4⟩ := hat
  have hr : r = (mj_nm c0, mj_T c0, mj_N c0) := Option.some.inj (e1.symm.trans hc)
  subst hr
  obtain ⟨hSl, hfc, kC, hkC, hkind⟩ := hK.1.1 c0 _ hc
  obtain ⟨cf, kf, fi, f, hif, hsl⟩ := hSl k h3
  rw [h4] at hp1
  have hst := (u_facts hfc hkC (u_lays hts hlays h3) hif).1
  have hfl : f.slot < cell.slots.size := by rw [hsl]; exact k2_hasslot (q4 k h3)
  have hend : ∀ H' : Heap, H'[mj_ad pre base a]? = some (cell.setSlot f.slot (mj_cv (mj_ad pre base) v)) → H'.size = H.size → (∀ q, q ≠ mj_ad pre base a → H'[q]? = H[q]?) → W p l e R s mm args below meth c H' (locs ++ [⟨mj_ad pre base a, f.slot⟩]) cells slots Q (F0 mm (pc + 3) ls rest) := by
    intro H' g1 g2 g3
    have hla : a < h.length := (List.getElem?_eq_some_iff.mp ha).1
    refine K H' _ (hR.set ha0 hla g2 g3 ⟨fun _ => ?_, fun z => absurd z (by have := mj_nc9; omega), fun z => absurd z (by have := mj_nc9; omega)⟩ (fun z => absurd z (by have := mj_nc9; omega))) (hS.put g2 g3 (by show base ≤ _; rw [mj_ad_new ha0]; exact Nat.le_add_right _ _))
    refine ⟨_, hc, ?_⟩
    rw [hsl] at g1
    have := t_set q4 hap h3 (mj_cv (mj_ad pre base) v)
    refine t_OB.to (V := updV (vp_V (fs.map (mj_cv (mj_ad pre base)))) k (mj_cv (mj_ad pre base) v)) ⟨_, g1, q2, q3, this⟩ (fun j _ => ?_)
    rw [List.map_set]
    exact vp_updV_set (by rw [List.length_map]; exact hkl) _ j
  have hdn := mj_dn hme hi rfl
  by_cases hfin : (mj_T c0 k).2.2.2 = true
  · rw [hfin] at h5
    have hini : mj_ini m = c0 + 1 := by simpa using h5.symm
    have hlay := hts _ (hlays _ (u_in_lay h3))
    unfold u_lay at hlay
    rw [if_pos hfin] at hlay
    have hdecl : mj_nm c0 = mj_own (mj_o m) := by
      rcases mj_iniok m (mj_ini_len hme) with z | z
      · omega
      · rw [z, hini]
        rfl
    have hcf : mm.cls = cf := by
      obtain ⟨_, _, c', _, _, _, -, -, hf', -, -, -, hown2, -⟩ := Cond.laysFinal_spec hlay
      have e1 : c' = cf := by have := hif.symm.trans hf'; simp at this; exact this.1.symm
      rw [hp2, hdecl] at hown2
      rw [← e1]; exact Option.some.inj (hown.symm.trans hown2)
    have h6 := u_fits hfc hkC hkind (Or.inr hlay) hif hp1 hn2 hfit2
    exact W.putFinK hx hb hown hlinw (by rw [hp2] at hif; exact hif) hst hcf (hin (by omega)) (by rw [q2]; exact h6) q1 q3 hfl rfl rfl hdn hend
  · have hfin0 : (mj_T c0 k).2.2.2 = false := by simpa using hfin
    have hlay := hts _ (hlays _ (u_in_lay h3))
    unfold u_lay at hlay
    rw [if_neg hfin] at hlay
    have h6 := u_store hfc hkC hkind hlay hif hp1 hn2 hfit2
    exact W.putK hx hb (f := f) ⟨hown, hlinw, ⟨_, _, _, by rw [hp2] at hif; exact hif⟩, hst⟩ (by rw [q2]; exact h6) q1 q3 hfl rfl rfl hdn hend
end MJH
