/-! -/
set_option maxRecDepth 100000 in
theorem jn_16 : mj_nl 16 = 6 := by decide +kernel
set_option maxRecDepth 100000 in
theorem jk_16 : mj_cls 16 = 0 := by decide +kernel
set_option maxRecDepth 100000 in
theorem jn_18 : mj_nl 18 = 2 := by decide +kernel
set_option maxRecDepth 100000 in
theorem jk_18 : mj_cls 18 = 0 := by decide +kernel
set_option maxRecDepth 100000 in
theorem jn_19 : mj_nl 19 = 1 := by decide +kernel
set_option maxRecDepth 100000 in
theorem jk_19 : mj_cls 19 = 0 := by decide +kernel
set_option maxRecDepth 100000 in
theorem jn_54 : mj_nl 54 = 2 := by decide +kernel
set_option maxRecDepth 100000 in
theorem jk_54 : mj_cls 54 = 0 := by decide +kernel
set_option maxRecDepth 100000 in
theorem jn_55 : mj_nl 55 = 2 := by decide +kernel
set_option maxRecDepth 100000 in
theorem jk_55 : mj_cls 55 = 0 := by decide +kernel
set_option maxRecDepth 100000 in
theorem jn_173 : mj_nl 173 = 6 := by decide +kernel
set_option maxRecDepth 100000 in
theorem jk_173 : mj_cls 173 = 11 := by decide +kernel
set_option maxRecDepth 100000 in
theorem jn_175 : mj_nl 175 = 2 := by decide +kernel
set_option maxRecDepth 100000 in
theorem jk_175 : mj_cls 175 = 11 := by decide +kernel
set_option maxRecDepth 100000 in
theorem jk_176 : mj_cls 176 = 11 := by decide +kernel
set_option maxRecDepth 100000 in
theorem jn_214 : mj_nl 214 = 2 := by decide +kernel
set_option maxRecDepth 100000 in
theorem jk_214 : mj_cls 214 = 11 := by decide +kernel
set_option maxRecDepth 100000 in
theorem jn_215 : mj_nl 215 = 2 := by decide +kernel
set_option maxRecDepth 100000 in
theorem jk_215 : mj_cls 215 = 11 := by decide +kernel
set_option maxRecDepth 100000 in
theorem jr_161 : mj_ret 161 = none := by decide +kernel
set_option maxRecDepth 100000 in
theorem jn_161 : mj_nl 161 = 2 := by decide +kernel
set_option maxRecDepth 100000 in
theorem jk_161 : mj_cls 161 = 2 := by decide +kernel
set_option maxRecDepth 100000 in
theorem jn_169 : mj_nl 169 = 3 := by decide +kernel
set_option maxRecDepth 100000 in
theorem jn_164 : mj_nl 164 = 3 := by decide +kernel
set_option maxRecDepth 100000 in
theorem ji_169_0 : mj_ins 169 0 = some (.iconst 0) := by decide +kernel
set_option maxRecDepth 100000 in
theorem ji_169_1 : mj_ins 169 1 = some (.istore_n 2) := by decide +kernel
set_option maxRecDepth 100000 in
theorem ji_169_2 : mj_ins 169 2 = some (.iload_n 2) := by decide +kernel
set_option maxRecDepth 100000 in
theorem ji_169_3 : mj_ins 169 3 = some (.sipush 6044) := by decide +kernel
set_option maxRecDepth 100000 in
theorem ji_169_6 : mj_ins 169 6 = some (.if_icmp .ge 15) := by decide +kernel
set_option maxRecDepth 100000 in
theorem ji_169_9 : mj_ins 169 9 = some (.aload_n 1) := by decide +kernel
set_option maxRecDepth 100000 in
theorem ji_169_10 : mj_ins 169 10 = some (.iload_n 2) := by decide +kernel
set_option maxRecDepth 100000 in
theorem ji_169_11 : mj_ins 169 11 = some (.aload_n 0) := by decide +kernel
set_option maxRecDepth 100000 in
theorem ji_169_12 : mj_ins 169 12 = some (.iload_n 2) := by decide +kernel
set_option maxRecDepth 100000 in
theorem ji_169_13 : mj_ins 169 13 = some (.iaload) := by decide +kernel
set_option maxRecDepth 100000 in
theorem ji_169_14 : mj_ins 169 14 = some (.iastore) := by decide +kernel
set_option maxRecDepth 100000 in
theorem ji_169_15 : mj_ins 169 15 = some (.iinc 2 1) := by decide +kernel
set_option maxRecDepth 100000 in
theorem ji_169_18 : mj_ins 169 18 = some (.goto (-16)) := by decide +kernel
set_option maxRecDepth 100000 in
theorem ji_169_21 : mj_ins 169 21 = some (.return_) := by decide +kernel
set_option maxRecDepth 100000 in
theorem ji_161_0 : mj_ins 161 0 = some (.aload_n 0) := by decide +kernel
set_option maxRecDepth 100000 in
theorem ji_161_1 : mj_ins 161 1 = some (.getfield 12) := by decide +kernel
set_option maxRecDepth 100000 in
theorem jf_161_12 : mj_fld 161 12 = some (2, 0, (.object "ForestOfPoles$Forest"), false) := by decide +kernel
set_option maxRecDepth 100000 in
theorem ji_161_4 : mj_ins 161 4 = some (.aload_n 1) := by decide +kernel
set_option maxRecDepth 100000 in
theorem ji_161_5 : mj_ins 161 5 = some (.getfield 12) := by decide +kernel
set_option maxRecDepth 100000 in
theorem jk_106 : mj_cls 106 = 3 := by decide +kernel
set_option maxRecDepth 100000 in
theorem jn_106 : mj_nl 106 = 2 := by decide +kernel
set_option maxRecDepth 100000 in
theorem ji_161_8 : mj_ins 161 8 = some (.invokevirtual 57) := by decide +kernel
set_option maxRecDepth 100000 in
theorem jc_161_57 : mj_cal 161 57 = some (2, 106, 1) := by decide +kernel
set_option maxRecDepth 100000 in
theorem ji_161_11 : mj_ins 161 11 = some (.aload_n 0) := by decide +kernel
set_option maxRecDepth 100000 in
theorem ji_161_12 : mj_ins 161 12 = some (.getfield 21) := by decide +kernel
set_option maxRecDepth 100000 in
theorem jf_161_21 : mj_fld 161 21 = some (2, 1, (.object "ForestOfPoles$Book"), false) := by decide +kernel
set_option maxRecDepth 100000 in
theorem ji_161_15 : mj_ins 161 15 = some (.aload_n 1) := by decide +kernel
set_option maxRecDepth 100000 in
theorem ji_161_16 : mj_ins 161 16 = some (.getfield 21) := by decide +kernel
set_option maxRecDepth 100000 in
theorem jk_162 : mj_cls 162 = 4 := by decide +kernel
set_option maxRecDepth 100000 in
theorem jn_162 : mj_nl 162 = 2 := by decide +kernel
set_option maxRecDepth 100000 in
theorem ji_161_19 : mj_ins 161 19 = some (.invokevirtual 61) := by decide +kernel
set_option maxRecDepth 100000 in
theorem jc_161_61 : mj_cal 161 61 = some (2, 162, 1) := by decide +kernel
set_option maxRecDepth 100000 in
theorem ji_161_22 : mj_ins 161 22 = some (.aload_n 0) := by decide +kernel
set_option maxRecDepth 100000 in
theorem ji_161_23 : mj_ins 161 23 = some (.getfield 28) := by decide +kernel
set_option maxRecDepth 100000 in
theorem jf_161_28 : mj_fld 161 28 = some (2, 2, (.object "ForestOfPoles$Steps"), false) := by decide +kernel
set_option maxRecDepth 100000 in
theorem ji_161_26 : mj_ins 161 26 = some (.aload_n 1) := by decide +kernel
set_option maxRecDepth 100000 in
theorem ji_161_27 : mj_ins 161 27 = some (.getfield 28) := by decide +kernel
set_option maxRecDepth 100000 in
theorem jk_163 : mj_cls 163 = 5 := by decide +kernel
set_option maxRecDepth 100000 in
theorem jn_163 : mj_nl 163 = 2 := by decide +kernel
set_option maxRecDepth 100000 in
theorem ji_161_30 : mj_ins 161 30 = some (.invokevirtual 64) := by decide +kernel
set_option maxRecDepth 100000 in
theorem jc_161_64 : mj_cal 161 64 = some (2, 163, 1) := by decide +kernel
set_option maxRecDepth 100000 in
theorem ji_161_33 : mj_ins 161 33 = some (.aload_n 0) := by decide +kernel
set_option maxRecDepth 100000 in
theorem ji_161_34 : mj_ins 161 34 = some (.getfield 35) := by decide +kernel
set_option maxRecDepth 100000 in
theorem jf_161_35 : mj_fld 161 35 = some (2, 3, (.object "ForestOfPoles$Finds"), false) := by decide +kernel
set_option maxRecDepth 100000 in
theorem ji_161_37 : mj_ins 161 37 = some (.aload_n 1) := by decide +kernel
set_option maxRecDepth 100000 in
theorem ji_161_38 : mj_ins 161 38 = some (.getfield 35) := by decide +kernel
set_option maxRecDepth 100000 in
theorem jk_164 : mj_cls 164 = 6 := by decide +kernel
set_option maxRecDepth 100000 in
theorem ji_161_41 : mj_ins 161 41 = some (.invokevirtual 67) := by decide +kernel
set_option maxRecDepth 100000 in
theorem jc_161_67 : mj_cal 161 67 = some (2, 164, 1) := by decide +kernel
set_option maxRecDepth 100000 in
theorem ji_161_44 : mj_ins 161 44 = some (.aload_n 0) := by decide +kernel
set_option maxRecDepth 100000 in
theorem ji_161_45 : mj_ins 161 45 = some (.getfield 42) := by decide +kernel
set_option maxRecDepth 100000 in
theorem jf_161_42 : mj_fld 161 42 = some (2, 4, (.object "ForestOfPoles$Claims"), false) := by decide +kernel
set_option maxRecDepth 100000 in
theorem ji_161_48 : mj_ins 161 48 = some (.aload_n 1) := by decide +kernel
set_option maxRecDepth 100000 in
theorem ji_161_49 : mj_ins 161 49 = some (.getfield 42) := by decide +kernel
set_option maxRecDepth 100000 in
theorem jk_165 : mj_cls 165 = 7 := by decide +kernel
set_option maxRecDepth 100000 in
theorem jn_165 : mj_nl 165 = 2 := by decide +kernel
set_option maxRecDepth 100000 in
theorem ji_161_52 : mj_ins 161 52 = some (.invokevirtual 70) := by decide +kernel
set_option maxRecDepth 100000 in
theorem jc_161_70 : mj_cal 161 70 = some (2, 165, 1) := by decide +kernel
set_option maxRecDepth 100000 in
theorem ji_161_55 : mj_ins 161 55 = some (.aload_n 0) := by decide +kernel
set_option maxRecDepth 100000 in
theorem ji_161_56 : mj_ins 161 56 = some (.aload_n 1) := by decide +kernel
set_option maxRecDepth 100000 in
theorem ji_161_57 : mj_ins 161 57 = some (.getfield 46) := by decide +kernel
set_option maxRecDepth 100000 in
theorem jf_161_46 : mj_fld 161 46 = some (2, 6, .int, true) := by decide +kernel
set_option maxRecDepth 100000 in
theorem ji_161_60 : mj_ins 161 60 = some (.putfield 46) := by decide +kernel
set_option maxRecDepth 100000 in
theorem ji_161_63 : mj_ins 161 63 = some (.aload_n 0) := by decide +kernel
set_option maxRecDepth 100000 in
theorem ji_161_64 : mj_ins 161 64 = some (.aload_n 1) := by decide +kernel
set_option maxRecDepth 100000 in
theorem ji_161_65 : mj_ins 161 65 = some (.getfield 50) := by decide +kernel
set_option maxRecDepth 100000 in
theorem jf_161_50 : mj_fld 161 50 = some (2, 7, .int, true) := by decide +kernel
set_option maxRecDepth 100000 in
theorem ji_161_68 : mj_ins 161 68 = some (.putfield 50) := by decide +kernel
set_option maxRecDepth 100000 in
theorem ji_161_71 : mj_ins 161 71 = some (.return_) := by decide +kernel
set_option maxRecDepth 100000 in
theorem jr_160 : mj_ret 160 = some .int := by decide +kernel
set_option maxRecDepth 100000 in
theorem ji_160_0 : mj_ins 160 0 = some (.aload_n 0) := by decide +kernel
set_option maxRecDepth 100000 in
theorem ji_160_1 : mj_ins 160 1 = some (.getfield 23) := by decide +kernel
set_option maxRecDepth 100000 in
theorem jf_160_23 : mj_fld 160 23 = some (0, 1, (.object "ForestOfPoles$State"), false) := by decide +kernel
set_option maxRecDepth 100000 in
theorem ji_160_4 : mj_ins 160 4 = some (.aload_n 0) := by decide +kernel
set_option maxRecDepth 100000 in
theorem ji_160_5 : mj_ins 160 5 = some (.getfield 19) := by decide +kernel
set_option maxRecDepth 100000 in
theorem jf_160_19 : mj_fld 160 19 = some (0, 0, (.object "ForestOfPoles$State"), false) := by decide +kernel
set_option maxRecDepth 100000 in
theorem ji_160_8 : mj_ins 160 8 = some (.invokevirtual 322) := by decide +kernel
set_option maxRecDepth 100000 in
theorem jc_160_322 : mj_cal 160 322 = some (2, 161, 1) := by decide +kernel
set_option maxRecDepth 100000 in
theorem ji_160_11 : mj_ins 160 11 = some (.aload_n 0) := by decide +kernel
set_option maxRecDepth 100000 in
theorem ji_160_12 : mj_ins 160 12 = some (.getfield 19) := by decide +kernel
set_option maxRecDepth 100000 in
theorem ji_160_15 : mj_ins 160 15 = some (.getfield 49) := by decide +kernel
set_option maxRecDepth 100000 in
theorem jf_160_49 : mj_fld 160 49 = some (2, 0, (.object "ForestOfPoles$Forest"), false) := by decide +kernel
set_option maxRecDepth 100000 in
theorem ji_160_18 : mj_ins 160 18 = some (.getfield 98) := by decide +kernel
set_option maxRecDepth 100000 in
theorem jf_160_98 : mj_fld 160 98 = some (3, 10, .int, true) := by decide +kernel
set_option maxRecDepth 100000 in
theorem ji_160_21 : mj_ins 160 21 = some (.ireturn) := by decide +kernel
set_option maxRecDepth 100000 in
theorem jr_166 : mj_ret 166 = some .int := by decide +kernel
set_option maxRecDepth 100000 in
theorem ji_166_0 : mj_ins 166 0 = some (.aload_n 0) := by decide +kernel
set_option maxRecDepth 100000 in
theorem ji_166_1 : mj_ins 166 1 = some (.getfield 19) := by decide +kernel
set_option maxRecDepth 100000 in
theorem jf_166_19 : mj_fld 166 19 = some (0, 0, (.object "ForestOfPoles$State"), false) := by decide +kernel
set_option maxRecDepth 100000 in
theorem ji_166_4 : mj_ins 166 4 = some (.aload_n 0) := by decide +kernel
set_option maxRecDepth 100000 in
theorem ji_166_5 : mj_ins 166 5 = some (.getfield 23) := by decide +kernel
set_option maxRecDepth 100000 in
theorem jf_166_23 : mj_fld 166 23 = some (0, 1, (.object "ForestOfPoles$State"), false) := by decide +kernel
set_option maxRecDepth 100000 in
theorem ji_166_8 : mj_ins 166 8 = some (.invokevirtual 322) := by decide +kernel
set_option maxRecDepth 100000 in
theorem jc_166_322 : mj_cal 166 322 = some (2, 161, 1) := by decide +kernel
set_option maxRecDepth 100000 in
theorem ji_166_11 : mj_ins 166 11 = some (.aload_n 0) := by decide +kernel
set_option maxRecDepth 100000 in
theorem ji_166_12 : mj_ins 166 12 = some (.getfield 19) := by decide +kernel
set_option maxRecDepth 100000 in
theorem ji_166_15 : mj_ins 166 15 = some (.getfield 49) := by decide +kernel
set_option maxRecDepth 100000 in
theorem jf_166_49 : mj_fld 166 49 = some (2, 0, (.object "ForestOfPoles$Forest"), false) := by decide +kernel
set_option maxRecDepth 100000 in
theorem ji_166_18 : mj_ins 166 18 = some (.getfield 98) := by decide +kernel
set_option maxRecDepth 100000 in
theorem jf_166_98 : mj_fld 166 98 = some (3, 10, .int, true) := by decide +kernel
set_option maxRecDepth 100000 in
theorem ji_166_21 : mj_ins 166 21 = some (.ireturn) := by decide +kernel
set_option maxRecDepth 100000 in
theorem jr_312 : mj_ret 312 = some .int := by decide +kernel
set_option maxRecDepth 100000 in
theorem ji_312_0 : mj_ins 312 0 = some (.aload_n 0) := by decide +kernel
set_option maxRecDepth 100000 in
theorem ji_312_1 : mj_ins 312 1 = some (.getfield 7) := by decide +kernel
set_option maxRecDepth 100000 in
theorem jf_312_7 : mj_fld 312 7 = some (11, 0, (.array .int), false) := by decide +kernel
set_option maxRecDepth 100000 in
theorem ji_312_4 : mj_ins 312 4 = some (.aload_n 0) := by decide +kernel
set_option maxRecDepth 100000 in
theorem ji_312_5 : mj_ins 312 5 = some (.getfield 13) := by decide +kernel
set_option maxRecDepth 100000 in
theorem jf_312_13 : mj_fld 312 13 = some (11, 1, (.array .int), false) := by decide +kernel
set_option maxRecDepth 100000 in
theorem ji_312_8 : mj_ins 312 8 = some (.invokestatic 62) := by decide +kernel
set_option maxRecDepth 100000 in
theorem jc_312_62 : mj_cal 312 62 = some (1, 169, 2) := by decide +kernel
set_option maxRecDepth 100000 in
theorem ji_312_11 : mj_ins 312 11 = some (.aload_n 0) := by decide +kernel
set_option maxRecDepth 100000 in
theorem ji_312_12 : mj_ins 312 12 = some (.getfield 7) := by decide +kernel
set_option maxRecDepth 100000 in
theorem ji_312_15 : mj_ins 312 15 = some (.bipush 8) := by decide +kernel
set_option maxRecDepth 100000 in
theorem ji_312_17 : mj_ins 312 17 = some (.iaload) := by decide +kernel
set_option maxRecDepth 100000 in
theorem ji_312_18 : mj_ins 312 18 = some (.ireturn) := by decide +kernel
set_option maxRecDepth 100000 in
theorem jr_313 : mj_ret 313 = some .int := by decide +kernel
set_option maxRecDepth 100000 in
theorem ji_313_0 : mj_ins 313 0 = some (.aload_n 0) := by decide +kernel
set_option maxRecDepth 100000 in
theorem ji_313_1 : mj_ins 313 1 = some (.getfield 13) := by decide +kernel
set_option maxRecDepth 100000 in
theorem jf_313_13 : mj_fld 313 13 = some (11, 1, (.array .int), false) := by decide +kernel
set_option maxRecDepth 100000 in
theorem ji_313_4 : mj_ins 313 4 = some (.aload_n 0) := by decide +kernel
set_option maxRecDepth 100000 in
theorem ji_313_5 : mj_ins 313 5 = some (.getfield 7) := by decide +kernel
set_option maxRecDepth 100000 in
theorem jf_313_7 : mj_fld 313 7 = some (11, 0, (.array .int), false) := by decide +kernel
set_option maxRecDepth 100000 in
theorem ji_313_8 : mj_ins 313 8 = some (.invokestatic 62) := by decide +kernel
set_option maxRecDepth 100000 in
theorem jc_313_62 : mj_cal 313 62 = some (1, 169, 2) := by decide +kernel
set_option maxRecDepth 100000 in
theorem ji_313_11 : mj_ins 313 11 = some (.aload_n 0) := by decide +kernel
set_option maxRecDepth 100000 in
theorem ji_313_12 : mj_ins 313 12 = some (.getfield 7) := by decide +kernel
set_option maxRecDepth 100000 in
theorem ji_313_15 : mj_ins 313 15 = some (.bipush 8) := by decide +kernel
set_option maxRecDepth 100000 in
theorem ji_313_17 : mj_ins 313 17 = some (.iaload) := by decide +kernel
set_option maxRecDepth 100000 in
theorem ji_313_18 : mj_ins 313 18 = some (.ireturn) := by decide +kernel
/-! the law's state for the readers; laid by program (wp_lz.py) -/
def lw_I (sl : List Value) (h : mj_H) (B : Int) : Prop := sx_H sx_TT 20 sx_tau h ∧ sx_W sx_tau h B ∧ h.length = 152 ∧ h[0]? = some (1000, sl)
theorem lw_le {sl : List Value} {h : mj_H} {B B' : Int} (I : lw_I sl h B) (hB : B ≤ B') : lw_I sl h B' := ⟨I.1, sx_W_le I.2.1 hB, I.2.2⟩
def lw_AM : Prop := ∀ d c K, sx_KK[c]? = some (some K) → sx_M sx_PP d c K
/-- a place of a cell of that kind -/
def fdc_c (h : mj_H) (a kd k : Nat) (v : Value) : Prop := ∃ vs, h[a]? = some (kd, vs) ∧ vs[k]? = some v
theorem fd_ef {mods : List Nat} {h h' : mj_H} (e : sx_ef sx_tau mods h h') {a kd k : Nat} {v : Value} (hk : kd < 900 ∧ k < 100) (hm : 100 * kd + k ∉ mods) (hv : fdc_c h a kd k v) : fdc_c h' a kd k v := by
  obtain ⟨vs, c1, c2⟩ := hv
  obtain ⟨us, g1, g2⟩ := e.1 a kd vs c1
  have := g2 _ hm
  rw [sx_at_f hk.1 hk.2, sx_at_f hk.1 hk.2] at this
  exact ⟨us, g1, this.trans c2⟩
theorem fd_ef21 {mods : List Nat} {h h' : mj_H} (e : sx_ef sx_tau mods h h') {a j : Nat} {v : Value} (ht : sx_tau[a]? = some 21) (hj : j < 16) (hm : 20000 + j ∉ mods) (hv : fdc_c h a 1000 j v) : fdc_c h' a 1000 j v := by
  obtain ⟨vs, c1, c2⟩ := hv
  obtain ⟨us, g1, g2⟩ := e.1 a 1000 vs c1
  have := g2 _ hm
  rw [sx_at_a (by decide) ht hj, sx_at_a (by decide) ht hj] at this
  exact ⟨us, g1, this.trans c2⟩
/-- another cell was set, or another place -/
theorem fd_cs {h : mj_H} {a b kd k : Nat} {v : Value} {c : mj_C} (hne : b ≠ a) (hv : fdc_c h a kd k v) : fdc_c (h.set b c) a kd k v := by
  obtain ⟨vs, c1, c2⟩ := hv
  exact ⟨vs, by rw [List.getElem?_set_ne hne]; exact c1, c2⟩
theorem fd_fr {h h0 : mj_H} {a kd k : Nat} {v : Value} (e : h[a]? = h0[a]?) (hv : fdc_c h0 a kd k v) : fdc_c h a kd k v := by
  obtain ⟨vs, c1, c2⟩ := hv
  exact ⟨vs, e.trans c1, c2⟩
theorem fd_at {h : mj_H} {a kd kd' k : Nat} {v : Value} {fs : List Value} (hv : fdc_c h a kd k v) (e : h[a]? = some (kd', fs)) : fs[k]? = some v := by
  obtain ⟨vs, c1, c2⟩ := hv
  rw [e] at c1
  cases c1
  exact c2
theorem fd_ss {h : mj_H} {b : Nat} {c : mj_C} (e : h[b]? = some c) : h.set b c = h := by
  refine List.ext_getElem? (fun j => ?_)
  by_cases q : b = j
  · subst q
    rw [List.getElem?_set_self (fd_lt e), e]
  · rw [List.getElem?_set_ne q]
theorem fd_iel {l : List Value} {k : Nat} {z : Int32} (e : l[k]? = some (.int z)) : l[k]? = some (wp_i (sx_el l k)) ∧ sx_el l k = z.toInt := by
  have e2 : sx_el l k = z.toInt := by
    unfold sx_el
    rw [e]
  exact ⟨by rw [e2, ← wp_iz]; exact e, e2⟩
theorem fd_21 {h : mj_H} (hH : sx_H sx_TT 20 sx_tau h) {a : Nat} (ht : sx_tau[a]? = some 21) : ∃ vs, h[a]? = some (1000, vs) ∧ vs.length = 6044 ∧ ∀ k, k < 6044 → vs[k]? = some (wp_i (sx_el vs k)) := by
  obtain ⟨-, vs, e1, e2, e3, -⟩ := hH a 21 sx_y21 ht rfl
  have e2 : vs.length = 6044 := e2
  refine ⟨vs, e1, e2, fun k hk => ?_⟩
  have hv : vs[k]? = some vs[k] := List.getElem?_eq_getElem (by omega)
  obtain ⟨dd, d1, d2⟩ := e3 _ _ hv
  obtain ⟨d0, lo, hi⟩ := dd
  have d0e : d0 = 0 := cp_int d1
  subst d0e
  obtain ⟨z, ez, -, -⟩ := d2
  rw [ez] at hv
  exact (fd_iel hv).1
theorem fd_34 {h : mj_H} (hH : sx_H sx_TT 20 sx_tau h) {a : Nat} (ht : sx_tau[a]? = some 34) : ∃ fs, h[a]? = some (2, fs) ∧ fs.length = 8 ∧ (∃ r, fs[0]? = some (.ref r) ∧ sx_tau[r]? = some 35) ∧ (∃ r, fs[1]? = some (.ref r) ∧ sx_tau[r]? = some 43) ∧ (∃ r, fs[2]? = some (.ref r) ∧ sx_tau[r]? = some 46) ∧ (∃ r, fs[4]? = some (.ref r) ∧ sx_tau[r]? = some 52) ∧ (∃ z, fs[6]? = some (.int z)) ∧ ∃ z, fs[7]? = some (.int z) := by
  obtain ⟨-, fs, e1, e2, e3, -⟩ := hH a 34 sx_y34 ht rfl
  have e2 : fs.length = 8 := e2
  have key : ∀ k, k < 8 → ∃ v, fs[k]? = some v ∧ ∃ d, sx_fd sx_y34.2.2 k = some d ∧ sx_dr sx_tau d v := fun k hk => by
    have hv : fs[k]? = some fs[k] := List.getElem?_eq_getElem (by omega)
    exact ⟨_, hv, e3 _ _ hv⟩
  refine ⟨fs, e1, e2, ?_, ?_, ?_, ?_, ?_, ?_⟩
  · obtain ⟨v, v1, d, d1, d2⟩ := key 0 (by decide)
    rw [show sx_fd sx_y34.2.2 0 = some (2, 35, 0) by decide] at d1
    cases d1
    obtain ⟨r, rfl, hr⟩ := d2
    exact ⟨r, v1, hr⟩
  · obtain ⟨v, v1, d, d1, d2⟩ := key 1 (by decide)
    rw [show sx_fd sx_y34.2.2 1 = some (2, 43, 0) by decide] at d1
    cases d1
    obtain ⟨r, rfl, hr⟩ := d2
    exact ⟨r, v1, hr⟩
  · obtain ⟨v, v1, d, d1, d2⟩ := key 2 (by decide)
    rw [show sx_fd sx_y34.2.2 2 = some (2, 46, 0) by decide] at d1
    cases d1
    obtain ⟨r, rfl, hr⟩ := d2
    exact ⟨r, v1, hr⟩
  · obtain ⟨v, v1, d, d1, d2⟩ := key 4 (by decide)
    rw [show sx_fd sx_y34.2.2 4 = some (2, 52, 0) by decide] at d1
    cases d1
    obtain ⟨r, rfl, hr⟩ := d2
    exact ⟨r, v1, hr⟩
  · obtain ⟨v, v1, d, d1, d2⟩ := key 6 (by decide)
    rw [show sx_fd sx_y34.2.2 6 = some (0, 0, 4) by decide] at d1
    cases d1
    obtain ⟨z, rfl, -⟩ := d2
    exact ⟨z, v1⟩
  · obtain ⟨v, v1, d, d1, d2⟩ := key 7 (by decide)
    rw [show sx_fd sx_y34.2.2 7 = some (0, -1, 3) by decide] at d1
    cases d1
    obtain ⟨z, rfl, -⟩ := d2
    exact ⟨z, v1⟩
/-- a forest's hour -/
theorem fd_35 {h : mj_H} (hH : sx_H sx_TT 20 sx_tau h) {a : Nat} (ht : sx_tau[a]? = some 35) : ∃ fs, h[a]? = some (3, fs) ∧ ∃ z, fs[10]? = some (.int z) := by
  obtain ⟨-, fs, e1, e2, e3, -⟩ := hH a 35 sx_y35 ht rfl
  have e2 : fs.length = sx_y35.2.1 := e2
  have hl : 10 < fs.length := by rw [e2]; decide
  have hv : fs[10]? = some fs[10] := List.getElem?_eq_getElem hl
  obtain ⟨dd, d1, d2⟩ := e3 _ _ hv
  obtain ⟨lo, hi, hd⟩ : ∃ lo hi, sx_fd sx_y35.2.2 10 = some (0, lo, hi) := ⟨_, _, rfl⟩
  rw [hd] at d1
  cases d1
  obtain ⟨z, ez, -⟩ := d2
  rw [ez] at hv
  exact ⟨fs, e1, z, hv⟩
theorem fd_cell {h : mj_H} (hH : sx_H sx_TT 20 sx_tau h) {a t : Nat} {ty : sx_Ty} (ht : sx_tau[a]? = some t) (hT : sx_TT[t]? = some ty) : ∃ fs, h[a]? = some (ty.1, fs) := by
  obtain ⟨-, fs, e1, -⟩ := hH a t ty ht hT
  exact ⟨fs, e1⟩
/-- two things that hold at the end of one run -/
theorem wp_and {d m pc : Nat} {lv : mj_L} {st : List Value} {h : mj_H} {Q1 Q2 : Option Value → mj_H → Prop} (a : wp_R d m pc lv st h Q1) (b : wp_R d m pc lv st h Q2) : wp_R d m pc lv st h (fun v h' => Q1 v h' ∧ Q2 v h') := by
  obtain ⟨f1, v1, h1, r1, q1⟩ := a
  obtain ⟨f2, v2, h2, r2, q2⟩ := b
  have e1 := mj_run_mono (Nat.le_max_left f1 f2) (Nat.le_refl d) r1
  have e2 := mj_run_mono (Nat.le_max_right f1 f2) (Nat.le_refl d) r2
  rw [e1] at e2
  cases e2
  exact ⟨_, _, _, e1, q1, q2⟩
/-- pointers that never change -/
def fp_L : List (Nat × Nat × Nat × Nat) := [(9, 0, 0, 47), (9, 0, 1, 69), (9, 0, 2, 91), (9, 0, 3, 93), (47, 2, 5, 11), (47, 2, 3, 61), (69, 2, 3, 83), (91, 8, 0, 92), (93, 9, 0, 91), (93, 9, 7, 94), (138, 11, 0, 139), (138, 11, 1, 140), (138, 11, 2, 141), (138, 11, 3, 142), (138, 11, 15, 143), (12, 1, 0, 13), (12, 1, 2, 14), (12, 1, 3, 15), (12, 1, 4, 16), (12, 1, 5, 17), (12, 1, 6, 18), (12, 1, 8, 10), (19, 1, 0, 20), (19, 1, 2, 21), (19, 1, 3, 22), (19, 1, 4, 23), (19, 1, 5, 24), (19, 1, 6, 25), (19, 1, 8, 10), (26, 1, 0, 27), (26, 1, 2, 28), (26, 1, 3, 29), (26, 1, 4, 30), (26, 1, 5, 31), (26, 1, 6, 32), (26, 1, 8, 10), (33, 1, 0, 34), (33, 1, 2, 35), (33, 1, 3, 36), (33, 1, 4, 37), (33, 1, 5, 38), (33, 1, 6, 39), (33, 1, 8, 10)]
def fd_P (h : mj_H) : Prop := ∀ e ∈ fp_L, fdc_c h e.1 e.2.1 e.2.2.1 (.ref e.2.2.2)
theorem fd_P_ef {mods : List Nat} {h h' : mj_H} (e : sx_ef sx_tau mods h h') (hm : ∀ x ∈ fp_L, (x.2.1 < 900 ∧ x.2.2.1 < 100) ∧ 100 * x.2.1 + x.2.2.1 ∉ mods) (P : fd_P h) : fd_P h' := fun x hx => fd_ef e (hm x hx).1 (hm x hx).2 (P x hx)
/-- arrays that are never written -/
theorem fd_arr {mods : List Nat} {h h' : mj_H} (e : sx_ef sx_tau mods h h') {a t kd : Nat} {vs : List Value} (ht : sx_tau[a]? = some t) (hk : 900 ≤ kd) (h21 : t ≠ 21) (ha : h[a]? = some (kd, vs)) (hm : 10000 + t ∉ mods) : h'[a]? = some (kd, vs) := by
  obtain ⟨us, u1, u2⟩ := e.2.1 a t kd vs ht hk ha hm
  have e : us = vs := List.ext_getElem? (fun j => u2 j (fun z => absurd z h21))
  rw [← e]
  exact u1
def fs_S (h : mj_H) : Prop := hC h ∧ h[8]? = some (900, tk_V) ∧ h[11]? = some (1101, [.ref 12, .ref 19, .ref 26, .ref 33, .ref 40])
theorem fs_ef {mods : List Nat} {h h' : mj_H} (e : sx_ef sx_tau mods h h') (hm : ∀ t ∈ [1, 2, 3, 4, 5, 8, 26], 10000 + t ∉ mods) (S : fs_S h) : fs_S h' := by
  obtain ⟨⟨s1, s2, s3, s4, s5⟩, s8, s11⟩ := S
  exact ⟨⟨fd_arr e rfl (by decide) (by decide) s1 (hm 1 (by decide)), fd_arr e rfl (by decide) (by decide) s2 (hm 2 (by decide)), fd_arr e rfl (by decide) (by decide) s3 (hm 3 (by decide)), fd_arr e rfl (by decide) (by decide) s4 (hm 4 (by decide)), fd_arr e rfl (by decide) (by decide) s5 (hm 5 (by decide))⟩, fd_arr e rfl (by decide) (by decide) s8 (hm 8 (by decide)), fd_arr e rfl (by decide) (by decide) s11 (hm 26 (by decide))⟩
/-- a call by its contract: what never changes -/
def mo_ok (mods : List Nat) : Bool := decide (11000 ∉ mods) && (fp_L.all fun x => decide (x.2.1 < 900) && decide (x.2.2.1 < 100) && decide (100 * x.2.1 + x.2.2.1 ∉ mods)) && ([1, 2, 3, 4, 5, 8, 26].all fun t => decide (10000 + t ∉ mods))
theorem lw_K0 {sl : List Value} {h : mj_H} {B : Int} (I : lw_I sl h B) (P : fd_P h) (S : fs_S h) {d c n : Nat} {K : sx_K} (hM : sx_M sx_PP d c K) {vs : List Value} {lv0 : mj_L} (ha : sx_ag sx_tau K.1 vs) (hd : sx_lev K vs ≤ d) (hc : sx_cost K.2.2.2 = n) (hB : B + n ≤ 2147483647) (hn : mj_ent (mj_nl c) vs = some lv0) (hm : mo_ok K.2.2.2 = true) : wp_R d c 0 lv0 [] h (fun v h1 => sx_an sx_tau K.2.1 v ∧ lw_I sl h1 (B + n) ∧ fd_P h1 ∧ fs_S h1 ∧ sx_ef sx_tau K.2.2.2 h h1) := by
  obtain ⟨i1, i2, i3, i4⟩ := I
  unfold mo_ok at hm
  rw [Bool.and_eq_true, Bool.and_eq_true, decide_eq_true_eq] at hm
  obtain ⟨⟨m1, m2⟩, m3⟩ := hm
  refine wp_mono (wp_K hM i1 ha hd i2 (by rw [hc]; exact hB) hn) ?_
  rintro v h1 ⟨k1, k2, k3, k4, k5⟩
  rw [hc] at k5
  refine ⟨k2, ⟨k1, k5, k4.trans i3, ?_⟩, fd_P_ef k3 (fun x hx => ?_) P, fs_ef k3 (fun t ht => ?_) S, k3⟩
  · obtain ⟨us, u1, u2⟩ := k3.2.1 0 1000 1000 sl rfl (by decide) i4 m1
    have e : us = sl := List.ext_getElem? (fun j => u2 j (fun e => (by cases e)))
    rw [← e]
    exact u1
  · have := List.all_eq_true.mp m2 x hx
    rw [Bool.and_eq_true, Bool.and_eq_true, decide_eq_true_eq, decide_eq_true_eq, decide_eq_true_eq] at this
    exact ⟨this.1, this.2⟩
  · exact of_decide_eq_true (List.all_eq_true.mp m3 t ht)
/-! the groups: both tapes, both readers' faults, both counts -/
def g1 (h : mj_H) (L : Int) (b : List Value) : Prop := fdc_c h 91 8 1 (wp_i L) ∧ h[92]? = some (1000, b)
def g2 (h : mj_H) (L : Int) (b : List Value) : Prop := fdc_c h 138 11 4 (wp_i L) ∧ h[142]? = some (1000, b)
def g3 (h : mj_H) (hr f q : Int) : Prop := fdc_c h 93 9 2 (wp_i hr) ∧ fdc_c h 93 9 3 (wp_i f) ∧ fdc_c h 93 9 4 (wp_i q)
def g4 (h : mj_H) (f q : Int) : Prop := fdc_c h 138 11 5 (wp_i f) ∧ fdc_c h 138 11 6 (wp_i q)
def g5 (h : mj_H) : Prop := ∃ w : Nat, w ≤ 2 ^ 60 ∧ fdc_c h 138 11 11 (.long (Int64.ofNat w))
def g6 (h : mj_H) (c c9 : Int) : Prop := fdc_c h 47 2 6 (wp_i c) ∧ fdc_c h 69 2 6 (wp_i c9)
def g7 (h : mj_H) (e e9 : Int) : Prop := fdc_c h 139 1000 2 (wp_i e) ∧ fdc_c h 140 1000 2 (wp_i e9)
section GRP
variable {mods : List Nat} {h h' : mj_H} {L hr f q c c9 : Int} {b : List Value}
theorem g1_ef (e : sx_ef sx_tau mods h h') (m : 801 ∉ mods ∧ 10057 ∉ mods) (G : g1 h L b) : g1 h' L b := ⟨fd_ef e (by decide) m.1 G.1, fd_arr e rfl (by decide) (by decide) G.2 m.2⟩
theorem g2_ef (e : sx_ef sx_tau mods h h') (m : 1104 ∉ mods ∧ 10064 ∉ mods) (G : g2 h L b) : g2 h' L b := ⟨fd_ef e (by decide) m.1 G.1, fd_arr e rfl (by decide) (by decide) G.2 m.2⟩
theorem g3_ef (e : sx_ef sx_tau mods h h') (m : 902 ∉ mods ∧ 903 ∉ mods ∧ 904 ∉ mods) (G : g3 h hr f q) : g3 h' hr f q := ⟨fd_ef e (by decide) m.1 G.1, fd_ef e (by decide) m.2.1 G.2.1, fd_ef e (by decide) m.2.2 G.2.2⟩
theorem g4_ef (e : sx_ef sx_tau mods h h') (m : 1105 ∉ mods ∧ 1106 ∉ mods) (G : g4 h f q) : g4 h' f q := ⟨fd_ef e (by decide) m.1 G.1, fd_ef e (by decide) m.2 G.2⟩
theorem g5_ef (e : sx_ef sx_tau mods h h') (m : 1111 ∉ mods) (G : g5 h) : g5 h' := by
  obtain ⟨w, w1, w2⟩ := G
  exact ⟨w, w1, fd_ef e (by decide) m w2⟩
theorem g6_ef (e : sx_ef sx_tau mods h h') (m : 206 ∉ mods) (G : g6 h c c9) : g6 h' c c9 := ⟨fd_ef e (by decide) m G.1, fd_ef e (by decide) m G.2⟩
theorem g7_ef (e : sx_ef sx_tau mods h h') (m : 20002 ∉ mods) (G : g7 h c c9) : g7 h' c c9 := ⟨fd_ef21 e rfl (by decide) m G.1, fd_ef21 e rfl (by decide) m G.2⟩
end GRP
def lz_X (sl : List Value) (h : mj_H) (B L1 : Int) (b1 : List Value) (L2 : Int) (b2 : List Value) (hr f q f2 q2 c c9 e e9 : Int) : Prop := lw_I sl h B ∧ fd_P h ∧ fs_S h ∧ g1 h L1 b1 ∧ g2 h L2 b2 ∧ g3 h hr f q ∧ g4 h f2 q2 ∧ g5 h ∧ g6 h c c9 ∧ g7 h e e9
section LZX
variable {sl : List Value} {h : mj_H} {B B' : Int} {L1 L2 hr f q f2 q2 c c9 e e9 : Int} {b1 b2 : List Value}
theorem lz_Xle (X : lz_X sl h B L1 b1 L2 b2 hr f q f2 q2 c c9 e e9) (hB : B ≤ B') : lz_X sl h B' L1 b1 L2 b2 hr f q f2 q2 c c9 e e9 := ⟨lw_le X.1 hB, X.2⟩
theorem lz_KX (X : lz_X sl h B L1 b1 L2 b2 hr f q f2 q2 c c9 e e9) {d c' n : Nat} {K : sx_K} (hM : sx_M sx_PP d c' K) {vs : List Value} {lv0 : mj_L} (ha : sx_ag sx_tau K.1 vs) (hd : sx_lev K vs ≤ d) (hc : sx_cost K.2.2.2 = n) (hB : B + n ≤ 2147483647) (hn : mj_ent (mj_nl c') vs = some lv0) (hm : mo_ok K.2.2.2 = true) (hg : ∀ k ∈ [801, 10057, 1104, 10064, 902, 903, 904, 1105, 1106, 1111, 206, 20002], k ∉ K.2.2.2) : wp_R d c' 0 lv0 [] h (fun v h1 => sx_an sx_tau K.2.1 v ∧ lz_X sl h1 (B + n) L1 b1 L2 b2 hr f q f2 q2 c c9 e e9) := by
  obtain ⟨I, P, S, x1, x2, x3, x4, x5, x6, x7⟩ := X
  refine wp_mono (lw_K0 I P S hM ha hd hc hB hn hm) ?_
  rintro v h1 ⟨k1, k2, k3, k4, k5⟩
  exact ⟨k1, k2, k3, k4, g1_ef k5 ⟨hg _ (by decide), hg _ (by decide)⟩ x1, g2_ef k5 ⟨hg _ (by decide), hg _ (by decide)⟩ x2, g3_ef k5 ⟨hg _ (by decide), hg _ (by decide), hg _ (by decide)⟩ x3, g4_ef k5 ⟨hg _ (by decide), hg _ (by decide)⟩ x4, g5_ef k5 (hg _ (by decide)) x5, g6_ef k5 (hg _ (by decide)) x6, g7_ef k5 (hg _ (by decide)) x7⟩
/-- cells with all their places -/
theorem fd_rdr (hH : sx_H sx_TT 20 sx_tau h) (P : fd_P h) : ∃ (t0 : Nat) (hr f q law st wn op br ls as_ : Int), h[93]? = some (9, [.ref 91, .ref t0, wp_i hr, wp_i f, wp_i q, wp_i law, wp_i st, .ref 94, wp_i wn, wp_i op, wp_i br, wp_i ls, wp_i as_]) ∧ (hr = 0 ∨ hr = 1) ∧ (0 ≤ ls ∧ ls ≤ 6) := by
  obtain ⟨-, fs, e1, e2, e3, -⟩ := hH 93 58 sx_y58 rfl rfl
  have e1 : h[93]? = some (9, fs) := e1
  have e2 : fs.length = 13 := e2
  match fs, e2 with
  | [v0, v1, v2, v3, v4, v5, v6, v7, v8, v9, v10, v11, v12], _ =>
    have p0 := fd_at (P (93, 9, 0, 91) (by decide)) e1
    have p7 := fd_at (P (93, 9, 7, 94) (by decide)) e1
    have p0 : some v0 = some (.ref 91) := p0
    have p7 : some v7 = some (.ref 94) := p7
    cases p0
    cases p7
    have it : ∀ (k : Nat) (lo hi : Int) (v : Value), sx_fd sx_y58.2.2 k = some (0, lo, hi) → [Value.ref 91, v1, v2, v3, v4, v5, v6, Value.ref 94, v8, v9, v10, v11, v12][k]? = some v → ∃ z : Int, v = wp_i z ∧ lo ≤ z ∧ z ≤ hi := by
      intro k lo hi v hd hv
      obtain ⟨dd, d1, d2⟩ := e3 k v hv
      rw [hd] at d1
      cases d1
      obtain ⟨z, rfl, z1, z2⟩ := d2
      exact ⟨z.toInt, wp_iz, z1, z2⟩
    obtain ⟨dd, d1, d2⟩ := e3 1 v1 rfl
    rw [show sx_fd sx_y58.2.2 1 = some (2, 27, 0) by decide] at d1
    cases d1
    obtain ⟨t0, rfl, -⟩ := d2
    obtain ⟨a2, rfl, l2, u2⟩ := it 2 0 1 v2 (by decide) rfl
    obtain ⟨a3, rfl, -⟩ := it 3 0 7 v3 (by decide) rfl
    obtain ⟨a4, rfl, -⟩ := it 4 (-1) 300 v4 (by decide) rfl
    obtain ⟨a5, rfl, -⟩ := it 5 0 2 v5 (by decide) rfl
    obtain ⟨a6, rfl, -⟩ := it 6 0 5 v6 (by decide) rfl
    obtain ⟨a8, rfl, -⟩ := it 8 0 40 v8 (by decide) rfl
    obtain ⟨a9, rfl, -⟩ := it 9 (-2147483648) 2147483647 v9 (by decide) rfl
    obtain ⟨a10, rfl, -⟩ := it 10 (-2147483648) 2147483647 v10 (by decide) rfl
    obtain ⟨a11, rfl, l11, u11⟩ := it 11 0 6 v11 (by decide) rfl
    obtain ⟨a12, rfl, -⟩ := it 12 0 1 v12 (by decide) rfl
    exact ⟨t0, a2, a3, a4, a5, a6, a8, a9, a10, a11, a12, e1, by omega, l11, u11⟩
theorem fd_tap (hH : sx_H sx_TT 20 sx_tau h) (P : fd_P h) {L : Int} (G : fdc_c h 91 8 1 (wp_i L)) : ∃ k v s p : Int, h[91]? = some (8, [.ref 92, wp_i L, wp_i k, wp_i v, wp_i s, wp_i p]) := by
  obtain ⟨-, fs, e1, e2, e3, -⟩ := hH 91 56 sx_y56 rfl rfl
  have e1 : h[91]? = some (8, fs) := e1
  have e2 : fs.length = 6 := e2
  match fs, e2 with
  | [v0, v1, v2, v3, v4, v5], _ =>
    have p0 : some v0 = some (.ref 92) := fd_at (P (91, 8, 0, 92) (by decide)) e1
    have p1 : some v1 = some (wp_i L) := fd_at G e1
    cases p0
    cases p1
    have it : ∀ (k : Nat) (lo hi : Int) (v : Value), sx_fd sx_y56.2.2 k = some (0, lo, hi) → [Value.ref 92, wp_i L, v2, v3, v4, v5][k]? = some v → ∃ z : Int, v = wp_i z := by
      intro k lo hi v hd hv
      obtain ⟨dd, d1, d2⟩ := e3 k v hv
      rw [hd] at d1
      cases d1
      obtain ⟨z, rfl, z1, z2⟩ := d2
      exact ⟨z.toInt, wp_iz⟩
    obtain ⟨a2, rfl⟩ := it 2 0 4 v2 (by decide) rfl
    obtain ⟨a3, rfl⟩ := it 3 (-2147483648) 2147483647 v3 (by decide) rfl
    obtain ⟨a4, rfl⟩ := it 4 0 300 v4 (by decide) rfl
    obtain ⟨a5, rfl⟩ := it 5 0 300 v5 (by decide) rfl
    exact ⟨a2, a3, a4, a5, e1⟩
theorem fd_txt (hH : sx_H sx_TT 20 sx_tau h) (P : fd_P h) {t : Nat} (ht : t = 12 ∨ t = 19 ∨ t = 26 ∨ t = 33) : ∃ (cl : Int) (fr : List Value), tx h t cl fr ∧ fr.length = 3 := by
  have ty : sx_tau[t]? = some 27 ∧ sx_tau[t + 1]? = some 28 ∧ sx_tau[t + 2]? = some 29 ∧ sx_tau[t + 3]? = some 30 ∧ sx_tau[t + 4]? = some 31 ∧ sx_tau[t + 5]? = some 32 ∧ sx_tau[t + 6]? = some 33 := by
    rcases ht with rfl | rfl | rfl | rfl <;> exact ⟨rfl, rfl, rfl, rfl, rfl, rfl, rfl⟩
  have pp : (t, 1, 0, t + 1) ∈ fp_L ∧ (t, 1, 2, t + 2) ∈ fp_L ∧ (t, 1, 3, t + 3) ∈ fp_L ∧ (t, 1, 4, t + 4) ∈ fp_L ∧ (t, 1, 5, t + 5) ∈ fp_L ∧ (t, 1, 6, t + 6) ∈ fp_L ∧ (t, 1, 8, 10) ∈ fp_L := by
    rcases ht with rfl | rfl | rfl | rfl <;> exact ⟨by decide, by decide, by decide, by decide, by decide, by decide, by decide⟩
  obtain ⟨-, fs, e1, e2, e3, -⟩ := hH t 27 sx_y27 ty.1 rfl
  have e1 : h[t]? = some (1, fs) := e1
  have e2 : fs.length = 9 := e2
  obtain ⟨c1, k1⟩ := fd_cell hH ty.2.1 (show sx_TT[28]? = some sx_y28 from rfl)
  obtain ⟨-, c2, k2, l2, -⟩ := hH (t + 2) 29 sx_y29 ty.2.2.1 rfl
  obtain ⟨c3, k3⟩ := fd_cell hH ty.2.2.2.1 (show sx_TT[30]? = some sx_y30 from rfl)
  obtain ⟨c4, k4⟩ := fd_cell hH ty.2.2.2.2.1 (show sx_TT[31]? = some sx_y31 from rfl)
  obtain ⟨c5, k5⟩ := fd_cell hH ty.2.2.2.2.2.1 (show sx_TT[32]? = some sx_y32 from rfl)
  obtain ⟨c6, k6⟩ := fd_cell hH ty.2.2.2.2.2.2 (show sx_TT[33]? = some sx_y33 from rfl)
  match fs, e2 with
  | [v0, v1, v2, v3, v4, v5, v6, v7, v8], _ =>
    have p0 : some v0 = some (.ref (t + 1)) := fd_at (P _ pp.1) e1
    have p2 : some v2 = some (.ref (t + 2)) := fd_at (P _ pp.2.1) e1
    have p3 : some v3 = some (.ref (t + 3)) := fd_at (P _ pp.2.2.1) e1
    have p4 : some v4 = some (.ref (t + 4)) := fd_at (P _ pp.2.2.2.1) e1
    have p5 : some v5 = some (.ref (t + 5)) := fd_at (P _ pp.2.2.2.2.1) e1
    have p6 : some v6 = some (.ref (t + 6)) := fd_at (P _ pp.2.2.2.2.2.1) e1
    have p8 : some v8 = some (.ref 10) := fd_at (P _ pp.2.2.2.2.2.2) e1
    cases p0; cases p2; cases p3; cases p4; cases p5; cases p6; cases p8
    have it : ∀ (k : Nat) (lo hi : Int) (v : Value), sx_fd sx_y27.2.2 k = some (0, lo, hi) → [Value.ref (t + 1), v1, Value.ref (t + 2), Value.ref (t + 3), Value.ref (t + 4), Value.ref (t + 5), Value.ref (t + 6), v7, Value.ref 10][k]? = some v → ∃ z : Int, v = wp_i z ∧ lo ≤ z ∧ z ≤ hi := by
      intro k lo hi v hd hv
      obtain ⟨dd, d1, d2⟩ := e3 k v hv
      rw [hd] at d1
      cases d1
      obtain ⟨z, rfl, z1, z2⟩ := d2
      exact ⟨z.toInt, wp_iz, z1, z2⟩
    obtain ⟨a1, rfl, b1, b2⟩ := it 1 0 300 v1 (by decide) rfl
    obtain ⟨a7, rfl, -⟩ := it 7 0 24 v7 (by decide) rfl
    exact ⟨a7, c2, ⟨a1, c1, c3, c4, c5, c6, e1, ⟨b1, b2⟩, k1, k2, k3, k4, k5, k6⟩, l2⟩
theorem fd_mod (hH : sx_H sx_TT 20 sx_tau h) : ∃ fs, h[138]? = some (11, fs) ∧ fs.length = 31 ∧ (∀ j ∈ [8, 9, 10, 14, 16, 17, 18, 19, 20], fs[j]? = some (wp_i (sx_el fs j))) ∧ 0 ≤ sx_el fs 18 ∧ sx_el fs 18 ≤ 100 := by
  obtain ⟨-, fs, e1, e2, e3, -⟩ := hH 138 63 sx_y63 rfl rfl
  have e1 : h[138]? = some (11, fs) := e1
  have e2 : fs.length = 31 := e2
  have it : ∀ (k : Nat) (lo hi : Int), k < 31 → sx_fd sx_y63.2.2 k = some (0, lo, hi) → fs[k]? = some (wp_i (sx_el fs k)) ∧ lo ≤ sx_el fs k ∧ sx_el fs k ≤ hi := by
    intro k lo hi hk hd
    have hv : fs[k]? = some fs[k] := List.getElem?_eq_getElem (by omega)
    obtain ⟨dd, d1, d2⟩ := e3 k _ hv
    rw [hd] at d1
    cases d1
    obtain ⟨z, ez, z1, z2⟩ := d2
    rw [ez] at hv
    have := fd_iel hv
    exact ⟨this.1, by rw [this.2]; exact z1, by rw [this.2]; exact z2⟩
  refine ⟨fs, e1, e2, fun j hj => ?_, (it 18 0 6 (by decide) (by decide)).2.1, by have := (it 18 0 6 (by decide) (by decide)).2.2; omega⟩
  simp only [List.mem_cons, List.not_mem_nil, or_false] at hj
  rcases hj with rfl | rfl | rfl | rfl | rfl | rfl | rfl | rfl | rfl
  · exact (it 8 0 300 (by decide) (by decide)).1
  · exact (it 9 0 255 (by decide) (by decide)).1
  · exact (it 10 (-2147483648) 2147483647 (by decide) (by decide)).1
  · exact (it 14 0 9 (by decide) (by decide)).1
  · exact (it 16 0 160 (by decide) (by decide)).1
  · exact (it 17 0 8 (by decide) (by decide)).1
  · exact (it 18 0 6 (by decide) (by decide)).1
  · exact (it 19 0 1 (by decide) (by decide)).1
  · exact (it 20 0 1 (by decide) (by decide)).1
def fdA (L : Int) : Int := if L + 20 ≤ 300 then L + 20 else -1
def fdL (L : Int) : Int := if L + 20 ≤ 300 then L + 20 else L
def fdB (bl : List Value) (L a b c d e : Int) : List Value := if L + 20 ≤ 300 then ap20 bl L a b c d e else bl
theorem lz_16 (AM : lw_AM) {a b c1 d1 d2 : Int} (X : lz_X sl h B L1 b1 L2 b2 hr f q f2 q2 c c9 e e9) (hB : B ≤ 2147483647) (D : tB b1) (hL : 0 ≤ L1 ∧ L1 ≤ 300) : wp_R 1199 16 0 [some (.ref 9), some (wp_i a), some (wp_i b), some (wp_i c1), some (wp_i d1), some (wp_i d2)] [] h (fun v h1 => v = some (wp_i (fdA L1)) ∧ lz_X sl h1 B (fdL L1) (fdB b1 L1 a b c1 d1 d2) L2 b2 hr f q f2 q2 c c9 e e9) := by
  obtain ⟨I, P, S, x1, x2, x3, x4, x5, x6, x7⟩ := X
  obtain ⟨k, v, s, p, e91⟩ := fd_tap I.1 P x1.1
  obtain ⟨g9, e9, q2⟩ := P (9, 0, 2, 91) (by decide)
  refine wp_mono (wl_wp (lw_K0 (n := 0) I P S (AM 1199 16 sx_K16 rfl) (vs := [.ref 9, wp_i a, wp_i b, wp_i c1, wp_i d1, wp_i d2]) ⟨⟨9, rfl, rfl⟩, ⟨_, rfl, (sx_r32 _).1, (sx_r32 _).2⟩, ⟨_, rfl, (sx_r32 _).1, (sx_r32 _).2⟩, ⟨_, rfl, (sx_r32 _).1, (sx_r32 _).2⟩, ⟨_, rfl, (sx_r32 _).1, (sx_r32 _).2⟩, ⟨_, rfl, (sx_r32 _).1, (sx_r32 _).2⟩, trivial⟩ (show (1 : Int) + 0 ≤ ((1199 : Nat) : Int) by decide) (by decide) (by omega) (by rw [jn_16]; rfl) (by decide)) (fun n => wc_fd (d := 1198) (a := a) (b := b) (c := c1) (e := d1) (f := d2) ⟨e9, q2⟩ ⟨e91, x1.2⟩ D hL)) ?_
  rintro v h1 ⟨⟨-, k2, k3, k4, k5⟩, ⟨y, rfl, z1, -⟩ | ⟨y, rfl, rfl⟩⟩
  · refine ⟨by rw [fdA, if_pos y], lw_le k2 (by omega), k3, k4, by rw [fdL, if_pos y, fdB, if_pos y]; exact ⟨⟨_, z1.1, rfl⟩, z1.2⟩, g2_ef k5 (by decide) x2, g3_ef k5 (by decide) x3, g4_ef k5 (by decide) x4, g5_ef k5 (by decide) x5, g6_ef k5 (by decide) x6, g7_ef k5 (by decide) x7⟩
  · refine ⟨by rw [fdA, if_neg y], lw_le k2 (by omega), k3, k4, by rw [fdL, if_neg y, fdB, if_neg y]; exact x1, g2_ef k5 (by decide) x2, g3_ef k5 (by decide) x3, g4_ef k5 (by decide) x4, g5_ef k5 (by decide) x5, g6_ef k5 (by decide) x6, g7_ef k5 (by decide) x7⟩
theorem lz_173 (AM : lw_AM) {a b c1 d1 d2 : Int} (X : lz_X sl h B L1 b1 L2 b2 hr f q f2 q2 c c9 e e9) (hB : B ≤ 2147483647) (D : tB b2) (hL : 0 ≤ L2 ∧ L2 ≤ 300) : wp_R 1199 173 0 [some (.ref 138), some (wp_i a), some (wp_i b), some (wp_i c1), some (wp_i d1), some (wp_i d2)] [] h (fun v h1 => v = some (wp_i (fdA L2)) ∧ lz_X sl h1 B L1 b1 (fdL L2) (fdB b2 L2 a b c1 d1 d2) hr f q f2 q2 c c9 e e9) := by
  obtain ⟨I, P, S, x1, x2, x3, x4, x5, x6, x7⟩ := X
  obtain ⟨fs, e138, fl, -⟩ := fd_mod I.1
  refine wp_mono (wl_wp (lw_K0 (n := 0) I P S (AM 1199 173 sx_K173 rfl) (vs := [.ref 138, wp_i a, wp_i b, wp_i c1, wp_i d1, wp_i d2]) ⟨⟨138, rfl, rfl⟩, ⟨_, rfl, (sx_r32 _).1, (sx_r32 _).2⟩, ⟨_, rfl, (sx_r32 _).1, (sx_r32 _).2⟩, ⟨_, rfl, (sx_r32 _).1, (sx_r32 _).2⟩, ⟨_, rfl, (sx_r32 _).1, (sx_r32 _).2⟩, ⟨_, rfl, (sx_r32 _).1, (sx_r32 _).2⟩, trivial⟩ (show (1 : Int) + 0 ≤ ((1199 : Nat) : Int) by decide) (by decide) (by omega) (by rw [jn_173]; rfl) (by decide)) (fun n => wr_fd (d := 1198) (a := a) (b := b) (c := c1) (e := d1) (f := d2) ⟨e138, fl, fd_at (P (138, 11, 3, 142) (by decide)) e138, fd_at x2.1 e138, x2.2⟩ D hL)) ?_
  rintro v h1 ⟨⟨-, k2, k3, k4, k5⟩, ⟨y, rfl, z1, -⟩ | ⟨y, rfl, rfl⟩⟩
  · refine ⟨by rw [fdA, if_pos y], lw_le k2 (by omega), k3, k4, g1_ef k5 (by decide) x1, by rw [fdL, if_pos y, fdB, if_pos y]; exact ⟨⟨_, z1.1, z1.2.2.2.1⟩, z1.2.2.2.2⟩, g3_ef k5 (by decide) x3, g4_ef k5 (by decide) x4, g5_ef k5 (by decide) x5, g6_ef k5 (by decide) x6, g7_ef k5 (by decide) x7⟩
  · refine ⟨by rw [fdA, if_neg y], lw_le k2 (by omega), k3, k4, g1_ef k5 (by decide) x1, by rw [fdL, if_neg y, fdB, if_neg y]; exact x2, g3_ef k5 (by decide) x3, g4_ef k5 (by decide) x4, g5_ef k5 (by decide) x5, g6_ef k5 (by decide) x6, g7_ef k5 (by decide) x7⟩
def enA (x L : Int) : Int := if 0 ≤ x ∧ x ≤ L then x else -1
def enL (x L : Int) : Int := if 0 ≤ x ∧ x ≤ L then x else L
theorem lz_18 (AM : lw_AM) {x : Int} (hx : wp_r x) (X : lz_X sl h B L1 b1 L2 b2 hr f q f2 q2 c c9 e e9) (hB : B ≤ 2147483647) (hL : 0 ≤ L1 ∧ L1 ≤ 300) : wp_R 1199 18 0 [some (.ref 9), some (wp_i x)] [] h (fun v h1 => v = some (wp_i (enA x L1)) ∧ lz_X sl h1 B (enL x L1) b1 L2 b2 hr f q f2 q2 c c9 e e9) := by
  obtain ⟨I, P, S, x1, x2, x3, x4, x5, x6, x7⟩ := X
  obtain ⟨k, v, s, p, e91⟩ := fd_tap I.1 P x1.1
  obtain ⟨g9, e9, q2⟩ := P (9, 0, 2, 91) (by decide)
  refine wp_mono (wl_wp (lw_K0 (n := 0) I P S (AM 1199 18 sx_K18 rfl) (vs := [.ref 9, wp_i x]) ⟨⟨9, rfl, rfl⟩, ⟨_, rfl, (sx_r32 _).1, (sx_r32 _).2⟩, trivial⟩ (show (0 : Int) + 0 ≤ ((1199 : Nat) : Int) by decide) (by decide) (by omega) (by rw [jn_18]; rfl) (by decide)) (fun n => wc_en (d := 1199) hx ⟨e9, q2⟩ e91 hL)) ?_
  rintro v h1 ⟨⟨-, k2, k3, k4, k5⟩, ⟨y, rfl, z1, z2⟩ | ⟨y, rfl, rfl⟩⟩
  · refine ⟨by rw [enA, if_pos y], lw_le k2 (by omega), k3, k4, by rw [enL, if_pos y]; exact ⟨⟨_, z1, rfl⟩, (z2 92 (by decide)).trans x1.2⟩, g2_ef k5 (by decide) x2, g3_ef k5 (by decide) x3, g4_ef k5 (by decide) x4, g5_ef k5 (by decide) x5, g6_ef k5 (by decide) x6, g7_ef k5 (by decide) x7⟩
  · refine ⟨by rw [enA, if_neg y], lw_le k2 (by omega), k3, k4, by rw [enL, if_neg y]; exact x1, g2_ef k5 (by decide) x2, g3_ef k5 (by decide) x3, g4_ef k5 (by decide) x4, g5_ef k5 (by decide) x5, g6_ef k5 (by decide) x6, g7_ef k5 (by decide) x7⟩
theorem lz_175 (AM : lw_AM) {x : Int} (hx : wp_r x) (X : lz_X sl h B L1 b1 L2 b2 hr f q f2 q2 c c9 e e9) (hB : B ≤ 2147483647) (hL : 0 ≤ L2 ∧ L2 ≤ 300) : wp_R 1199 175 0 [some (.ref 138), some (wp_i x)] [] h (fun v h1 => v = some (wp_i (enA x L2)) ∧ lz_X sl h1 B L1 b1 (enL x L2) b2 hr f q f2 q2 c c9 e e9) := by
  obtain ⟨I, P, S, x1, x2, x3, x4, x5, x6, x7⟩ := X
  obtain ⟨fs, e138, fl, -⟩ := fd_mod I.1
  refine wp_mono (wl_wp (lw_K0 (n := 0) I P S (AM 1199 175 sx_K175 rfl) (vs := [.ref 138, wp_i x]) ⟨⟨138, rfl, rfl⟩, ⟨_, rfl, (sx_r32 _).1, (sx_r32 _).2⟩, trivial⟩ (show (1 : Int) + 0 ≤ ((1199 : Nat) : Int) by decide) (by decide) (by omega) (by rw [jn_175]; rfl) (by decide)) (fun n => wr_en (d := 1198) hx e138 fl (fd_at x2.1 e138) hL)) ?_
  rintro v h1 ⟨⟨-, k2, k3, k4, k5⟩, ⟨y, rfl, z1, z2⟩ | ⟨y, rfl, rfl⟩⟩
  · refine ⟨by rw [enA, if_pos y], lw_le k2 (by omega), k3, k4, g1_ef k5 (by decide) x1, by rw [enL, if_pos y]; exact ⟨⟨_, z1, List.getElem?_set_self (by omega)⟩, (z2 142 (by decide)).trans x2.2⟩, g3_ef k5 (by decide) x3, g4_ef k5 (by decide) x4, g5_ef k5 (by decide) x5, g6_ef k5 (by decide) x6, g7_ef k5 (by decide) x7⟩
  · refine ⟨by rw [enA, if_neg y], lw_le k2 (by omega), k3, k4, g1_ef k5 (by decide) x1, by rw [enL, if_neg y]; exact x2, g3_ef k5 (by decide) x3, g4_ef k5 (by decide) x4, g5_ef k5 (by decide) x5, g6_ef k5 (by decide) x6, g7_ef k5 (by decide) x7⟩
theorem lz_54 (AM : lw_AM) {x : Int} (hx : wp_r x) (hh : hr = 0 ∨ hr = 1) (X : lz_X sl h B L1 b1 L2 b2 hr f q f2 q2 c c9 e e9) (hB : B ≤ 2147483647) : wp_R 1199 54 0 [some (.ref 9), some (wp_i x)] [] h (fun v h1 => v = some (wp_i (fA x hr f q)) ∧ lz_X sl h1 B L1 b1 L2 b2 hr f q f2 q2 c c9 e e9) := by
  obtain ⟨I, P, S, x1, x2, x3, x4, x5, x6, x7⟩ := X
  obtain ⟨t0, a1, a2, a3, a4, a5, a6, a7, a8, a9, a10, e93, -⟩ := fd_rdr I.1 P
  have p2 : some (wp_i a1) = some (wp_i hr) := fd_at x3.1 e93
  have p3 : some (wp_i a2) = some (wp_i f) := fd_at x3.2.1 e93
  have p4 : some (wp_i a3) = some (wp_i q) := fd_at x3.2.2 e93
  have p2 := Option.some.inj p2
  have p3 := Option.some.inj p3
  have p4 := Option.some.inj p4
  rw [p2, p3, p4] at e93
  obtain ⟨g9, e9, q2⟩ := P (9, 0, 3, 93) (by decide)
  refine wp_mono (wl_wp (lw_K0 (n := 0) I P S (AM 1199 54 sx_K54 rfl) (vs := [.ref 9, wp_i x]) ⟨⟨9, rfl, rfl⟩, ⟨_, rfl, (sx_r32 _).1, (sx_r32 _).2⟩, trivial⟩ (show (0 : Int) + 0 ≤ ((1199 : Nat) : Int) by decide) (by decide) (by omega) (by rw [jn_54]; rfl) (by decide)) (fun n => wc_fa (d := 1199) hx hh ⟨e9, q2⟩ e93)) ?_
  rintro v h1 ⟨⟨-, k2, k3, k4, k5⟩, rfl, rfl⟩
  exact ⟨rfl, lw_le k2 (by omega), k3, k4, x1, x2, x3, x4, x5, x6, x7⟩
theorem lz_214 (AM : lw_AM) {x : Int} (hx : wp_r x) (X : lz_X sl h B L1 b1 L2 b2 hr f q f2 q2 c c9 e e9) (hB : B ≤ 2147483647) : wp_R 1199 214 0 [some (.ref 138), some (wp_i x)] [] h (fun v h1 => v = some (wp_i (fA x 1 f2 q2)) ∧ lz_X sl h1 B L1 b1 L2 b2 hr f q f2 q2 c c9 e e9) := by
  obtain ⟨I, P, S, x1, x2, x3, x4, x5, x6, x7⟩ := X
  obtain ⟨fs, e138, fl, -⟩ := fd_mod I.1
  refine wp_mono (wl_wp (lw_K0 (n := 0) I P S (AM 1199 214 sx_K214 rfl) (vs := [.ref 138, wp_i x]) ⟨⟨138, rfl, rfl⟩, ⟨_, rfl, (sx_r32 _).1, (sx_r32 _).2⟩, trivial⟩ (show (0 : Int) + 0 ≤ ((1199 : Nat) : Int) by decide) (by decide) (by omega) (by rw [jn_214]; rfl) (by decide)) (fun n => wr_fa (d := 1199) hx e138 (fd_at x4.1 e138) (fd_at x4.2 e138))) ?_
  rintro v h1 ⟨⟨-, k2, k3, k4, k5⟩, rfl, rfl⟩
  exact ⟨rfl, lw_le k2 (by omega), k3, k4, x1, x2, x3, x4, x5, x6, x7⟩
def byA (x c : Int) : Int := if -1 ≤ x ∧ x < c then 1 else 0
theorem lz_55 (AM : lw_AM) {x : Int} (hx : wp_r x) (hc : 0 ≤ c ∧ c ≤ 4) (X : lz_X sl h B L1 b1 L2 b2 hr f q f2 q2 c c9 e e9) (hB : B ≤ 2147483647) : wp_R 1199 55 0 [some (.ref 9), some (wp_i x)] [] h (fun v h1 => v = some (wp_i (byA x c)) ∧ lz_X sl h1 B L1 b1 L2 b2 hr f q f2 q2 c c9 e e9) := by
  obtain ⟨I, P, S, x1, x2, x3, x4, x5, x6, x7⟩ := X
  obtain ⟨s47, s1, s2, -⟩ := fd_34 I.1 (a := 47) rfl
  obtain ⟨g9, e9, q2⟩ := P (9, 0, 0, 47) (by decide)
  refine wp_mono (wl_wp (lw_K0 (n := 0) I P S (AM 1199 55 sx_K55 rfl) (vs := [.ref 9, wp_i x]) ⟨⟨9, rfl, rfl⟩, ⟨_, rfl, (sx_r32 _).1, (sx_r32 _).2⟩, trivial⟩ (show (1 : Int) + 0 ≤ ((1199 : Nat) : Int) by decide) (by decide) (by omega) (by rw [jn_55]; rfl) (by decide)) (fun n => wc_by (d := 1198) hx hc ⟨e9, q2⟩ ⟨s1, s2, fd_at x6.1 s1⟩)) ?_
  rintro v h1 ⟨⟨-, k2, k3, k4, k5⟩, z⟩
  refine ⟨?_, lw_le k2 (by omega), k3, k4, g1_ef k5 (by decide) x1, g2_ef k5 (by decide) x2, g3_ef k5 (by decide) x3, g4_ef k5 (by decide) x4, g5_ef k5 (by decide) x5, g6_ef k5 (by decide) x6, g7_ef k5 (by decide) x7⟩
  rcases z with ⟨y, rfl, -⟩ | ⟨y, rfl, -⟩
  · rw [byA, if_pos y]
  · rw [byA, if_neg y]
theorem lz_215 (AM : lw_AM) {x : Int} (hx : wp_r x) (hc : 0 ≤ e ∧ e ≤ 4) (X : lz_X sl h B L1 b1 L2 b2 hr f q f2 q2 c c9 e e9) (hB : B ≤ 2147483647) : wp_R 1199 215 0 [some (.ref 138), some (wp_i x)] [] h (fun v h1 => v = some (wp_i (byA x e)) ∧ lz_X sl h1 B L1 b1 L2 b2 hr f q f2 q2 c c9 e e9) := by
  obtain ⟨I, P, S, x1, x2, x3, x4, x5, x6, x7⟩ := X
  obtain ⟨fs, e138, fl, -⟩ := fd_mod I.1
  obtain ⟨as, a1, a2, -⟩ := fd_21 I.1 (a := 139) rfl
  refine wp_mono (wl_wp (lw_K0 (n := 0) I P S (AM 1199 215 sx_K215 rfl) (vs := [.ref 138, wp_i x]) ⟨⟨138, rfl, rfl⟩, ⟨_, rfl, (sx_r32 _).1, (sx_r32 _).2⟩, trivial⟩ (show (1 : Int) + 0 ≤ ((1199 : Nat) : Int) by decide) (by decide) (by omega) (by rw [jn_215]; rfl) (by decide)) (fun n => wr_by (d := 1198) hx hc e138 (fd_at (P (138, 11, 0, 139) (by decide)) e138) a1 (fd_at x7.1 a1))) ?_
  rintro v h1 ⟨⟨-, k2, k3, k4, k5⟩, z⟩
  refine ⟨?_, lw_le k2 (by omega), k3, k4, g1_ef k5 (by decide) x1, g2_ef k5 (by decide) x2, g3_ef k5 (by decide) x3, g4_ef k5 (by decide) x4, g5_ef k5 (by decide) x5, g6_ef k5 (by decide) x6, g7_ef k5 (by decide) x7⟩
  rcases z with ⟨y, rfl, -⟩ | ⟨y, rfl, -⟩
  · rw [byA, if_pos y]
  · rw [byA, if_neg y]
/-- what is read of a tape -/
def txF (B : Int → Int) (f q : Int) : Prop := ∃ (k v s p : Int) (m : Nat) (ls : Int), tok B 0 k v s p ∧ tr B m nof 0 ls k v s p f q
theorem txF_u {B : Int → Int} {f q f2 q2 : Int} (a : txF B f q) (b : txF B f2 q2) : f = f2 ∧ q = q2 := by
  obtain ⟨k, v, s, p, m, ls, tk, a⟩ := a
  obtain ⟨k2, v2, s2, p2, m2, ls2, tk2, b⟩ := b
  obtain ⟨e1, e2, e3, e4⟩ := tok_u tk tk2
  subst e1 e2 e3 e4
  exact tr_u a b
theorem lz_19 (AM : lw_AM) (X : lz_X sl h B L1 b1 L2 b2 hr f q f2 q2 c c9 e e9) (hB : B ≤ 2147483647) (D : tB b1) (hL : 0 ≤ L1 ∧ L1 ≤ 300) (hc : 0 ≤ c ∧ c ≤ 4) : wp_R 1199 19 0 [some (.ref 9)] [] h (fun v h1 => (c = 4 ∧ v = some (wp_i (-1)) ∧ lz_X sl h1 B L1 b1 L2 b2 hr f q f2 q2 c c9 e e9) ∨ (¬ c = 4 ∧ ∃ f' q', txF (bt b1 L1) f' q' ∧ v = some (wp_i (if f' = 0 then c else -1)) ∧ lz_X sl h1 B 0 b1 L2 b2 1 f' q' f2 q2 (if f' = 0 then c + 1 else c) c9 e e9)) := by
  obtain ⟨I, P, S, x1, x2, x3, x4, x5, x6, x7⟩ := X
  obtain ⟨k, v, s, p, e91⟩ := fd_tap I.1 P x1.1
  obtain ⟨t0, a1, a2, a3, a4, a5, a6, a7, a8, a9, a10, e93, -, hls⟩ := fd_rdr I.1 P
  obtain ⟨g9, e9, q0⟩ := P (9, 0, 0, 47) (by decide)
  have q2 := fd_at (P (9, 0, 2, 91) (by decide)) e9
  have q3 := fd_at (P (9, 0, 3, 93) (by decide)) e9
  obtain ⟨s47, s1, s2, -⟩ := fd_34 I.1 (a := 47) rfl
  obtain ⟨ws, w1, wl⟩ : ∃ ws, h[94]? = some (1000, ws) ∧ ws.length = 40 := by
    obtain ⟨-, ws, w1, w2, -⟩ := I.1 94 59 sx_y59 rfl rfl
    exact ⟨ws, w1, w2⟩
  obtain ⟨t, ht1, ht2⟩ : ∃ t : Nat, (t = 12 ∨ t = 19 ∨ t = 26 ∨ t = 33) ∧ ((t : Int) = 12 + 7 * c ∨ c = 4) := by
    have h5 : c = 0 ∨ c = 1 ∨ c = 2 ∨ c = 3 ∨ c = 4 := by omega
    rcases h5 with rfl | rfl | rfl | rfl | rfl
    · exact ⟨12, by decide, by decide⟩
    · exact ⟨19, by decide, by decide⟩
    · exact ⟨26, by decide, by decide⟩
    · exact ⟨33, by decide, by decide⟩
    · exact ⟨12, by decide, by decide⟩
  obtain ⟨cl, fr, X1, X2⟩ := fd_txt I.1 P ht1
  refine wp_mono (wl_wp (lw_K0 (n := 0) I P S (AM 1199 19 sx_K19 rfl) (vs := [.ref 9]) ⟨⟨9, rfl, rfl⟩, trivial⟩ (show (7 : Int) + 0 ≤ ((1199 : Nat) : Int) by decide) (by decide) (by omega) (by rw [jn_19]; rfl) (by decide)) (fun n => wc_tx (d := 1192) ⟨⟨e9, q0, q2, q3⟩, ⟨s1, s2, fd_at (P (47, 2, 5, 11) (by decide)) s1, fd_at x6.1 s1⟩, S.2.2, e91, x1.2, e93, ⟨w1, wl⟩, X1, X2⟩ D hL S.2.1 S.1 hc ht2 hls)) ?_
  rintro v h1 ⟨⟨-, k2, k3, k4, k5⟩, ⟨y, rfl, rfl⟩ | ⟨y, k', v', q', r', f', q9, tk, ⟨m, TR⟩, rfl, ⟨z1, z2, z3, z4, z91⟩, ⟨w1', w2', w3', w4', w5', w6', w7', z93⟩, z47, zf⟩⟩
  · exact Or.inl ⟨y, rfl, lw_le k2 (by omega), k3, k4, x1, x2, x3, x4, x5, x6, x7⟩
  · refine Or.inr ⟨y, f', q9, ⟨k', v', q', r', m, a9, tk, TR⟩, rfl, lw_le k2 (by omega), k3, k4, ?_, g2_ef k5 (by decide) x2, ?_, g4_ef k5 (by decide) x4, g5_ef k5 (by decide) x5, ?_, g7_ef k5 (by decide) x7⟩
    · exact ⟨⟨_, z91, rfl⟩, (zf 92 (by omega) (by decide) (by decide) (by decide) (by decide)).trans x1.2⟩
    · exact ⟨⟨_, z93, rfl⟩, ⟨_, z93, rfl⟩, ⟨_, z93, rfl⟩⟩
    · refine ⟨⟨_, z47, ?_⟩, fd_fr (zf 69 (by omega) (by decide) (by decide) (by decide) (by decide)) x6.2⟩
      split
      · exact List.getElem?_set_self (by omega)
      · exact fd_at x6.1 s1
theorem lz_176 (AM : lw_AM) (X : lz_X sl h B L1 b1 L2 b2 hr f q f2 q2 c c9 e e9) (hB : B ≤ 2147483647) (D : tB b2) (hL : 0 ≤ L2 ∧ L2 ≤ 300) (hc : 0 ≤ e ∧ e ≤ 4) : wp_R 1199 176 0 [some (.ref 138)] [] h (fun v h1 => (e = 4 ∧ v = some (wp_i (-1)) ∧ lz_X sl h1 B L1 b1 L2 b2 hr f q f2 q2 c c9 e e9) ∨ (¬ e = 4 ∧ ∃ f' q', txF (bt b2 L2) f' q' ∧ v = some (wp_i (if f' = 0 then e else -1)) ∧ lz_X sl h1 B L1 b1 0 b2 hr f q f' q' c c9 (if f' = 0 then e + 1 else e) e9)) := by
  obtain ⟨I, P, S, x1, x2, x3, x4, x5, x6, x7⟩ := X
  obtain ⟨fs, e138, fl, fi, fam⟩ := fd_mod I.1
  obtain ⟨as, a1, a2, -⟩ := fd_21 I.1 (a := 139) rfl
  obtain ⟨w, w1, w2⟩ := x5
  obtain ⟨ts, t1, t2⟩ : ∃ ts, h[141]? = some (1000, ts) ∧ ts.length = 2820 := by
    obtain ⟨-, ts, w1, w2, -⟩ := I.1 141 20 sx_y20 rfl rfl
    exact ⟨ts, w1, w2⟩
  obtain ⟨pl, pl1⟩ : ∃ pl, h[143]? = some (1000, pl) := by
    obtain ⟨pl, w1⟩ := fd_cell I.1 (a := 143) (t := 65) rfl (show sx_TT[65]? = some sx_y65 from rfl)
    exact ⟨pl, w1⟩
  refine wp_mono (wl_wp (lw_K0 (n := 0) I P S (AM 1199 176 sx_K176 rfl) (vs := [.ref 138]) ⟨⟨138, rfl, rfl⟩, trivial⟩ (show (20 : Int) + 0 ≤ ((1199 : Nat) : Int) by decide) (by decide) (by omega) (by rw [jn_176]; rfl) (by decide)) (fun n => wr_tx (d := 1187) (ls := 0) ⟨e138, fl, ⟨fd_at (P (138, 11, 0, 139) (by decide)) e138, fd_at (P (138, 11, 2, 141) (by decide)) e138, fd_at (P (138, 11, 3, 142) (by decide)) e138, fd_at (P (138, 11, 15, 143) (by decide)) e138, fd_at x2.1 e138, fd_at w2 e138⟩, fi, a1, fd_at x7.1 a1, t1, t2, x2.2, pl1⟩ D hL hc w1 fam (by decide))) ?_
  rintro v h1 ⟨⟨-, k2, k3, k4, k5⟩, ⟨y, rfl, rfl⟩ | ⟨y, k', v', q', r', f', q9, tk, ⟨m, TR⟩, hf, rfl, ⟨fs1, w', z138, zl, ⟨z4, z5, z6, z11, zw⟩, -⟩, z139, zf⟩⟩
  · exact Or.inl ⟨y, rfl, lw_le k2 (by omega), k3, k4, x1, x2, x3, x4, ⟨w, w1, w2⟩, x6, x7⟩
  · refine Or.inr ⟨y, f', q9, ⟨k', v', q', r', m, 0, tk, TR⟩, rfl, lw_le k2 (by omega), k3, k4, g1_ef k5 (by decide) x1, ?_, g3_ef k5 (by decide) x3, ?_, ?_, g6_ef k5 (by decide) x6, ?_⟩
    · exact ⟨⟨_, z138, z4⟩, (zf 142 (by decide) (by decide) (by decide) (by decide)).trans x2.2⟩
    · exact ⟨⟨_, z138, z5⟩, ⟨_, z138, z6⟩⟩
    · exact ⟨w', zw, ⟨_, z138, z11⟩⟩
    · refine ⟨⟨_, z139, ?_⟩, fd_fr (zf 140 (by decide) (by decide) (by decide) (by decide)) x7.2⟩
      split
      · exact List.getElem?_set_self (by omega)
      · exact fd_at x7.1 a1
end LZX
def lx_K162 : sx_K := ([(2, 43, 0), (2, 43, 0)], none, (0, []), [402, 10044, 10045])
set_option maxRecDepth 100000 in
theorem lx_k162 : sx_chk sx_PP 162 lx_K162 [] 3000 = true := by decide +kernel
theorem lx_M162 (AM : lw_AM) (d : Nat) : sx_M sx_PP d 162 lx_K162 := sx_chk_ok (fun d' _ c K hK => AM d' c K hK) lx_k162
def lx_K163 : sx_K := ([(2, 46, 0), (2, 46, 0)], none, (0, []), [501, 502, 10047])
set_option maxRecDepth 100000 in
theorem lx_k163 : sx_chk sx_PP 163 lx_K163 [] 3000 = true := by decide +kernel
theorem lx_M163 (AM : lw_AM) (d : Nat) : sx_M sx_PP d 163 lx_K163 := sx_chk_ok (fun d' _ c K hK => AM d' c K hK) lx_k163
def lx_K165 : sx_K := ([(2, 52, 0), (2, 52, 0)], none, (0, []), [703, 10053, 10054])
set_option maxRecDepth 100000 in
theorem lx_k165 : sx_chk sx_PP 165 lx_K165 [] 3000 = true := by decide +kernel
theorem lx_M165 (AM : lw_AM) (d : Nat) : sx_M sx_PP d 165 lx_K165 := sx_chk_ok (fun d' _ c K hK => AM d' c K hK) lx_k165
theorem ws_cploop {d : Nat} {h0 : mj_H} {a b : Nat} (hab : b ≠ a) {us : List Value} (ha : h0[a]? = some (1000, us)) (hb : b < h0.length) (hu : us.length = 6044) (hn0 : mj_n0 ≤ b) (hi : ∀ k, k < 6044 → us[k]? = some (wp_i (sx_el us k))) : ∀ (n k : Nat) (vs : List Value), k + n = 6044 → vs.length = 6044 → (∀ j, j < k → vs[j]? = us[j]?) → wp_R d 169 2 [some (.ref a), some (.ref b), some (wp_i (k : Int))] [] (h0.set b (1000, vs)) (fun v h1 => v = none ∧ h1 = h0.set b (1000, us)) := by
  obtain ⟨i0, i1, i2, i3, i6, i9, i10, i11, i12, i13, i14, i15, i18, i21, hr, hnl⟩ := cp_i
  intro n
  induction n with
  | zero =>
    intro k vs hk hv hj
    refine wp_s (pc' := 3) i2 rfl rfl rfl ?_
    refine wp_sp i3 rfl ?_
    refine wp_icmp (t := 21) i6 rfl (by omega) (by omega) (fun _ => ?_) (fun (q : ¬ ((6044 : Int) ≤ (k : Int))) => (by exfalso; omega))
    have e : vs = us := List.ext_getElem? (fun j => by
      by_cases q : j < k
      · exact hj j q
      · rw [List.getElem?_eq_none (by omega), List.getElem?_eq_none (by omega)])
    rw [e]
    exact wp_rv i21 hr ⟨rfl, rfl⟩
  | succ n ih =>
    intro k vs hk hv hj
    refine wp_s (pc' := 3) i2 rfl rfl rfl ?_
    refine wp_sp i3 rfl ?_
    refine wp_icmp (t := 21) i6 rfl (by omega) (by omega) (fun (q : (6044 : Int) ≤ (k : Int)) => (by exfalso; omega)) (fun _ => ?_)
    refine wp_s (pc' := 10) i9 rfl rfl rfl ?_
    refine wp_s (pc' := 11) i10 rfl rfl rfl ?_
    refine wp_s (pc' := 12) i11 rfl rfl rfl ?_
    refine wp_s (pc' := 13) i12 rfl rfl rfl ?_
    refine wp_ial (x := (k : Int)) i13 (by rw [List.getElem?_set_ne hab]; exact ha) (by omega) (by omega) (by omega) (hi (k : Int).toNat (by omega)) ?_
    refine wp_ias (x := (k : Int)) i14 (List.getElem?_set_self hb) hn0 (by omega) (by omega) (by omega) ?_
    rw [List.set_set]
    refine wp_iinc (x := (k : Int)) (z := ((k + 1 : Nat) : Int)) (lv' := [some (.ref a), some (.ref b), some (wp_i ((k + 1 : Nat) : Int))]) i15 rfl (Nat.le_of_ble_eq_true rfl) (by omega) rfl ?_
    refine wp_goto (t := 2) i18 rfl ?_
    refine ih (k + 1) _ (by omega) (by rw [List.length_set]; exact hv) (fun j q => ?_)
    rw [show (k : Int).toNat = k by omega]
    by_cases e : k = j
    · subst e
      rw [List.getElem?_set_self (by omega), hi k (by omega)]
    · rw [List.getElem?_set_ne e]
      exact hj j (by omega)
theorem ws_copy {d : Nat} {h0 : mj_H} {a b : Nat} (hab : b ≠ a) {us ws : List Value} (ha : h0[a]? = some (1000, us)) (hb : h0[b]? = some (1000, ws)) (hu : us.length = 6044) (hw : ws.length = 6044) (hn0 : mj_n0 ≤ b) (hi : ∀ k, k < 6044 → us[k]? = some (wp_i (sx_el us k))) : wp_R d 169 0 [some (.ref a), some (.ref b), none] [] h0 (fun v h1 => v = none ∧ h1 = h0.set b (1000, us)) := by
  obtain ⟨i0, i1, i2, i3, i6, i9, i10, i11, i12, i13, i14, i15, i18, i21, hr, hnl⟩ := cp_i
  refine wp_s (pc' := 1) i0 rfl rfl rfl ?_
  refine wp_s (pc' := 2) (lv' := [some (.ref a), some (.ref b), some (wp_i ((0 : Nat) : Int))]) i1 rfl rfl rfl ?_
  have := ws_cploop (d := d) hab ha (fd_lt hb) hu hn0 hi 6044 0 ws rfl hw (fun j q => (by omega))
  rw [fd_ss hb] at this
  exact this
theorem lx_169a (AM : lw_AM) {sl : List Value} {h : mj_H} {B : Int} {L1 L2 hr f q f2 q2 c c9 e e9 : Int} {b1 b2 : List Value} (X : lz_X sl h B L1 b1 L2 b2 hr f q f2 q2 c c9 e e9) (hB : B ≤ 2147483647) : wp_R 1198 169 0 [some (.ref 139), some (.ref 140), none] [] h (fun v h1 => v = none ∧ lz_X sl h1 B L1 b1 L2 b2 hr f q f2 q2 c c9 e e) := by
  obtain ⟨I, P, S, x1, x2, x3, x4, x5, x6, x7⟩ := X
  obtain ⟨us, u1, u2, u3⟩ := fd_21 I.1 (a := 139) rfl
  obtain ⟨ws, w1, w2, w3⟩ := fd_21 I.1 (a := 140) rfl
  refine wp_mono (wp_and (lw_K0 (n := 0) I P S (AM 1198 169 sx_K169 rfl) (vs := [.ref 139, .ref 140]) ⟨⟨139, rfl, rfl⟩, ⟨140, rfl, rfl⟩, trivial⟩ (show (0 : Int) + 0 ≤ ((1198 : Nat) : Int) by decide) (by decide) (by omega) (by rw [jn_169]; rfl) (by decide)) (ws_copy (by decide) u1 w1 u2 w2 (by decide) u3)) ?_
  rintro v h1 ⟨⟨-, k2, k3, k4, k5⟩, rfl, rfl⟩
  exact ⟨rfl, lw_le k2 (by omega), k3, k4, g1_ef k5 (by decide) x1, g2_ef k5 (by decide) x2, g3_ef k5 (by decide) x3, g4_ef k5 (by decide) x4, g5_ef k5 (by decide) x5, g6_ef k5 (by decide) x6, ⟨fd_cs (by decide) x7.1, ⟨us, List.getElem?_set_self (fd_lt w1), fd_at x7.1 u1⟩⟩⟩
theorem lx_169b (AM : lw_AM) {sl : List Value} {h : mj_H} {B : Int} {L1 L2 hr f q f2 q2 c c9 e e9 : Int} {b1 b2 : List Value} (X : lz_X sl h B L1 b1 L2 b2 hr f q f2 q2 c c9 e e9) (hB : B ≤ 2147483647) : wp_R 1198 169 0 [some (.ref 140), some (.ref 139), none] [] h (fun v h1 => v = none ∧ lz_X sl h1 B L1 b1 L2 b2 hr f q f2 q2 c c9 e9 e9) := by
  obtain ⟨I, P, S, x1, x2, x3, x4, x5, x6, x7⟩ := X
  obtain ⟨us, u1, u2, u3⟩ := fd_21 I.1 (a := 140) rfl
  obtain ⟨ws, w1, w2, w3⟩ := fd_21 I.1 (a := 139) rfl
  refine wp_mono (wp_and (lw_K0 (n := 0) I P S (AM 1198 169 sx_K169 rfl) (vs := [.ref 140, .ref 139]) ⟨⟨140, rfl, rfl⟩, ⟨139, rfl, rfl⟩, trivial⟩ (show (0 : Int) + 0 ≤ ((1198 : Nat) : Int) by decide) (by decide) (by omega) (by rw [jn_169]; rfl) (by decide)) (ws_copy (by decide) u1 w1 u2 w2 (by decide) u3)) ?_
  rintro v h1 ⟨⟨-, k2, k3, k4, k5⟩, rfl, rfl⟩
  exact ⟨rfl, lw_le k2 (by omega), k3, k4, g1_ef k5 (by decide) x1, g2_ef k5 (by decide) x2, g3_ef k5 (by decide) x3, g4_ef k5 (by decide) x4, g5_ef k5 (by decide) x5, g6_ef k5 (by decide) x6, ⟨⟨us, List.getElem?_set_self (fd_lt w1), fd_at x7.2 u1⟩, fd_cs (by decide) x7.2⟩⟩
theorem lx_161a (AM : lw_AM) {sl : List Value} {h : mj_H} {B : Int} {L1 L2 hr f q f2 q2 c c9 e e9 : Int} {b1 b2 : List Value} (X : lz_X sl h B L1 b1 L2 b2 hr f q f2 q2 c c9 e e9) (hB : B ≤ 2147483647) : wp_R 1198 161 0 [some (.ref 69), some (.ref 47)] [] h (fun v h1 => v = none ∧ lz_X sl h1 B L1 b1 L2 b2 hr f q f2 q2 c c e e9) := by
  have X0 := X
  obtain ⟨I, P, S, x1, x2, x3, x4, x5, x6, x7⟩ := X0
  refine wp_mono (wp_and (lw_K0 (n := 0) I P S (AM 1198 161 sx_K161 rfl) (vs := [.ref 69, .ref 47]) ⟨⟨69, rfl, rfl⟩, ⟨47, rfl, rfl⟩, trivial⟩ (show (2 : Int) + 0 ≤ ((1198 : Nat) : Int) by decide) (by decide) (by omega) (by rw [jn_161]; rfl) (by decide)) (Q2 := fun v h1 => v = none ∧ g6 h1 c c) ?_) (by
    rintro v h1 ⟨⟨-, k2, k3, k4, k5⟩, rfl, w⟩
    exact ⟨rfl, lw_le k2 (by omega), k3, k4, g1_ef k5 (by decide) x1, g2_ef k5 (by decide) x2, g3_ef k5 (by decide) x3, g4_ef k5 (by decide) x4, g5_ef k5 (by decide) x5, w, g7_ef k5 (by decide) x7⟩)
  clear I P S x1 x2 x3 x4 x5 x6 x7
  obtain ⟨fs, f1, f2, ⟨r0, f3, f4⟩, ⟨r1, f5, f6⟩, ⟨r2, f7, f8⟩, ⟨r4, f9, f10⟩, -⟩ := fd_34 X.1.1 (a := 69) rfl
  obtain ⟨gs, g1_, g2_, ⟨s0, g3_, g4_⟩, ⟨s1, g5_, g6_⟩, ⟨s2, g7_, g8⟩, ⟨s4, g9, g10⟩, -⟩ := fd_34 X.1.1 (a := 47) rfl
  refine wp_s (pc' := 1) ji_161_0 rfl rfl rfl ?_
  refine wp_gf ji_161_1 jf_161_12 f1 f3 ?_
  refine wp_s (pc' := 5) ji_161_4 rfl rfl rfl ?_
  refine wp_gf ji_161_5 jf_161_12 g1_ g3_ ?_
  obtain ⟨cs, hc⟩ := fd_cell X.1.1 (a := r0) (t := 35) (ty := sx_y35) f4 rfl
  refine wp_vc (d := 1197) (as := [.ref r0, .ref s0]) (rest := []) ji_161_8 jc_161_57 rfl hc jk_106.symm (Nat.le_of_ble_eq_true rfl) rfl (by rw [jn_106]; rfl) (lz_KX X (n := 0) (AM 1197 106 sx_K106 rfl) (vs := [.ref r0, .ref s0]) ⟨⟨r0, rfl, f4⟩, ⟨s0, rfl, g4_⟩, trivial⟩ (show (1 : Int) + 0 ≤ ((1197 : Nat) : Int) by decide) (by decide) (by omega) (by rw [jn_106]; rfl) (by decide) (by decide)) (fun v h R => ?_)
  obtain ⟨e0, X⟩ := R
  have e0 : v = none := e0
  subst e0
  have X := lz_Xle X (show B + ((0 : Nat) : Int) ≤ B by omega)
  show wp_R 1198 161 11 [some (.ref 69), some (.ref 47)] [] h _
  obtain ⟨fs, f1, f2, ⟨r0, f3, f4⟩, ⟨r1, f5, f6⟩, ⟨r2, f7, f8⟩, ⟨r4, f9, f10⟩, -⟩ := fd_34 X.1.1 (a := 69) rfl
  obtain ⟨gs, g1_, g2_, ⟨s0, g3_, g4_⟩, ⟨s1, g5_, g6_⟩, ⟨s2, g7_, g8⟩, ⟨s4, g9, g10⟩, -⟩ := fd_34 X.1.1 (a := 47) rfl
  refine wp_s (pc' := 12) ji_161_11 rfl rfl rfl ?_
  refine wp_gf ji_161_12 jf_161_21 f1 f5 ?_
  refine wp_s (pc' := 16) ji_161_15 rfl rfl rfl ?_
  refine wp_gf ji_161_16 jf_161_21 g1_ g5_ ?_
  obtain ⟨cs, hc⟩ := fd_cell X.1.1 (a := r1) (t := 43) (ty := sx_y43) f6 rfl
  refine wp_vc (d := 1197) (as := [.ref r1, .ref s1]) (rest := []) ji_161_19 jc_161_61 rfl hc jk_162.symm (Nat.le_of_ble_eq_true rfl) rfl (by rw [jn_162]; rfl) (lz_KX X (n := 0) (lx_M162 AM 1197) (vs := [.ref r1, .ref s1]) ⟨⟨r1, rfl, f6⟩, ⟨s1, rfl, g6_⟩, trivial⟩ (show (0 : Int) + 0 ≤ ((1197 : Nat) : Int) by decide) (by decide) (by omega) (by rw [jn_162]; rfl) (by decide) (by decide)) (fun v h R => ?_)
  obtain ⟨e0, X⟩ := R
  have e0 : v = none := e0
  subst e0
  have X := lz_Xle X (show B + ((0 : Nat) : Int) ≤ B by omega)
  show wp_R 1198 161 22 [some (.ref 69), some (.ref 47)] [] h _
  obtain ⟨fs, f1, f2, ⟨r0, f3, f4⟩, ⟨r1, f5, f6⟩, ⟨r2, f7, f8⟩, ⟨r4, f9, f10⟩, -⟩ := fd_34 X.1.1 (a := 69) rfl
  obtain ⟨gs, g1_, g2_, ⟨s0, g3_, g4_⟩, ⟨s1, g5_, g6_⟩, ⟨s2, g7_, g8⟩, ⟨s4, g9, g10⟩, -⟩ := fd_34 X.1.1 (a := 47) rfl
  refine wp_s (pc' := 23) ji_161_22 rfl rfl rfl ?_
  refine wp_gf ji_161_23 jf_161_28 f1 f7 ?_
  refine wp_s (pc' := 27) ji_161_26 rfl rfl rfl ?_
  refine wp_gf ji_161_27 jf_161_28 g1_ g7_ ?_
  obtain ⟨cs, hc⟩ := fd_cell X.1.1 (a := r2) (t := 46) (ty := sx_y46) f8 rfl
  refine wp_vc (d := 1197) (as := [.ref r2, .ref s2]) (rest := []) ji_161_30 jc_161_64 rfl hc jk_163.symm (Nat.le_of_ble_eq_true rfl) rfl (by rw [jn_163]; rfl) (lz_KX X (n := 0) (lx_M163 AM 1197) (vs := [.ref r2, .ref s2]) ⟨⟨r2, rfl, f8⟩, ⟨s2, rfl, g8⟩, trivial⟩ (show (0 : Int) + 0 ≤ ((1197 : Nat) : Int) by decide) (by decide) (by omega) (by rw [jn_163]; rfl) (by decide) (by decide)) (fun v h R => ?_)
  obtain ⟨e0, X⟩ := R
  have e0 : v = none := e0
  subst e0
  have X := lz_Xle X (show B + ((0 : Nat) : Int) ≤ B by omega)
  show wp_R 1198 161 33 [some (.ref 69), some (.ref 47)] [] h _
  obtain ⟨fs, f1, f2, ⟨r0, f3, f4⟩, ⟨r1, f5, f6⟩, ⟨r2, f7, f8⟩, ⟨r4, f9, f10⟩, -⟩ := fd_34 X.1.1 (a := 69) rfl
  obtain ⟨gs, g1_, g2_, ⟨s0, g3_, g4_⟩, ⟨s1, g5_, g6_⟩, ⟨s2, g7_, g8⟩, ⟨s4, g9, g10⟩, -⟩ := fd_34 X.1.1 (a := 47) rfl
  refine wp_s (pc' := 34) ji_161_33 rfl rfl rfl ?_
  refine wp_gf ji_161_34 jf_161_35 f1 (fd_at (X.2.1 (69, 2, 3, 83) (by decide)) f1) ?_
  refine wp_s (pc' := 38) ji_161_37 rfl rfl rfl ?_
  refine wp_gf ji_161_38 jf_161_35 g1_ (fd_at (X.2.1 (47, 2, 3, 61) (by decide)) g1_) ?_
  obtain ⟨cs, hc⟩ := fd_cell X.1.1 (a := 83) (t := 48) (ty := sx_y48) rfl rfl
  refine wp_vc (d := 1197) (as := [.ref 83, .ref 61]) (rest := []) ji_161_41 jc_161_67 rfl hc jk_164.symm (Nat.le_of_ble_eq_true rfl) rfl (by rw [jn_164]; rfl) (lz_KX X (n := 0) (AM 1197 164 sx_K164 rfl) (vs := [.ref 83, .ref 61]) ⟨⟨83, rfl, rfl⟩, ⟨61, rfl, rfl⟩, trivial⟩ (show (0 : Int) + 0 ≤ ((1197 : Nat) : Int) by decide) (by decide) (by omega) (by rw [jn_164]; rfl) (by decide) (by decide)) (fun v h R => ?_)
  obtain ⟨e0, X⟩ := R
  have e0 : v = none := e0
  subst e0
  have X := lz_Xle X (show B + ((0 : Nat) : Int) ≤ B by omega)
  show wp_R 1198 161 44 [some (.ref 69), some (.ref 47)] [] h _
  obtain ⟨fs, f1, f2, ⟨r0, f3, f4⟩, ⟨r1, f5, f6⟩, ⟨r2, f7, f8⟩, ⟨r4, f9, f10⟩, -⟩ := fd_34 X.1.1 (a := 69) rfl
  obtain ⟨gs, g1_, g2_, ⟨s0, g3_, g4_⟩, ⟨s1, g5_, g6_⟩, ⟨s2, g7_, g8⟩, ⟨s4, g9, g10⟩, -⟩ := fd_34 X.1.1 (a := 47) rfl
  refine wp_s (pc' := 45) ji_161_44 rfl rfl rfl ?_
  refine wp_gf ji_161_45 jf_161_42 f1 f9 ?_
  refine wp_s (pc' := 49) ji_161_48 rfl rfl rfl ?_
  refine wp_gf ji_161_49 jf_161_42 g1_ g9 ?_
  obtain ⟨cs, hc⟩ := fd_cell X.1.1 (a := r4) (t := 52) (ty := sx_y52) f10 rfl
  refine wp_vc (d := 1197) (as := [.ref r4, .ref s4]) (rest := []) ji_161_52 jc_161_70 rfl hc jk_165.symm (Nat.le_of_ble_eq_true rfl) rfl (by rw [jn_165]; rfl) (lz_KX X (n := 0) (lx_M165 AM 1197) (vs := [.ref r4, .ref s4]) ⟨⟨r4, rfl, f10⟩, ⟨s4, rfl, g10⟩, trivial⟩ (show (0 : Int) + 0 ≤ ((1197 : Nat) : Int) by decide) (by decide) (by omega) (by rw [jn_165]; rfl) (by decide) (by decide)) (fun v h R => ?_)
  obtain ⟨e0, X⟩ := R
  have e0 : v = none := e0
  subst e0
  have X := lz_Xle X (show B + ((0 : Nat) : Int) ≤ B by omega)
  show wp_R 1198 161 55 [some (.ref 69), some (.ref 47)] [] h _
  obtain ⟨fs, f1, f2, -⟩ := fd_34 X.1.1 (a := 69) rfl
  obtain ⟨gs, g1_, g2_, -, -, -, -, ⟨z6, g6_⟩, ⟨z7, g7_⟩⟩ := fd_34 X.1.1 (a := 47) rfl
  obtain ⟨-, -, -, -, -, -, -, -, x6, -⟩ := X
  refine wp_s (pc' := 56) ji_161_55 rfl rfl rfl ?_
  refine wp_s (pc' := 57) ji_161_56 rfl rfl rfl ?_
  refine wp_gf ji_161_57 jf_161_46 g1_ (fd_at x6.1 g1_) ?_
  refine wp_pf ji_161_60 jf_161_46 f1 (by decide) (by omega) rfl rfl ?_
  refine wp_s (pc' := 64) ji_161_63 rfl rfl rfl ?_
  refine wp_s (pc' := 65) ji_161_64 rfl rfl rfl ?_
  refine wp_gf ji_161_65 jf_161_50 (by rw [List.getElem?_set_ne (by decide)]; exact g1_) g7_ ?_
  refine wp_pf ji_161_68 jf_161_50 (List.getElem?_set_self (fd_lt f1)) (by decide) (by rw [List.length_set]; omega) rfl rfl ?_
  rw [List.set_set]
  exact wp_rv ji_161_71 jr_161 ⟨rfl, fd_cs (by decide) x6.1, ⟨_, List.getElem?_set_self (fd_lt f1), by rw [List.getElem?_set_ne (by decide)]; exact List.getElem?_set_self (by omega)⟩⟩
theorem lx_161b (AM : lw_AM) {sl : List Value} {h : mj_H} {B : Int} {L1 L2 hr f q f2 q2 c c9 e e9 : Int} {b1 b2 : List Value} (X : lz_X sl h B L1 b1 L2 b2 hr f q f2 q2 c c9 e e9) (hB : B ≤ 2147483647) : wp_R 1198 161 0 [some (.ref 47), some (.ref 69)] [] h (fun v h1 => v = none ∧ lz_X sl h1 B L1 b1 L2 b2 hr f q f2 q2 c9 c9 e e9) := by
  have X0 := X
  obtain ⟨I, P, S, x1, x2, x3, x4, x5, x6, x7⟩ := X0
  refine wp_mono (wp_and (lw_K0 (n := 0) I P S (AM 1198 161 sx_K161 rfl) (vs := [.ref 47, .ref 69]) ⟨⟨47, rfl, rfl⟩, ⟨69, rfl, rfl⟩, trivial⟩ (show (2 : Int) + 0 ≤ ((1198 : Nat) : Int) by decide) (by decide) (by omega) (by rw [jn_161]; rfl) (by decide)) (Q2 := fun v h1 => v = none ∧ g6 h1 c9 c9) ?_) (by
    rintro v h1 ⟨⟨-, k2, k3, k4, k5⟩, rfl, w⟩
    exact ⟨rfl, lw_le k2 (by omega), k3, k4, g1_ef k5 (by decide) x1, g2_ef k5 (by decide) x2, g3_ef k5 (by decide) x3, g4_ef k5 (by decide) x4, g5_ef k5 (by decide) x5, w, g7_ef k5 (by decide) x7⟩)
  clear I P S x1 x2 x3 x4 x5 x6 x7
  obtain ⟨fs, f1, f2, ⟨r0, f3, f4⟩, ⟨r1, f5, f6⟩, ⟨r2, f7, f8⟩, ⟨r4, f9, f10⟩, -⟩ := fd_34 X.1.1 (a := 47) rfl
  obtain ⟨gs, g1_, g2_, ⟨s0, g3_, g4_⟩, ⟨s1, g5_, g6_⟩, ⟨s2, g7_, g8⟩, ⟨s4, g9, g10⟩, -⟩ := fd_34 X.1.1 (a := 69) rfl
  refine wp_s (pc' := 1) ji_161_0 rfl rfl rfl ?_
  refine wp_gf ji_161_1 jf_161_12 f1 f3 ?_
  refine wp_s (pc' := 5) ji_161_4 rfl rfl rfl ?_
  refine wp_gf ji_161_5 jf_161_12 g1_ g3_ ?_
  obtain ⟨cs, hc⟩ := fd_cell X.1.1 (a := r0) (t := 35) (ty := sx_y35) f4 rfl
  refine wp_vc (d := 1197) (as := [.ref r0, .ref s0]) (rest := []) ji_161_8 jc_161_57 rfl hc jk_106.symm (Nat.le_of_ble_eq_true rfl) rfl (by rw [jn_106]; rfl) (lz_KX X (n := 0) (AM 1197 106 sx_K106 rfl) (vs := [.ref r0, .ref s0]) ⟨⟨r0, rfl, f4⟩, ⟨s0, rfl, g4_⟩, trivial⟩ (show (1 : Int) + 0 ≤ ((1197 : Nat) : Int) by decide) (by decide) (by omega) (by rw [jn_106]; rfl) (by decide) (by decide)) (fun v h R => ?_)
  obtain ⟨e0, X⟩ := R
  have e0 : v = none := e0
  subst e0
  have X := lz_Xle X (show B + ((0 : Nat) : Int) ≤ B by omega)
  show wp_R 1198 161 11 [some (.ref 47), some (.ref 69)] [] h _
  obtain ⟨fs, f1, f2, ⟨r0, f3, f4⟩, ⟨r1, f5, f6⟩, ⟨r2, f7, f8⟩, ⟨r4, f9, f10⟩, -⟩ := fd_34 X.1.1 (a := 47) rfl
  obtain ⟨gs, g1_, g2_, ⟨s0, g3_, g4_⟩, ⟨s1, g5_, g6_⟩, ⟨s2, g7_, g8⟩, ⟨s4, g9, g10⟩, -⟩ := fd_34 X.1.1 (a := 69) rfl
  refine wp_s (pc' := 12) ji_161_11 rfl rfl rfl ?_
  refine wp_gf ji_161_12 jf_161_21 f1 f5 ?_
  refine wp_s (pc' := 16) ji_161_15 rfl rfl rfl ?_
  refine wp_gf ji_161_16 jf_161_21 g1_ g5_ ?_
  obtain ⟨cs, hc⟩ := fd_cell X.1.1 (a := r1) (t := 43) (ty := sx_y43) f6 rfl
  refine wp_vc (d := 1197) (as := [.ref r1, .ref s1]) (rest := []) ji_161_19 jc_161_61 rfl hc jk_162.symm (Nat.le_of_ble_eq_true rfl) rfl (by rw [jn_162]; rfl) (lz_KX X (n := 0) (lx_M162 AM 1197) (vs := [.ref r1, .ref s1]) ⟨⟨r1, rfl, f6⟩, ⟨s1, rfl, g6_⟩, trivial⟩ (show (0 : Int) + 0 ≤ ((1197 : Nat) : Int) by decide) (by decide) (by omega) (by rw [jn_162]; rfl) (by decide) (by decide)) (fun v h R => ?_)
  obtain ⟨e0, X⟩ := R
  have e0 : v = none := e0
  subst e0
  have X := lz_Xle X (show B + ((0 : Nat) : Int) ≤ B by omega)
  show wp_R 1198 161 22 [some (.ref 47), some (.ref 69)] [] h _
  obtain ⟨fs, f1, f2, ⟨r0, f3, f4⟩, ⟨r1, f5, f6⟩, ⟨r2, f7, f8⟩, ⟨r4, f9, f10⟩, -⟩ := fd_34 X.1.1 (a := 47) rfl
  obtain ⟨gs, g1_, g2_, ⟨s0, g3_, g4_⟩, ⟨s1, g5_, g6_⟩, ⟨s2, g7_, g8⟩, ⟨s4, g9, g10⟩, -⟩ := fd_34 X.1.1 (a := 69) rfl
  refine wp_s (pc' := 23) ji_161_22 rfl rfl rfl ?_
  refine wp_gf ji_161_23 jf_161_28 f1 f7 ?_
  refine wp_s (pc' := 27) ji_161_26 rfl rfl rfl ?_
  refine wp_gf ji_161_27 jf_161_28 g1_ g7_ ?_
  obtain ⟨cs, hc⟩ := fd_cell X.1.1 (a := r2) (t := 46) (ty := sx_y46) f8 rfl
  refine wp_vc (d := 1197) (as := [.ref r2, .ref s2]) (rest := []) ji_161_30 jc_161_64 rfl hc jk_163.symm (Nat.le_of_ble_eq_true rfl) rfl (by rw [jn_163]; rfl) (lz_KX X (n := 0) (lx_M163 AM 1197) (vs := [.ref r2, .ref s2]) ⟨⟨r2, rfl, f8⟩, ⟨s2, rfl, g8⟩, trivial⟩ (show (0 : Int) + 0 ≤ ((1197 : Nat) : Int) by decide) (by decide) (by omega) (by rw [jn_163]; rfl) (by decide) (by decide)) (fun v h R => ?_)
  obtain ⟨e0, X⟩ := R
  have e0 : v = none := e0
  subst e0
  have X := lz_Xle X (show B + ((0 : Nat) : Int) ≤ B by omega)
  show wp_R 1198 161 33 [some (.ref 47), some (.ref 69)] [] h _
  obtain ⟨fs, f1, f2, ⟨r0, f3, f4⟩, ⟨r1, f5, f6⟩, ⟨r2, f7, f8⟩, ⟨r4, f9, f10⟩, -⟩ := fd_34 X.1.1 (a := 47) rfl
  obtain ⟨gs, g1_, g2_, ⟨s0, g3_, g4_⟩, ⟨s1, g5_, g6_⟩, ⟨s2, g7_, g8⟩, ⟨s4, g9, g10⟩, -⟩ := fd_34 X.1.1 (a := 69) rfl
  refine wp_s (pc' := 34) ji_161_33 rfl rfl rfl ?_
  refine wp_gf ji_161_34 jf_161_35 f1 (fd_at (X.2.1 (47, 2, 3, 61) (by decide)) f1) ?_
  refine wp_s (pc' := 38) ji_161_37 rfl rfl rfl ?_
  refine wp_gf ji_161_38 jf_161_35 g1_ (fd_at (X.2.1 (69, 2, 3, 83) (by decide)) g1_) ?_
  obtain ⟨cs, hc⟩ := fd_cell X.1.1 (a := 61) (t := 48) (ty := sx_y48) rfl rfl
  refine wp_vc (d := 1197) (as := [.ref 61, .ref 83]) (rest := []) ji_161_41 jc_161_67 rfl hc jk_164.symm (Nat.le_of_ble_eq_true rfl) rfl (by rw [jn_164]; rfl) (lz_KX X (n := 0) (AM 1197 164 sx_K164 rfl) (vs := [.ref 61, .ref 83]) ⟨⟨61, rfl, rfl⟩, ⟨83, rfl, rfl⟩, trivial⟩ (show (0 : Int) + 0 ≤ ((1197 : Nat) : Int) by decide) (by decide) (by omega) (by rw [jn_164]; rfl) (by decide) (by decide)) (fun v h R => ?_)
  obtain ⟨e0, X⟩ := R
  have e0 : v = none := e0
  subst e0
  have X := lz_Xle X (show B + ((0 : Nat) : Int) ≤ B by omega)
  show wp_R 1198 161 44 [some (.ref 47), some (.ref 69)] [] h _
  obtain ⟨fs, f1, f2, ⟨r0, f3, f4⟩, ⟨r1, f5, f6⟩, ⟨r2, f7, f8⟩, ⟨r4, f9, f10⟩, -⟩ := fd_34 X.1.1 (a := 47) rfl
  obtain ⟨gs, g1_, g2_, ⟨s0, g3_, g4_⟩, ⟨s1, g5_, g6_⟩, ⟨s2, g7_, g8⟩, ⟨s4, g9, g10⟩, -⟩ := fd_34 X.1.1 (a := 69) rfl
  refine wp_s (pc' := 45) ji_161_44 rfl rfl rfl ?_
  refine wp_gf ji_161_45 jf_161_42 f1 f9 ?_
  refine wp_s (pc' := 49) ji_161_48 rfl rfl rfl ?_
  refine wp_gf ji_161_49 jf_161_42 g1_ g9 ?_
  obtain ⟨cs, hc⟩ := fd_cell X.1.1 (a := r4) (t := 52) (ty := sx_y52) f10 rfl
  refine wp_vc (d := 1197) (as := [.ref r4, .ref s4]) (rest := []) ji_161_52 jc_161_70 rfl hc jk_165.symm (Nat.le_of_ble_eq_true rfl) rfl (by rw [jn_165]; rfl) (lz_KX X (n := 0) (lx_M165 AM 1197) (vs := [.ref r4, .ref s4]) ⟨⟨r4, rfl, f10⟩, ⟨s4, rfl, g10⟩, trivial⟩ (show (0 : Int) + 0 ≤ ((1197 : Nat) : Int) by decide) (by decide) (by omega) (by rw [jn_165]; rfl) (by decide) (by decide)) (fun v h R => ?_)
  obtain ⟨e0, X⟩ := R
  have e0 : v = none := e0
  subst e0
  have X := lz_Xle X (show B + ((0 : Nat) : Int) ≤ B by omega)
  show wp_R 1198 161 55 [some (.ref 47), some (.ref 69)] [] h _
  obtain ⟨fs, f1, f2, -⟩ := fd_34 X.1.1 (a := 47) rfl
  obtain ⟨gs, g1_, g2_, -, -, -, -, ⟨z6, g6_⟩, ⟨z7, g7_⟩⟩ := fd_34 X.1.1 (a := 69) rfl
  obtain ⟨-, -, -, -, -, -, -, -, x6, -⟩ := X
  refine wp_s (pc' := 56) ji_161_55 rfl rfl rfl ?_
  refine wp_s (pc' := 57) ji_161_56 rfl rfl rfl ?_
  refine wp_gf ji_161_57 jf_161_46 g1_ (fd_at x6.2 g1_) ?_
  refine wp_pf ji_161_60 jf_161_46 f1 (by decide) (by omega) rfl rfl ?_
  refine wp_s (pc' := 64) ji_161_63 rfl rfl rfl ?_
  refine wp_s (pc' := 65) ji_161_64 rfl rfl rfl ?_
  refine wp_gf ji_161_65 jf_161_50 (by rw [List.getElem?_set_ne (by decide)]; exact g1_) g7_ ?_
  refine wp_pf ji_161_68 jf_161_50 (List.getElem?_set_self (fd_lt f1)) (by decide) (by rw [List.length_set]; omega) rfl rfl ?_
  rw [List.set_set]
  exact wp_rv ji_161_71 jr_161 ⟨rfl, ⟨_, List.getElem?_set_self (fd_lt f1), by rw [List.getElem?_set_ne (by decide)]; exact List.getElem?_set_self (by omega)⟩, fd_cs (by decide) x6.2⟩
theorem lx_160 (AM : lw_AM) {sl : List Value} {h : mj_H} {B : Int} {L1 L2 hr f q f2 q2 c c9 e e9 : Int} {b1 b2 : List Value} (X : lz_X sl h B L1 b1 L2 b2 hr f q f2 q2 c c9 e e9) (hB : B ≤ 2147483647) : wp_R 1199 160 0 [some (.ref 9)] [] h (fun v h1 => (∃ z, v = some (.int z)) ∧ lz_X sl h1 B L1 b1 L2 b2 hr f q f2 q2 c c e e9) := by
  obtain ⟨fs, f1, f2⟩ := X.2.1 (9, 0, 1, 69) (by decide)
  obtain ⟨gs, g1_, g2_⟩ := X.2.1 (9, 0, 0, 47) (by decide)
  refine wp_s (pc' := 1) ji_160_0 rfl rfl rfl ?_
  refine wp_gf ji_160_1 jf_160_23 f1 f2 ?_
  refine wp_s (pc' := 5) ji_160_4 rfl rfl rfl ?_
  refine wp_gf ji_160_5 jf_160_19 g1_ g2_ ?_
  obtain ⟨cs, hc⟩ := fd_cell X.1.1 (a := 69) (t := 34) (ty := sx_y34) rfl rfl
  refine wp_vc (d := 1198) (as := [.ref 69, .ref 47]) (rest := []) ji_160_8 jc_160_322 rfl hc jk_161.symm (Nat.le_of_ble_eq_true rfl) rfl (by rw [jn_161]; rfl) (lx_161a AM X hB) (fun v h R => ?_)
  obtain ⟨rfl, X⟩ := R
  show wp_R 1199 160 11 [some (.ref 9)] [] h _
  obtain ⟨fs, f1, f2⟩ := X.2.1 (9, 0, 0, 47) (by decide)
  refine wp_s (pc' := 12) ji_160_11 rfl rfl rfl ?_
  refine wp_gf ji_160_12 jf_160_19 f1 f2 ?_
  obtain ⟨gs, g1_, -, ⟨r, g2_, g3_⟩, -⟩ := fd_34 X.1.1 (a := 47) rfl
  refine wp_gf ji_160_15 jf_160_49 g1_ g2_ ?_
  obtain ⟨ks, k1, z, k2⟩ := fd_35 X.1.1 g3_
  rw [wp_iz] at k2
  refine wp_gf ji_160_18 jf_160_98 k1 k2 ?_
  exact wp_ri ji_160_21 jr_160 rfl ⟨⟨_, rfl⟩, X⟩
theorem lx_166 (AM : lw_AM) {sl : List Value} {h : mj_H} {B : Int} {L1 L2 hr f q f2 q2 c c9 e e9 : Int} {b1 b2 : List Value} (X : lz_X sl h B L1 b1 L2 b2 hr f q f2 q2 c c9 e e9) (hB : B ≤ 2147483647) : wp_R 1199 166 0 [some (.ref 9)] [] h (fun v h1 => (∃ z, v = some (.int z)) ∧ lz_X sl h1 B L1 b1 L2 b2 hr f q f2 q2 c9 c9 e e9) := by
  obtain ⟨fs, f1, f2⟩ := X.2.1 (9, 0, 0, 47) (by decide)
  obtain ⟨gs, g1_, g2_⟩ := X.2.1 (9, 0, 1, 69) (by decide)
  refine wp_s (pc' := 1) ji_166_0 rfl rfl rfl ?_
  refine wp_gf ji_166_1 jf_166_19 f1 f2 ?_
  refine wp_s (pc' := 5) ji_166_4 rfl rfl rfl ?_
  refine wp_gf ji_166_5 jf_166_23 g1_ g2_ ?_
  obtain ⟨cs, hc⟩ := fd_cell X.1.1 (a := 47) (t := 34) (ty := sx_y34) rfl rfl
  refine wp_vc (d := 1198) (as := [.ref 47, .ref 69]) (rest := []) ji_166_8 jc_166_322 rfl hc jk_161.symm (Nat.le_of_ble_eq_true rfl) rfl (by rw [jn_161]; rfl) (lx_161b AM X hB) (fun v h R => ?_)
  obtain ⟨rfl, X⟩ := R
  show wp_R 1199 166 11 [some (.ref 9)] [] h _
  obtain ⟨fs, f1, f2⟩ := X.2.1 (9, 0, 0, 47) (by decide)
  refine wp_s (pc' := 12) ji_166_11 rfl rfl rfl ?_
  refine wp_gf ji_166_12 jf_166_19 f1 f2 ?_
  obtain ⟨gs, g1_, -, ⟨r, g2_, g3_⟩, -⟩ := fd_34 X.1.1 (a := 47) rfl
  refine wp_gf ji_166_15 jf_166_49 g1_ g2_ ?_
  obtain ⟨ks, k1, z, k2⟩ := fd_35 X.1.1 g3_
  rw [wp_iz] at k2
  refine wp_gf ji_166_18 jf_166_98 k1 k2 ?_
  exact wp_ri ji_166_21 jr_166 rfl ⟨⟨_, rfl⟩, X⟩
theorem lx_312 (AM : lw_AM) {sl : List Value} {h : mj_H} {B : Int} {L1 L2 hr f q f2 q2 c c9 e e9 : Int} {b1 b2 : List Value} (X : lz_X sl h B L1 b1 L2 b2 hr f q f2 q2 c c9 e e9) (hB : B ≤ 2147483647) : wp_R 1199 312 0 [some (.ref 138)] [] h (fun v h1 => (∃ z, v = some (.int z)) ∧ lz_X sl h1 B L1 b1 L2 b2 hr f q f2 q2 c c9 e e) := by
  obtain ⟨fs, f1, f2⟩ := X.2.1 (138, 11, 0, 139) (by decide)
  obtain ⟨gs, g1_, g2_⟩ := X.2.1 (138, 11, 1, 140) (by decide)
  refine wp_s (pc' := 1) ji_312_0 rfl rfl rfl ?_
  refine wp_gf ji_312_1 jf_312_7 f1 f2 ?_
  refine wp_s (pc' := 5) ji_312_4 rfl rfl rfl ?_
  refine wp_gf ji_312_5 jf_312_13 g1_ g2_ ?_
  refine wp_sc (d := 1198) (as := [.ref 139, .ref 140]) (rest := []) ji_312_8 jc_312_62 (Nat.le_of_ble_eq_true rfl) rfl (Nat.le_of_ble_eq_true rfl) rfl (by rw [jn_169]; rfl) (lx_169a AM X hB) (fun v h R => ?_)
  obtain ⟨rfl, X⟩ := R
  show wp_R 1199 312 11 [some (.ref 138)] [] h _
  obtain ⟨fs, f1, f2⟩ := X.2.1 (138, 11, 0, 139) (by decide)
  refine wp_s (pc' := 12) ji_312_11 rfl rfl rfl ?_
  refine wp_gf ji_312_12 jf_312_7 f1 f2 ?_
  refine wp_bp ji_312_15 rfl ?_
  obtain ⟨vs, v1, v2, v3⟩ := fd_21 X.1.1 (a := 139) rfl
  refine wp_ial (x := 8) ji_312_17 v1 (by decide) (by omega) (by omega) (v3 8 (by decide)) ?_
  exact wp_ri ji_312_18 jr_312 rfl ⟨⟨_, rfl⟩, X⟩
theorem lx_313 (AM : lw_AM) {sl : List Value} {h : mj_H} {B : Int} {L1 L2 hr f q f2 q2 c c9 e e9 : Int} {b1 b2 : List Value} (X : lz_X sl h B L1 b1 L2 b2 hr f q f2 q2 c c9 e e9) (hB : B ≤ 2147483647) : wp_R 1199 313 0 [some (.ref 138)] [] h (fun v h1 => (∃ z, v = some (.int z)) ∧ lz_X sl h1 B L1 b1 L2 b2 hr f q f2 q2 c c9 e9 e9) := by
  obtain ⟨fs, f1, f2⟩ := X.2.1 (138, 11, 1, 140) (by decide)
  obtain ⟨gs, g1_, g2_⟩ := X.2.1 (138, 11, 0, 139) (by decide)
  refine wp_s (pc' := 1) ji_313_0 rfl rfl rfl ?_
  refine wp_gf ji_313_1 jf_313_13 f1 f2 ?_
  refine wp_s (pc' := 5) ji_313_4 rfl rfl rfl ?_
  refine wp_gf ji_313_5 jf_313_7 g1_ g2_ ?_
  refine wp_sc (d := 1198) (as := [.ref 140, .ref 139]) (rest := []) ji_313_8 jc_313_62 (Nat.le_of_ble_eq_true rfl) rfl (Nat.le_of_ble_eq_true rfl) rfl (by rw [jn_169]; rfl) (lx_169b AM X hB) (fun v h R => ?_)
  obtain ⟨rfl, X⟩ := R
  show wp_R 1199 313 11 [some (.ref 138)] [] h _
  obtain ⟨fs, f1, f2⟩ := X.2.1 (138, 11, 0, 139) (by decide)
  refine wp_s (pc' := 12) ji_313_11 rfl rfl rfl ?_
  refine wp_gf ji_313_12 jf_313_7 f1 f2 ?_
  refine wp_bp ji_313_15 rfl ?_
  obtain ⟨vs, v1, v2, v3⟩ := fd_21 X.1.1 (a := 139) rfl
  refine wp_ial (x := 8) ji_313_17 v1 (by decide) (by omega) (by omega) (v3 8 (by decide)) ?_
  exact wp_ri ji_313_18 jr_313 rfl ⟨⟨_, rfl⟩, X⟩
