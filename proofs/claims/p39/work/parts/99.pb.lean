/-! -/
set_option maxRecDepth 100000 in
theorem ji_164_0 : mj_ins 164 0 = some (.iconst 0) := by decide +kernel
set_option maxRecDepth 100000 in
theorem ji_164_1 : mj_ins 164 1 = some (.istore_n 2) := by decide +kernel
set_option maxRecDepth 100000 in
theorem ji_164_2 : mj_ins 164 2 = some (.iload_n 2) := by decide +kernel
set_option maxRecDepth 100000 in
theorem ji_164_3 : mj_ins 164 3 = some (.bipush 8) := by decide +kernel
set_option maxRecDepth 100000 in
theorem ji_164_5 : mj_ins 164 5 = some (.if_icmp .ge 33) := by decide +kernel
set_option maxRecDepth 100000 in
theorem ji_164_8 : mj_ins 164 8 = some (.aload_n 0) := by decide +kernel
set_option maxRecDepth 100000 in
theorem ji_164_9 : mj_ins 164 9 = some (.getfield 11) := by decide +kernel
set_option maxRecDepth 100000 in
theorem ji_164_12 : mj_ins 164 12 = some (.iload_n 2) := by decide +kernel
set_option maxRecDepth 100000 in
theorem ji_164_13 : mj_ins 164 13 = some (.aload_n 1) := by decide +kernel
set_option maxRecDepth 100000 in
theorem ji_164_14 : mj_ins 164 14 = some (.getfield 11) := by decide +kernel
set_option maxRecDepth 100000 in
theorem ji_164_17 : mj_ins 164 17 = some (.iload_n 2) := by decide +kernel
set_option maxRecDepth 100000 in
theorem ji_164_18 : mj_ins 164 18 = some (.iaload) := by decide +kernel
set_option maxRecDepth 100000 in
theorem ji_164_19 : mj_ins 164 19 = some (.iastore) := by decide +kernel
set_option maxRecDepth 100000 in
theorem ji_164_20 : mj_ins 164 20 = some (.aload_n 0) := by decide +kernel
set_option maxRecDepth 100000 in
theorem ji_164_21 : mj_ins 164 21 = some (.getfield 15) := by decide +kernel
set_option maxRecDepth 100000 in
theorem ji_164_24 : mj_ins 164 24 = some (.iload_n 2) := by decide +kernel
set_option maxRecDepth 100000 in
theorem ji_164_25 : mj_ins 164 25 = some (.aload_n 1) := by decide +kernel
set_option maxRecDepth 100000 in
theorem ji_164_26 : mj_ins 164 26 = some (.getfield 15) := by decide +kernel
set_option maxRecDepth 100000 in
theorem ji_164_29 : mj_ins 164 29 = some (.iload_n 2) := by decide +kernel
set_option maxRecDepth 100000 in
theorem ji_164_30 : mj_ins 164 30 = some (.baload) := by decide +kernel
set_option maxRecDepth 100000 in
theorem ji_164_31 : mj_ins 164 31 = some (.bastore) := by decide +kernel
set_option maxRecDepth 100000 in
theorem ji_164_32 : mj_ins 164 32 = some (.iinc 2 1) := by decide +kernel
set_option maxRecDepth 100000 in
theorem ji_164_35 : mj_ins 164 35 = some (.goto (-33)) := by decide +kernel
set_option maxRecDepth 100000 in
theorem ji_164_38 : mj_ins 164 38 = some (.aload_n 0) := by decide +kernel
set_option maxRecDepth 100000 in
theorem ji_164_39 : mj_ins 164 39 = some (.aload_n 1) := by decide +kernel
set_option maxRecDepth 100000 in
theorem ji_164_40 : mj_ins 164 40 = some (.getfield 22) := by decide +kernel
set_option maxRecDepth 100000 in
theorem ji_164_43 : mj_ins 164 43 = some (.putfield 22) := by decide +kernel
set_option maxRecDepth 100000 in
theorem ji_164_46 : mj_ins 164 46 = some (.return_) := by decide +kernel
set_option maxRecDepth 100000 in
theorem jf_164_11 : mj_fld 164 11 = some (6, 0, (.array .int), false) := by decide +kernel
set_option maxRecDepth 100000 in
theorem jf_164_15 : mj_fld 164 15 = some (6, 1, (.array .boolean), false) := by decide +kernel
set_option maxRecDepth 100000 in
theorem jf_164_22 : mj_fld 164 22 = some (6, 3, .int, true) := by decide +kernel
set_option maxRecDepth 100000 in
theorem jr_164 : mj_ret 164 = none := by decide +kernel
set_option maxRecDepth 100000 in
theorem jn_164 : mj_nl 164 = 3 := by decide +kernel
set_option maxRecDepth 100000 in
theorem jk_164 : mj_cls 164 = 6 := by decide +kernel
set_option maxRecDepth 100000 in
theorem jn_169 : mj_nl 169 = 3 := by decide +kernel
set_option maxRecDepth 100000 in
theorem jr_161 : mj_ret 161 = none := by decide +kernel
set_option maxRecDepth 100000 in
theorem jn_161 : mj_nl 161 = 2 := by decide +kernel
set_option maxRecDepth 100000 in
theorem jk_161 : mj_cls 161 = 2 := by decide +kernel
set_option maxRecDepth 100000 in
theorem jn_144 : mj_nl 144 = 3 := by decide +kernel
set_option maxRecDepth 100000 in
theorem jk_144 : mj_cls 144 = 6 := by decide +kernel
set_option maxRecDepth 100000 in
theorem jn_300 : mj_nl 300 = 3 := by decide +kernel
set_option maxRecDepth 100000 in
theorem ji_161_0 : mj_ins 161 0 = some (.aload_n 0) := by decide +kernel
set_option maxRecDepth 100000 in
theorem ji_161_1 : mj_ins 161 1 = some (.getfield 12) := by decide +kernel
set_option maxRecDepth 100000 in
theorem jf_161_12 : mj_fld 161 12 = some (2, 0, (.object "ForestOfPoles$Forest"), false) := by decide +kernel
set_option maxRecDepth 100000 in
theorem ji_161_4 : mj_ins 161 4 = some (.aload_n 1) := by decide +kernel
set_option maxRecDepth 100000 in
theorem ji_161_5 : mj_ins 161 5 = some (.getfield 12) := by decide +kernel
set_option maxRecDepth 100000 in
theorem jk_106 : mj_cls 106 = 3 := by decide +kernel
set_option maxRecDepth 100000 in
theorem jn_106 : mj_nl 106 = 2 := by decide +kernel
set_option maxRecDepth 100000 in
theorem ji_161_8 : mj_ins 161 8 = some (.invokevirtual 57) := by decide +kernel
set_option maxRecDepth 100000 in
theorem jc_161_57 : mj_cal 161 57 = some (2, 106, 1) := by decide +kernel
set_option maxRecDepth 100000 in
theorem ji_161_11 : mj_ins 161 11 = some (.aload_n 0) := by decide +kernel
set_option maxRecDepth 100000 in
theorem ji_161_12 : mj_ins 161 12 = some (.getfield 21) := by decide +kernel
set_option maxRecDepth 100000 in
theorem jf_161_21 : mj_fld 161 21 = some (2, 1, (.object "ForestOfPoles$Book"), false) := by decide +kernel
set_option maxRecDepth 100000 in
theorem ji_161_15 : mj_ins 161 15 = some (.aload_n 1) := by decide +kernel
set_option maxRecDepth 100000 in
theorem ji_161_16 : mj_ins 161 16 = some (.getfield 21) := by decide +kernel
set_option maxRecDepth 100000 in
theorem jk_162 : mj_cls 162 = 4 := by decide +kernel
set_option maxRecDepth 100000 in
theorem jn_162 : mj_nl 162 = 2 := by decide +kernel
set_option maxRecDepth 100000 in
theorem ji_161_19 : mj_ins 161 19 = some (.invokevirtual 61) := by decide +kernel
set_option maxRecDepth 100000 in
theorem jc_161_61 : mj_cal 161 61 = some (2, 162, 1) := by decide +kernel
set_option maxRecDepth 100000 in
theorem ji_161_22 : mj_ins 161 22 = some (.aload_n 0) := by decide +kernel
set_option maxRecDepth 100000 in
theorem ji_161_23 : mj_ins 161 23 = some (.getfield 28) := by decide +kernel
set_option maxRecDepth 100000 in
theorem jf_161_28 : mj_fld 161 28 = some (2, 2, (.object "ForestOfPoles$Steps"), false) := by decide +kernel
set_option maxRecDepth 100000 in
theorem ji_161_26 : mj_ins 161 26 = some (.aload_n 1) := by decide +kernel
set_option maxRecDepth 100000 in
theorem ji_161_27 : mj_ins 161 27 = some (.getfield 28) := by decide +kernel
set_option maxRecDepth 100000 in
theorem jk_163 : mj_cls 163 = 5 := by decide +kernel
set_option maxRecDepth 100000 in
theorem jn_163 : mj_nl 163 = 2 := by decide +kernel
set_option maxRecDepth 100000 in
theorem ji_161_30 : mj_ins 161 30 = some (.invokevirtual 64) := by decide +kernel
set_option maxRecDepth 100000 in
theorem jc_161_64 : mj_cal 161 64 = some (2, 163, 1) := by decide +kernel
set_option maxRecDepth 100000 in
theorem ji_161_33 : mj_ins 161 33 = some (.aload_n 0) := by decide +kernel
set_option maxRecDepth 100000 in
theorem ji_161_34 : mj_ins 161 34 = some (.getfield 35) := by decide +kernel
set_option maxRecDepth 100000 in
theorem jf_161_35 : mj_fld 161 35 = some (2, 3, (.object "ForestOfPoles$Finds"), false) := by decide +kernel
set_option maxRecDepth 100000 in
theorem ji_161_37 : mj_ins 161 37 = some (.aload_n 1) := by decide +kernel
set_option maxRecDepth 100000 in
theorem ji_161_38 : mj_ins 161 38 = some (.getfield 35) := by decide +kernel
set_option maxRecDepth 100000 in
theorem ji_161_41 : mj_ins 161 41 = some (.invokevirtual 67) := by decide +kernel
set_option maxRecDepth 100000 in
theorem jc_161_67 : mj_cal 161 67 = some (2, 164, 1) := by decide +kernel
set_option maxRecDepth 100000 in
theorem ji_161_44 : mj_ins 161 44 = some (.aload_n 0) := by decide +kernel
set_option maxRecDepth 100000 in
theorem ji_161_45 : mj_ins 161 45 = some (.getfield 42) := by decide +kernel
set_option maxRecDepth 100000 in
theorem jf_161_42 : mj_fld 161 42 = some (2, 4, (.object "ForestOfPoles$Claims"), false) := by decide +kernel
set_option maxRecDepth 100000 in
theorem ji_161_48 : mj_ins 161 48 = some (.aload_n 1) := by decide +kernel
set_option maxRecDepth 100000 in
theorem ji_161_49 : mj_ins 161 49 = some (.getfield 42) := by decide +kernel
set_option maxRecDepth 100000 in
theorem jk_165 : mj_cls 165 = 7 := by decide +kernel
set_option maxRecDepth 100000 in
theorem jn_165 : mj_nl 165 = 2 := by decide +kernel
set_option maxRecDepth 100000 in
theorem ji_161_52 : mj_ins 161 52 = some (.invokevirtual 70) := by decide +kernel
set_option maxRecDepth 100000 in
theorem jc_161_70 : mj_cal 161 70 = some (2, 165, 1) := by decide +kernel
set_option maxRecDepth 100000 in
theorem ji_161_55 : mj_ins 161 55 = some (.aload_n 0) := by decide +kernel
set_option maxRecDepth 100000 in
theorem ji_161_56 : mj_ins 161 56 = some (.aload_n 1) := by decide +kernel
set_option maxRecDepth 100000 in
theorem ji_161_57 : mj_ins 161 57 = some (.getfield 46) := by decide +kernel
set_option maxRecDepth 100000 in
theorem jf_161_46 : mj_fld 161 46 = some (2, 6, .int, true) := by decide +kernel
set_option maxRecDepth 100000 in
theorem ji_161_60 : mj_ins 161 60 = some (.putfield 46) := by decide +kernel
set_option maxRecDepth 100000 in
theorem ji_161_63 : mj_ins 161 63 = some (.aload_n 0) := by decide +kernel
set_option maxRecDepth 100000 in
theorem ji_161_64 : mj_ins 161 64 = some (.aload_n 1) := by decide +kernel
set_option maxRecDepth 100000 in
theorem ji_161_65 : mj_ins 161 65 = some (.getfield 50) := by decide +kernel
set_option maxRecDepth 100000 in
theorem jf_161_50 : mj_fld 161 50 = some (2, 7, .int, true) := by decide +kernel
set_option maxRecDepth 100000 in
theorem ji_161_68 : mj_ins 161 68 = some (.putfield 50) := by decide +kernel
set_option maxRecDepth 100000 in
theorem ji_161_71 : mj_ins 161 71 = some (.return_) := by decide +kernel
set_option maxRecDepth 100000 in
theorem jr_160 : mj_ret 160 = some .int := by decide +kernel
set_option maxRecDepth 100000 in
theorem ji_160_0 : mj_ins 160 0 = some (.aload_n 0) := by decide +kernel
set_option maxRecDepth 100000 in
theorem ji_160_1 : mj_ins 160 1 = some (.getfield 23) := by decide +kernel
set_option maxRecDepth 100000 in
theorem jf_160_23 : mj_fld 160 23 = some (0, 1, (.object "ForestOfPoles$State"), false) := by decide +kernel
set_option maxRecDepth 100000 in
theorem ji_160_4 : mj_ins 160 4 = some (.aload_n 0) := by decide +kernel
set_option maxRecDepth 100000 in
theorem ji_160_5 : mj_ins 160 5 = some (.getfield 19) := by decide +kernel
set_option maxRecDepth 100000 in
theorem jf_160_19 : mj_fld 160 19 = some (0, 0, (.object "ForestOfPoles$State"), false) := by decide +kernel
set_option maxRecDepth 100000 in
theorem ji_160_8 : mj_ins 160 8 = some (.invokevirtual 322) := by decide +kernel
set_option maxRecDepth 100000 in
theorem jc_160_322 : mj_cal 160 322 = some (2, 161, 1) := by decide +kernel
set_option maxRecDepth 100000 in
theorem ji_160_11 : mj_ins 160 11 = some (.aload_n 0) := by decide +kernel
set_option maxRecDepth 100000 in
theorem ji_160_12 : mj_ins 160 12 = some (.getfield 19) := by decide +kernel
set_option maxRecDepth 100000 in
theorem ji_160_15 : mj_ins 160 15 = some (.getfield 49) := by decide +kernel
set_option maxRecDepth 100000 in
theorem jf_160_49 : mj_fld 160 49 = some (2, 0, (.object "ForestOfPoles$Forest"), false) := by decide +kernel
set_option maxRecDepth 100000 in
theorem ji_160_18 : mj_ins 160 18 = some (.getfield 98) := by decide +kernel
set_option maxRecDepth 100000 in
theorem jf_160_98 : mj_fld 160 98 = some (3, 10, .int, true) := by decide +kernel
set_option maxRecDepth 100000 in
theorem ji_160_21 : mj_ins 160 21 = some (.ireturn) := by decide +kernel
set_option maxRecDepth 100000 in
theorem jr_166 : mj_ret 166 = some .int := by decide +kernel
set_option maxRecDepth 100000 in
theorem ji_166_0 : mj_ins 166 0 = some (.aload_n 0) := by decide +kernel
set_option maxRecDepth 100000 in
theorem ji_166_1 : mj_ins 166 1 = some (.getfield 19) := by decide +kernel
set_option maxRecDepth 100000 in
theorem jf_166_19 : mj_fld 166 19 = some (0, 0, (.object "ForestOfPoles$State"), false) := by decide +kernel
set_option maxRecDepth 100000 in
theorem ji_166_4 : mj_ins 166 4 = some (.aload_n 0) := by decide +kernel
set_option maxRecDepth 100000 in
theorem ji_166_5 : mj_ins 166 5 = some (.getfield 23) := by decide +kernel
set_option maxRecDepth 100000 in
theorem jf_166_23 : mj_fld 166 23 = some (0, 1, (.object "ForestOfPoles$State"), false) := by decide +kernel
set_option maxRecDepth 100000 in
theorem ji_166_8 : mj_ins 166 8 = some (.invokevirtual 322) := by decide +kernel
set_option maxRecDepth 100000 in
theorem jc_166_322 : mj_cal 166 322 = some (2, 161, 1) := by decide +kernel
set_option maxRecDepth 100000 in
theorem ji_166_11 : mj_ins 166 11 = some (.aload_n 0) := by decide +kernel
set_option maxRecDepth 100000 in
theorem ji_166_12 : mj_ins 166 12 = some (.getfield 19) := by decide +kernel
set_option maxRecDepth 100000 in
theorem ji_166_15 : mj_ins 166 15 = some (.getfield 49) := by decide +kernel
set_option maxRecDepth 100000 in
theorem jf_166_49 : mj_fld 166 49 = some (2, 0, (.object "ForestOfPoles$Forest"), false) := by decide +kernel
set_option maxRecDepth 100000 in
theorem ji_166_18 : mj_ins 166 18 = some (.getfield 98) := by decide +kernel
set_option maxRecDepth 100000 in
theorem jf_166_98 : mj_fld 166 98 = some (3, 10, .int, true) := by decide +kernel
set_option maxRecDepth 100000 in
theorem ji_166_21 : mj_ins 166 21 = some (.ireturn) := by decide +kernel
set_option maxRecDepth 100000 in
theorem jr_312 : mj_ret 312 = some .int := by decide +kernel
set_option maxRecDepth 100000 in
theorem ji_312_0 : mj_ins 312 0 = some (.aload_n 0) := by decide +kernel
set_option maxRecDepth 100000 in
theorem ji_312_1 : mj_ins 312 1 = some (.getfield 7) := by decide +kernel
set_option maxRecDepth 100000 in
theorem jf_312_7 : mj_fld 312 7 = some (11, 0, (.array .int), false) := by decide +kernel
set_option maxRecDepth 100000 in
theorem ji_312_4 : mj_ins 312 4 = some (.aload_n 0) := by decide +kernel
set_option maxRecDepth 100000 in
theorem ji_312_5 : mj_ins 312 5 = some (.getfield 13) := by decide +kernel
set_option maxRecDepth 100000 in
theorem jf_312_13 : mj_fld 312 13 = some (11, 1, (.array .int), false) := by decide +kernel
set_option maxRecDepth 100000 in
theorem ji_312_8 : mj_ins 312 8 = some (.invokestatic 62) := by decide +kernel
set_option maxRecDepth 100000 in
theorem jc_312_62 : mj_cal 312 62 = some (1, 169, 2) := by decide +kernel
set_option maxRecDepth 100000 in
theorem ji_312_11 : mj_ins 312 11 = some (.aload_n 0) := by decide +kernel
set_option maxRecDepth 100000 in
theorem ji_312_12 : mj_ins 312 12 = some (.getfield 7) := by decide +kernel
set_option maxRecDepth 100000 in
theorem ji_312_15 : mj_ins 312 15 = some (.bipush 8) := by decide +kernel
set_option maxRecDepth 100000 in
theorem ji_312_17 : mj_ins 312 17 = some (.iaload) := by decide +kernel
set_option maxRecDepth 100000 in
theorem ji_312_18 : mj_ins 312 18 = some (.ireturn) := by decide +kernel
set_option maxRecDepth 100000 in
theorem jr_313 : mj_ret 313 = some .int := by decide +kernel
set_option maxRecDepth 100000 in
theorem ji_313_0 : mj_ins 313 0 = some (.aload_n 0) := by decide +kernel
set_option maxRecDepth 100000 in
theorem ji_313_1 : mj_ins 313 1 = some (.getfield 13) := by decide +kernel
set_option maxRecDepth 100000 in
theorem jf_313_13 : mj_fld 313 13 = some (11, 1, (.array .int), false) := by decide +kernel
set_option maxRecDepth 100000 in
theorem ji_313_4 : mj_ins 313 4 = some (.aload_n 0) := by decide +kernel
set_option maxRecDepth 100000 in
theorem ji_313_5 : mj_ins 313 5 = some (.getfield 7) := by decide +kernel
set_option maxRecDepth 100000 in
theorem jf_313_7 : mj_fld 313 7 = some (11, 0, (.array .int), false) := by decide +kernel
set_option maxRecDepth 100000 in
theorem ji_313_8 : mj_ins 313 8 = some (.invokestatic 62) := by decide +kernel
set_option maxRecDepth 100000 in
theorem jc_313_62 : mj_cal 313 62 = some (1, 169, 2) := by decide +kernel
set_option maxRecDepth 100000 in
theorem ji_313_11 : mj_ins 313 11 = some (.aload_n 0) := by decide +kernel
set_option maxRecDepth 100000 in
theorem ji_313_12 : mj_ins 313 12 = some (.getfield 7) := by decide +kernel
set_option maxRecDepth 100000 in
theorem ji_313_15 : mj_ins 313 15 = some (.bipush 8) := by decide +kernel
set_option maxRecDepth 100000 in
theorem ji_313_17 : mj_ins 313 17 = some (.iaload) := by decide +kernel
set_option maxRecDepth 100000 in
theorem ji_313_18 : mj_ins 313 18 = some (.ireturn) := by decide +kernel
set_option maxRecDepth 100000 in
theorem jr_143 : mj_ret 143 = some .int := by decide +kernel
set_option maxRecDepth 100000 in
theorem ji_143_0 : mj_ins 143 0 = some (.aload_n 0) := by decide +kernel
set_option maxRecDepth 100000 in
theorem ji_143_1 : mj_ins 143 1 = some (.getfield 19) := by decide +kernel
set_option maxRecDepth 100000 in
theorem jf_143_19 : mj_fld 143 19 = some (0, 0, (.object "ForestOfPoles$State"), false) := by decide +kernel
set_option maxRecDepth 100000 in
theorem ji_143_4 : mj_ins 143 4 = some (.getfield 287) := by decide +kernel
set_option maxRecDepth 100000 in
theorem jf_143_287 : mj_fld 143 287 = some (2, 3, (.object "ForestOfPoles$Finds"), false) := by decide +kernel
set_option maxRecDepth 100000 in
theorem ji_143_7 : mj_ins 143 7 = some (.iload_n 1) := by decide +kernel
set_option maxRecDepth 100000 in
theorem ji_143_8 : mj_ins 143 8 = some (.iload_n 2) := by decide +kernel
set_option maxRecDepth 100000 in
theorem ji_143_9 : mj_ins 143 9 = some (.invokevirtual 291) := by decide +kernel
set_option maxRecDepth 100000 in
theorem jc_143_291 : mj_cal 143 291 = some (2, 144, 2) := by decide +kernel
set_option maxRecDepth 100000 in
theorem ji_143_12 : mj_ins 143 12 = some (.ireturn) := by decide +kernel
/-! image and back, exactly: the counts; laid by program (wp_copy.py) -/
theorem fd_ss {h : mj_H} {b : Nat} {c : mj_C} (e : h[b]? = some c) : h.set b c = h := by
  refine List.ext_getElem? (fun j => ?_)
  by_cases q : b = j
  · subst q
    rw [List.getElem?_set_self (fd_lt e), e]
  · rw [List.getElem?_set_ne q]
theorem fd_iel {l : List Value} {k : Nat} {z : Int32} (e : l[k]? = some (.int z)) : l[k]? = some (wp_i (sx_el l k)) ∧ sx_el l k = z.toInt := by
  have e2 : sx_el l k = z.toInt := by
    unfold sx_el
    rw [e]
  exact ⟨by rw [e2, ← wp_iz]; exact e, e2⟩
/-- the 8 places, the 8 booleans, the reference's state -/
theorem fd_49 {h : mj_H} (hH : sx_H sx_TT 20 sx_tau h) {a : Nat} (ht : sx_tau[a]? = some 49) : ∃ ps, h[a]? = some (1000, ps) ∧ ps.length = 8 ∧ ∀ k, k < 8 → ps[k]? = some (wp_i (sx_el ps k)) := by
  obtain ⟨-, ps, e1, e2, e3, -⟩ := hH a 49 sx_y49 ht rfl
  have e2 : ps.length = 8 := e2
  refine ⟨ps, e1, e2, fun k hk => ?_⟩
  have hv : ps[k]? = some ps[k] := List.getElem?_eq_getElem (by omega)
  obtain ⟨dd, d1, d2⟩ := e3 _ _ hv
  have hf : ∀ k, k < 8 → sx_fd sx_y49.2.2 k = some (0, 0, 99) := by decide
  rw [hf k hk] at d1
  cases d1
  obtain ⟨z, ez, -, -⟩ := d2
  rw [ez] at hv
  exact (fd_iel hv).1
theorem fd_50 {h : mj_H} (hH : sx_H sx_TT 20 sx_tau h) {a : Nat} (ht : sx_tau[a]? = some 50) : ∃ ps, h[a]? = some (1001, ps) ∧ ps.length = 8 ∧ ∀ k, k < 8 → ps[k]? = some (wp_i (sx_el ps k)) ∧ (sx_el ps k = 0 ∨ sx_el ps k = 1) := by
  obtain ⟨-, ps, e1, e2, e3, -⟩ := hH a 50 sx_y50 ht rfl
  have e2 : ps.length = 8 := e2
  refine ⟨ps, e1, e2, fun k hk => ?_⟩
  have hv : ps[k]? = some ps[k] := List.getElem?_eq_getElem (by omega)
  obtain ⟨dd, d1, d2⟩ := e3 _ _ hv
  have hf : ∀ k, k < 8 → sx_fd sx_y50.2.2 k = some (0, 0, 1) := by decide
  rw [hf k hk] at d1
  cases d1
  obtain ⟨z, ez, z1, z2⟩ := d2
  rw [ez] at hv
  have := fd_iel hv
  exact ⟨this.1, by omega⟩
theorem fd_49' {h : mj_H} (hH : sx_H sx_TT 20 sx_tau h) {a : Nat} (ht : sx_tau[a]? = some 49) {ps : List Value} (e : h[a]? = some (1000, ps)) : ps.length = 8 ∧ ∀ k, k < 8 → ps[k]? = some (wp_i (sx_el ps k)) ∧ 0 ≤ sx_el ps k ∧ sx_el ps k ≤ 99 := by
  obtain ⟨-, qs, e1, e2, e3, -⟩ := hH a 49 sx_y49 ht rfl
  rw [e] at e1
  cases e1
  have e2 : ps.length = 8 := e2
  refine ⟨e2, fun k hk => ?_⟩
  have hv : ps[k]? = some ps[k] := List.getElem?_eq_getElem (by omega)
  obtain ⟨dd, d1, d2⟩ := e3 _ _ hv
  have hf : ∀ k, k < 8 → sx_fd sx_y49.2.2 k = some (0, 0, 99) := by decide
  rw [hf k hk] at d1
  cases d1
  obtain ⟨z, ez, z1, z2⟩ := d2
  rw [ez] at hv
  have := fd_iel hv
  exact ⟨this.1, by omega, by omega⟩
theorem fd_50' {h : mj_H} (hH : sx_H sx_TT 20 sx_tau h) {a : Nat} (ht : sx_tau[a]? = some 50) {ps : List Value} (e : h[a]? = some (1001, ps)) : ps.length = 8 ∧ ∀ k, k < 8 → ps[k]? = some (wp_i (sx_el ps k)) ∧ (sx_el ps k = 0 ∨ sx_el ps k = 1) := by
  obtain ⟨qs, e1, e2, e3⟩ := fd_50 hH ht
  rw [e] at e1
  cases e1
  exact ⟨e2, e3⟩
theorem fd_21 {h : mj_H} (hH : sx_H sx_TT 20 sx_tau h) {a : Nat} (ht : sx_tau[a]? = some 21) : ∃ vs, h[a]? = some (1000, vs) ∧ vs.length = 6044 ∧ ∀ k, k < 6044 → vs[k]? = some (wp_i (sx_el vs k)) := by
  obtain ⟨-, vs, e1, e2, e3, -⟩ := hH a 21 sx_y21 ht rfl
  have e2 : vs.length = 6044 := e2
  refine ⟨vs, e1, e2, fun k hk => ?_⟩
  have hv : vs[k]? = some vs[k] := List.getElem?_eq_getElem (by omega)
  obtain ⟨dd, d1, d2⟩ := e3 _ _ hv
  obtain ⟨d0, lo, hi⟩ := dd
  have d0e : d0 = 0 := cp_int d1
  subst d0e
  obtain ⟨z, ez, -, -⟩ := d2
  rw [ez] at hv
  exact (fd_iel hv).1
theorem fd_48 {h : mj_H} (hH : sx_H sx_TT 20 sx_tau h) {a : Nat} (ht : sx_tau[a]? = some 48) : ∃ fs, h[a]? = some (6, fs) ∧ fs.length = 4 := by
  obtain ⟨-, fs, e1, e2, -⟩ := hH a 48 sx_y48 ht rfl
  exact ⟨fs, e1, e2⟩
theorem fd_34 {h : mj_H} (hH : sx_H sx_TT 20 sx_tau h) {a : Nat} (ht : sx_tau[a]? = some 34) : ∃ fs, h[a]? = some (2, fs) ∧ fs.length = 8 ∧ (∃ r, fs[0]? = some (.ref r) ∧ sx_tau[r]? = some 35) ∧ (∃ r, fs[1]? = some (.ref r) ∧ sx_tau[r]? = some 43) ∧ (∃ r, fs[2]? = some (.ref r) ∧ sx_tau[r]? = some 46) ∧ (∃ r, fs[4]? = some (.ref r) ∧ sx_tau[r]? = some 52) ∧ (∃ z, fs[6]? = some (.int z)) ∧ ∃ z, fs[7]? = some (.int z) := by
  obtain ⟨-, fs, e1, e2, e3, -⟩ := hH a 34 sx_y34 ht rfl
  have e2 : fs.length = 8 := e2
  have key : ∀ k, k < 8 → ∃ v, fs[k]? = some v ∧ ∃ d, sx_fd sx_y34.2.2 k = some d ∧ sx_dr sx_tau d v := fun k hk => by
    have hv : fs[k]? = some fs[k] := List.getElem?_eq_getElem (by omega)
    exact ⟨_, hv, e3 _ _ hv⟩
  refine ⟨fs, e1, e2, ?_, ?_, ?_, ?_, ?_, ?_⟩
  · obtain ⟨v, v1, d, d1, d2⟩ := key 0 (by decide)
    rw [show sx_fd sx_y34.2.2 0 = some (2, 35, 0) by decide] at d1
    cases d1
    obtain ⟨r, rfl, hr⟩ := d2
    exact ⟨r, v1, hr⟩
  · obtain ⟨v, v1, d, d1, d2⟩ := key 1 (by decide)
    rw [show sx_fd sx_y34.2.2 1 = some (2, 43, 0) by decide] at d1
    cases d1
    obtain ⟨r, rfl, hr⟩ := d2
    exact ⟨r, v1, hr⟩
  · obtain ⟨v, v1, d, d1, d2⟩ := key 2 (by decide)
    rw [show sx_fd sx_y34.2.2 2 = some (2, 46, 0) by decide] at d1
    cases d1
    obtain ⟨r, rfl, hr⟩ := d2
    exact ⟨r, v1, hr⟩
  · obtain ⟨v, v1, d, d1, d2⟩ := key 4 (by decide)
    rw [show sx_fd sx_y34.2.2 4 = some (2, 52, 0) by decide] at d1
    cases d1
    obtain ⟨r, rfl, hr⟩ := d2
    exact ⟨r, v1, hr⟩
  · obtain ⟨v, v1, d, d1, d2⟩ := key 6 (by decide)
    rw [show sx_fd sx_y34.2.2 6 = some (0, 0, 4) by decide] at d1
    cases d1
    obtain ⟨z, rfl, -⟩ := d2
    exact ⟨z, v1⟩
  · obtain ⟨v, v1, d, d1, d2⟩ := key 7 (by decide)
    rw [show sx_fd sx_y34.2.2 7 = some (0, -1, 3) by decide] at d1
    cases d1
    obtain ⟨z, rfl, -⟩ := d2
    exact ⟨z, v1⟩
/-- a forest's hour -/
theorem fd_35 {h : mj_H} (hH : sx_H sx_TT 20 sx_tau h) {a : Nat} (ht : sx_tau[a]? = some 35) : ∃ fs, h[a]? = some (3, fs) ∧ ∃ z, fs[10]? = some (.int z) := by
  obtain ⟨-, fs, e1, e2, e3, -⟩ := hH a 35 sx_y35 ht rfl
  have e2 : fs.length = sx_y35.2.1 := e2
  have hl : 10 < fs.length := by rw [e2]; decide
  have hv : fs[10]? = some fs[10] := List.getElem?_eq_getElem hl
  obtain ⟨dd, d1, d2⟩ := e3 _ _ hv
  obtain ⟨lo, hi, hd⟩ : ∃ lo hi, sx_fd sx_y35.2.2 10 = some (0, lo, hi) := ⟨_, _, rfl⟩
  rw [hd] at d1
  cases d1
  obtain ⟨z, ez, -⟩ := d2
  rw [ez] at hv
  exact ⟨fs, e1, z, hv⟩
theorem fd_cell {h : mj_H} (hH : sx_H sx_TT 20 sx_tau h) {a t : Nat} {ty : sx_Ty} (ht : sx_tau[a]? = some t) (hT : sx_TT[t]? = some ty) : ∃ fs, h[a]? = some (ty.1, fs) := by
  obtain ⟨-, fs, e1, -⟩ := hH a t ty ht hT
  exact ⟨fs, e1⟩
/-! the reference's copy -/
theorem ws_cploop {d : Nat} {h0 : mj_H} {a b : Nat} (hab : b ≠ a) {us : List Value} (ha : h0[a]? = some (1000, us)) (hb : b < h0.length) (hu : us.length = 6044) (hn0 : mj_n0 ≤ b) (hi : ∀ k, k < 6044 → us[k]? = some (wp_i (sx_el us k))) : ∀ (n k : Nat) (vs : List Value), k + n = 6044 → vs.length = 6044 → (∀ j, j < k → vs[j]? = us[j]?) → wp_R d 169 2 [some (.ref a), some (.ref b), some (wp_i (k : Int))] [] (h0.set b (1000, vs)) (fun v h1 => v = none ∧ h1 = h0.set b (1000, us)) := by
  obtain ⟨i0, i1, i2, i3, i6, i9, i10, i11, i12, i13, i14, i15, i18, i21, hr, hnl⟩ := cp_i
  intro n
  induction n with
  | zero =>
    intro k vs hk hv hj
    refine wp_s (pc' := 3) i2 rfl rfl rfl ?_
    refine wp_sp i3 rfl ?_
    refine wp_icmp (t := 21) i6 rfl (by omega) (by omega) (fun _ => ?_) (fun (q : ¬ ((6044 : Int) ≤ (k : Int))) => (by exfalso; omega))
    have e : vs = us := List.ext_getElem? (fun j => by
      by_cases q : j < k
      · exact hj j q
      · rw [List.getElem?_eq_none (by omega), List.getElem?_eq_none (by omega)])
    rw [e]
    exact wp_rv i21 hr ⟨rfl, rfl⟩
  | succ n ih =>
    intro k vs hk hv hj
    refine wp_s (pc' := 3) i2 rfl rfl rfl ?_
    refine wp_sp i3 rfl ?_
    refine wp_icmp (t := 21) i6 rfl (by omega) (by omega) (fun (q : (6044 : Int) ≤ (k : Int)) => (by exfalso; omega)) (fun _ => ?_)
    refine wp_s (pc' := 10) i9 rfl rfl rfl ?_
    refine wp_s (pc' := 11) i10 rfl rfl rfl ?_
    refine wp_s (pc' := 12) i11 rfl rfl rfl ?_
    refine wp_s (pc' := 13) i12 rfl rfl rfl ?_
    refine wp_ial (x := (k : Int)) i13 (by rw [List.getElem?_set_ne hab]; exact ha) (by omega) (by omega) (by omega) (hi (k : Int).toNat (by omega)) ?_
    refine wp_ias (x := (k : Int)) i14 (List.getElem?_set_self hb) hn0 (by omega) (by omega) (by omega) ?_
    rw [List.set_set]
    refine wp_iinc (x := (k : Int)) (z := ((k + 1 : Nat) : Int)) (lv' := [some (.ref a), some (.ref b), some (wp_i ((k + 1 : Nat) : Int))]) i15 rfl (Nat.le_of_ble_eq_true rfl) (by omega) rfl ?_
    refine wp_goto (t := 2) i18 rfl ?_
    refine ih (k + 1) _ (by omega) (by rw [List.length_set]; exact hv) (fun j q => ?_)
    rw [show (k : Int).toNat = k by omega]
    by_cases e : k = j
    · subst e
      rw [List.getElem?_set_self (by omega), hi k (by omega)]
    · rw [List.getElem?_set_ne e]
      exact hj j (by omega)
theorem ws_copy {d : Nat} {h0 : mj_H} {a b : Nat} (hab : b ≠ a) {us ws : List Value} (ha : h0[a]? = some (1000, us)) (hb : h0[b]? = some (1000, ws)) (hu : us.length = 6044) (hw : ws.length = 6044) (hn0 : mj_n0 ≤ b) (hi : ∀ k, k < 6044 → us[k]? = some (wp_i (sx_el us k))) : wp_R d 169 0 [some (.ref a), some (.ref b), none] [] h0 (fun v h1 => v = none ∧ h1 = h0.set b (1000, us)) := by
  obtain ⟨i0, i1, i2, i3, i6, i9, i10, i11, i12, i13, i14, i15, i18, i21, hr, hnl⟩ := cp_i
  refine wp_s (pc' := 1) i0 rfl rfl rfl ?_
  refine wp_s (pc' := 2) (lv' := [some (.ref a), some (.ref b), some (wp_i ((0 : Nat) : Int))]) i1 rfl rfl rfl ?_
  have := ws_cploop (d := d) hab ha (fd_lt hb) hu hn0 hi 6044 0 ws rfl hw (fun j q => (by omega))
  rw [fd_ss hb] at this
  exact this
/-- the reference's image, and back -/
theorem fd_G_mv {h h0 : mj_H} {a b : Nat} {r : fd_r} {us : List Value} (e1 : h[b]? = some (1000, us)) (e2 : h0[a]? = some (1000, us)) (G : fd_G h0 a r) : fd_G h b r := by
  obtain ⟨vs, g1, g⟩ := G
  rw [e2] at g1
  cases g1
  exact ⟨us, e1, g⟩
theorem lx_169a (AM : lw_AM) {sl : List Value} {h : mj_H} {B : Int} {s s' : fd_s} {r r' : fd_r} (X : lw_X sl h B s s' r r') (hB : B ≤ 2147483647) : wp_R 1198 169 0 [some (.ref 139), some (.ref 140), none] [] h (fun v h1 => v = none ∧ lw_X sl h1 B s s' r r) := by
  obtain ⟨I, P, x1, x2, x3, x4⟩ := X
  obtain ⟨us, u1, u2, u3⟩ := fd_21 I.1 (a := 139) rfl
  obtain ⟨ws, w1, w2, w3⟩ := fd_21 I.1 (a := 140) rfl
  refine wp_mono (wp_and (lw_K0 (n := 0) I P (AM 1198 169 sx_K169 rfl) (vs := [.ref 139, .ref 140]) ⟨⟨139, rfl, rfl⟩, ⟨140, rfl, rfl⟩, trivial⟩ (show (0 : Int) + 0 ≤ ((1198 : Nat) : Int) by decide) (by decide) (by omega) (by rw [jn_169]; rfl) (by decide)) (ws_copy (by decide) u1 w1 u2 w2 (by decide) u3)) ?_
  rintro v h1 ⟨⟨-, k2, k3, -⟩, rfl, rfl⟩
  exact ⟨rfl, lw_le k2 (by omega), k3, fd_S_cs (by decide) (by decide) (by decide) x1, fd_S_cs (by decide) (by decide) (by decide) x2, fd_G_cs (by decide) x3, fd_G_mv (List.getElem?_set_self (fd_lt w1)) u1 x3⟩
theorem lx_169b (AM : lw_AM) {sl : List Value} {h : mj_H} {B : Int} {s s' : fd_s} {r r' : fd_r} (X : lw_X sl h B s s' r r') (hB : B ≤ 2147483647) : wp_R 1198 169 0 [some (.ref 140), some (.ref 139), none] [] h (fun v h1 => v = none ∧ lw_X sl h1 B s s' r' r') := by
  obtain ⟨I, P, x1, x2, x3, x4⟩ := X
  obtain ⟨us, u1, u2, u3⟩ := fd_21 I.1 (a := 140) rfl
  obtain ⟨ws, w1, w2, w3⟩ := fd_21 I.1 (a := 139) rfl
  refine wp_mono (wp_and (lw_K0 (n := 0) I P (AM 1198 169 sx_K169 rfl) (vs := [.ref 140, .ref 139]) ⟨⟨140, rfl, rfl⟩, ⟨139, rfl, rfl⟩, trivial⟩ (show (0 : Int) + 0 ≤ ((1198 : Nat) : Int) by decide) (by decide) (by omega) (by rw [jn_169]; rfl) (by decide)) (ws_copy (by decide) u1 w1 u2 w2 (by decide) u3)) ?_
  rintro v h1 ⟨⟨-, k2, k3, -⟩, rfl, rfl⟩
  exact ⟨rfl, lw_le k2 (by omega), k3, fd_S_cs (by decide) (by decide) (by decide) x1, fd_S_cs (by decide) (by decide) (by decide) x2, fd_G_mv (List.getElem?_set_self (fd_lt w1)) u1 x4, fd_G_cs (by decide) x4⟩
/-! found -/
def fs_f (x b : Int) (s : fd_s) : fd_s := (fd_n x s.1, fd_l x s.1 x s.2.1, fd_l x s.1 b s.2.2)
def fd_rl (x n b : Int) (l : List Value) : List Value := if x = -1 then l else if x < 0 ∨ 99 < x ∨ n = 8 then l else (l.set (2 * n).toNat (wp_i x)).set (2 * n + 1).toNat (wp_i b)
def fr_f (x b : Int) (r : fd_r) : fd_r := (fd_n x r.1, fd_rl x r.1 b r.2)
def fd_rel (s : fd_s) (r : fd_r) : Prop := (0 ≤ s.1 ∧ s.1 ≤ 8) ∧ r.1 = s.1 ∧ (s.2.1.length = 8 ∧ s.2.2.length = 8 ∧ r.2.length = 16) ∧ ∀ j, j < 8 → r.2[2 * j]? = s.2.1[j]? ∧ r.2[2 * j + 1]? = s.2.2[j]?
theorem fd_rel_f {s : fd_s} {r : fd_r} {x b : Int} (R : fd_rel s r) : fd_rel (fs_f x b s) (fr_f x b r) := by
  obtain ⟨n, ps, bs⟩ := s
  obtain ⟨c, rs⟩ := r
  obtain ⟨hn, hc, ⟨h1, h2, h3⟩, hj⟩ := R
  have hn : 0 ≤ n ∧ n ≤ 8 := hn
  have hc : c = n := hc
  have h1 : ps.length = 8 := h1
  have h2 : bs.length = 8 := h2
  have h3 : rs.length = 16 := h3
  have hj : ∀ j, j < 8 → rs[2 * j]? = ps[j]? ∧ rs[2 * j + 1]? = bs[j]? := hj
  subst hc
  refine ⟨fd_nb hn, rfl, ?_⟩
  show ((fd_l x c x ps).length = 8 ∧ (fd_l x c b bs).length = 8 ∧ (fd_rl x c b rs).length = 16) ∧ ∀ j, j < 8 → (fd_rl x c b rs)[2 * j]? = (fd_l x c x ps)[j]? ∧ (fd_rl x c b rs)[2 * j + 1]? = (fd_l x c b bs)[j]?
  by_cases e1 : x = -1
  · rw [(fd_1 e1).2.2.1, (fd_1 e1).2.2.1, show fd_rl x c b rs = rs from if_pos e1]
    exact ⟨⟨h1, h2, h3⟩, hj⟩
  · by_cases e2 : x < 0 ∨ 99 < x ∨ c = 8
    · rw [(fd_2 e1 e2).2.2.1, (fd_2 e1 e2).2.2.1, show fd_rl x c b rs = rs from (if_neg e1).trans (if_pos e2)]
      exact ⟨⟨h1, h2, h3⟩, hj⟩
    · rw [(fd_3 e1 e2).2.2.1, (fd_3 e1 e2).2.2.1, show fd_rl x c b rs = (rs.set (2 * c).toNat (wp_i x)).set (2 * c + 1).toNat (wp_i b) from (if_neg e1).trans (if_neg e2)]
      refine ⟨⟨by rw [List.length_set]; exact h1, by rw [List.length_set]; exact h2, by rw [List.length_set, List.length_set]; exact h3⟩, fun j hj8 => ?_⟩
      by_cases e : c.toNat = j
      · subst e
        rw [List.getElem?_set_self (by omega), List.getElem?_set_self (by omega), List.getElem?_set_ne (by omega), show 2 * c.toNat = (2 * c).toNat by omega, show (2 * c).toNat + 1 = (2 * c + 1).toNat by omega, List.getElem?_set_self (by omega), List.getElem?_set_self (by rw [List.length_set]; omega)]
        exact ⟨rfl, rfl⟩
      · rw [List.getElem?_set_ne e, List.getElem?_set_ne e, List.getElem?_set_ne (by omega), List.getElem?_set_ne (by omega), List.getElem?_set_ne (by omega), List.getElem?_set_ne (by omega)]
        exact hj j hj8
theorem fd_wr {x c b : Int} (hc : 0 ≤ c ∧ c ≤ 8) {vs rs : List Value} (hl : vs.length = 6044) (hj : ∀ j, j < 16 → vs[148 + j]? = rs[j]?) : ∀ j, j < 16 → (fd_w x c b vs)[148 + j]? = (fd_rl x c b rs)[j]? := by
  intro j hj16
  have h16 : 15 < rs.length := by
    have := hj 15 (by decide)
    rw [List.getElem?_eq_getElem (by omega)] at this
    exact (List.getElem?_eq_some_iff.mp this.symm).1
  by_cases e1 : x = -1
  · rw [(fd_1 e1).2.2.2, show fd_rl x c b rs = rs from if_pos e1, List.getElem?_set_ne (by omega)]
    exact hj j hj16
  · by_cases e2 : x < 0 ∨ 99 < x ∨ c = 8
    · rw [(fd_2 e1 e2).2.2.2, show fd_rl x c b rs = rs from (if_neg e1).trans (if_pos e2)]
      exact hj j hj16
    · rw [(fd_3 e1 e2).2.2.2, show fd_rl x c b rs = (rs.set (2 * c).toNat (wp_i x)).set (2 * c + 1).toNat (wp_i b) from (if_neg e1).trans (if_neg e2), List.getElem?_set_ne (by omega)]
      by_cases q1 : (2 * c + 1).toNat = j
      · subst q1
        rw [show 148 + (2 * c + 1).toNat = (148 + (2 * c) + 1).toNat by omega, List.getElem?_set_self (by rw [List.length_set]; omega), List.getElem?_set_self (by rw [List.length_set]; omega)]
      · rw [List.getElem?_set_ne q1, List.getElem?_set_ne (by omega)]
        by_cases q2 : (2 * c).toNat = j
        · subst q2
          rw [show 148 + (2 * c).toNat = (148 + (2 * c)).toNat by omega, List.getElem?_set_self (by omega), List.getElem?_set_self (by omega)]
        · rw [List.getElem?_set_ne q2, List.getElem?_set_ne (by omega)]
          exact hj j hj16
theorem fd_bag {b : Int} (hb : b = 0 ∨ b = 1) : sx_dr sx_tau (0, 0, 1) (wp_i b) := by
  refine ⟨_, rfl, ?_, ?_⟩ <;> rcases hb with rfl | rfl <;> decide
theorem fd_xag {x : Int} : sx_dr sx_tau (0, -2147483648, 2147483647) (wp_i x) := ⟨_, rfl, (sx_r32 _).1, (sx_r32 _).2⟩
theorem lx_144 (AM : lw_AM) {sl : List Value} {h : mj_H} {B x b : Int} {s s' : fd_s} {r r' : fd_r} (X : lw_X sl h B s s' r r') (hB : B ≤ 2147483647) (hx : wp_r x) (hb : b = 0 ∨ b = 1) (hn : 0 ≤ s.1 ∧ s.1 ≤ 8) : wp_R 1198 144 0 [some (.ref 61), some (wp_i x), some (wp_i b)] [] h (fun v h1 => v = some (wp_i (fd_a x s.1)) ∧ lw_X sl h1 B (fs_f x b s) s' r r') := by
  obtain ⟨I, P, x1, x2, x3, x4⟩ := X
  obtain ⟨fs, f1, f2⟩ := fd_48 I.1 (a := 61) rfl
  have p2 := (fd_49' I.1 (a := 62) rfl x1.2.1).1
  have b2 := (fd_50' I.1 (a := 63) rfl x1.2.2).1
  have V : fd_T h h s.1 s.2.1 s.2.2 := ⟨⟨fs, f1, f2, fd_at P.2.2.2.2.2.2.1 f1, fd_at P.2.2.2.2.2.2.2.1 f1, fd_at x1.1 f1⟩, ⟨x1.2.1, p2⟩, ⟨x1.2.2, b2⟩, fun _ _ _ _ => rfl⟩
  refine wp_mono (wp_and (lw_K0 (n := 0) I P (AM 1198 144 sx_K144 rfl) (vs := [.ref 61, wp_i x, wp_i b]) ⟨⟨61, rfl, rfl⟩, fd_xag, fd_bag hb, trivial⟩ (show (0 : Int) + 0 ≤ ((1198 : Nat) : Int) by decide) (by decide) (by omega) (by rw [jn_144]; rfl) (by decide)) (ws_tell hx hb hn V)) ?_
  rintro v h1 ⟨⟨-, k2, k3, -⟩, rfl, ⟨fs', g1, -, -, -, g5⟩, ⟨g6, -⟩, ⟨g7, -⟩, f⟩
  exact ⟨rfl, lw_le k2 (by omega), k3, ⟨⟨fs', g1, g5⟩, g6, g7⟩, fd_S_fr (f 83 (by decide) (by decide) (by decide)) (f 84 (by decide) (by decide) (by decide)) (f 85 (by decide) (by decide) (by decide)) x2, fd_G_fr (f 139 (by decide) (by decide) (by decide)) x3, fd_G_fr (f 140 (by decide) (by decide) (by decide)) x4⟩
theorem lx_300 (AM : lw_AM) {sl : List Value} {h : mj_H} {B x b : Int} {s s' : fd_s} {r r' : fd_r} (X : lw_X sl h B s s' r r') (hB : B ≤ 2147483647) (hx : wp_r x) (hb : b = 0 ∨ b = 1) (hn : 0 ≤ r.1 ∧ r.1 ≤ 8) : wp_R 1199 300 0 [some (.ref 138), some (wp_i x), some (wp_i b)] [] h (fun v h1 => v = some (wp_i (fd_a x r.1)) ∧ lw_X sl h1 B s s' (fr_f x b r) r') := by
  obtain ⟨I, P, x1, x2, ⟨vs, v1, v3, v4⟩, x4⟩ := X
  obtain ⟨vs', v1', v2, -⟩ := fd_21 I.1 (a := 139) rfl
  rw [v1] at v1'
  cases v1'
  have V : fd_A h h r.1 vs := ⟨P.2.2.2.2.1, ⟨v1, v2, v3⟩, fun _ _ => rfl⟩
  refine wp_mono (wp_and (lw_K0 (n := 0) I P (AM 1199 300 sx_K300 rfl) (vs := [.ref 138, wp_i x, wp_i b]) ⟨⟨138, rfl, rfl⟩, fd_xag, fd_bag hb, trivial⟩ (show (1 : Int) + 0 ≤ ((1199 : Nat) : Int) by decide) (by decide) (by omega) (by rw [jn_300]; rfl) (by decide)) (ws_found (d := 1198) hx hb hn V)) ?_
  rintro v h1 ⟨⟨-, k2, k3, -⟩, rfl, -, ⟨g1, -, g3⟩, f⟩
  exact ⟨rfl, lw_le k2 (by omega), k3, fd_S_fr (f 61 (by decide)) (f 62 (by decide)) (f 63 (by decide)) x1, fd_S_fr (f 83 (by decide)) (f 84 (by decide)) (f 85 (by decide)) x2, ⟨_, g1, g3, fd_wr hn v2 v4⟩, fd_G_fr (f 140 (by decide)) x4⟩
/-! the class's copy of what was found -/
def f4_I (h0 h : mj_H) (b1 c1 : Nat) (ps bs : List Value) (k k' : Nat) : Prop := (∃ us, h[b1]? = some (1000, us) ∧ us.length = 8 ∧ ∀ j, j < k → us[j]? = ps[j]?) ∧ (∃ us, h[c1]? = some (1001, us) ∧ us.length = 8 ∧ ∀ j, j < k' → us[j]? = bs[j]?) ∧ ∀ a, a ≠ b1 → a ≠ c1 → h[a]? = h0[a]?
section WP4
variable {d m pc : Nat} {lv : mj_L} {st : List Value} {h h0 : mj_H} {Q : Option Value → mj_H → Prop} {b1 c1 k k' : Nat} {ps bs : List Value}
theorem f4_sp {x y : Int} (V : f4_I h0 h b1 c1 ps bs k k') (hbc : b1 ≠ c1) (hn0 : mj_n0 ≤ b1) (hi : mj_ins m pc = some .iastore) (hk : k < 8) (hx : x = (k : Int)) (hp : ps[k]? = some (wp_i y)) (hr : ∀ h, f4_I h0 h b1 c1 ps bs (k + 1) k' → wp_R d m (pc + 1) lv st h Q) : wp_R d m pc lv (wp_i y :: wp_i x :: .ref b1 :: st) h Q := by
  obtain ⟨⟨us, u1, u2, u3⟩, ⟨ws, w1, w2, w3⟩, f⟩ := V
  subst hx
  refine wp_ias hi u1 hn0 (by omega) (by omega) (by omega) (hr _ ⟨⟨us.set (k : Int).toNat (wp_i y), List.getElem?_set_self (fd_lt u1), by rw [List.length_set]; exact u2, fun j hj => ?_⟩, ⟨ws, ?_, w2, w3⟩, fun a h1 h2 => ?_⟩)
  · rw [show (k : Int).toNat = k by omega]
    by_cases e : k = j
    · subst e
      rw [List.getElem?_set_self (by omega)]
      exact hp.symm
    · rw [List.getElem?_set_ne e]
      exact u3 j (by omega)
  · rw [List.getElem?_set_ne hbc]; exact w1
  · rw [List.getElem?_set_ne (Ne.symm h1)]; exact f a h1 h2
theorem f4_sb {x y : Int} (V : f4_I h0 h b1 c1 ps bs k k') (hbc : b1 ≠ c1) (hn0 : mj_n0 ≤ c1) (hi : mj_ins m pc = some .bastore) (hk : k' < 8) (hx : x = (k' : Int)) (hy : y = 0 ∨ y = 1) (hp : bs[k']? = some (wp_i y)) (hr : ∀ h, f4_I h0 h b1 c1 ps bs k (k' + 1) → wp_R d m (pc + 1) lv st h Q) : wp_R d m pc lv (wp_i y :: wp_i x :: .ref c1 :: st) h Q := by
  obtain ⟨⟨us, u1, u2, u3⟩, ⟨ws, w1, w2, w3⟩, f⟩ := V
  subst hx
  refine wp_bas hi w1 hn0 (by omega) (by omega) (by omega) hy (hr _ ⟨⟨us, ?_, u2, u3⟩, ⟨ws.set (k' : Int).toNat (wp_i y), List.getElem?_set_self (fd_lt w1), by rw [List.length_set]; exact w2, fun j hj => ?_⟩, fun a h1 h2 => ?_⟩)
  · rw [List.getElem?_set_ne (Ne.symm hbc)]; exact u1
  · rw [show (k' : Int).toNat = k' by omega]
    by_cases e : k' = j
    · subst e
      rw [List.getElem?_set_self (by omega)]
      exact hp.symm
    · rw [List.getElem?_set_ne e]
      exact w3 j (by omega)
  · rw [List.getElem?_set_ne (Ne.symm h2)]; exact f a h1 h2
end WP4
def f4_Q (h0 : mj_H) (a1 b1 c1 : Nat) (n : Int) (ps bs : List Value) : Option Value → mj_H → Prop := fun v h1 => v = none ∧ fd_c h1 a1 6 3 (wp_i n) ∧ h1[b1]? = some (1000, ps) ∧ h1[c1]? = some (1001, bs) ∧ ∀ a, a ≠ a1 → a ≠ b1 → a ≠ c1 → h1[a]? = h0[a]?
theorem f4_loop {d : Nat} {h0 : mj_H} {a1 b1 c1 a2 b2 c2 : Nat} {x : Int} {fs gs ps bs : List Value} (N : (a1 ≠ b1 ∧ a1 ≠ c1 ∧ b1 ≠ c1) ∧ (a2 ≠ b1 ∧ a2 ≠ c1) ∧ (b2 ≠ b1 ∧ b2 ≠ c1) ∧ c2 ≠ b1 ∧ c2 ≠ c1) (n0 : mj_n0 ≤ a1 ∧ mj_n0 ≤ b1 ∧ mj_n0 ≤ c1) (A1 : h0[a1]? = some (6, fs)) (A1l : fs.length = 4) (F0 : fs[0]? = some (.ref b1)) (F1 : fs[1]? = some (.ref c1)) (A2 : h0[a2]? = some (6, gs)) (G0 : gs[0]? = some (.ref b2)) (G1 : gs[1]? = some (.ref c2)) (G3 : gs[3]? = some (wp_i x)) (B2 : h0[b2]? = some (1000, ps)) (hps : ps.length = 8) (C2 : h0[c2]? = some (1001, bs)) (hbs : bs.length = 8) (hp : ∀ k, k < 8 → ps[k]? = some (wp_i (sx_el ps k))) (hb : ∀ k, k < 8 → bs[k]? = some (wp_i (sx_el bs k)) ∧ (sx_el bs k = 0 ∨ sx_el bs k = 1)) : ∀ (n k : Nat) (h : mj_H), k + n = 8 → f4_I h0 h b1 c1 ps bs k k → wp_R d 164 2 [some (.ref a1), some (.ref a2), some (wp_i (k : Int))] [] h (f4_Q h0 a1 b1 c1 x ps bs) := by
  obtain ⟨⟨n1, n2, n3⟩, ⟨n4, n5⟩, ⟨n6, n7⟩, n8, n9⟩ := N
  intro n
  induction n with
  | zero =>
    intro k h hk V
    have hk : k = 8 := by omega
    subst hk
    refine wp_s (pc' := 3) ji_164_2 rfl rfl rfl ?_
    refine wp_bp ji_164_3 rfl ?_
    refine wp_icmp (t := 38) ji_164_5 rfl (by omega) (by omega) (fun _ => ?_) (fun (q : ¬ ((8 : Int) ≤ ((8 : Nat) : Int))) => (by exfalso; omega))
    refine wp_s (pc' := 39) ji_164_38 rfl rfl rfl ?_
    refine wp_s (pc' := 40) ji_164_39 rfl rfl rfl ?_
    obtain ⟨⟨us, u1, u2, u3⟩, ⟨ws, w1, w2, w3⟩, f⟩ := V
    refine wp_gf ji_164_40 jf_164_22 ((f a2 n4 n5).trans A2) G3 ?_
    refine wp_pf ji_164_43 jf_164_22 ((f a1 n1 n2).trans A1) n0.1 (by omega) rfl rfl ?_
    have e1 : us = ps := List.ext_getElem? (fun j => by
      by_cases q : j < 8
      · exact u3 j q
      · rw [List.getElem?_eq_none (by omega), List.getElem?_eq_none (by omega)])
    have e2 : ws = bs := List.ext_getElem? (fun j => by
      by_cases q : j < 8
      · exact w3 j q
      · rw [List.getElem?_eq_none (by omega), List.getElem?_eq_none (by omega)])
    subst e1 e2
    have hA := (f a1 n1 n2).trans A1
    refine wp_rv ji_164_46 jr_164 ⟨rfl, ⟨_, List.getElem?_set_self (fd_lt hA), List.getElem?_set_self (by omega)⟩, ?_, ?_, fun a h1 h2 h3 => ?_⟩
    · rw [List.getElem?_set_ne n1]; exact u1
    · rw [List.getElem?_set_ne n2]; exact w1
    · rw [List.getElem?_set_ne (Ne.symm h1)]; exact f a h2 h3
  | succ n ih =>
    intro k h hk V
    refine wp_s (pc' := 3) ji_164_2 rfl rfl rfl ?_
    refine wp_bp ji_164_3 rfl ?_
    refine wp_icmp (t := 38) ji_164_5 rfl (by omega) (by omega) (fun (q : (8 : Int) ≤ (k : Int)) => (by exfalso; omega)) (fun _ => ?_)
    refine wp_s (pc' := 9) ji_164_8 rfl rfl rfl ?_
    refine wp_gf ji_164_9 jf_164_11 ((V.2.2 a1 n1 n2).trans A1) F0 ?_
    refine wp_s (pc' := 13) ji_164_12 rfl rfl rfl ?_
    refine wp_s (pc' := 14) ji_164_13 rfl rfl rfl ?_
    refine wp_gf ji_164_14 jf_164_11 ((V.2.2 a2 n4 n5).trans A2) G0 ?_
    refine wp_s (pc' := 18) ji_164_17 rfl rfl rfl ?_
    refine wp_ial (x := (k : Int)) ji_164_18 ((V.2.2 b2 n6 n7).trans B2) (by omega) (by omega) (by omega) (hp (k : Int).toNat (by omega)) ?_
    refine f4_sp V n3 n0.2.1 ji_164_19 (by omega) rfl (by rw [show (k : Int).toNat = k by omega]; exact hp k (by omega)) (fun h V => ?_)
    refine wp_s (pc' := 21) ji_164_20 rfl rfl rfl ?_
    refine wp_gf ji_164_21 jf_164_15 ((V.2.2 a1 n1 n2).trans A1) F1 ?_
    refine wp_s (pc' := 25) ji_164_24 rfl rfl rfl ?_
    refine wp_s (pc' := 26) ji_164_25 rfl rfl rfl ?_
    refine wp_gf ji_164_26 jf_164_15 ((V.2.2 a2 n4 n5).trans A2) G1 ?_
    refine wp_s (pc' := 30) ji_164_29 rfl rfl rfl ?_
    refine wp_bal (x := (k : Int)) ji_164_30 ((V.2.2 c2 n8 n9).trans C2) (by omega) (by omega) (by omega) (hb (k : Int).toNat (by omega)).1 ?_
    refine f4_sb V n3 n0.2.2 ji_164_31 (by omega) rfl (hb (k : Int).toNat (by omega)).2 (by rw [show (k : Int).toNat = k by omega]; exact (hb k (by omega)).1) (fun h V => ?_)
    refine wp_iinc (x := (k : Int)) (z := ((k + 1 : Nat) : Int)) (lv' := [some (.ref a1), some (.ref a2), some (wp_i ((k + 1 : Nat) : Int))]) ji_164_32 rfl (Nat.le_of_ble_eq_true rfl) (by omega) rfl ?_
    refine wp_goto (t := 2) ji_164_35 rfl ?_
    exact ih (k + 1) h (by omega) V
theorem f4_run {d : Nat} {h0 : mj_H} {a1 b1 c1 a2 b2 c2 : Nat} {x : Int} {fs gs ps bs us ws : List Value} (N : (a1 ≠ b1 ∧ a1 ≠ c1 ∧ b1 ≠ c1) ∧ (a2 ≠ b1 ∧ a2 ≠ c1) ∧ (b2 ≠ b1 ∧ b2 ≠ c1) ∧ c2 ≠ b1 ∧ c2 ≠ c1) (n0 : mj_n0 ≤ a1 ∧ mj_n0 ≤ b1 ∧ mj_n0 ≤ c1) (A1 : h0[a1]? = some (6, fs)) (A1l : fs.length = 4) (F0 : fs[0]? = some (.ref b1)) (F1 : fs[1]? = some (.ref c1)) (A2 : h0[a2]? = some (6, gs)) (G0 : gs[0]? = some (.ref b2)) (G1 : gs[1]? = some (.ref c2)) (G3 : gs[3]? = some (wp_i x)) (B2 : h0[b2]? = some (1000, ps)) (hps : ps.length = 8) (C2 : h0[c2]? = some (1001, bs)) (hbs : bs.length = 8) (hp : ∀ k, k < 8 → ps[k]? = some (wp_i (sx_el ps k))) (hb : ∀ k, k < 8 → bs[k]? = some (wp_i (sx_el bs k)) ∧ (sx_el bs k = 0 ∨ sx_el bs k = 1)) (B1 : h0[b1]? = some (1000, us)) (hus : us.length = 8) (C1 : h0[c1]? = some (1001, ws)) (hws : ws.length = 8) : wp_R d 164 0 [some (.ref a1), some (.ref a2), none] [] h0 (f4_Q h0 a1 b1 c1 x ps bs) := by
  refine wp_s (pc' := 1) ji_164_0 rfl rfl rfl ?_
  refine wp_s (pc' := 2) (lv' := [some (.ref a1), some (.ref a2), some (wp_i ((0 : Nat) : Int))]) ji_164_1 rfl rfl rfl ?_
  exact f4_loop N n0 A1 A1l F0 F1 A2 G0 G1 G3 B2 hps C2 hbs hp hb 8 0 h0 rfl ⟨⟨us, B1, hus, fun j q => (by omega)⟩, ⟨ws, C1, hws, fun j q => (by omega)⟩, fun _ _ _ => rfl⟩
theorem lx_164a (AM : lw_AM) {sl : List Value} {h : mj_H} {B : Int} {s s' : fd_s} {r r' : fd_r} (X : lw_X sl h B s s' r r') (hB : B ≤ 2147483647) : wp_R 1197 164 0 [some (.ref 83), some (.ref 61), none] [] h (fun v h1 => v = none ∧ lw_X sl h1 B s s r r') := by
  obtain ⟨I, P, x1, x2, x3, x4⟩ := X
  obtain ⟨fs, f1, f2⟩ := fd_48 I.1 (a := 83) rfl
  obtain ⟨gs, g1, g2⟩ := fd_48 I.1 (a := 61) rfl
  obtain ⟨us, u1, u2, -⟩ := fd_49 I.1 (a := 84) rfl
  obtain ⟨ws, w1, w2, -⟩ := fd_50 I.1 (a := 85) rfl
  have p1 := x1.2.1
  have b1 := x1.2.2
  have pp := fd_49' I.1 (a := 62) rfl p1
  have bb := fd_50' I.1 (a := 63) rfl b1
  have p2 := pp.1
  have p3 := fun k hk => (pp.2 k hk).1
  have b2 := bb.1
  have b3 := bb.2
  refine wp_mono (wp_and (lw_K0 (n := 0) I P (AM 1197 164 sx_K164 rfl) (vs := [.ref 83, .ref 61]) ⟨⟨83, rfl, rfl⟩, ⟨61, rfl, rfl⟩, trivial⟩ (show (0 : Int) + 0 ≤ ((1197 : Nat) : Int) by decide) (by decide) (by omega) (by rw [jn_164]; rfl) (by decide)) (f4_run (a1 := 83) (b1 := 84) (c1 := 85) (a2 := 61) (b2 := 62) (c2 := 63) (by decide) (by decide) f1 f2 (fd_at P.2.2.2.2.2.2.2.2.1 f1) (fd_at P.2.2.2.2.2.2.2.2.2.1 f1) g1 (fd_at P.2.2.2.2.2.2.1 g1) (fd_at P.2.2.2.2.2.2.2.1 g1) (fd_at x1.1 g1) p1 p2 b1 b2 p3 b3 u1 u2 w1 w2)) ?_
  rintro v h1 ⟨⟨-, k2, k3, -⟩, rfl, g1, g3, g4, f⟩
  exact ⟨rfl, lw_le k2 (by omega), k3, fd_S_fr (f 61 (by decide) (by decide) (by decide)) (f 62 (by decide) (by decide) (by decide)) (f 63 (by decide) (by decide) (by decide)) x1, ⟨g1, g3, g4⟩, fd_G_fr (f 139 (by decide) (by decide) (by decide)) x3, fd_G_fr (f 140 (by decide) (by decide) (by decide)) x4⟩
theorem lx_164b (AM : lw_AM) {sl : List Value} {h : mj_H} {B : Int} {s s' : fd_s} {r r' : fd_r} (X : lw_X sl h B s s' r r') (hB : B ≤ 2147483647) : wp_R 1197 164 0 [some (.ref 61), some (.ref 83), none] [] h (fun v h1 => v = none ∧ lw_X sl h1 B s' s' r r') := by
  obtain ⟨I, P, x1, x2, x3, x4⟩ := X
  obtain ⟨fs, f1, f2⟩ := fd_48 I.1 (a := 61) rfl
  obtain ⟨gs, g1, g2⟩ := fd_48 I.1 (a := 83) rfl
  obtain ⟨us, u1, u2, -⟩ := fd_49 I.1 (a := 62) rfl
  obtain ⟨ws, w1, w2, -⟩ := fd_50 I.1 (a := 63) rfl
  have p1 := x2.2.1
  have b1 := x2.2.2
  have pp := fd_49' I.1 (a := 84) rfl p1
  have bb := fd_50' I.1 (a := 85) rfl b1
  have p2 := pp.1
  have p3 := fun k hk => (pp.2 k hk).1
  have b2 := bb.1
  have b3 := bb.2
  refine wp_mono (wp_and (lw_K0 (n := 0) I P (AM 1197 164 sx_K164 rfl) (vs := [.ref 61, .ref 83]) ⟨⟨61, rfl, rfl⟩, ⟨83, rfl, rfl⟩, trivial⟩ (show (0 : Int) + 0 ≤ ((1197 : Nat) : Int) by decide) (by decide) (by omega) (by rw [jn_164]; rfl) (by decide)) (f4_run (a1 := 61) (b1 := 62) (c1 := 63) (a2 := 83) (b2 := 84) (c2 := 85) (by decide) (by decide) f1 f2 (fd_at P.2.2.2.2.2.2.1 f1) (fd_at P.2.2.2.2.2.2.2.1 f1) g1 (fd_at P.2.2.2.2.2.2.2.2.1 g1) (fd_at P.2.2.2.2.2.2.2.2.2.1 g1) (fd_at x2.1 g1) p1 p2 b1 b2 p3 b3 u1 u2 w1 w2)) ?_
  rintro v h1 ⟨⟨-, k2, k3, -⟩, rfl, g1, g3, g4, f⟩
  exact ⟨rfl, lw_le k2 (by omega), k3, ⟨g1, g3, g4⟩, fd_S_fr (f 83 (by decide) (by decide) (by decide)) (f 84 (by decide) (by decide) (by decide)) (f 85 (by decide) (by decide) (by decide)) x2, fd_G_fr (f 139 (by decide) (by decide) (by decide)) x3, fd_G_fr (f 140 (by decide) (by decide) (by decide)) x4⟩
def lx_K162 : sx_K := ([(2, 43, 0), (2, 43, 0)], none, (0, []), [402, 10044, 10045])
set_option maxRecDepth 100000 in
theorem lx_k162 : sx_chk sx_PP 162 lx_K162 [] 3000 = true := by decide +kernel
theorem lx_M162 (AM : lw_AM) (d : Nat) : sx_M sx_PP d 162 lx_K162 := sx_chk_ok (fun d' _ c K hK => AM d' c K hK) lx_k162
def lx_K163 : sx_K := ([(2, 46, 0), (2, 46, 0)], none, (0, []), [501, 502, 10047])
set_option maxRecDepth 100000 in
theorem lx_k163 : sx_chk sx_PP 163 lx_K163 [] 3000 = true := by decide +kernel
theorem lx_M163 (AM : lw_AM) (d : Nat) : sx_M sx_PP d 163 lx_K163 := sx_chk_ok (fun d' _ c K hK => AM d' c K hK) lx_k163
def lx_K165 : sx_K := ([(2, 52, 0), (2, 52, 0)], none, (0, []), [703, 10053, 10054])
set_option maxRecDepth 100000 in
theorem lx_k165 : sx_chk sx_PP 165 lx_K165 [] 3000 = true := by decide +kernel
theorem lx_M165 (AM : lw_AM) (d : Nat) : sx_M sx_PP d 165 lx_K165 := sx_chk_ok (fun d' _ c K hK => AM d' c K hK) lx_k165
theorem lx_161a (AM : lw_AM) {sl : List Value} {h : mj_H} {B : Int} {s s' : fd_s} {r r' : fd_r} (X : lw_X sl h B s s' r r') (hB : B ≤ 2147483647) : wp_R 1198 161 0 [some (.ref 69), some (.ref 47)] [] h (fun v h1 => v = none ∧ lw_X sl h1 B s s r r') := by
  refine wp_mono (wp_and (lw_K0 (n := 0) X.1 X.2.1 (AM 1198 161 sx_K161 rfl) (vs := [.ref 69, .ref 47]) ⟨⟨69, rfl, rfl⟩, ⟨47, rfl, rfl⟩, trivial⟩ (show (2 : Int) + 0 ≤ ((1198 : Nat) : Int) by decide) (by decide) (by omega) (by rw [jn_161]; rfl) (by decide)) (Q2 := fun v h1 => v = none ∧ fd_S h1 61 s ∧ fd_S h1 83 s ∧ fd_G h1 139 r ∧ fd_G h1 140 r') ?_) (by
    rintro v h1 ⟨⟨-, k2, k3, -⟩, rfl, w⟩
    exact ⟨rfl, lw_le k2 (by omega), k3, w⟩)
  obtain ⟨fs, f1, f2, ⟨r0, f3, f4⟩, ⟨r1, f5, f6⟩, ⟨r2, f7, f8⟩, ⟨r4, f9, f10⟩, -⟩ := fd_34 X.1.1 (a := 69) rfl
  obtain ⟨gs, g1, g2, ⟨s0, g3, g4⟩, ⟨s1, g5, g6⟩, ⟨s2, g7, g8⟩, ⟨s4, g9, g10⟩, -⟩ := fd_34 X.1.1 (a := 47) rfl
  refine wp_s (pc' := 1) ji_161_0 rfl rfl rfl ?_
  refine wp_gf ji_161_1 jf_161_12 f1 f3 ?_
  refine wp_s (pc' := 5) ji_161_4 rfl rfl rfl ?_
  refine wp_gf ji_161_5 jf_161_12 g1 g3 ?_
  obtain ⟨cs, hc⟩ := fd_cell X.1.1 (a := r0) (t := 35) (ty := sx_y35) f4 rfl
  refine wp_vc (d := 1197) (as := [.ref r0, .ref s0]) (rest := []) ji_161_8 jc_161_57 rfl hc jk_106.symm (Nat.le_of_ble_eq_true rfl) rfl (by rw [jn_106]; rfl) (lw_KX X (n := 0) (AM 1197 106 sx_K106 rfl) (vs := [.ref r0, .ref s0]) ⟨⟨r0, rfl, f4⟩, ⟨s0, rfl, g4⟩, trivial⟩ (show (1 : Int) + 0 ≤ ((1197 : Nat) : Int) by decide) (by decide) (by omega) (by rw [jn_106]; rfl) (by decide)) (fun v h R => ?_)
  obtain ⟨e, X⟩ := R
  have e : v = none := e
  subst e
  have X := lw_Xle X (show B + ((0 : Nat) : Int) ≤ B by omega)
  show wp_R 1198 161 11 [some (.ref 69), some (.ref 47)] [] h _
  obtain ⟨fs, f1, f2, ⟨r0, f3, f4⟩, ⟨r1, f5, f6⟩, ⟨r2, f7, f8⟩, ⟨r4, f9, f10⟩, -⟩ := fd_34 X.1.1 (a := 69) rfl
  obtain ⟨gs, g1, g2, ⟨s0, g3, g4⟩, ⟨s1, g5, g6⟩, ⟨s2, g7, g8⟩, ⟨s4, g9, g10⟩, -⟩ := fd_34 X.1.1 (a := 47) rfl
  refine wp_s (pc' := 12) ji_161_11 rfl rfl rfl ?_
  refine wp_gf ji_161_12 jf_161_21 f1 f5 ?_
  refine wp_s (pc' := 16) ji_161_15 rfl rfl rfl ?_
  refine wp_gf ji_161_16 jf_161_21 g1 g5 ?_
  obtain ⟨cs, hc⟩ := fd_cell X.1.1 (a := r1) (t := 43) (ty := sx_y43) f6 rfl
  refine wp_vc (d := 1197) (as := [.ref r1, .ref s1]) (rest := []) ji_161_19 jc_161_61 rfl hc jk_162.symm (Nat.le_of_ble_eq_true rfl) rfl (by rw [jn_162]; rfl) (lw_KX X (n := 0) (lx_M162 AM 1197) (vs := [.ref r1, .ref s1]) ⟨⟨r1, rfl, f6⟩, ⟨s1, rfl, g6⟩, trivial⟩ (show (0 : Int) + 0 ≤ ((1197 : Nat) : Int) by decide) (by decide) (by omega) (by rw [jn_162]; rfl) (by decide)) (fun v h R => ?_)
  obtain ⟨e, X⟩ := R
  have e : v = none := e
  subst e
  have X := lw_Xle X (show B + ((0 : Nat) : Int) ≤ B by omega)
  show wp_R 1198 161 22 [some (.ref 69), some (.ref 47)] [] h _
  obtain ⟨fs, f1, f2, ⟨r0, f3, f4⟩, ⟨r1, f5, f6⟩, ⟨r2, f7, f8⟩, ⟨r4, f9, f10⟩, -⟩ := fd_34 X.1.1 (a := 69) rfl
  obtain ⟨gs, g1, g2, ⟨s0, g3, g4⟩, ⟨s1, g5, g6⟩, ⟨s2, g7, g8⟩, ⟨s4, g9, g10⟩, -⟩ := fd_34 X.1.1 (a := 47) rfl
  refine wp_s (pc' := 23) ji_161_22 rfl rfl rfl ?_
  refine wp_gf ji_161_23 jf_161_28 f1 f7 ?_
  refine wp_s (pc' := 27) ji_161_26 rfl rfl rfl ?_
  refine wp_gf ji_161_27 jf_161_28 g1 g7 ?_
  obtain ⟨cs, hc⟩ := fd_cell X.1.1 (a := r2) (t := 46) (ty := sx_y46) f8 rfl
  refine wp_vc (d := 1197) (as := [.ref r2, .ref s2]) (rest := []) ji_161_30 jc_161_64 rfl hc jk_163.symm (Nat.le_of_ble_eq_true rfl) rfl (by rw [jn_163]; rfl) (lw_KX X (n := 0) (lx_M163 AM 1197) (vs := [.ref r2, .ref s2]) ⟨⟨r2, rfl, f8⟩, ⟨s2, rfl, g8⟩, trivial⟩ (show (0 : Int) + 0 ≤ ((1197 : Nat) : Int) by decide) (by decide) (by omega) (by rw [jn_163]; rfl) (by decide)) (fun v h R => ?_)
  obtain ⟨e, X⟩ := R
  have e : v = none := e
  subst e
  have X := lw_Xle X (show B + ((0 : Nat) : Int) ≤ B by omega)
  show wp_R 1198 161 33 [some (.ref 69), some (.ref 47)] [] h _
  obtain ⟨fs, f1, f2, ⟨r0, f3, f4⟩, ⟨r1, f5, f6⟩, ⟨r2, f7, f8⟩, ⟨r4, f9, f10⟩, -⟩ := fd_34 X.1.1 (a := 69) rfl
  obtain ⟨gs, g1, g2, ⟨s0, g3, g4⟩, ⟨s1, g5, g6⟩, ⟨s2, g7, g8⟩, ⟨s4, g9, g10⟩, -⟩ := fd_34 X.1.1 (a := 47) rfl
  have P := X.2.1
  refine wp_s (pc' := 34) ji_161_33 rfl rfl rfl ?_
  refine wp_gf ji_161_34 jf_161_35 f1 (fd_at P.2.2.2.1 f1) ?_
  refine wp_s (pc' := 38) ji_161_37 rfl rfl rfl ?_
  refine wp_gf ji_161_38 jf_161_35 g1 (fd_at P.2.2.1 g1) ?_
  obtain ⟨cs, hc⟩ := fd_cell X.1.1 (a := 83) (t := 48) (ty := sx_y48) rfl rfl
  refine wp_vc (d := 1197) (as := [.ref 83, .ref 61]) (rest := []) ji_161_41 jc_161_67 rfl hc jk_164.symm (Nat.le_of_ble_eq_true rfl) rfl (by rw [jn_164]; rfl) (lx_164a AM X hB) (fun v h R => ?_)
  obtain ⟨e, X⟩ := R
  have e : v = none := e
  subst e
  show wp_R 1198 161 44 [some (.ref 69), some (.ref 47)] [] h _
  obtain ⟨fs, f1, f2, ⟨r0, f3, f4⟩, ⟨r1, f5, f6⟩, ⟨r2, f7, f8⟩, ⟨r4, f9, f10⟩, -⟩ := fd_34 X.1.1 (a := 69) rfl
  obtain ⟨gs, g1, g2, ⟨s0, g3, g4⟩, ⟨s1, g5, g6⟩, ⟨s2, g7, g8⟩, ⟨s4, g9, g10⟩, -⟩ := fd_34 X.1.1 (a := 47) rfl
  refine wp_s (pc' := 45) ji_161_44 rfl rfl rfl ?_
  refine wp_gf ji_161_45 jf_161_42 f1 f9 ?_
  refine wp_s (pc' := 49) ji_161_48 rfl rfl rfl ?_
  refine wp_gf ji_161_49 jf_161_42 g1 g9 ?_
  obtain ⟨cs, hc⟩ := fd_cell X.1.1 (a := r4) (t := 52) (ty := sx_y52) f10 rfl
  refine wp_vc (d := 1197) (as := [.ref r4, .ref s4]) (rest := []) ji_161_52 jc_161_70 rfl hc jk_165.symm (Nat.le_of_ble_eq_true rfl) rfl (by rw [jn_165]; rfl) (lw_KX X (n := 0) (lx_M165 AM 1197) (vs := [.ref r4, .ref s4]) ⟨⟨r4, rfl, f10⟩, ⟨s4, rfl, g10⟩, trivial⟩ (show (0 : Int) + 0 ≤ ((1197 : Nat) : Int) by decide) (by decide) (by omega) (by rw [jn_165]; rfl) (by decide)) (fun v h R => ?_)
  obtain ⟨e, X⟩ := R
  have e : v = none := e
  subst e
  have X := lw_Xle X (show B + ((0 : Nat) : Int) ≤ B by omega)
  show wp_R 1198 161 55 [some (.ref 69), some (.ref 47)] [] h _
  obtain ⟨fs, f1, f2, -⟩ := fd_34 X.1.1 (a := 69) rfl
  obtain ⟨gs, g1, g2, -, -, -, -, ⟨z6, g6⟩, ⟨z7, g7⟩⟩ := fd_34 X.1.1 (a := 47) rfl
  refine wp_s (pc' := 56) ji_161_55 rfl rfl rfl ?_
  refine wp_s (pc' := 57) ji_161_56 rfl rfl rfl ?_
  refine wp_gf ji_161_57 jf_161_46 g1 g6 ?_
  refine wp_pf ji_161_60 jf_161_46 f1 (by decide) (by omega) rfl rfl ?_
  refine wp_s (pc' := 64) ji_161_63 rfl rfl rfl ?_
  refine wp_s (pc' := 65) ji_161_64 rfl rfl rfl ?_
  refine wp_gf ji_161_65 jf_161_50 (by rw [List.getElem?_set_ne (by decide)]; exact g1) g7 ?_
  refine wp_pf ji_161_68 jf_161_50 (List.getElem?_set_self (fd_lt f1)) (by decide) (by rw [List.length_set]; omega) rfl rfl ?_
  obtain ⟨-, -, x1, x2, x3, x4⟩ := X
  exact wp_rv ji_161_71 jr_161 ⟨rfl, fd_S_cs (by decide) (by decide) (by decide) (fd_S_cs (by decide) (by decide) (by decide) x1), fd_S_cs (by decide) (by decide) (by decide) (fd_S_cs (by decide) (by decide) (by decide) x2), fd_G_cs (by decide) (fd_G_cs (by decide) x3), fd_G_cs (by decide) (fd_G_cs (by decide) x4)⟩
theorem lx_161b (AM : lw_AM) {sl : List Value} {h : mj_H} {B : Int} {s s' : fd_s} {r r' : fd_r} (X : lw_X sl h B s s' r r') (hB : B ≤ 2147483647) : wp_R 1198 161 0 [some (.ref 47), some (.ref 69)] [] h (fun v h1 => v = none ∧ lw_X sl h1 B s' s' r r') := by
  refine wp_mono (wp_and (lw_K0 (n := 0) X.1 X.2.1 (AM 1198 161 sx_K161 rfl) (vs := [.ref 47, .ref 69]) ⟨⟨47, rfl, rfl⟩, ⟨69, rfl, rfl⟩, trivial⟩ (show (2 : Int) + 0 ≤ ((1198 : Nat) : Int) by decide) (by decide) (by omega) (by rw [jn_161]; rfl) (by decide)) (Q2 := fun v h1 => v = none ∧ fd_S h1 61 s' ∧ fd_S h1 83 s' ∧ fd_G h1 139 r ∧ fd_G h1 140 r') ?_) (by
    rintro v h1 ⟨⟨-, k2, k3, -⟩, rfl, w⟩
    exact ⟨rfl, lw_le k2 (by omega), k3, w⟩)
  obtain ⟨fs, f1, f2, ⟨r0, f3, f4⟩, ⟨r1, f5, f6⟩, ⟨r2, f7, f8⟩, ⟨r4, f9, f10⟩, -⟩ := fd_34 X.1.1 (a := 47) rfl
  obtain ⟨gs, g1, g2, ⟨s0, g3, g4⟩, ⟨s1, g5, g6⟩, ⟨s2, g7, g8⟩, ⟨s4, g9, g10⟩, -⟩ := fd_34 X.1.1 (a := 69) rfl
  refine wp_s (pc' := 1) ji_161_0 rfl rfl rfl ?_
  refine wp_gf ji_161_1 jf_161_12 f1 f3 ?_
  refine wp_s (pc' := 5) ji_161_4 rfl rfl rfl ?_
  refine wp_gf ji_161_5 jf_161_12 g1 g3 ?_
  obtain ⟨cs, hc⟩ := fd_cell X.1.1 (a := r0) (t := 35) (ty := sx_y35) f4 rfl
  refine wp_vc (d := 1197) (as := [.ref r0, .ref s0]) (rest := []) ji_161_8 jc_161_57 rfl hc jk_106.symm (Nat.le_of_ble_eq_true rfl) rfl (by rw [jn_106]; rfl) (lw_KX X (n := 0) (AM 1197 106 sx_K106 rfl) (vs := [.ref r0, .ref s0]) ⟨⟨r0, rfl, f4⟩, ⟨s0, rfl, g4⟩, trivial⟩ (show (1 : Int) + 0 ≤ ((1197 : Nat) : Int) by decide) (by decide) (by omega) (by rw [jn_106]; rfl) (by decide)) (fun v h R => ?_)
  obtain ⟨e, X⟩ := R
  have e : v = none := e
  subst e
  have X := lw_Xle X (show B + ((0 : Nat) : Int) ≤ B by omega)
  show wp_R 1198 161 11 [some (.ref 47), some (.ref 69)] [] h _
  obtain ⟨fs, f1, f2, ⟨r0, f3, f4⟩, ⟨r1, f5, f6⟩, ⟨r2, f7, f8⟩, ⟨r4, f9, f10⟩, -⟩ := fd_34 X.1.1 (a := 47) rfl
  obtain ⟨gs, g1, g2, ⟨s0, g3, g4⟩, ⟨s1, g5, g6⟩, ⟨s2, g7, g8⟩, ⟨s4, g9, g10⟩, -⟩ := fd_34 X.1.1 (a := 69) rfl
  refine wp_s (pc' := 12) ji_161_11 rfl rfl rfl ?_
  refine wp_gf ji_161_12 jf_161_21 f1 f5 ?_
  refine wp_s (pc' := 16) ji_161_15 rfl rfl rfl ?_
  refine wp_gf ji_161_16 jf_161_21 g1 g5 ?_
  obtain ⟨cs, hc⟩ := fd_cell X.1.1 (a := r1) (t := 43) (ty := sx_y43) f6 rfl
  refine wp_vc (d := 1197) (as := [.ref r1, .ref s1]) (rest := []) ji_161_19 jc_161_61 rfl hc jk_162.symm (Nat.le_of_ble_eq_true rfl) rfl (by rw [jn_162]; rfl) (lw_KX X (n := 0) (lx_M162 AM 1197) (vs := [.ref r1, .ref s1]) ⟨⟨r1, rfl, f6⟩, ⟨s1, rfl, g6⟩, trivial⟩ (show (0 : Int) + 0 ≤ ((1197 : Nat) : Int) by decide) (by decide) (by omega) (by rw [jn_162]; rfl) (by decide)) (fun v h R => ?_)
  obtain ⟨e, X⟩ := R
  have e : v = none := e
  subst e
  have X := lw_Xle X (show B + ((0 : Nat) : Int) ≤ B by omega)
  show wp_R 1198 161 22 [some (.ref 47), some (.ref 69)] [] h _
  obtain ⟨fs, f1, f2, ⟨r0, f3, f4⟩, ⟨r1, f5, f6⟩, ⟨r2, f7, f8⟩, ⟨r4, f9, f10⟩, -⟩ := fd_34 X.1.1 (a := 47) rfl
  obtain ⟨gs, g1, g2, ⟨s0, g3, g4⟩, ⟨s1, g5, g6⟩, ⟨s2, g7, g8⟩, ⟨s4, g9, g10⟩, -⟩ := fd_34 X.1.1 (a := 69) rfl
  refine wp_s (pc' := 23) ji_161_22 rfl rfl rfl ?_
  refine wp_gf ji_161_23 jf_161_28 f1 f7 ?_
  refine wp_s (pc' := 27) ji_161_26 rfl rfl rfl ?_
  refine wp_gf ji_161_27 jf_161_28 g1 g7 ?_
  obtain ⟨cs, hc⟩ := fd_cell X.1.1 (a := r2) (t := 46) (ty := sx_y46) f8 rfl
  refine wp_vc (d := 1197) (as := [.ref r2, .ref s2]) (rest := []) ji_161_30 jc_161_64 rfl hc jk_163.symm (Nat.le_of_ble_eq_true rfl) rfl (by rw [jn_163]; rfl) (lw_KX X (n := 0) (lx_M163 AM 1197) (vs := [.ref r2, .ref s2]) ⟨⟨r2, rfl, f8⟩, ⟨s2, rfl, g8⟩, trivial⟩ (show (0 : Int) + 0 ≤ ((1197 : Nat) : Int) by decide) (by decide) (by omega) (by rw [jn_163]; rfl) (by decide)) (fun v h R => ?_)
  obtain ⟨e, X⟩ := R
  have e : v = none := e
  subst e
  have X := lw_Xle X (show B + ((0 : Nat) : Int) ≤ B by omega)
  show wp_R 1198 161 33 [some (.ref 47), some (.ref 69)] [] h _
  obtain ⟨fs, f1, f2, ⟨r0, f3, f4⟩, ⟨r1, f5, f6⟩, ⟨r2, f7, f8⟩, ⟨r4, f9, f10⟩, -⟩ := fd_34 X.1.1 (a := 47) rfl
  obtain ⟨gs, g1, g2, ⟨s0, g3, g4⟩, ⟨s1, g5, g6⟩, ⟨s2, g7, g8⟩, ⟨s4, g9, g10⟩, -⟩ := fd_34 X.1.1 (a := 69) rfl
  have P := X.2.1
  refine wp_s (pc' := 34) ji_161_33 rfl rfl rfl ?_
  refine wp_gf ji_161_34 jf_161_35 f1 (fd_at P.2.2.1 f1) ?_
  refine wp_s (pc' := 38) ji_161_37 rfl rfl rfl ?_
  refine wp_gf ji_161_38 jf_161_35 g1 (fd_at P.2.2.2.1 g1) ?_
  obtain ⟨cs, hc⟩ := fd_cell X.1.1 (a := 61) (t := 48) (ty := sx_y48) rfl rfl
  refine wp_vc (d := 1197) (as := [.ref 61, .ref 83]) (rest := []) ji_161_41 jc_161_67 rfl hc jk_164.symm (Nat.le_of_ble_eq_true rfl) rfl (by rw [jn_164]; rfl) (lx_164b AM X hB) (fun v h R => ?_)
  obtain ⟨e, X⟩ := R
  have e : v = none := e
  subst e
  show wp_R 1198 161 44 [some (.ref 47), some (.ref 69)] [] h _
  obtain ⟨fs, f1, f2, ⟨r0, f3, f4⟩, ⟨r1, f5, f6⟩, ⟨r2, f7, f8⟩, ⟨r4, f9, f10⟩, -⟩ := fd_34 X.1.1 (a := 47) rfl
  obtain ⟨gs, g1, g2, ⟨s0, g3, g4⟩, ⟨s1, g5, g6⟩, ⟨s2, g7, g8⟩, ⟨s4, g9, g10⟩, -⟩ := fd_34 X.1.1 (a := 69) rfl
  refine wp_s (pc' := 45) ji_161_44 rfl rfl rfl ?_
  refine wp_gf ji_161_45 jf_161_42 f1 f9 ?_
  refine wp_s (pc' := 49) ji_161_48 rfl rfl rfl ?_
  refine wp_gf ji_161_49 jf_161_42 g1 g9 ?_
  obtain ⟨cs, hc⟩ := fd_cell X.1.1 (a := r4) (t := 52) (ty := sx_y52) f10 rfl
  refine wp_vc (d := 1197) (as := [.ref r4, .ref s4]) (rest := []) ji_161_52 jc_161_70 rfl hc jk_165.symm (Nat.le_of_ble_eq_true rfl) rfl (by rw [jn_165]; rfl) (lw_KX X (n := 0) (lx_M165 AM 1197) (vs := [.ref r4, .ref s4]) ⟨⟨r4, rfl, f10⟩, ⟨s4, rfl, g10⟩, trivial⟩ (show (0 : Int) + 0 ≤ ((1197 : Nat) : Int) by decide) (by decide) (by omega) (by rw [jn_165]; rfl) (by decide)) (fun v h R => ?_)
  obtain ⟨e, X⟩ := R
  have e : v = none := e
  subst e
  have X := lw_Xle X (show B + ((0 : Nat) : Int) ≤ B by omega)
  show wp_R 1198 161 55 [some (.ref 47), some (.ref 69)] [] h _
  obtain ⟨fs, f1, f2, -⟩ := fd_34 X.1.1 (a := 47) rfl
  obtain ⟨gs, g1, g2, -, -, -, -, ⟨z6, g6⟩, ⟨z7, g7⟩⟩ := fd_34 X.1.1 (a := 69) rfl
  refine wp_s (pc' := 56) ji_161_55 rfl rfl rfl ?_
  refine wp_s (pc' := 57) ji_161_56 rfl rfl rfl ?_
  refine wp_gf ji_161_57 jf_161_46 g1 g6 ?_
  refine wp_pf ji_161_60 jf_161_46 f1 (by decide) (by omega) rfl rfl ?_
  refine wp_s (pc' := 64) ji_161_63 rfl rfl rfl ?_
  refine wp_s (pc' := 65) ji_161_64 rfl rfl rfl ?_
  refine wp_gf ji_161_65 jf_161_50 (by rw [List.getElem?_set_ne (by decide)]; exact g1) g7 ?_
  refine wp_pf ji_161_68 jf_161_50 (List.getElem?_set_self (fd_lt f1)) (by decide) (by rw [List.length_set]; omega) rfl rfl ?_
  obtain ⟨-, -, x1, x2, x3, x4⟩ := X
  exact wp_rv ji_161_71 jr_161 ⟨rfl, fd_S_cs (by decide) (by decide) (by decide) (fd_S_cs (by decide) (by decide) (by decide) x1), fd_S_cs (by decide) (by decide) (by decide) (fd_S_cs (by decide) (by decide) (by decide) x2), fd_G_cs (by decide) (fd_G_cs (by decide) x3), fd_G_cs (by decide) (fd_G_cs (by decide) x4)⟩
theorem lx_160 (AM : lw_AM) {sl : List Value} {h : mj_H} {B : Int} {s s' : fd_s} {r r' : fd_r} (X : lw_X sl h B s s' r r') (hB : B ≤ 2147483647) : wp_R 1199 160 0 [some (.ref 9)] [] h (fun v h1 => (∃ z, v = some (.int z)) ∧ lw_X sl h1 B s s r r') := by
  obtain ⟨fs, f1, f2⟩ := X.2.1.2.1
  obtain ⟨gs, g1, g2⟩ := X.2.1.1
  refine wp_s (pc' := 1) ji_160_0 rfl rfl rfl ?_
  refine wp_gf ji_160_1 jf_160_23 f1 f2 ?_
  refine wp_s (pc' := 5) ji_160_4 rfl rfl rfl ?_
  refine wp_gf ji_160_5 jf_160_19 g1 g2 ?_
  obtain ⟨cs, hc⟩ := fd_cell X.1.1 (a := 69) (t := 34) (ty := sx_y34) rfl rfl
  refine wp_vc (d := 1198) (as := [.ref 69, .ref 47]) (rest := []) ji_160_8 jc_160_322 rfl hc jk_161.symm (Nat.le_of_ble_eq_true rfl) rfl (by rw [jn_161]; rfl) (lx_161a AM X hB) (fun v h R => ?_)
  obtain ⟨rfl, X⟩ := R
  show wp_R 1199 160 11 [some (.ref 9)] [] h _
  obtain ⟨fs, f1, f2⟩ := X.2.1.1
  refine wp_s (pc' := 12) ji_160_11 rfl rfl rfl ?_
  refine wp_gf ji_160_12 jf_160_19 f1 f2 ?_
  obtain ⟨gs, g1, -, ⟨r, g2, g3⟩, -⟩ := fd_34 X.1.1 (a := 47) rfl
  refine wp_gf ji_160_15 jf_160_49 g1 g2 ?_
  obtain ⟨ks, k1, z, k2⟩ := fd_35 X.1.1 g3
  rw [wp_iz] at k2
  refine wp_gf ji_160_18 jf_160_98 k1 k2 ?_
  exact wp_ri ji_160_21 jr_160 rfl ⟨⟨_, rfl⟩, X⟩
theorem lx_166 (AM : lw_AM) {sl : List Value} {h : mj_H} {B : Int} {s s' : fd_s} {r r' : fd_r} (X : lw_X sl h B s s' r r') (hB : B ≤ 2147483647) : wp_R 1199 166 0 [some (.ref 9)] [] h (fun v h1 => (∃ z, v = some (.int z)) ∧ lw_X sl h1 B s' s' r r') := by
  obtain ⟨fs, f1, f2⟩ := X.2.1.1
  obtain ⟨gs, g1, g2⟩ := X.2.1.2.1
  refine wp_s (pc' := 1) ji_166_0 rfl rfl rfl ?_
  refine wp_gf ji_166_1 jf_166_19 f1 f2 ?_
  refine wp_s (pc' := 5) ji_166_4 rfl rfl rfl ?_
  refine wp_gf ji_166_5 jf_166_23 g1 g2 ?_
  obtain ⟨cs, hc⟩ := fd_cell X.1.1 (a := 47) (t := 34) (ty := sx_y34) rfl rfl
  refine wp_vc (d := 1198) (as := [.ref 47, .ref 69]) (rest := []) ji_166_8 jc_166_322 rfl hc jk_161.symm (Nat.le_of_ble_eq_true rfl) rfl (by rw [jn_161]; rfl) (lx_161b AM X hB) (fun v h R => ?_)
  obtain ⟨rfl, X⟩ := R
  show wp_R 1199 166 11 [some (.ref 9)] [] h _
  obtain ⟨fs, f1, f2⟩ := X.2.1.1
  refine wp_s (pc' := 12) ji_166_11 rfl rfl rfl ?_
  refine wp_gf ji_166_12 jf_166_19 f1 f2 ?_
  obtain ⟨gs, g1, -, ⟨r, g2, g3⟩, -⟩ := fd_34 X.1.1 (a := 47) rfl
  refine wp_gf ji_166_15 jf_166_49 g1 g2 ?_
  obtain ⟨ks, k1, z, k2⟩ := fd_35 X.1.1 g3
  rw [wp_iz] at k2
  refine wp_gf ji_166_18 jf_166_98 k1 k2 ?_
  exact wp_ri ji_166_21 jr_166 rfl ⟨⟨_, rfl⟩, X⟩
theorem lx_312 (AM : lw_AM) {sl : List Value} {h : mj_H} {B : Int} {s s' : fd_s} {r r' : fd_r} (X : lw_X sl h B s s' r r') (hB : B ≤ 2147483647) : wp_R 1199 312 0 [some (.ref 138)] [] h (fun v h1 => (∃ z, v = some (.int z)) ∧ lw_X sl h1 B s s' r r) := by
  obtain ⟨fs, f1, f2⟩ := X.2.1.2.2.2.2.1
  obtain ⟨gs, g1, g2⟩ := X.2.1.2.2.2.2.2.1
  refine wp_s (pc' := 1) ji_312_0 rfl rfl rfl ?_
  refine wp_gf ji_312_1 jf_312_7 f1 f2 ?_
  refine wp_s (pc' := 5) ji_312_4 rfl rfl rfl ?_
  refine wp_gf ji_312_5 jf_312_13 g1 g2 ?_
  refine wp_sc (d := 1198) (as := [.ref 139, .ref 140]) (rest := []) ji_312_8 jc_312_62 (Nat.le_of_ble_eq_true rfl) rfl (Nat.le_of_ble_eq_true rfl) rfl (by rw [jn_169]; rfl) (lx_169a AM X hB) (fun v h R => ?_)
  obtain ⟨rfl, X⟩ := R
  show wp_R 1199 312 11 [some (.ref 138)] [] h _
  obtain ⟨fs, f1, f2⟩ := X.2.1.2.2.2.2.1
  refine wp_s (pc' := 12) ji_312_11 rfl rfl rfl ?_
  refine wp_gf ji_312_12 jf_312_7 f1 f2 ?_
  refine wp_bp ji_312_15 rfl ?_
  obtain ⟨vs, v1, v2, v3⟩ := fd_21 X.1.1 (a := 139) rfl
  refine wp_ial (x := 8) ji_312_17 v1 (by decide) (by omega) (by omega) (v3 8 (by decide)) ?_
  exact wp_ri ji_312_18 jr_312 rfl ⟨⟨_, rfl⟩, X⟩
theorem lx_313 (AM : lw_AM) {sl : List Value} {h : mj_H} {B : Int} {s s' : fd_s} {r r' : fd_r} (X : lw_X sl h B s s' r r') (hB : B ≤ 2147483647) : wp_R 1199 313 0 [some (.ref 138)] [] h (fun v h1 => (∃ z, v = some (.int z)) ∧ lw_X sl h1 B s s' r' r') := by
  obtain ⟨fs, f1, f2⟩ := X.2.1.2.2.2.2.2.1
  obtain ⟨gs, g1, g2⟩ := X.2.1.2.2.2.2.1
  refine wp_s (pc' := 1) ji_313_0 rfl rfl rfl ?_
  refine wp_gf ji_313_1 jf_313_13 f1 f2 ?_
  refine wp_s (pc' := 5) ji_313_4 rfl rfl rfl ?_
  refine wp_gf ji_313_5 jf_313_7 g1 g2 ?_
  refine wp_sc (d := 1198) (as := [.ref 140, .ref 139]) (rest := []) ji_313_8 jc_313_62 (Nat.le_of_ble_eq_true rfl) rfl (Nat.le_of_ble_eq_true rfl) rfl (by rw [jn_169]; rfl) (lx_169b AM X hB) (fun v h R => ?_)
  obtain ⟨rfl, X⟩ := R
  show wp_R 1199 313 11 [some (.ref 138)] [] h _
  obtain ⟨fs, f1, f2⟩ := X.2.1.2.2.2.2.1
  refine wp_s (pc' := 12) ji_313_11 rfl rfl rfl ?_
  refine wp_gf ji_313_12 jf_313_7 f1 f2 ?_
  refine wp_bp ji_313_15 rfl ?_
  obtain ⟨vs, v1, v2, v3⟩ := fd_21 X.1.1 (a := 139) rfl
  refine wp_ial (x := 8) ji_313_17 v1 (by decide) (by omega) (by omega) (v3 8 (by decide)) ?_
  exact wp_ri ji_313_18 jr_313 rfl ⟨⟨_, rfl⟩, X⟩
theorem lx_143 (AM : lw_AM) {sl : List Value} {h : mj_H} {B x b : Int} {s s' : fd_s} {r r' : fd_r} (X : lw_X sl h B s s' r r') (hB : B ≤ 2147483647) (hx : wp_r x) (hb : b = 0 ∨ b = 1) (hn : 0 ≤ s.1 ∧ s.1 ≤ 8) : wp_R 1199 143 0 [some (.ref 9), some (wp_i x), some (wp_i b)] [] h (fun v h1 => v = some (wp_i (fd_a x s.1)) ∧ lw_X sl h1 B (fs_f x b s) s' r r') := by
  obtain ⟨fs, f1, f2⟩ := X.2.1.1
  obtain ⟨gs, g1, g2⟩ := X.2.1.2.2.1
  refine wp_s (pc' := 1) ji_143_0 rfl rfl rfl ?_
  refine wp_gf ji_143_1 jf_143_19 f1 f2 ?_
  refine wp_gf ji_143_4 jf_143_287 g1 g2 ?_
  refine wp_s (pc' := 8) ji_143_7 rfl rfl rfl ?_
  refine wp_s (pc' := 9) ji_143_8 rfl rfl rfl ?_
  obtain ⟨cs, hc⟩ := fd_cell X.1.1 (a := 61) (t := 48) (ty := sx_y48) rfl rfl
  refine wp_vc (d := 1198) (as := [.ref 61, wp_i x, wp_i b]) (rest := []) ji_143_9 jc_143_291 rfl hc jk_144.symm (Nat.le_of_ble_eq_true rfl) rfl (by rw [jn_144]; rfl) (lx_144 AM X hB hx hb hn) (fun v h R => ?_)
  obtain ⟨rfl, X⟩ := R
  show wp_R 1199 143 12 [some (.ref 9), some (wp_i x), some (wp_i b)] [wp_i (fd_a x s.1)] h _
  exact wp_ri ji_143_12 jr_143 rfl ⟨rfl, X⟩
