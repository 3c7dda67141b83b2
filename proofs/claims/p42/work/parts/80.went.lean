/-! the reference's work, from its entry -/
set_option maxRecDepth 100000 in
theorem sx_e233 : mj_ins 233 0 = some (.sipush 705) ∧ mj_ins 233 3 = some (.aload_n 0) ∧ mj_ins 233 4 = some (.getfield 7) ∧ mj_ins 233 7 = some (.iconst 3) ∧ mj_ins 233 8 = some .iaload ∧ mj_ins 233 9 = some .imul ∧ mj_ins 233 10 = some (.iconst 1) ∧ mj_ins 233 11 = some .iadd ∧ mj_ins 233 12 = some (.iconst 4) ∧ mj_ins 233 13 = some (.iload_n 1) ∧ mj_ins 233 14 = some .imul ∧ mj_ins 233 15 = some .iadd ∧ mj_ins 233 16 = some (.istore_n 2) ∧ mj_ins 233 17 = some (.sipush 705) ∧ mj_ins 233 20 = some (.aload_n 0) ∧ mj_ins 233 21 = some (.getfield 7) ∧ mj_ins 233 24 = some (.iconst 3) ∧ mj_ins 233 25 = some .iaload ∧ mj_ins 233 26 = some .imul ∧ mj_ins 233 27 = some (.bipush 97) ∧ mj_ins 233 29 = some .iadd ∧ mj_ins 233 30 = some (.istore_n 3) ∧ mj_ins 233 31 = some (.iconst 0) ∧ mj_ins 233 32 = some (.istore 4) ∧ mj_ins 233 34 = some (.iconst 0) ∧ mj_ins 233 35 = some (.istore 5) ∧ mj_ins 233 37 = some (.aload_n 0) ∧ mj_ins 233 38 = some (.getfield 16) ∧ mj_ins 233 41 = some (.iload_n 2) ∧ mj_ins 233 42 = some (.iconst 1) ∧ mj_ins 233 43 = some .iadd ∧ mj_ins 233 44 = some .iaload ∧ mj_ins 233 45 = some (.istore 6) ∧ mj_fld 233 7 = some (11, 0, .array .int, false) := by decide +kernel
theorem sx_went {d : Nat} {h : mj_H} {a A Tx : Nat} {fs : List Value} {S K I : Int32} (h1 : h[a]? = some (11, fs)) (h0 : fs[0]? = some (.ref A)) (h2 : fs[2]? = some (.ref Tx)) (e1 : mj_el h A 1000 (Int32.ofInt 3) = some (.int S)) (e2 : mj_el h Tx 1000 ((Int16.ofInt 705).toInt32 * S + Int32.ofInt 1 + Int32.ofInt 4 * K + Int32.ofInt 1) = some (.int I)) : ∀ f q, mj_run f d 233 47 [some (.ref a), some (.int K), some (.int ((Int16.ofInt 705).toInt32 * S + Int32.ofInt 1 + Int32.ofInt 4 * K)), some (.int ((Int16.ofInt 705).toInt32 * S + (Int8.ofInt 97).toInt32)), some (.int (Int32.ofInt 0)), some (.int (Int32.ofInt 0)), some (.int I), none, none] [] h = some q → mj_run (f + 33) d 233 0 [some (.ref a), some (.int K), none, none, none, none, none, none, none] [] h = some q := by
  obtain ⟨i0, i3, i4, i7, i8, i9, i10, i11, i12, i13, i14, i15, i16, i17, i20, i21, i24, i25, i26, i27, i29, i30, i31, i32, i34, i35, i37, i38, i41, i42, i43, i44, i45, f7⟩ := sx_e233
  have f1 := sx_i233.2.2.2.2.2.2.2.2.2.2
  intro f q hq
  refine mj_run_s i0 rfl rfl rfl ?_
  refine mj_run_s i3 rfl rfl rfl ?_
  refine mj_run_s i4 rfl rfl (by simp only [mj_st, f7, h1, if_true, h0]; rfl) ?_
  refine mj_run_s i7 rfl rfl rfl ?_
  refine mj_run_s i8 rfl rfl (by simp only [mj_st, e1, Option.map_some]; rfl) ?_
  refine mj_run_s i9 rfl rfl rfl ?_
  refine mj_run_s i10 rfl rfl rfl ?_
  refine mj_run_s i11 rfl rfl rfl ?_
  refine mj_run_s i12 rfl rfl rfl ?_
  refine mj_run_s i13 rfl rfl rfl ?_
  refine mj_run_s i14 rfl rfl rfl ?_
  refine mj_run_s i15 rfl rfl rfl ?_
  refine mj_run_s i16 rfl rfl rfl ?_
  refine mj_run_s i17 rfl rfl rfl ?_
  refine mj_run_s i20 rfl rfl rfl ?_
  refine mj_run_s i21 rfl rfl (by simp only [mj_st, f7, h1, if_true, h0]; rfl) ?_
  refine mj_run_s i24 rfl rfl rfl ?_
  refine mj_run_s i25 rfl rfl (by simp only [mj_st, e1, Option.map_some]; rfl) ?_
  refine mj_run_s i26 rfl rfl rfl ?_
  refine mj_run_s i27 rfl rfl rfl ?_
  refine mj_run_s i29 rfl rfl rfl ?_
  refine mj_run_s i30 rfl rfl rfl ?_
  refine mj_run_s i31 rfl rfl rfl ?_
  refine mj_run_s i32 rfl rfl rfl ?_
  refine mj_run_s i34 rfl rfl rfl ?_
  refine mj_run_s i35 rfl rfl rfl ?_
  refine mj_run_s i37 rfl rfl rfl ?_
  refine mj_run_s i38 rfl rfl (by simp only [mj_st, f1, h1, if_true, h2]; rfl) ?_
  refine mj_run_s i41 rfl rfl rfl ?_
  refine mj_run_s i42 rfl rfl rfl ?_
  refine mj_run_s i43 rfl rfl rfl ?_
  refine mj_run_s i44 rfl rfl (by simp only [mj_st, e2, Option.map_some]; rfl) ?_
  refine mj_run_s i45 rfl rfl rfl ?_
  exact hq
