/-! shown by hand: the loop of the reference's work -/
set_option maxRecDepth 100000 in
theorem sx_i233 : mj_ins 233 47 = some (.iload 6) ∧ mj_ins 233 49 = some (.aload_n 0) ∧ mj_ins 233 50 = some (.getfield 16) ∧ mj_ins 233 53 = some (.iload_n 2) ∧ mj_ins 233 54 = some (.iconst 2) ∧ mj_ins 233 55 = some .iadd ∧ mj_ins 233 56 = some .iaload ∧ mj_ins 233 57 = some (.if_icmp .ge 338) ∧ mj_ins 233 395 = some .return_ ∧ mj_ret 233 = none ∧ mj_fld 233 16 = some (11, 2, .array .int, false) := by decide +kernel
set_option maxRecDepth 100000 in
theorem sx_j233 : mj_ins 233 60 = some (.aload_n 0) ∧ mj_ins 233 61 = some (.getfield 16) ∧ mj_ins 233 64 = some (.iload_n 3) ∧ mj_ins 233 65 = some (.iconst 2) ∧ mj_ins 233 66 = some (.iload 6) ∧ mj_ins 233 68 = some .imul ∧ mj_ins 233 69 = some .iadd ∧ mj_ins 233 70 = some .iaload ∧ mj_ins 233 71 = some (.istore 7) ∧ mj_ins 233 73 = some (.aload_n 0) ∧ mj_ins 233 74 = some (.getfield 16) ∧ mj_ins 233 77 = some (.iload_n 3) ∧ mj_ins 233 78 = some (.iconst 2) ∧ mj_ins 233 79 = some (.iload 6) ∧ mj_ins 233 81 = some .imul ∧ mj_ins 233 82 = some .iadd ∧ mj_ins 233 83 = some (.iconst 1) ∧ mj_ins 233 84 = some .iadd ∧ mj_ins 233 85 = some .iaload ∧ mj_ins 233 86 = some (.istore 8) := by decide +kernel
/-- the head: the end, or on to the body -/
theorem sx_whead {d : Nat} {lv : mj_L} {h : mj_H} {a Tx : Nat} {fs ts : List Value} {I X E : Int32} (l0 : mj_ld lv 0 = some (.ref a)) (l2 : mj_ld lv 2 = some (.int X)) (l6 : mj_ld lv 6 = some (.int I)) (h1 : h[a]? = some (11, fs)) (h2 : fs[2]? = some (.ref Tx)) (he : mj_el h Tx 1000 (X + Int32.ofInt 2) = some (.int E)) : (E ≤ I → mj_run 9 d 233 47 lv [] h = some (none, h)) ∧ (¬ E ≤ I → ∀ f q, mj_run f d 233 60 lv [] h = some q → mj_run (f + 8) d 233 47 lv [] h = some q) := by
  obtain ⟨i47, i49, i50, i53, i54, i55, i56, i57, i395, hr, f1⟩ := sx_i233
  have pre : ∀ f q, mj_run f d 233 57 lv [.int E, .int I] h = some q → mj_run (f + 7) d 233 47 lv [] h = some q := by
    intro f q hq
    refine mj_run_s i47 rfl rfl (show mj_li 47 lv [] h 6 2 = some (49, lv, [.int I], h) by unfold mj_li; rw [l6]) ?_
    refine mj_run_s i49 rfl rfl (show mj_la 49 lv [.int I] h 0 1 = some (50, lv, [.ref a, .int I], h) by unfold mj_la; rw [l0]) ?_
    refine mj_run_s i50 rfl rfl (by simp only [mj_st, f1, h1, if_true, h2]; rfl) ?_
    refine mj_run_s i53 rfl rfl (show mj_li 53 lv [.ref Tx, .int I] h 2 1 = some (54, lv, [.int X, .ref Tx, .int I], h) by unfold mj_li; rw [l2]) ?_
    refine mj_run_s i54 rfl rfl rfl ?_
    refine mj_run_s i55 rfl rfl rfl ?_
    refine mj_run_s i56 rfl rfl (by simp only [mj_st, he, Option.map_some]; rfl) ?_
    exact hq
  refine ⟨fun hle => ?_, fun hle f q hq => ?_⟩
  · refine pre 2 _ ?_
    have hcmp : mj_cmp .ge I E = true := decide_eq_true hle
    refine mj_run_s (pc' := 395) (lv' := lv) (st' := []) (h' := h) i57 rfl rfl (show some ((if mj_cmp .ge I E = true then 395 else 60), lv, ([] : List Value), h) = _ by rw [hcmp]; rfl) ?_
    unfold mj_run
    rw [i395]
    simp only [mj_end, hr]
  · refine pre (f + 1) q ?_
    have hcmp : mj_cmp .ge I E = false := decide_eq_false hle
    exact mj_run_s (pc' := 60) (lv' := lv) (st' := []) (h' := h) i57 rfl rfl (show some ((if mj_cmp .ge I E = true then 395 else 60), lv, ([] : List Value), h) = _ by rw [hcmp]; rfl) hq
/-- a sign and its value are read -/
theorem sx_wread {d : Nat} {lv : mj_L} {h : mj_H} {a Tx : Nat} {fs : List Value} {I Q O V : Int32} (hlen : lv.length = 9) (l0 : mj_ld lv 0 = some (.ref a)) (l3 : mj_ld lv 3 = some (.int Q)) (l6 : mj_ld lv 6 = some (.int I)) (m0 : mj_ld (mj_s1 lv 7 (.int O)) 0 = some (.ref a)) (m3 : mj_ld (mj_s1 lv 7 (.int O)) 3 = some (.int Q)) (m6 : mj_ld (mj_s1 lv 7 (.int O)) 6 = some (.int I)) (hm : (mj_s1 lv 7 (.int O)).length = 9) (h1 : h[a]? = some (11, fs)) (h2 : fs[2]? = some (.ref Tx)) (e1 : mj_el h Tx 1000 (Q + Int32.ofInt 2 * I) = some (.int O)) (e2 : mj_el h Tx 1000 (Q + Int32.ofInt 2 * I + Int32.ofInt 1) = some (.int V)) : ∀ f q, mj_run f d 233 88 (mj_s1 (mj_s1 lv 7 (.int O)) 8 (.int V)) [] h = some q → mj_run (f + 20) d 233 60 lv [] h = some q := by
  obtain ⟨i60, i61, i64, i65, i66, i68, i69, i70, i71, i73, i74, i77, i78, i79, i81, i82, i83, i84, i85, i86⟩ := sx_j233
  have f1 := sx_i233.2.2.2.2.2.2.2.2.2.2
  intro f q hq
  refine mj_run_s i60 rfl rfl (show mj_la 60 lv [] h 0 1 = some (61, lv, [.ref a], h) by unfold mj_la; rw [l0]) ?_
  refine mj_run_s i61 rfl rfl (by simp only [mj_st, f1, h1, if_true, h2]; rfl) ?_
  refine mj_run_s i64 rfl rfl (show mj_li 64 lv [.ref Tx] h 3 1 = some (65, lv, [.int Q, .ref Tx], h) by unfold mj_li; rw [l3]) ?_
  refine mj_run_s i65 rfl rfl rfl ?_
  refine mj_run_s i66 rfl rfl (show mj_li 66 lv [.int (Int32.ofInt 2), .int Q, .ref Tx] h 6 2 = some (68, lv, [.int I, .int (Int32.ofInt 2), .int Q, .ref Tx], h) by unfold mj_li; rw [l6]) ?_
  refine mj_run_s i68 rfl rfl rfl ?_
  refine mj_run_s i69 rfl rfl rfl ?_
  refine mj_run_s i70 rfl rfl (by simp only [mj_st, e1, Option.map_some]; rfl) ?_
  refine mj_run_s i71 rfl rfl (show mj_si 71 lv [.int O] h 7 2 = some (73, mj_s1 lv 7 (.int O), [], h) by unfold mj_si; dsimp only; rw [if_pos (by omega)]) ?_
  refine mj_run_s i73 rfl rfl (show mj_la 73 (mj_s1 lv 7 (.int O)) [] h 0 1 = some (74, _, [.ref a], h) by unfold mj_la; rw [m0]) ?_
  refine mj_run_s i74 rfl rfl (by simp only [mj_st, f1, h1, if_true, h2]; rfl) ?_
  refine mj_run_s i77 rfl rfl (show mj_li 77 (mj_s1 lv 7 (.int O)) [.ref Tx] h 3 1 = some (78, _, [.int Q, .ref Tx], h) by unfold mj_li; rw [m3]) ?_
  refine mj_run_s i78 rfl rfl rfl ?_
  refine mj_run_s i79 rfl rfl (show mj_li 79 (mj_s1 lv 7 (.int O)) [.int (Int32.ofInt 2), .int Q, .ref Tx] h 6 2 = some (81, _, [.int I, .int (Int32.ofInt 2), .int Q, .ref Tx], h) by unfold mj_li; rw [m6]) ?_
  refine mj_run_s i81 rfl rfl rfl ?_
  refine mj_run_s i82 rfl rfl rfl ?_
  refine mj_run_s i83 rfl rfl rfl ?_
  refine mj_run_s i84 rfl rfl rfl ?_
  refine mj_run_s i85 rfl rfl (by simp only [mj_st, e2, Option.map_some]; rfl) ?_
  refine mj_run_s i86 rfl rfl (show mj_si 86 (mj_s1 lv 7 (.int O)) [.int V] h 8 2 = some (88, mj_s1 (mj_s1 lv 7 (.int O)) 8 (.int V), [], h) by unfold mj_si; dsimp only; rw [if_pos (by omega)]) ?_
  exact hq
