/-! the reference's clauseOf, exactly -/
set_option maxRecDepth 100000 in
theorem sx_i232 : mj_ins 232 2 = some (.aload_n 0) ∧ mj_ins 232 3 = some (.getfield 7) ∧ mj_ins 232 6 = some (.iconst 3) ∧ mj_ins 232 7 = some .iaload ∧ mj_ins 232 8 = some (.ifCond .lt 55) ∧ mj_ins 232 11 = some (.iload_n 2) ∧ mj_ins 232 12 = some (.aload_n 0) ∧ mj_ins 232 13 = some (.getfield 16) ∧ mj_ins 232 16 = some (.sipush 705) ∧ mj_ins 232 19 = some (.aload_n 0) ∧ mj_ins 232 20 = some (.getfield 7) ∧ mj_ins 232 23 = some (.iconst 3) ∧ mj_ins 232 24 = some .iaload ∧ mj_ins 232 25 = some .imul ∧ mj_ins 232 26 = some .iaload ∧ mj_ins 232 27 = some (.if_icmp .ge 36) ∧ mj_ins 232 63 = some (.iconst (-1)) ∧ mj_ins 232 64 = some .ireturn ∧ mj_fld 232 7 = some (11, 0, .array .int, false) ∧ mj_fld 232 16 = some (11, 2, .array .int, false) ∧ mj_ret 232 = some .int := by decide +kernel
/-- the head of its loop: the end, or on -/
theorem sx_chead {d : Nat} {h : mj_H} {a A Tx : Nat} {fs : List Value} {S K Z N : Int32} (h1 : h[a]? = some (11, fs)) (h0 : fs[0]? = some (.ref A)) (h2 : fs[2]? = some (.ref Tx)) (e1 : mj_el h A 1000 (Int32.ofInt 3) = some (.int S)) (hs : 0 ≤ S.toInt) (e2 : mj_el h Tx 1000 ((Int16.ofInt 705).toInt32 * S) = some (.int N)) : (N ≤ K → mj_run 18 d 232 2 [some (.ref a), some (.int Z), some (.int K)] [] h = some (some (.int (Int32.ofInt (-1))), h)) ∧ (¬ N ≤ K → ∀ f q, mj_run f d 232 30 [some (.ref a), some (.int Z), some (.int K)] [] h = some q → mj_run (f + 16) d 232 2 [some (.ref a), some (.int Z), some (.int K)] [] h = some q) := by
  obtain ⟨i2, i3, i6, i7, i8, i11, i12, i13, i16, i19, i20, i23, i24, i25, i26, i27, i63, i64, f7, f16, hr⟩ := sx_i232
  have hlt : mj_cmp .lt S 0 = false := decide_eq_false (fun q => by have := Int32.lt_iff_toInt_lt.mp q; have z0 : (0 : Int32).toInt = 0 := (by decide); omega)
  have pre : ∀ f q, mj_run f d 232 27 [some (.ref a), some (.int Z), some (.int K)] [.int N, .int K] h = some q → mj_run (f + 15) d 232 2 [some (.ref a), some (.int Z), some (.int K)] [] h = some q := by
    intro f q hq
    refine mj_run_s i2 rfl rfl rfl ?_
    refine mj_run_s i3 rfl rfl (by simp only [mj_st, f7, h1, if_true, h0]; rfl) ?_
    refine mj_run_s i6 rfl rfl rfl ?_
    refine mj_run_s i7 rfl rfl (by simp only [mj_st, e1, Option.map_some]; rfl) ?_
    refine mj_run_s (pc' := 11) (lv' := [some (.ref a), some (.int Z), some (.int K)]) (st' := []) (h' := h) i8 rfl rfl (show some ((if mj_cmp .lt S 0 = true then 63 else 11), [some (Value.ref a), some (Value.int Z), some (Value.int K)], ([] : List Value), h) = _ by rw [hlt]; rfl) ?_
    refine mj_run_s i11 rfl rfl rfl ?_
    refine mj_run_s i12 rfl rfl rfl ?_
    refine mj_run_s i13 rfl rfl (by simp only [mj_st, f16, h1, if_true, h2]; rfl) ?_
    refine mj_run_s i16 rfl rfl rfl ?_
    refine mj_run_s i19 rfl rfl rfl ?_
    refine mj_run_s i20 rfl rfl (by simp only [mj_st, f7, h1, if_true, h0]; rfl) ?_
    refine mj_run_s i23 rfl rfl rfl ?_
    refine mj_run_s i24 rfl rfl (by simp only [mj_st, e1, Option.map_some]; rfl) ?_
    refine mj_run_s i25 rfl rfl rfl ?_
    refine mj_run_s i26 rfl rfl (by simp only [mj_st, e2, Option.map_some]; rfl) ?_
    exact hq
  refine ⟨fun hle => ?_, fun hle f q hq => ?_⟩
  · refine pre 3 _ ?_
    have hcmp : mj_cmp .ge K N = true := decide_eq_true hle
    refine mj_run_s (pc' := 63) (lv' := [some (.ref a), some (.int Z), some (.int K)]) (st' := []) (h' := h) i27 rfl rfl (show some ((if mj_cmp .ge K N = true then 63 else 30), [some (Value.ref a), some (Value.int Z), some (Value.int K)], ([] : List Value), h) = _ by rw [hcmp]; rfl) ?_
    refine mj_run_s i63 rfl rfl rfl ?_
    unfold mj_run
    rw [i64]
    simp only [mj_end, hr]
    rfl
  · refine pre (f + 1) q ?_
    have hcmp : mj_cmp .ge K N = false := decide_eq_false hle
    exact mj_run_s (pc' := 30) (lv' := [some (.ref a), some (.int Z), some (.int K)]) (st' := []) (h' := h) i27 rfl rfl (show some ((if mj_cmp .ge K N = true then 63 else 30), [some (Value.ref a), some (Value.int Z), some (Value.int K)], ([] : List Value), h) = _ by rw [hcmp]; rfl) hq
