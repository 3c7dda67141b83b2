/-! shown by hand: the class's says -/
theorem mj_run_c {f f1 d m pc : Nat} {i : Instr} {lv : mj_L} {st : List Value} {h : mj_H} {c : Nat} {as rest : List Value} {lv0 : mj_L} {v : Option Value} {h1 : mj_H} {q : Option Value × mj_H} (hi : mj_ins m pc = some i) (he : mj_end m i st = none) (hc : mj_call m i st h = some (c, as, rest)) (hn : mj_ent (mj_nl c) as = some lv0) (h0 : mj_run f1 d c 0 lv0 [] h = some (v, h1)) (hr : mj_run f (d + 1) m (pc + 3) lv (v.toList ++ rest) h1 = some q) : mj_run (max f1 f + 1) (d + 1) m pc lv st h = some q := by
  unfold mj_run
  rw [hi]
  dsimp only
  rw [he]
  dsimp only
  rw [hc]
  dsimp only
  rw [hn]
  dsimp only
  rw [mj_run_mono (Nat.le_max_left f1 f) (Nat.le_refl _) h0]
  dsimp only
  exact mj_run_mono (Nat.le_max_right f1 f) (Nat.le_refl _) hr
def sx_T64a : sx_T := (8, [some (2, (27, [(0, 0)])), some (0, (0, [(1, 0)])), some (2, (35, [(0, 1)])), some (0, (0, [(1, 1)])), some (0, (0, [(1, 2)])), none, none, none], [(0, 2, []), (0, 7, []), (0, 5, [])], 2, [], [], [0, 2], (0, []), (0, []))
def sx_T64b : sx_T := (28, [some (2, (27, [(0, 0)])), some (0, (0, [(1, 0)])), some (2, (35, [(0, 1)])), some (0, (0, [(1, 1)])), some (0, (0, [(1, 2)])), some (0, (0, [(1, 3)])), some (0, (0, [(1, 4)])), none], [(0, 2, []), (0, 7, []), (0, 5, []), (0, 64, []), (0, 300, [])], 2, [], [(0, [(1, 5)]), (0, [(1, 6)])], [0, 2], (300, [(-1, 4)]), (0, []))
def sx_d64 : List sx_T := [sx_T64a, sx_T64b]
set_option maxRecDepth 100000 in
theorem sx_k64 : sx_d64.all (sx_ck1 sx_PP 64 sx_K64 sx_d64 3000) = true := by decide +kernel
set_option maxRecDepth 100000 in
theorem sx_i64 : mj_ins 64 0 = some (.aload_n 0) ∧ mj_ins 64 1 = some (.iload_n 1) ∧ mj_ins 64 2 = some (.invokevirtual 42) ∧ mj_ins 64 5 = some (.ifCond .ne 12) ∧ mj_ins 64 17 = some (.iconst 0) ∧ mj_ins 64 18 = some (.istore 5) ∧ mj_ins 64 20 = some (.aload_n 0) ∧ mj_ins 64 21 = some (.getfield 21) ∧ mj_ins 64 24 = some (.iload_n 1) ∧ mj_ins 64 25 = some .iaload ∧ mj_ins 64 26 = some (.istore 6) ∧ mj_fld 64 21 = some (1, 2, .array .int, false) ∧ mj_cal 64 42 = some (2, 32, 1) ∧ mj_cls 32 = 1 ∧ mj_nl 32 = 2 ∧ mj_nl 64 = 8 ∧ mj_ret 32 = some .boolean := by decide +kernel
set_option maxRecDepth 100000 in
theorem sx_i32 : mj_ins 32 0 = some (.aload_n 0) ∧ mj_ins 32 1 = some (.getfield 21) ∧ mj_ins 32 4 = some (.iload_n 1) ∧ mj_ins 32 5 = some .iaload ∧ mj_ins 32 6 = some (.iconst (-1)) ∧ mj_ins 32 7 = some (.if_icmp .eq 7) ∧ mj_ins 32 10 = some (.iconst 1) ∧ mj_ins 32 11 = some (.goto 4) ∧ mj_ins 32 14 = some (.iconst 0) ∧ mj_ins 32 15 = some .ireturn ∧ mj_fld 32 21 = some (1, 2, .array .int, false) := by decide +kernel
/-- whether a law is there -/
theorem sx_has {h : mj_H} {a F : Nat} {fs ws : List Value} {z y : Int32} (h1 : h[a]? = some (1, fs)) (h2 : fs[2]? = some (.ref F)) (h3 : h[F]? = some (1000, ws)) (h4 : mj_el h F 1000 z = some (.int y)) {d : Nat} : mj_run 10 d 32 0 [some (.ref a), some (.int z)] [] h = some (some (.int (if y = Int32.ofInt (-1) then 0 else 1)), h) := by
  obtain ⟨i0, i1, i4, i5, i6, i7, i10, i11, i14, i15, e1⟩ := sx_i32
  have hret : mj_ret 32 = some .boolean := sx_i64.2.2.2.2.2.2.2.2.2.2.2.2.2.2.2.2
  refine mj_run_s i0 rfl rfl rfl ?_
  refine mj_run_s i1 rfl rfl (by simp only [mj_st, e1, h1, if_true, h2]; rfl) ?_
  refine mj_run_s i4 rfl rfl rfl ?_
  refine mj_run_s i5 rfl rfl (by simp only [mj_st, h4, Option.map_some]; rfl) ?_
  refine mj_run_s i6 rfl rfl rfl ?_
  by_cases e : y = Int32.ofInt (-1)
  · rw [if_pos e]
    refine mj_run_s (pc' := 14) i7 rfl rfl (by simp only [mj_st, mj_cmp, e, decide_true, if_true]; rfl) ?_
    refine mj_run_s i14 rfl rfl rfl ?_
    unfold mj_run
    rw [i15]
    simp only [mj_end, hret]
    rfl
  · rw [if_neg e]
    have hcmp : mj_cmp .eq y (Int32.ofInt (-1)) = false := decide_eq_false e
    refine mj_run_s (pc' := 10) (lv' := [some (.ref a), some (.int z)]) (st' := []) (h' := h) i7 rfl rfl (show some ((if mj_cmp .eq y (Int32.ofInt (-1)) = true then 14 else 10), [some (Value.ref a), some (Value.int z)], ([] : List Value), h) = _ by rw [hcmp]; rfl) ?_
    refine mj_run_s i10 rfl rfl rfl ?_
    refine mj_run_s (pc' := 15) i11 rfl rfl rfl ?_
    unfold mj_run
    rw [i15]
    simp only [mj_end, hret]
    rfl
theorem sx_M64 {d : Nat} (IH : sx_IH sx_PP d) : sx_M sx_PP d 64 sx_K64 := by
  intro vs h hH ha hd B hW hB
  match vs, ha with
  | [v0, v1, v2, v3, v4], ⟨⟨a0, e0, t0⟩, ⟨z1, e1, p1, p2⟩, ⟨a2, e2, t2⟩, ⟨z3, e3, p3, p4⟩, ⟨z4, e4, p5, p6⟩, _⟩ =>
  subst e0 e1 e2 e3 e4
  have t0 : sx_tau[a0]? = some 27 := t0
  have t2 : sx_tau[a2]? = some 35 := t2
  have hd2 : (2 : Int) ≤ d := hd
  obtain ⟨i0, i1, i2, i5, i17, i18, i20, i21, i24, i25, i26, f1, c1, c2, c3, c4, -⟩ := sx_i64
  refine ⟨[some (.ref a0), some (.int z1), some (.ref a2), some (.int z3), some (.int z4), none, none, none], ?_, ?_⟩
  · unfold mj_ent
    rw [c4]
    rfl
  · obtain ⟨-, fs, g1, g2, g3, -⟩ := hH a0 27 sx_y27 t0 rfl
    have g2 : fs.length = 9 := g2
    have g1 : h[a0]? = some (1, fs) := g1
    have hv : fs[2]? = some fs[2] := List.getElem?_eq_getElem (by omega)
    obtain ⟨d1, d2, d3⟩ := g3 _ _ hv
    have d2 : some ((2, 29, 0) : sx_D) = some d1 := d2
    cases d2
    obtain ⟨F, eF, tF⟩ := d3
    rw [eF] at hv
    obtain ⟨-, ws, w1, w2, w3, -⟩ := hH F 29 sx_y29 tF rfl
    have w2 : ws.length = 3 := w2
    have w1 : h[F]? = some (1000, ws) := w1
    have hlt : z1.toInt.toNat < ws.length := by omega
    have hw : ws[z1.toInt.toNat]? = some ws[z1.toInt.toNat] := List.getElem?_eq_getElem hlt
    obtain ⟨d4, d5, d6⟩ := w3 _ _ hw
    have hcase : z1.toInt.toNat = 0 ∨ z1.toInt.toNat = 1 ∨ z1.toInt.toNat = 2 := by omega
    have d5' : some ((0, -1, 300) : sx_D) = some d4 := by
      rcases hcase with e | e | e <;> (rw [e] at d5; exact d5)
    cases d5'
    obtain ⟨y, ey, y1, y2⟩ := d6
    rw [ey] at hw
    have hel : mj_el h F 1000 z1 = some (.int y) := by
      unfold mj_el
      rw [w1]
      dsimp only
      have hix : mj_ix z1 ws.length = some z1.toInt.toNat := by
        unfold mj_ix
        rw [if_pos (by omega)]
      rw [if_pos rfl, hix]
      exact hw
    have hc64 : ∀ T ∈ sx_d64, sx_ck1 sx_PP 64 sx_K64 sx_d64 3000 T = true ∨ (sx_ge T.2.2.1 T.2.2.2.2.2.2.2.1 0 = true ∧ sx_hd sx_PP d 64 sx_K64 sx_d64 T) := fun T hT => Or.inl (List.all_eq_true.mp sx_k64 T hT)
    have hX0 : sx_lt (sx_en sx_K64.1 0 0).2.2.1.length (sx_X0 sx_K64) = true := by decide
    have hcall : mj_call 64 (.invokevirtual 42) [.int z1, .ref a0] h = some (32, [.ref a0, .int z1], []) := by
      simp only [mj_call, c1]
      show (match h[a0]? with
        | some (k, _) => if k = mj_cls 32 ∧ mj_cat [] ≤ 8 then some (32, [Value.ref a0, Value.int z1], []) else none
        | none => none) = _
      rw [g1]
      dsimp only
      rw [if_pos ⟨c2.symm, by decide⟩]
    cases d with
    | zero => exfalso; omega
    | succ d =>
      have hbase : ∀ (r : Nat → Int), sx_ev r (sx_X0 sx_K64) ≤ ((d + 1 : Nat) : Int) := fun r => by
        have e : sx_ev r (sx_X0 sx_K64) = 2 := rfl
        rw [e]
        exact hd2
      by_cases e : y = Int32.ofInt (-1)
      · let r : Nat → Int := fun j => if j = 0 then z1.toInt else if j = 1 then z3.toInt else z4.toInt
        let g : Nat → Nat := fun j => if j = 0 then a0 else a2
        have hR := sx_cuts_ok (r0 := r) IH (hbase r) hX0 hB hc64 1 sx_T64a (List.mem_of_getElem? (i := 0) rfl) r g [some (.ref a0), some (.int z1), some (.ref a2), some (.int z3), some (.int z4), none, none, none] h ⟨sx_lr_c ⟨rfl, t0⟩ (sx_lr_c ⟨z1, rfl, by rw [show (0, [(1, 0)]) = sx_v 0 from rfl, sx_v_ev]; rfl⟩ (sx_lr_c ⟨rfl, t2⟩ (sx_lr_c ⟨z3, rfl, by rw [show (0, [(1, 1)]) = sx_v 1 from rfl, sx_v_ev]; rfl⟩ (sx_lr_c ⟨z4, rfl, by rw [show (0, [(1, 2)]) = sx_v 2 from rfl, sx_v_ev]; rfl⟩ (sx_lr_r 3))))), trivial, ?_, (fun q hq => by cases hq), hH⟩ (fun _ _ => rfl) (show (0 : Int) + 0 < 1 by decide) ?_
        rotate_left
        · intro i q hq
          match i, hq with
          | 0, hq => cases hq; exact ⟨p1, p2, fun y hy => by cases hy⟩
          | 1, hq => cases hq; exact ⟨p3, p4, fun y hy => by cases hy⟩
          | 2, hq => cases hq; exact ⟨p5, p6, fun y hy => by cases hy⟩
          | i + 3, hq => simp [sx_T64a] at hq
        · show sx_W sx_tau h (B + (0 + 0))
          rw [Int.add_zero, Int.add_zero]
          exact hW
        obtain ⟨f, v, h2, q1, q2⟩ := hR
        refine ⟨max 10 (f + 1) + 1 + 1 + 1, v, h2, ?_, q2⟩
        refine mj_run_s i0 rfl rfl rfl ?_
        refine mj_run_s i1 rfl rfl rfl ?_
        refine mj_run_c i2 rfl hcall (by unfold mj_ent; rw [c3]; rfl) (sx_has g1 hv w1 hel) ?_
        rw [if_pos e]
        refine mj_run_s (pc' := 8) i5 rfl rfl (by simp only [mj_st]; rfl) ?_
        exact q1
      · have y0 : 0 ≤ y.toInt := by
          rcases (show y.toInt = -1 ∨ 0 ≤ y.toInt by omega) with q | q
          · exact absurd (Int32.toInt_inj.mp (q.trans (by decide))) e
          · exact q
        let r : Nat → Int := fun j => if j = 0 then z1.toInt else if j = 1 then z3.toInt else if j = 2 then z4.toInt else if j = 3 then 0 else y.toInt
        let g : Nat → Nat := fun j => if j = 0 then a0 else a2
        have hR := sx_cuts_ok (r0 := r) IH (hbase r) hX0 hB hc64 (301 - y.toInt).toNat sx_T64b (List.mem_of_getElem? (i := 1) rfl) r g [some (.ref a0), some (.int z1), some (.ref a2), some (.int z3), some (.int z4), some (.int (Int32.ofInt 0)), some (.int y), none] h ⟨sx_lr_c ⟨rfl, t0⟩ (sx_lr_c ⟨z1, rfl, by rw [show (0, [(1, 0)]) = sx_v 0 from rfl, sx_v_ev]; rfl⟩ (sx_lr_c ⟨rfl, t2⟩ (sx_lr_c ⟨z3, rfl, by rw [show (0, [(1, 1)]) = sx_v 1 from rfl, sx_v_ev]; rfl⟩ (sx_lr_c ⟨z4, rfl, by rw [show (0, [(1, 2)]) = sx_v 2 from rfl, sx_v_ev]; rfl⟩ (sx_lr_c ⟨Int32.ofInt 0, rfl, by rw [show (0, [(1, 3)]) = sx_v 3 from rfl, sx_v_ev]; rfl⟩ (sx_lr_c ⟨y, rfl, by rw [show (0, [(1, 4)]) = sx_v 4 from rfl, sx_v_ev]; rfl⟩ (sx_lr_r 1))))))), trivial, ?_, (fun q hq => by cases hq), hH⟩ (fun _ _ => rfl) ?_ ?_
        rotate_left
        · intro i q hq
          match i, hq with
          | 0, hq => cases hq; exact ⟨p1, p2, fun y hy => by cases hy⟩
          | 1, hq => cases hq; exact ⟨p3, p4, fun y hy => by cases hy⟩
          | 2, hq => cases hq; exact ⟨p5, p6, fun y hy => by cases hy⟩
          | 3, hq => cases hq; exact ⟨show (0 : Int) ≤ 0 by decide, show (0 : Int) ≤ 64 by decide, fun y hy => by cases hy⟩
          | 4, hq => cases hq; exact ⟨y0, y2, fun y hy => by cases hy⟩
          | i + 5, hq => simp [sx_T64b] at hq
        · show (300 : Int) + (-1 * y.toInt + 0) < ((301 - y.toInt).toNat : Int)
          omega
        · show sx_W sx_tau h (B + (0 + 0))
          rw [Int.add_zero, Int.add_zero]
          exact hW
        obtain ⟨f, v, h2, q1, q2⟩ := hR
        refine ⟨max 10 (f + 8) + 1 + 1 + 1, v, h2, ?_, q2⟩
        refine mj_run_s i0 rfl rfl rfl ?_
        refine mj_run_s i1 rfl rfl rfl ?_
        refine mj_run_c i2 rfl hcall (by unfold mj_ent; rw [c3]; rfl) (sx_has g1 hv w1 hel) ?_
        rw [if_neg e]
        refine mj_run_s (pc' := 17) i5 rfl rfl (by simp only [mj_st]; rfl) ?_
        refine mj_run_s i17 rfl rfl rfl ?_
        refine mj_run_s i18 rfl rfl rfl ?_
        refine mj_run_s i20 rfl rfl rfl ?_
        refine mj_run_s i21 rfl rfl (by simp only [mj_st, f1, g1, if_true, hv]; rfl) ?_
        refine mj_run_s i24 rfl rfl rfl ?_
        refine mj_run_s i25 rfl rfl (by simp only [mj_st, hel, Option.map_some]; rfl) ?_
        refine mj_run_s i26 rfl rfl rfl ?_
        exact q1
