/-! -/
set_option maxRecDepth 100000 in
theorem ji_224_0 : mj_ins 224 0 = some (.aload_n 0) := by decide +kernel
set_option maxRecDepth 100000 in
theorem ji_224_1 : mj_ins 224 1 = some (.getfield 7) := by decide +kernel
set_option maxRecDepth 100000 in
theorem jf_224_7 : mj_fld 224 7 = some (11, 0, (.array .int), false) := by decide +kernel
set_option maxRecDepth 100000 in
theorem pfr_0 : sx_fd sx_y63.2.2 0 = some (2, 21, 0) := by decide +kernel
set_option maxRecDepth 100000 in
theorem ji_224_4 : mj_ins 224 4 = some (.bipush 52) := by decide +kernel
set_option maxRecDepth 100000 in
theorem ji_224_6 : mj_ins 224 6 = some (.iconst 2) := by decide +kernel
set_option maxRecDepth 100000 in
theorem ji_224_7 : mj_ins 224 7 = some (.bipush 8) := by decide +kernel
set_option maxRecDepth 100000 in
theorem ji_224_9 : mj_ins 224 9 = some (.iload_n 1) := by decide +kernel
set_option maxRecDepth 100000 in
theorem ji_224_10 : mj_ins 224 10 = some (.imul) := by decide +kernel
set_option maxRecDepth 100000 in
theorem ji_224_11 : mj_ins 224 11 = some (.iload_n 2) := by decide +kernel
set_option maxRecDepth 100000 in
theorem ji_224_12 : mj_ins 224 12 = some (.iadd) := by decide +kernel
set_option maxRecDepth 100000 in
theorem ji_224_13 : mj_ins 224 13 = some (.imul) := by decide +kernel
set_option maxRecDepth 100000 in
theorem ji_224_14 : mj_ins 224 14 = some (.iadd) := by decide +kernel
set_option maxRecDepth 100000 in
theorem ji_224_15 : mj_ins 224 15 = some (.iload_n 3) := by decide +kernel
set_option maxRecDepth 100000 in
theorem ji_224_16 : mj_ins 224 16 = some (.iadd) := by decide +kernel
set_option maxRecDepth 100000 in
theorem ji_224_17 : mj_ins 224 17 = some (.iaload) := by decide +kernel
set_option maxRecDepth 100000 in
theorem ji_224_18 : mj_ins 224 18 = some (.ireturn) := by decide +kernel
set_option maxRecDepth 100000 in
theorem jr_224 : mj_ret 224 = some .int := by decide +kernel
set_option maxRecDepth 100000 in
theorem ji_244_0 : mj_ins 244 0 = some (.aload_n 0) := by decide +kernel
set_option maxRecDepth 100000 in
theorem ji_244_1 : mj_ins 244 1 = some (.iconst 2) := by decide +kernel
set_option maxRecDepth 100000 in
theorem ji_244_2 : mj_ins 244 2 = some (.invokevirtual 276) := by decide +kernel
set_option maxRecDepth 100000 in
theorem ji_244_5 : mj_ins 244 5 = some (.istore_n 3) := by decide +kernel
set_option maxRecDepth 100000 in
theorem ji_244_6 : mj_ins 244 6 = some (.iload_n 3) := by decide +kernel
set_option maxRecDepth 100000 in
theorem ji_244_7 : mj_ins 244 7 = some (.ifCond .ge 19) := by decide +kernel
set_option maxRecDepth 100000 in
theorem ji_244_10 : mj_ins 244 10 = some (.aload_n 0) := by decide +kernel
set_option maxRecDepth 100000 in
theorem ji_244_11 : mj_ins 244 11 = some (.iload_n 1) := by decide +kernel
set_option maxRecDepth 100000 in
theorem ji_244_12 : mj_ins 244 12 = some (.iload_n 2) := by decide +kernel
set_option maxRecDepth 100000 in
theorem ji_244_13 : mj_ins 244 13 = some (.iconst 0) := by decide +kernel
set_option maxRecDepth 100000 in
theorem ji_244_14 : mj_ins 244 14 = some (.invokevirtual 70) := by decide +kernel
set_option maxRecDepth 100000 in
theorem ji_244_17 : mj_ins 244 17 = some (.ifCond .le 7) := by decide +kernel
set_option maxRecDepth 100000 in
theorem ji_244_20 : mj_ins 244 20 = some (.iconst 1) := by decide +kernel
set_option maxRecDepth 100000 in
theorem ji_244_21 : mj_ins 244 21 = some (.goto 4) := by decide +kernel
set_option maxRecDepth 100000 in
theorem ji_244_24 : mj_ins 244 24 = some (.iconst 0) := by decide +kernel
set_option maxRecDepth 100000 in
theorem ji_244_25 : mj_ins 244 25 = some (.ireturn) := by decide +kernel
set_option maxRecDepth 100000 in
theorem ji_244_26 : mj_ins 244 26 = some (.aload_n 0) := by decide +kernel
set_option maxRecDepth 100000 in
theorem ji_244_27 : mj_ins 244 27 = some (.iload_n 1) := by decide +kernel
set_option maxRecDepth 100000 in
theorem ji_244_28 : mj_ins 244 28 = some (.iload_n 2) := by decide +kernel
set_option maxRecDepth 100000 in
theorem ji_244_29 : mj_ins 244 29 = some (.invokevirtual 301) := by decide +kernel
set_option maxRecDepth 100000 in
theorem ji_244_32 : mj_ins 244 32 = some (.aload_n 0) := by decide +kernel
set_option maxRecDepth 100000 in
theorem ji_244_33 : mj_ins 244 33 = some (.iload_n 3) := by decide +kernel
set_option maxRecDepth 100000 in
theorem ji_244_34 : mj_ins 244 34 = some (.invokevirtual 279) := by decide +kernel
set_option maxRecDepth 100000 in
theorem ji_244_37 : mj_ins 244 37 = some (.aload_n 0) := by decide +kernel
set_option maxRecDepth 100000 in
theorem ji_244_38 : mj_ins 244 38 = some (.getfield 39) := by decide +kernel
set_option maxRecDepth 100000 in
theorem ji_244_41 : mj_ins 244 41 = some (.iconst 0) := by decide +kernel
set_option maxRecDepth 100000 in
theorem ji_244_42 : mj_ins 244 42 = some (.baload) := by decide +kernel
set_option maxRecDepth 100000 in
theorem ji_244_43 : mj_ins 244 43 = some (.ireturn) := by decide +kernel
set_option maxRecDepth 100000 in
theorem jr_244 : mj_ret 244 = some .boolean := by decide +kernel
set_option maxRecDepth 100000 in
theorem jn_244 : mj_nl 244 = 4 := by decide +kernel
set_option maxRecDepth 100000 in
theorem jn_226 : mj_nl 226 = 3 := by decide +kernel
set_option maxRecDepth 100000 in
theorem jn_224 : mj_nl 224 = 4 := by decide +kernel
set_option maxRecDepth 100000 in
theorem jk_226 : mj_cls 226 = 11 := by decide +kernel
set_option maxRecDepth 100000 in
theorem jk_224 : mj_cls 224 = 11 := by decide +kernel
set_option maxRecDepth 100000 in
theorem jc_244_276 : mj_cal 244 276 = some (2, 232, 1) := by decide +kernel
set_option maxRecDepth 100000 in
theorem jc_244_70 : mj_cal 244 70 = some (2, 224, 3) := by decide +kernel
set_option maxRecDepth 100000 in
theorem jc_244_301 : mj_cal 244 301 = some (2, 226, 2) := by decide +kernel
set_option maxRecDepth 100000 in
theorem jc_244_279 : mj_cal 244 279 = some (2, 233, 1) := by decide +kernel
set_option maxRecDepth 100000 in
theorem jf_244_39 : mj_fld 244 39 = some (11, 24, (.array .boolean), false) := by decide +kernel
/-! the reference's isCounting -/
set_option maxRecDepth 100000 in
theorem y21_k : ((List.range 96).all fun i => decide (sx_fd sx_y21.2.2 (52 + i) = some (0, -2147483648, 2147483647))) = true := by decide +kernel
theorem y21_f {j : Nat} (h1 : 52 ≤ j) (h2 : j < 148) : sx_fd sx_y21.2.2 j = some (0, -2147483648, 2147483647) := by
  have h := List.all_eq_true.mp y21_k (j - 52) (List.mem_range.mpr (by omega))
  rw [decide_eq_true_eq, show 52 + (j - 52) = j by omega] at h
  exact h
theorem ws_get {d : Nat} {h0 h : mj_H} {a P T : Nat} {φ : Nat → Int} {pl ts : List Value} (V : pv h0 h a P T φ pl ts) {w p : Int} (hw : 0 ≤ w ∧ w ≤ 5) (hp : 0 ≤ p ∧ p ≤ 7) : wp_R d 224 0 [some (.ref a), some (wp_i w), some (wp_i p), some (wp_i 0)] [] h (fun v h1 => h1 = h ∧ ∃ y : Int, v = some (wp_i y) ∧ wp_r y) := by
  refine wp_s (pc' := 1) ji_224_0 rfl rfl rfl ?_
  refine pv_gr V ji_224_1 jf_224_7 (by decide) pfr_0 (fun b1 tb2 => ?_)
  refine wp_bp ji_224_4 rfl ?_
  refine wp_s (pc' := 7) ji_224_6 rfl rfl rfl ?_
  refine wp_bp ji_224_7 rfl ?_
  refine wp_s (pc' := 10) ji_224_9 rfl rfl rfl ?_
  refine wp_imul (x := 8) (y := w) (z := 8 * w) ji_224_10 (by omega) ?_
  refine wp_s (pc' := 12) ji_224_11 rfl rfl rfl ?_
  refine wp_iadd (x := 8 * w) (y := p) (z := 8 * w + p) ji_224_12 (by omega) ?_
  refine wp_imul (x := 2) (y := 8 * w + p) (z := 2 * (8 * w + p)) ji_224_13 (by omega) ?_
  refine wp_iadd (x := 52) (y := 2 * (8 * w + p)) (z := 52 + (2 * (8 * w + p))) ji_224_14 (by omega) ?_
  refine wp_s (pc' := 16) ji_224_15 rfl rfl rfl ?_
  refine wp_iadd (x := 52 + (2 * (8 * w + p))) (y := 0) (z := 52 + (2 * (8 * w + p))) ji_224_16 (by omega) ?_
  refine pv_la V (x := 52 + (2 * (8 * w + p))) ji_224_17 tb2 rfl (by decide) (by omega) (by omega) (y21_f (by omega) (by omega)) (fun y5 l3 u4 => ?_)
  exact wp_ri ji_224_18 jr_224 rfl ⟨rfl, _, rfl, by omega⟩
theorem sx_M244 {d : Nat} (IH : sx_IH sx_PP d) : sx_M sx_PP d 244 sx_K244 := by
  intro vs h hH ha hd B hW hB
  match vs, ha with
  | [v0, v1, v2], ⟨⟨a, e0, ta⟩, ⟨z1, e1, p1, p2⟩, ⟨z2, e2, p3, p4⟩, _⟩ =>
  subst e0 e1 e2
  have p1 : (0 : Int) ≤ z1.toInt := p1
  have p2 : z1.toInt ≤ 5 := p2
  have p3 : (0 : Int) ≤ z2.toInt := p3
  have p4 : z2.toInt ≤ 7 := p4
  have ta : sx_tau[a]? = some 63 := ta
  have hd9 : (9 : Int) + 0 ≤ d := hd
  have hc : sx_cost sx_K244.2.2.2 = 0 := by decide
  rw [hc, Int.natCast_zero, Int.add_zero] at hB
  obtain ⟨e, rfl⟩ : ∃ e, d = e + 1 := ⟨d - 1, by omega⟩
  obtain ⟨P, T, φ, pl, ts, V⟩ := pv_init hH ta
  obtain ⟨A, fs, as, S, tA, g1, g2, g3, g4, g5, hcl⟩ := ws_clauseAny (d := e) V (so := 2) (by omega)
  refine ⟨[some (.ref a), some (.int z1), some (.int z2), none], by unfold mj_ent; rw [jn_244]; rfl, ?_⟩
  show wp_R (e + 1) 244 0 _ [] h (fun v h' => sx_H sx_TT 20 sx_tau h' ∧ sx_an sx_tau sx_K244.2.1 v ∧ sx_ef sx_tau sx_K244.2.2.2 h h' ∧ h'.length = h.length ∧ sx_W sx_tau h' (B + sx_cost sx_K244.2.2.2))
  rw [hc, Int.natCast_zero, Int.add_zero]
  refine wp_s (pc' := 1) ji_244_0 rfl rfl rfl ?_
  refine wp_s (pc' := 2) ji_244_1 rfl rfl rfl ?_
  refine pv_vc V ji_244_2 jc_244_276 jk_232 (rest := []) rfl (Nat.le_of_ble_eq_true rfl) rfl (by rw [jn_232]; rfl) hcl (fun v h1 R => ?_)
  obtain ⟨rfl, y, rfl, hy⟩ := R
  show wp_R (e + 1) 244 5 _ [wp_i y] h1 _
  refine wp_s (pc' := 6) (lv' := [some (.ref a), some (.int z1), some (.int z2), some (wp_i y)]) ji_244_5 rfl rfl rfl ?_
  refine wp_s (pc' := 7) ji_244_6 rfl rfl rfl ?_
  refine wp_if (t := 26) ji_244_7 rfl (by rcases hy with q | ⟨s, k, q⟩ <;> omega) (fun (hb : 0 ≤ y) => ?_) (fun hb => ?_)
  · obtain ⟨s, k, rfl, hs, rfl, hk, hn, hl⟩ := hy.resolve_left (by omega)
    refine wp_s (pc' := 27) ji_244_26 rfl rfl rfl ?_
    refine wp_s (pc' := 28) ji_244_27 rfl rfl rfl ?_
    refine wp_s (pc' := 29) ji_244_28 rfl rfl rfl ?_
    refine pv_vc V ji_244_29 jc_244_301 jk_226 (rest := []) rfl (Nat.le_of_ble_eq_true rfl) rfl (by rw [jn_226]; rfl) (wp_K (IH e (by omega) 226 sx_K226 rfl) (vs := [.ref a, .int z1, .int z2]) hH ⟨⟨a, rfl, ta⟩, ⟨z1, rfl, p1, p2⟩, ⟨z2, rfl, p3, p4⟩, trivial⟩ (show (3 : Int) + 0 ≤ e by omega) hW (show B + ((0 : Nat) : Int) ≤ sx_mx by omega) (by rw [jn_226]; rfl)) (fun v h2 R => ?_)
    obtain ⟨k1, k2, k3, k4, k5⟩ := R
    have k2 : v = none := k2
    subst k2
    have k5 : sx_W sx_tau h2 B := by
      have q : sx_W sx_tau h2 (B + ((0 : Nat) : Int)) := k5
      rw [Int.natCast_zero, Int.add_zero] at q
      exact q
    have k3 : sx_ef sx_tau [10066] h1 h2 := k3
    show wp_R (e + 1) 244 32 _ [] h2 _
    obtain ⟨-, -, -, -, -, tT, fs0, f1, f2, -, -, -, g6⟩ := V
    rw [g1] at f1
    cases f1
    obtain ⟨fs2, b1, b2⟩ := k3.1 a 11 fs g1
    have c0 := b2 (100 * 11 + 0) (by decide)
    have c2 := b2 (100 * 11 + 2) (by decide)
    rw [sx_at_f (by decide) (by decide), sx_at_f (by decide) (by decide)] at c0 c2
    obtain ⟨as2, q1, q2⟩ := k3.1 A 1000 as g3
    have c3 := q2 (20000 + 3) (by decide)
    rw [sx_at_a (by decide) tA (by decide), sx_at_a (by decide) tA (by decide)] at c3
    obtain ⟨-, us, w1, w2, -⟩ := k1 A 21 sx_y21 tA rfl
    have w1 : h2[A]? = some (1000, us) := w1
    rw [q1] at w1
    cases w1
    obtain ⟨ts2, t1, t2⟩ := k3.2.1 T 20 1000 ts tT (by decide) g6 (by decide)
    have ets : ts2 = ts := List.ext_getElem? (fun j => t2 j (fun e => by cases e))
    subst ets
    obtain ⟨f, h3, r1, r2, r3, r4, r5⟩ := sx_work (fun d1 hd1 => IH d1 (by omega)) (d := e) (by omega) hB k1 k5 ta b1 (c0.trans g2) (c2.trans f2) q1 w2 tT t1 (S := Int32.ofInt (s : Int)) (K := Int32.ofInt (k : Int)) (c3.trans g5) (wp_ti (by omega)) hs (wp_ti (by omega)) hk hn (by omega)
    refine wp_s (pc' := 33) ji_244_32 rfl rfl rfl ?_
    refine wp_s (pc' := 34) ji_244_33 rfl rfl rfl ?_
    refine wp_vc (as := [.ref a, wp_i (k : Int)]) ji_244_34 jc_244_279 rfl b1 jk_233.symm (Nat.le_of_ble_eq_true rfl) rfl (by rw [jn_233]; rfl) (Q1 := fun v h' => v = none ∧ h' = h3) ⟨f, none, h3, r1, rfl, rfl⟩ (fun v h4 R => ?_)
    obtain ⟨rfl, rfl⟩ := R
    show wp_R (e + 1) 244 37 _ [] h4 _
    obtain ⟨us2, v, u1, u2, u3, X, rfl, tX⟩ := sx_rf r2 ta (k := 24) (d := (2, 68, 0)) (by decide) (by decide)
    have tX : sx_tau[X]? = some 68 := tX
    obtain ⟨-, ws, w1, w2, w3, -⟩ := r2 X 68 sx_y68 tX rfl
    have w1 : h4[X]? = some (1001, ws) := w1
    have w2 : ws.length = 330 := w2
    have hv : ws[0]? = some ws[0] := List.getElem?_eq_getElem (by omega)
    obtain ⟨dd, d1, d2⟩ := w3 _ _ hv
    have d1 : some ((0, 0, 1) : sx_D) = some dd := d1
    cases d1
    obtain ⟨zz, ez, z0, z1'⟩ := d2
    rw [ez, wp_iz] at hv
    refine wp_s (pc' := 38) ji_244_37 rfl rfl rfl ?_
    refine wp_gf ji_244_38 jf_244_39 u1 u3 ?_
    refine wp_s (pc' := 42) ji_244_41 rfl rfl rfl ?_
    refine wp_bal (x := 0) ji_244_42 w1 (by omega) (by omega) (by omega) hv ?_
    have z0 : (0 : Int) ≤ zz.toInt := z0
    have z1' : zz.toInt ≤ 1 := z1'
    exact wp_ri ji_244_43 jr_244 (pv_nb (by omega)) ⟨r2, ⟨_, rfl, _, rfl, by rw [wp_ti (by omega)]; exact z0, by rw [wp_ti (by omega)]; exact z1'⟩, sx_ef_tr (sx_ef_sub k3 (by decide)) (sx_ef_sub r3 (by decide)), r4.trans k4, r5⟩
  · refine wp_s (pc' := 11) ji_244_10 rfl rfl rfl ?_
    refine wp_s (pc' := 12) ji_244_11 rfl rfl rfl ?_
    refine wp_s (pc' := 13) ji_244_12 rfl rfl rfl ?_
    refine wp_s (pc' := 14) ji_244_13 rfl rfl rfl ?_
    refine pv_vc V ji_244_14 jc_244_70 jk_224 (rest := []) rfl (Nat.le_of_ble_eq_true rfl) rfl (by rw [jn_224]; rfl) (by rw [wp_iz (z := z1), wp_iz (z := z2)]; exact ws_get V (by omega) (by omega)) (fun v h1 R => ?_)
    obtain ⟨rfl, y2, rfl, hy2⟩ := R
    show wp_R (e + 1) 244 17 _ [wp_i y2] h1 _
    refine wp_if (t := 24) ji_244_17 rfl hy2 (fun _ => ?_) (fun _ => ?_)
    · refine wp_s (pc' := 25) ji_244_24 rfl rfl rfl ?_
      exact wp_ri ji_244_25 jr_244 rfl ⟨hH, ⟨_, rfl, _, rfl, by decide, by decide⟩, sx_ef_rf, rfl, hW⟩
    · refine wp_s (pc' := 21) ji_244_20 rfl rfl rfl ?_
      refine wp_goto (t := 25) ji_244_21 rfl ?_
      exact wp_ri ji_244_25 jr_244 rfl ⟨hH, ⟨_, rfl, _, rfl, by decide, by decide⟩, sx_ef_rf, rfl, hW⟩
