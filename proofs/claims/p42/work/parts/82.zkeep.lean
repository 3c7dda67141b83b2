/-! shown by hand: keep's rows moved down -/
set_option maxRecDepth 100000 in
theorem kp_i : mj_ins 219 13 = some (.iload_n 1) ∧ mj_ins 219 14 = some (.sipush 3190) ∧ mj_ins 219 17 = some (.if_icmp .ge 29) ∧ mj_ins 219 20 = some (.aload_n 0) ∧ mj_ins 219 21 = some (.getfield 7) ∧ mj_ins 219 24 = some (.sipush 184) ∧ mj_ins 219 27 = some (.iload_n 1) ∧ mj_ins 219 28 = some .iadd ∧ mj_ins 219 29 = some (.aload_n 0) ∧ mj_ins 219 30 = some (.getfield 7) ∧ mj_ins 219 33 = some (.sipush 294) ∧ mj_ins 219 36 = some (.iload_n 1) ∧ mj_ins 219 37 = some .iadd ∧ mj_ins 219 38 = some .iaload ∧ mj_ins 219 39 = some .iastore ∧ mj_ins 219 40 = some (.iinc 1 1) ∧ mj_ins 219 43 = some (.goto (-30)) ∧ mj_fld 219 7 = some (11, 0, .array .int, false) := by decide +kernel
def kp_ds : List sx_D := match sx_y21.2.2[21]? with
  | some (_, _, ds) => ds
  | none => []
set_option maxRecDepth 100000 in
theorem kp_y : (sx_y21.2.2.take 21).all (fun r => decide (r.1 + r.2.1 ≤ 184)) = true ∧ sx_y21.2.2[21]? = some (184, 3300, kp_ds) ∧ kp_ds.length = 110 := by decide +kernel
theorem kp_fd {j : Nat} (h1 : 184 ≤ j) (h2 : j < 3484) : sx_fd sx_y21.2.2 j = kp_ds[(j - 184) % 110]? := by
  obtain ⟨y1, y2, y3⟩ := kp_y
  have hl := (List.getElem?_eq_some_iff.mp y2).1
  have hsplit : sx_y21.2.2 = sx_y21.2.2.take 21 ++ sx_y21.2.2.drop 21 := (List.take_append_drop 21 _).symm
  have hdrop : sx_y21.2.2.drop 21 = (184, 3300, kp_ds) :: sx_y21.2.2.drop 22 := by
    rw [List.drop_eq_getElem_cons hl]
    have := (List.getElem?_eq_some_iff.mp y2).2
    rw [this]
  have hf : sx_y21.2.2.find? (fun q => decide (q.1 ≤ j) && decide (j < q.1 + q.2.1)) = some (184, 3300, kp_ds) := by
    rw [hsplit, List.find?_append, hdrop]
    have e1 : (sx_y21.2.2.take 21).find? (fun q => decide (q.1 ≤ j) && decide (j < q.1 + q.2.1)) = none := by
      rw [List.find?_eq_none]
      intro q hq hb
      have := List.all_eq_true.mp y1 q hq
      rw [decide_eq_true_eq] at this
      simp only [Bool.and_eq_true, decide_eq_true_eq] at hb
      omega
    rw [e1, List.find?_cons_of_pos]
    · rfl
    · simp only [Bool.and_eq_true, decide_eq_true_eq]
      omega
  unfold sx_fd
  rw [hf]
  dsimp only
  rw [y3]
/-- the end of the loop, by the checker -/
def kp_S : sx_S := (13, [some (2, (63, [(0, 0)])), some (0, (0, [(1, 0)])), none], [], [(3190, 3190, []), (30, 30, [])], 2, [(0, 1100, (2, (21, [(0, 1)]))), (1, 20004, (0, (0, [(1, 1)])))])
set_option maxRecDepth 100000 in
theorem kp_k : sx_sp sx_PP 219 sx_K219 (sx_X0 sx_K219) 3000 (sx_go sx_PP 219 sx_K219 (sx_X0 sx_K219) 0 sx_c219 (some (3295, [(-1, 0)])) 3000) (0, []) kp_S = true := by decide +kernel
theorem kp_ti {k : Nat} (hk : k ≤ 100000) : (Int32.ofInt (k : Int)).toInt = (k : Int) := Int32.toInt_ofInt_of_le (by omega) (by omega)
theorem kp_hd {d : Nat} (IH : sx_IH sx_PP d) : sx_hd sx_PP d 219 sx_K219 sx_c219 sx_c219_0 := by
  intro B r g lv h hB hg hX hW hU
  have hg0 := hg
  obtain ⟨hl, hs, hE, hC, hH⟩ := hg
  have hc0 : sx_cost sx_K219.2.2.2 = 0 := by decide
  have hE0 : (0 : Int) ≤ r 0 ∧ r 0 ≤ 3190 := ⟨(hE 0 (0, 3190, []) rfl).1, (hE 0 (0, 3190, []) rfl).2.1⟩
  have hE1 : (30 : Int) ≤ r 1 ∧ r 1 ≤ 30 := ⟨(hE 1 (30, 30, []) rfl).1, (hE 1 (30, 30, []) rfl).2.1⟩
  have hX0 : sx_lt 0 (sx_X0 sx_K219) = true := by decide
  have hW0 : sx_W sx_tau h (B + sx_ev r (0, [])) := hW
  by_cases hk : r 0 = 3190
  · refine sx_sp_ok (S := kp_S) (q := (0, [])) kp_k ⟨hl, trivial, ?_, hC, hH⟩ hX (sx_lt_le (Nat.zero_le _) hX0) hB ⟨hW0, by rw [hc0]; exact Int.le_refl 0, rfl⟩ IH (fun q' S' r2 g2 lv2 st2 h2 k1 k2 k3 k4 k5 => ?_)
    · intro i q hq
      match i, hq with
      | 0, hq => cases hq; exact ⟨by rw [hk]; decide, by rw [hk]; decide, fun y hy => by cases hy⟩
      | 1, hq => cases hq; exact ⟨hE1.1, hE1.2, fun y hy => by cases hy⟩
      | i + 2, hq => simp at hq
    · have k3 : ∀ j, j < 2 → r2 j = r j := k3
      have k4 : 2 ≤ S'.2.2.2.1.length := k4
      refine sx_go_ok (r0 := r) (mv := sx_ev r (3295, [(-1, 0)])) (nb := 2) IH hX hX0 (fun x hx => by cases hx; decide) hB (fun U hUm r3 g3 lv3 h3 q1 q2 q3 q4 => ?_) 3000 q' S' r2 g2 lv2 st2 h2 k1 k2 (by omega) k4 (fun j hj => by omega) (fun x hx => by cases hx; exact sx_ev_eq k3 (by decide)) k5
      exact hU U hUm r3 g3 lv3 h3 q1 (fun j hj => absurd hj (Nat.not_lt_zero j)) (q3 _ rfl) q4
  · obtain ⟨k, hkn⟩ : ∃ k : Nat, r 0 = (k : Int) := ⟨(r 0).toNat, by omega⟩
    have hk2 : k < 3190 := by omega
    obtain ⟨i13, i14, i17, i20, i21, i24, i27, i28, i29, i30, i33, i36, i37, i38, i39, i40, i43, f7⟩ := kp_i
    obtain ⟨v0, l0, e0, ta⟩ := hl.2 0 (2, (63, [(0, 0)])) rfl
    obtain ⟨v1, l1, z, e1, ez⟩ := hl.2 1 (0, (0, [(1, 0)])) rfl
    subst e0 e1
    have ez : z.toInt = (k : Int) := by
      rw [ez, show ((0, [(1, 0)]) : sx_X) = sx_v 0 from rfl, sx_v_ev, hkn]
    have ezk : z = Int32.ofInt (k : Int) := Int32.toInt_inj.mp (by rw [ez, kp_ti (by omega)])
    subst ezk
    have ta : sx_tau[g 0]? = some 63 := ta
    obtain ⟨kd, fs, v, c1, c2, c3, tA⟩ := hC (0, 1100, (2, (21, [(0, 1)]))) (List.mem_cons_self)
    subst c3
    have tA : sx_tau[g 1]? = some 21 := tA
    obtain ⟨-, fs2, f1, f2, -⟩ := hH (g 0) 63 sx_y63 ta rfl
    have f1 : h[g 0]? = some (11, fs2) := f1
    rw [f1] at c1
    cases c1
    have c2 : sx_at sx_tau (g 0) (11, fs) (100 * 11 + 0) = some (.ref (g 1)) := c2
    rw [sx_at_f (by decide) (by decide)] at c2
    obtain ⟨n0, as, a1, a2, a3, -⟩ := hH (g 1) 21 sx_y21 tA rfl
    have a1 : h[g 1]? = some (1000, as) := a1
    have a2 : as.length = 6044 := a2
    have hlA := sx_lt_of a1
    have hne : g 1 ≠ g 0 := fun e => by
      rw [e, ta] at tA
      cases tA
    have hv : as[294 + k]? = some as[294 + k] := List.getElem?_eq_getElem (by omega)
    obtain ⟨dd, d1, d2⟩ := a3 _ _ hv
    obtain ⟨dk, lo, hi⟩ := dd
    have dke : dk = 0 := cp_int d1
    subst dke
    obtain ⟨y, ey, y1, y2⟩ := d2
    rw [ey] at hv
    have hfd : sx_fd sx_y21.2.2 (184 + k) = some (0, lo, hi) := by
      rw [← d1, kp_fd (by omega) (by omega), kp_fd (by omega) (by omega), show (294 + k - 184) % 110 = (184 + k - 184) % 110 by omega]
    have hsum : ∀ n : Nat, n ≤ 1000 → Int32.ofInt (n : Int) + Int32.ofInt (k : Int) = Int32.ofInt ((n + k : Nat) : Int) := fun n _ => by
      rw [← Int32.ofInt_add]
      rfl
    have e184 : (Int16.ofInt 184).toInt32 = Int32.ofInt ((184 : Nat) : Int) := by decide
    have e294 : (Int16.ofInt 294).toInt32 = Int32.ofInt ((294 : Nat) : Int) := by decide
    have e3190 : (Int16.ofInt 3190).toInt32.toInt = 3190 := by decide
    have hel : mj_el h (g 1) 1000 ((Int16.ofInt 294).toInt32 + Int32.ofInt (k : Int)) = some (.int y) := by
      unfold mj_el
      rw [a1]
      dsimp only
      rw [if_pos rfl, e294, hsum 294 (by omega), cp_ix (by omega) (by omega)]
      exact hv
    have hes : mj_es mj_n0 h (g 1) 1000 ((Int16.ofInt 184).toInt32 + Int32.ofInt (k : Int)) (.int y) = some (h.set (g 1) (1000, as.set (184 + k) (.int y))) := by
      unfold mj_es
      rw [a1]
      dsimp only
      rw [if_pos ⟨rfl, n0 (by decide)⟩, e184, hsum 184 (by omega), cp_ix (by omega) (by omega)]
    have hH2 : sx_H sx_TT 20 sx_tau (h.set (g 1) (1000, as.set (184 + k) (.int y))) := by
      refine sx_H_set (P := sx_PP) hH tA (t := 21) (kd := sx_y21.1) (len := sx_y21.2.1) (l := sx_y21.2.2) rfl (by rw [List.length_set]; exact a2) hlA (fun j w hw => ?_) (fun e => by cases e)
      by_cases e : 184 + k = j
      · subst e
        rw [List.getElem?_set_self (by omega)] at hw
        cases hw
        exact ⟨(0, lo, hi), hfd, y, rfl, y1, y2⟩
      · rw [List.getElem?_set_ne e] at hw
        exact a3 j w hw
    have hsens : sx_sens 21 (184 + k) = true → sx_sens 21 (294 + k) = true := by
      unfold sx_sens
      intro q
      simp only [Bool.or_eq_true, Bool.and_eq_true, decide_eq_true_eq, beq_iff_eq] at q ⊢
      have e : (294 + k - 184) % 110 = (184 + k - 184) % 110 := by omega
      rcases q with ⟨-, q⟩ | ⟨-, q1, q2, q3⟩
      · omega
      · exact Or.inr ⟨Or.inl trivial, by omega, by omega, by rw [e]; exact q3⟩
    have hWs : ∀ B', sx_W sx_tau h B' → sx_W sx_tau (h.set (g 1) (1000, as.set (184 + k) (.int y))) B' := by
      intro B' hW' c t kc vs j w h1 h2 h3 h4
      by_cases e : g 1 = c
      · subst e
        rw [List.getElem?_set_self hlA] at h2
        cases h2
        by_cases e2 : 184 + k = j
        · subst e2
          rw [List.getElem?_set_self (by omega)] at h4
          cases h4
          rw [tA] at h1
          cases h1
          exact hW' (g 1) 21 1000 as (294 + k) y tA a1 (hsens h3) hv
        · rw [List.getElem?_set_ne e2] at h4
          exact hW' (g 1) t 1000 as j w h1 a1 h3 h4
      · rw [List.getElem?_set_ne e] at h2
        exact hW' c t kc vs j w h1 h2 h3 h4
    have hef : sx_ef sx_tau sx_K219.2.2.2 h (h.set (g 1) (1000, as.set (184 + k) (.int y))) := by
      refine sx_ef_ax (t := 21) a1 tA (fun key _ => sx_at_as (by decide) (fun _ q e => by omega)) (fun _ q => absurd (by decide) q) (fun _ B' hW' => hWs B' hW')
    have hlen : lv.length = 3 := hl.1.symm
    have hlv2 : sx_lr (sx_upi r 0 ((k : Int) + 1)) g sx_tau sx_c219_0.2.1 (mj_s1 lv 1 (.int (Int32.ofInt ((k + 1 : Nat) : Int)))) := by
      have q0 : sx_lr (sx_upi r 0 ((k : Int) + 1)) g sx_tau [some (2, (63, [(0, 0)])), none, none] lv := by
        refine ⟨hl.1, fun j x hx => ?_⟩
        match j, hx with
        | 0, hx => cases hx; exact ⟨_, l0, rfl, ta⟩
        | 1, hx => cases hx
        | 2, hx => cases hx
        | j + 3, hx => simp at hx
      have q1 := sx_s1_ok q0 (i := 1) (a := (0, sx_v 0)) (v := .int (Int32.ofInt ((k + 1 : Nat) : Int))) ⟨_, rfl, by rw [sx_v_ev, kp_ti (by omega)]; show ((k + 1 : Nat) : Int) = (k : Int) + 1; omega⟩ (by decide)
      exact q1
    have hR := hU sx_c219_0 (List.mem_cons_self) (sx_upi r 0 ((k : Int) + 1)) g (mj_s1 lv 1 (.int (Int32.ofInt ((k + 1 : Nat) : Int)))) (h.set (g 1) (1000, as.set (184 + k) (.int y))) ⟨hlv2, trivial, ?_, ?_, hH2⟩ (fun j hj => absurd hj (Nat.not_lt_zero j)) ?_ ?_
    rotate_left
    · intro i q hq
      match i, hq with
      | 0, hq => cases hq; exact ⟨show (0 : Int) ≤ (k : Int) + 1 by omega, show (k : Int) + 1 ≤ 3190 by omega, fun y hy => by cases hy⟩
      | 1, hq => cases hq; exact ⟨hE1.1, hE1.2, fun y hy => by cases hy⟩
      | i + 2, hq => simp [sx_c219_0] at hq
    · intro q hq
      have hq : q ∈ ([(0, 1100, (2, (21, [(0, 1)]))), (1, 20004, (0, (0, [(1, 1)])))] : sx_C) := hq
      rcases List.mem_cons.mp hq with e | e
      · subst e
        exact ⟨11, fs, .ref (g 1), by show (h.set (g 1) _)[g 0]? = _; rw [List.getElem?_set_ne hne]; exact f1, by show sx_at sx_tau (g 0) (11, fs) (100 * 11 + 0) = _; rw [sx_at_f (by decide) (by decide)]; exact c2, rfl, tA⟩
      · have e := List.mem_singleton.mp e
        subst e
        obtain ⟨kd4, us4, v4, g1, g2, g3⟩ := hC (1, 20004, (0, (0, [(1, 1)]))) (List.mem_cons_of_mem _ List.mem_cons_self)
        have g1 : h[g 1]? = some (kd4, us4) := g1
        rw [a1] at g1
        cases g1
        refine ⟨1000, as.set (184 + k) (.int y), v4, List.getElem?_set_self hlA, ?_, g3⟩
        have g2 : sx_at sx_tau (g 1) (1000, as) (20000 + 4) = some v4 := g2
        show sx_at sx_tau (g 1) (1000, as.set (184 + k) (.int y)) (20000 + 4) = some v4
        rw [sx_at_as (by decide) (fun _ _ e => by omega)]
        exact g2
    · show (3295 : Int) + (-1 * ((k : Int) + 1) + 0) + 1 ≤ 3295 + (-1 * r 0 + 0)
      omega
    · exact hWs _ hW0
    obtain ⟨f, w, h2, q1, q2, q3, q4, q5, q6⟩ := hR
    refine ⟨f + 17, w, h2, ?_, q2, q3, sx_ef_tr hef q4, q5.trans (List.length_set ..), q6⟩
    have hcmp : mj_cmp .ge (Int32.ofInt (k : Int)) (Int16.ofInt 3190).toInt32 = false := decide_eq_false (fun q => by
      have := Int32.le_iff_toInt_le.mp q
      rw [kp_ti (by omega), e3190] at this
      omega)
    show mj_run (f + 17) d 219 13 lv [] h = some (w, h2)
    refine mj_run_s i13 rfl rfl (show mj_li 13 lv [] h 1 1 = some (14, lv, [.int (Int32.ofInt (k : Int))], h) by unfold mj_li; rw [l1]) ?_
    refine mj_run_s i14 rfl rfl rfl ?_
    refine mj_run_s (pc' := 20) (lv' := lv) (st' := []) (h' := h) i17 rfl rfl (show some ((if mj_cmp .ge (Int32.ofInt (k : Int)) (Int16.ofInt 3190).toInt32 = true then 46 else 20), lv, ([] : List Value), h) = _ by rw [hcmp]; rfl) ?_
    refine mj_run_s i20 rfl rfl (show mj_la 20 lv [] h 0 1 = some (21, lv, [.ref (g 0)], h) by unfold mj_la; rw [l0]) ?_
    refine mj_run_s i21 rfl rfl (by simp only [mj_st, f7, f1, if_true, c2]; rfl) ?_
    refine mj_run_s i24 rfl rfl rfl ?_
    refine mj_run_s i27 rfl rfl (show mj_li 27 lv [.int (Int16.ofInt 184).toInt32, .ref (g 1)] h 1 1 = some (28, lv, [.int (Int32.ofInt (k : Int)), .int (Int16.ofInt 184).toInt32, .ref (g 1)], h) by unfold mj_li; rw [l1]) ?_
    refine mj_run_s i28 rfl rfl rfl ?_
    refine mj_run_s i29 rfl rfl (show mj_la 29 lv [.int ((Int16.ofInt 184).toInt32 + Int32.ofInt (k : Int)), .ref (g 1)] h 0 1 = some (30, lv, [.ref (g 0), .int ((Int16.ofInt 184).toInt32 + Int32.ofInt (k : Int)), .ref (g 1)], h) by unfold mj_la; rw [l0]) ?_
    refine mj_run_s i30 rfl rfl (by simp only [mj_st, f7, f1, if_true, c2]; rfl) ?_
    refine mj_run_s i33 rfl rfl rfl ?_
    refine mj_run_s i36 rfl rfl (show mj_li 36 lv [.int (Int16.ofInt 294).toInt32, .ref (g 1), .int ((Int16.ofInt 184).toInt32 + Int32.ofInt (k : Int)), .ref (g 1)] h 1 1 = some (37, lv, [.int (Int32.ofInt (k : Int)), .int (Int16.ofInt 294).toInt32, .ref (g 1), .int ((Int16.ofInt 184).toInt32 + Int32.ofInt (k : Int)), .ref (g 1)], h) by unfold mj_li; rw [l1]) ?_
    refine mj_run_s i37 rfl rfl rfl ?_
    refine mj_run_s i38 rfl rfl (by simp only [mj_st, hel, Option.map_some]; rfl) ?_
    refine mj_run_s i39 rfl rfl (by simp only [mj_st, hes, Option.map_some]; rfl) ?_
    refine mj_run_s (pc' := 43) (lv' := mj_s1 lv 1 (.int (Int32.ofInt ((k + 1 : Nat) : Int)))) (st' := []) (h' := h.set (g 1) (1000, as.set (184 + k) (.int y))) i40 rfl rfl ?_ ?_
    · have e1 : Int32.ofInt ((k + 1 : Nat) : Int) = Int32.ofInt (k : Int) + Int32.ofInt 1 := by
        rw [← Int32.ofInt_add]
        rfl
      rw [e1]
      simp only [mj_st, l1]
      rw [if_pos (by omega)]
    refine mj_run_s (pc' := 13) i43 rfl rfl rfl ?_
    exact q1
theorem sx_M219 {d : Nat} (IH : sx_IH sx_PP d) : sx_M sx_PP d 219 sx_K219 := by
  refine sx_ch0_ok IH sx_k219_e (fun T hT => ?_)
  simp only [sx_c219, List.mem_cons, List.not_mem_nil, or_false] at hT
  rcases hT with rfl | rfl | rfl
  · exact Or.inr ⟨by decide, kp_hd IH⟩
  · exact Or.inl sx_k219_1
  · exact Or.inl sx_k219_2
