/-! -/
set_option maxRecDepth 100000 in
theorem ji_308_0 : mj_ins 308 0 = some (.iconst 0) := by decide +kernel
set_option maxRecDepth 100000 in
theorem ji_308_1 : mj_ins 308 1 = some (.istore_n 3) := by decide +kernel
set_option maxRecDepth 100000 in
theorem ji_308_2 : mj_ins 308 2 = some (.iconst 0) := by decide +kernel
set_option maxRecDepth 100000 in
theorem ji_308_3 : mj_ins 308 3 = some (.istore 4) := by decide +kernel
set_option maxRecDepth 100000 in
theorem ji_308_5 : mj_ins 308 5 = some (.aload_n 0) := by decide +kernel
set_option maxRecDepth 100000 in
theorem ji_308_6 : mj_ins 308 6 = some (.invokevirtual 440) := by decide +kernel
set_option maxRecDepth 100000 in
theorem jc_308_440 : mj_cal 308 440 = some (2, 295, 0) := by decide +kernel
set_option maxRecDepth 100000 in
theorem ji_308_9 : mj_ins 308 9 = some (.iconst 1) := by decide +kernel
set_option maxRecDepth 100000 in
theorem ji_308_10 : mj_ins 308 10 = some (.istore 5) := by decide +kernel
set_option maxRecDepth 100000 in
theorem jn_308 : mj_nl 308 = 7 := by decide +kernel
set_option maxRecDepth 100000 in
theorem jn_311 : mj_nl 311 = 4 := by decide +kernel
set_option maxRecDepth 100000 in
theorem ji_247_0 : mj_ins 247 0 = some (.iload_n 1) := by decide +kernel
set_option maxRecDepth 100000 in
theorem ji_247_1 : mj_ins 247 1 = some (.iconst 0) := by decide +kernel
set_option maxRecDepth 100000 in
theorem ji_247_2 : mj_ins 247 2 = some (.aload_n 0) := by decide +kernel
set_option maxRecDepth 100000 in
theorem ji_247_3 : mj_ins 247 3 = some (.getfield 7) := by decide +kernel
set_option maxRecDepth 100000 in
theorem jf_247_7 : mj_fld 247 7 = some (11, 0, (.array .int), false) := by decide +kernel
set_option maxRecDepth 100000 in
theorem ji_247_6 : mj_ins 247 6 = some (.iconst 1) := by decide +kernel
set_option maxRecDepth 100000 in
theorem ji_247_7 : mj_ins 247 7 = some (.iaload) := by decide +kernel
set_option maxRecDepth 100000 in
theorem ji_247_8 : mj_ins 247 8 = some (.iconst 1) := by decide +kernel
set_option maxRecDepth 100000 in
theorem ji_247_9 : mj_ins 247 9 = some (.isub) := by decide +kernel
set_option maxRecDepth 100000 in
theorem ji_247_10 : mj_ins 247 10 = some (.invokestatic 66) := by decide +kernel
set_option maxRecDepth 100000 in
theorem jc_247_66 : mj_cal 247 66 = some (1, 171, 3) := by decide +kernel
set_option maxRecDepth 100000 in
theorem ji_247_13 : mj_ins 247 13 = some (.ireturn) := by decide +kernel
set_option maxRecDepth 100000 in
theorem jr_247 : mj_ret 247 = some .boolean := by decide +kernel
set_option maxRecDepth 100000 in
theorem ji_311_0 : mj_ins 311 0 = some (.aload_n 0) := by decide +kernel
set_option maxRecDepth 100000 in
theorem ji_311_1 : mj_ins 311 1 = some (.iload_n 1) := by decide +kernel
set_option maxRecDepth 100000 in
theorem ji_311_2 : mj_ins 311 2 = some (.invokevirtual 345) := by decide +kernel
set_option maxRecDepth 100000 in
theorem jc_311_345 : mj_cal 311 345 = some (2, 247, 1) := by decide +kernel
set_option maxRecDepth 100000 in
theorem jk_247 : mj_cls 247 = 11 := by decide +kernel
set_option maxRecDepth 100000 in
theorem jn_247 : mj_nl 247 = 2 := by decide +kernel
set_option maxRecDepth 100000 in
theorem ji_311_5 : mj_ins 311 5 = some (.ifCond .eq 16) := by decide +kernel
set_option maxRecDepth 100000 in
theorem ji_311_21 : mj_ins 311 21 = some (.iconst (-1)) := by decide +kernel
set_option maxRecDepth 100000 in
theorem ji_311_22 : mj_ins 311 22 = some (.ireturn) := by decide +kernel
set_option maxRecDepth 100000 in
theorem jr_311 : mj_ret 311 = some .int := by decide +kernel
set_option maxRecDepth 100000 in
theorem ji_311_8 : mj_ins 311 8 = some (.aload_n 0) := by decide +kernel
set_option maxRecDepth 100000 in
theorem ji_311_9 : mj_ins 311 9 = some (.iload_n 2) := by decide +kernel
set_option maxRecDepth 100000 in
theorem ji_311_10 : mj_ins 311 10 = some (.invokevirtual 345) := by decide +kernel
set_option maxRecDepth 100000 in
theorem ji_311_13 : mj_ins 311 13 = some (.ifCond .eq 8) := by decide +kernel
set_option maxRecDepth 100000 in
theorem ji_311_16 : mj_ins 311 16 = some (.iload_n 1) := by decide +kernel
set_option maxRecDepth 100000 in
theorem ji_311_17 : mj_ins 311 17 = some (.iload_n 2) := by decide +kernel
set_option maxRecDepth 100000 in
theorem ji_311_18 : mj_ins 311 18 = some (.if_icmp .ne 5) := by decide +kernel
set_option maxRecDepth 100000 in
theorem ji_311_23 : mj_ins 311 23 = some (.aload_n 0) := by decide +kernel
set_option maxRecDepth 100000 in
theorem ji_311_24 : mj_ins 311 24 = some (.iconst (-1)) := by decide +kernel
set_option maxRecDepth 100000 in
theorem ji_311_25 : mj_ins 311 25 = some (.iconst (-1)) := by decide +kernel
set_option maxRecDepth 100000 in
theorem ji_311_26 : mj_ins 311 26 = some (.invokevirtual 467) := by decide +kernel
set_option maxRecDepth 100000 in
theorem jc_311_467 : mj_cal 311 467 = some (2, 308, 2) := by decide +kernel
set_option maxRecDepth 100000 in
theorem jk_308 : mj_cls 308 = 11 := by decide +kernel
set_option maxRecDepth 100000 in
theorem ji_311_29 : mj_ins 311 29 = some (.istore_n 3) := by decide +kernel
set_option maxRecDepth 100000 in
theorem ji_311_30 : mj_ins 311 30 = some (.iload_n 3) := by decide +kernel
set_option maxRecDepth 100000 in
theorem ji_311_31 : mj_ins 311 31 = some (.ifCond .ne 7) := by decide +kernel
set_option maxRecDepth 100000 in
theorem ji_311_38 : mj_ins 311 38 = some (.aload_n 0) := by decide +kernel
set_option maxRecDepth 100000 in
theorem ji_311_39 : mj_ins 311 39 = some (.iload_n 1) := by decide +kernel
set_option maxRecDepth 100000 in
theorem ji_311_40 : mj_ins 311 40 = some (.iload_n 2) := by decide +kernel
set_option maxRecDepth 100000 in
theorem ji_311_41 : mj_ins 311 41 = some (.invokevirtual 467) := by decide +kernel
set_option maxRecDepth 100000 in
theorem ji_311_44 : mj_ins 311 44 = some (.iload_n 3) := by decide +kernel
set_option maxRecDepth 100000 in
theorem ji_311_45 : mj_ins 311 45 = some (.if_icmp .ne 7) := by decide +kernel
set_option maxRecDepth 100000 in
theorem ji_311_52 : mj_ins 311 52 = some (.iconst 0) := by decide +kernel
set_option maxRecDepth 100000 in
theorem ji_311_53 : mj_ins 311 53 = some (.ireturn) := by decide +kernel
set_option maxRecDepth 100000 in
theorem ji_311_48 : mj_ins 311 48 = some (.iconst 1) := by decide +kernel
set_option maxRecDepth 100000 in
theorem ji_311_49 : mj_ins 311 49 = some (.goto 4) := by decide +kernel
set_option maxRecDepth 100000 in
theorem ji_311_34 : mj_ins 311 34 = some (.iconst (-1)) := by decide +kernel
set_option maxRecDepth 100000 in
theorem ji_311_35 : mj_ins 311 35 = some (.goto 18) := by decide +kernel
/-! the reference's ordersOf and surely; laid by program (wp_sur.py) -/
theorem ws_orders {d : Nat} {M : List Nat} (hM : 10069 ∈ M) (hMF : 10072 ∈ M) {h0 h : mj_H} {a R X A PN : Nat} {rl tl : List Value} {o1 o2 : Int} (ho1 : -1 ≤ o1 ∧ o1 ≤ 5) (ho2 : -1 ≤ o2 ∧ o2 ≤ 5) (ho : ¬ o1 = -1 → 0 ≤ o2) (V : rv M h0 h a R X A (PN : Int) rl tl) : wp_R (d + 1 + 1) 308 0 [some (.ref a), some (wp_i o1), some (wp_i o2), none, none, none, none] [] h (fun v h1 => ∃ y : Int, v = some (wp_i y) ∧ 0 ≤ y ∧ y ≤ 720 ∧ ∃ rl' tl', rv M h0 h1 a R X A (PN : Int) rl' tl') := by
  have hP : (0 : Int) ≤ (PN : Int) ∧ (PN : Int) ≤ 6 := V.2.2.2.2.2.2.2.1
  refine wp_s (pc' := 1) ji_308_0 rfl rfl rfl ?_
  refine wp_s (pc' := 2) (lv' := [some (.ref a), some (wp_i o1), some (wp_i o2), some (wp_i 0), none, none, none]) ji_308_1 rfl rfl rfl ?_
  refine wp_s (pc' := 3) ji_308_2 rfl rfl rfl ?_
  refine wp_s (pc' := 5) (lv' := [some (.ref a), some (wp_i o1), some (wp_i o2), some (wp_i 0), some (wp_i 0), none, none]) ji_308_3 rfl rfl rfl ?_
  refine wp_s (pc' := 6) ji_308_5 rfl rfl rfl ?_
  refine rv_vc V ji_308_6 jc_308_440 jk_295 (rest := []) rfl (Nat.le_of_ble_eq_true rfl) rfl (by rw [jn_295]; rfl) (ws_firstRow hM V) (fun v h R => ?_)
  obtain ⟨rfl, rl1, V, hr1⟩ := R
  show wp_R (d + 1 + 1) 308 9 [some (.ref a), some (wp_i o1), some (wp_i o2), some (wp_i 0), some (wp_i 0), none, none] [] h _
  refine wp_s (pc' := 10) ji_308_9 rfl rfl rfl ?_
  refine wp_s (pc' := 12) (lv' := [some (.ref a), some (wp_i o1), some (wp_i o2), some (wp_i 0), some (wp_i 0), some (wp_i 1), none]) ji_308_10 rfl rfl rfl ?_
  exact og12 hM hMF ho1 ho2 ho 720 [0, 1, 2, 3, 4, 5] rl1 _ h 0 0 none (List.all_eq_true.mp nr_all PN (List.mem_range.mpr (by omega))) V hr1 (by omega) (by omega)
theorem sx_M308 {d : Nat} (IH : sx_IH sx_PP d) : sx_M sx_PP d 308 sx_K308 := by
  intro vs h hH ha hd B hW hB
  match vs, ha with
  | [v0, v1, v2], ⟨⟨a, e0, ta⟩, ⟨z1, e1, p1, p2⟩, ⟨z2, e2, p3, p4⟩, _⟩ =>
  subst e0 e1 e2
  have p1 : (-1 : Int) ≤ z1.toInt := p1
  have p2 : z1.toInt ≤ -1 := p2
  have p3 : (-1 : Int) ≤ z2.toInt := p3
  have p4 : z2.toInt ≤ -1 := p4
  have hd9 : (9 : Int) + 0 ≤ d := hd
  have hc : sx_cost sx_K308.2.2.2 = 0 := by decide
  obtain ⟨e, rfl⟩ : ∃ e, d = e + 1 + 1 := ⟨d - 2, by omega⟩
  obtain ⟨R, X, A, P, rl, tl, V⟩ := rv_init (M := [10069, 10072]) hH ta
  have hP := V.2.2.2.2.2.2.2.1
  obtain ⟨PN, rfl⟩ : ∃ PN : Nat, P = (PN : Int) := ⟨P.toNat, by omega⟩
  refine ⟨[some (.ref a), some (.int z1), some (.int z2), none, none, none, none], by unfold mj_ent; rw [jn_308]; rfl, ?_⟩
  have hrun := ws_orders (d := e) (by decide) (by decide) (o1 := z1.toInt) (o2 := z2.toInt) (by omega) (by omega) (fun q => by omega) V
  rw [← wp_iz, ← wp_iz] at hrun
  refine wp_mono hrun ?_
  rintro v h1 ⟨y, rfl, y1, y2, rl', tl', V1⟩
  refine ⟨V1.1, ⟨_, rfl, _, rfl, by rw [wp_ti (by omega)]; exact y1, by rw [wp_ti (by omega)]; exact y2⟩, V1.2.1, V1.2.2.1, ?_⟩
  show sx_W sx_tau h1 (B + sx_cost sx_K308.2.2.2)
  rw [hc, Int.natCast_zero, Int.add_zero]
  exact V1.2.1.2.2 (by decide) B hW
theorem ws_isPower {d : Nat} {M : List Nat} {h0 h : mj_H} {a R X A PN : Nat} {rl tl : List Value} (V : rv M h0 h a R X A (PN : Int) rl tl) {w : Int} (hw : wp_r w) : wp_R (d + 1) 247 0 [some (.ref a), some (wp_i w)] [] h (fun v h1 => h1 = h ∧ ∃ y : Int, v = some (wp_i y) ∧ (y = 0 ∨ y = 1) ∧ (y = 1 → 0 ≤ w ∧ w ≤ 5)) := by
  have hP : (0 : Int) ≤ (PN : Int) ∧ (PN : Int) ≤ 6 := V.2.2.2.2.2.2.2.1
  refine wp_s (pc' := 1) ji_247_0 rfl rfl rfl ?_
  refine wp_s (pc' := 2) ji_247_1 rfl rfl rfl ?_
  refine wp_s (pc' := 3) ji_247_2 rfl rfl rfl ?_
  refine rv_gA V ji_247_3 jf_247_7 ?_
  refine wp_s (pc' := 7) ji_247_6 rfl rfl rfl ?_
  refine rv_P V ji_247_7 ?_
  refine wp_s (pc' := 9) ji_247_8 rfl rfl rfl ?_
  refine wp_isub (x := (PN : Int)) (y := 1) (z := (PN : Int) - 1) ji_247_9 (by omega) ?_
  refine wp_sc (as := [wp_i w, wp_i 0, wp_i ((PN : Int) - 1)]) (rest := []) ji_247_10 jc_247_66 (Nat.le_of_ble_eq_true rfl) rfl (Nat.le_of_ble_eq_true rfl) rfl (by rw [jn_171]; rfl) (ws_isIn (by omega) (by omega) (by omega)) (fun v h R => ?_)
  obtain ⟨rfl, rfl⟩ := R
  obtain ⟨y3, hyy3⟩ : ∃ y : Int, y = (if 0 ≤ w ∧ w ≤ (PN : Int) - 1 then 1 else 0) := ⟨_, rfl⟩
  rw [← hyy3]
  show wp_R (d + 1) 247 13 [some (.ref a), some (wp_i w)] [wp_i y3] h _
  have h2y3 : (y3 = 0 ∨ y3 = 1) ∧ (y3 = 1 → 0 ≤ w ∧ w ≤ (PN : Int) - 1) := by rw [hyy3]; split <;> omega
  exact wp_ri ji_247_13 jr_247 (pv_nb (by omega)) ⟨rfl, y3, rfl, by omega, fun q => by omega⟩
theorem ws_surely {d : Nat} {M : List Nat} (hM : 10069 ∈ M) (hMF : 10072 ∈ M) {h0 h : mj_H} {a R X A PN : Nat} {rl tl : List Value} {o1 o2 : Int} (ho1 : wp_r o1) (ho2 : wp_r o2) (V : rv M h0 h a R X A (PN : Int) rl tl) : wp_R (d + 1 + 1 + 1) 311 0 [some (.ref a), some (wp_i o1), some (wp_i o2), none] [] h (fun v h1 => ∃ y : Int, v = some (wp_i y) ∧ -1 ≤ y ∧ y ≤ 1 ∧ ∃ rl' tl', rv M h0 h1 a R X A (PN : Int) rl' tl') := by
  refine wp_s (pc' := 1) ji_311_0 rfl rfl rfl ?_
  refine wp_s (pc' := 2) ji_311_1 rfl rfl rfl ?_
  refine rv_vc V ji_311_2 jc_311_345 jk_247 (rest := []) rfl (Nat.le_of_ble_eq_true rfl) rfl (by rw [jn_247]; rfl) (ws_isPower V (by omega)) (fun v h R => ?_)
  obtain ⟨rfl, y1, rfl, q2, q3⟩ := R
  show wp_R (d + 1 + 1 + 1) 311 5 [some (.ref a), some (wp_i o1), some (wp_i o2), none] [wp_i y1] h _
  refine wp_if (t := 21) ji_311_5 rfl (by omega) (fun (hb4 : (y1 : Int) = 0) => ?_) (fun (hb4 : ¬ ((y1 : Int) = 0)) => ?_)
  · refine wp_s (pc' := 22) ji_311_21 rfl rfl rfl ?_
    exact wp_ri ji_311_22 jr_311 rfl ⟨_, rfl, by omega, by omega, _, _, V⟩
  · refine wp_s (pc' := 9) ji_311_8 rfl rfl rfl ?_
    refine wp_s (pc' := 10) ji_311_9 rfl rfl rfl ?_
    refine rv_vc V ji_311_10 jc_311_345 jk_247 (rest := []) rfl (Nat.le_of_ble_eq_true rfl) rfl (by rw [jn_247]; rfl) (ws_isPower V (by omega)) (fun v h R => ?_)
    obtain ⟨rfl, y5, rfl, q6, q7⟩ := R
    show wp_R (d + 1 + 1 + 1) 311 13 [some (.ref a), some (wp_i o1), some (wp_i o2), none] [wp_i y5] h _
    refine wp_if (t := 21) ji_311_13 rfl (by omega) (fun (hb8 : (y5 : Int) = 0) => ?_) (fun (hb8 : ¬ ((y5 : Int) = 0)) => ?_)
    · refine wp_s (pc' := 22) ji_311_21 rfl rfl rfl ?_
      exact wp_ri ji_311_22 jr_311 rfl ⟨_, rfl, by omega, by omega, _, _, V⟩
    · refine wp_s (pc' := 17) ji_311_16 rfl rfl rfl ?_
      refine wp_s (pc' := 18) ji_311_17 rfl rfl rfl ?_
      refine wp_icmp (t := 23) ji_311_18 rfl (by omega) (by omega) (fun (hb9 : ¬ (o1 : Int) = o2) => ?_) (fun (hb9 : ¬ (¬ (o1 : Int) = o2)) => ?_)
      · refine wp_s (pc' := 24) ji_311_23 rfl rfl rfl ?_
        refine wp_s (pc' := 25) ji_311_24 rfl rfl rfl ?_
        refine wp_s (pc' := 26) ji_311_25 rfl rfl rfl ?_
        refine rv_vc V ji_311_26 jc_311_467 jk_308 (rest := []) rfl (Nat.le_of_ble_eq_true rfl) rfl (by rw [jn_308]; rfl) (ws_orders (d := d) hM hMF (by omega) (by omega) (fun q => by omega) V) (fun v h R => ?_)
        obtain ⟨y10, rfl, q11, q12, rl9, tl9, V⟩ := R
        show wp_R (d + 1 + 1 + 1) 311 29 [some (.ref a), some (wp_i o1), some (wp_i o2), none] [wp_i y10] h _
        refine wp_s (pc' := 30) (lv' := [some (.ref a), some (wp_i o1), some (wp_i o2), some (wp_i y10)]) ji_311_29 rfl rfl rfl ?_
        refine wp_s (pc' := 31) ji_311_30 rfl rfl rfl ?_
        refine wp_if (t := 38) ji_311_31 rfl (by omega) (fun (hb13 : ¬ (y10 : Int) = 0) => ?_) (fun (hb13 : ¬ (¬ (y10 : Int) = 0)) => ?_)
        · refine wp_s (pc' := 39) ji_311_38 rfl rfl rfl ?_
          refine wp_s (pc' := 40) ji_311_39 rfl rfl rfl ?_
          refine wp_s (pc' := 41) ji_311_40 rfl rfl rfl ?_
          refine rv_vc V ji_311_41 jc_311_467 jk_308 (rest := []) rfl (Nat.le_of_ble_eq_true rfl) rfl (by rw [jn_308]; rfl) (ws_orders (d := d) hM hMF (by omega) (by omega) (fun q => by omega) V) (fun v h R => ?_)
          obtain ⟨y14, rfl, q15, q16, rl9, tl9, V⟩ := R
          show wp_R (d + 1 + 1 + 1) 311 44 [some (.ref a), some (wp_i o1), some (wp_i o2), some (wp_i y10)] [wp_i y14] h _
          refine wp_s (pc' := 45) ji_311_44 rfl rfl rfl ?_
          refine wp_icmp (t := 52) ji_311_45 rfl (by omega) (by omega) (fun (hb17 : ¬ (y14 : Int) = y10) => ?_) (fun (hb17 : ¬ (¬ (y14 : Int) = y10)) => ?_)
          · refine wp_s (pc' := 53) ji_311_52 rfl rfl rfl ?_
            exact wp_ri ji_311_53 jr_311 rfl ⟨_, rfl, by omega, by omega, _, _, V⟩
          · refine wp_s (pc' := 49) ji_311_48 rfl rfl rfl ?_
            refine wp_goto (t := 53) ji_311_49 rfl ?_
            exact wp_ri ji_311_53 jr_311 rfl ⟨_, rfl, by omega, by omega, _, _, V⟩
        · refine wp_s (pc' := 35) ji_311_34 rfl rfl rfl ?_
          refine wp_goto (t := 53) ji_311_35 rfl ?_
          exact wp_ri ji_311_53 jr_311 rfl ⟨_, rfl, by omega, by omega, _, _, V⟩
      · refine wp_s (pc' := 22) ji_311_21 rfl rfl rfl ?_
        exact wp_ri ji_311_22 jr_311 rfl ⟨_, rfl, by omega, by omega, _, _, V⟩
theorem sx_M311 {d : Nat} (IH : sx_IH sx_PP d) : sx_M sx_PP d 311 sx_K311 := by
  intro vs h hH ha hd B hW hB
  match vs, ha with
  | [v0, v1, v2], ⟨⟨a, e0, ta⟩, ⟨z1, e1, p1, p2⟩, ⟨z2, e2, p3, p4⟩, _⟩ =>
  subst e0 e1 e2
  have hd9 : (9 : Int) + 0 ≤ d := hd
  have hc : sx_cost sx_K311.2.2.2 = 0 := by decide
  obtain ⟨e, rfl⟩ : ∃ e, d = e + 1 + 1 + 1 := ⟨d - 3, by omega⟩
  obtain ⟨R, X, A, P, rl, tl, V⟩ := rv_init (M := [10069, 10072]) hH ta
  have hP := V.2.2.2.2.2.2.2.1
  obtain ⟨PN, rfl⟩ : ∃ PN : Nat, P = (PN : Int) := ⟨P.toNat, by omega⟩
  refine ⟨[some (.ref a), some (.int z1), some (.int z2), none], by unfold mj_ent; rw [jn_311]; rfl, ?_⟩
  have hrun := ws_surely (d := e) (by decide) (by decide) (o1 := z1.toInt) (o2 := z2.toInt) (sx_r32 z1) (sx_r32 z2) V
  rw [← wp_iz, ← wp_iz] at hrun
  refine wp_mono hrun ?_
  rintro v h1 ⟨y, rfl, y1, y2, rl', tl', V1⟩
  refine ⟨V1.1, ⟨_, rfl, _, rfl, by rw [wp_ti (by omega)]; exact y1, by rw [wp_ti (by omega)]; exact y2⟩, V1.2.1, V1.2.2.1, ?_⟩
  show sx_W sx_tau h1 (B + sx_cost sx_K311.2.2.2)
  rw [hc, Int.natCast_zero, Int.add_zero]
  exact V1.2.1.2.2 (by decide) B hW
