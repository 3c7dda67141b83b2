/-! -/
theorem ji_0_0 : mj_ins 0 0 = some (.new 7) := mj_lc0 (i := 0) rfl
theorem ji_0_3 : mj_ins 0 3 = some (.dup) := mj_lc0 (i := 1) rfl
theorem ji_0_4 : mj_ins 0 4 = some (.invokespecial 9) := mj_lc0 (i := 2) rfl
theorem ji_0_7 : mj_ins 0 7 = some (.astore_n 1) := mj_lc0 (i := 3) rfl
theorem ji_0_8 : mj_ins 0 8 = some (.new 10) := mj_lc0 (i := 4) rfl
theorem ji_0_11 : mj_ins 0 11 = some (.dup) := mj_lc0 (i := 5) rfl
theorem ji_0_12 : mj_ins 0 12 = some (.invokespecial 12) := mj_lc0 (i := 6) rfl
theorem ji_0_15 : mj_ins 0 15 = some (.astore_n 2) := mj_lc0 (i := 7) rfl
theorem ji_0_16 : mj_ins 0 16 = some (.iconst 0) := mj_lc0 (i := 8) rfl
theorem ji_0_17 : mj_ins 0 17 = some (.istore_n 3) := mj_lc0 (i := 9) rfl
theorem ji_0_18 : mj_ins 0 18 = some (.iload_n 3) := mj_lc0 (i := 10) rfl
theorem ji_0_19 : mj_ins 0 19 = some (.aload_n 0) := mj_lc0 (i := 11) rfl
theorem ji_0_20 : mj_ins 0 20 = some (.arraylength) := mj_lc0 (i := 12) rfl
theorem ji_0_21 : mj_ins 0 21 = some (.bipush 6) := mj_lc0 (i := 13) rfl
theorem ji_0_23 : mj_ins 0 23 = some (.isub) := mj_lc0 (i := 14) rfl
theorem ji_0_24 : mj_ins 0 24 = some (.if_icmp .gt 1532) := mj_lc0 (i := 15) rfl
theorem ji_0_27 : mj_ins 0 27 = some (.aload_n 0) := mj_lc0 (i := 16) rfl
theorem ji_0_28 : mj_ins 0 28 = some (.iload_n 3) := mj_lc0 (i := 17) rfl
theorem ji_0_29 : mj_ins 0 29 = some (.iaload) := mj_lc0 (i := 18) rfl
theorem ji_0_30 : mj_ins 0 30 = some (.bipush 63) := mj_lc0 (i := 19) rfl
theorem ji_0_32 : mj_ins 0 32 = some (.iand) := mj_lc0 (i := 20) rfl
theorem ji_0_33 : mj_ins 0 33 = some (.tableswitch 1517 0 43 #[191, 224, 257, 320, 343, 356, 379, 402, 425, 458, 491, 524, 547, 570, 603, 616, 649, 682, 725, 748, 781, 804, 847, 870, 893, 916, 975, 1018, 1041, 1064, 1087, 1110, 1123, 1182, 1205, 1248, 1291, 1340, 1379, 1412, 1435, 1468, 1481, 1494]) := mj_lc0 (i := 21) rfl
theorem ji_0_1550 : mj_ins 0 1550 = some (.iinc 3 6) := mj_lc17 (i := 32) rfl
theorem ji_0_1553 : mj_ins 0 1553 = some (.goto (-1535)) := mj_lc17 (i := 33) rfl
theorem ji_0_1556 : mj_ins 0 1556 = some (.iconst 1) := mj_lc17 (i := 34) rfl
theorem ji_0_1557 : mj_ins 0 1557 = some (.ireturn) := mj_lc17 (i := 35) rfl
set_option maxRecDepth 100000 in
theorem jc_0_9 : mj_cal 0 9 = some (3, 1, 0) := by decide +kernel
set_option maxRecDepth 100000 in
theorem jc_0_12 : mj_cal 0 12 = some (3, 168, 0) := by decide +kernel
set_option maxRecDepth 100000 in
theorem jr_0 : mj_ret 0 = some .boolean := by decide +kernel
set_option maxRecDepth 100000 in
theorem ji_168_197 : mj_ins 168 197 = some (.invokestatic 62) := by decide +kernel
set_option maxRecDepth 100000 in
theorem ji_168_200 : mj_ins 168 200 = some (.return_) := by decide +kernel
set_option maxRecDepth 100000 in
theorem jc_168_62 : mj_cal 168 62 = some (1, 169, 2) := by decide +kernel
set_option maxRecDepth 100000 in
theorem jr_168 : mj_ret 168 = none := by decide +kernel
/-! the law as a whole; laid by program (wp_fin2.py) -/
theorem cx_HW (c0 : mj_C) : sx_H sx_TT 20 sx_tau (c0 :: (cx_L1 ++ cx_L2).map cx_x) ∧ sx_W sx_tau (c0 :: (cx_L1 ++ cx_L2).map cx_x) 0 := by
  have k3 := cx_K3
  rw [Bool.and_eq_true, Bool.and_eq_true, decide_eq_true_eq, decide_eq_true_eq] at k3
  obtain ⟨r1, r2, r3⟩ := k3
  have k4 := cx_K4
  simp only [Bool.and_eq_true, decide_eq_true_eq] at k4
  obtain ⟨s1, s2, s3, s4⟩ := k4
  have s2 := Option.isNone_iff_eq_none.mp s2
  have key : ∀ (a t : Nat) (ty : sx_Ty), sx_tau[a]? = some t → sx_TT[t]? = some ty → ∃ j q, a = j + 1 ∧ (c0 :: (cx_L1 ++ cx_L2).map cx_x)[a]? = some (cx_x q) ∧ cx_hb a q = true := by
    intro a t ty ha ht
    cases a with
    | zero =>
      rw [s1] at ha
      cases ha
      rw [s2] at ht
      cases ht
    | succ j =>
      have hlt := (List.getElem?_eq_some_iff.mp ha).1
      have hq : (cx_L1 ++ cx_L2)[j]? = some (cx_L1 ++ cx_L2)[j] := List.getElem?_eq_getElem (by omega)
      refine ⟨j, (cx_L1 ++ cx_L2)[j], rfl, ?_, ?_⟩
      · rw [List.getElem?_cons_succ, List.getElem?_map, hq]
        rfl
      · have := cx_rng_ok r1 j _ hq
        rw [show 1 + j = j + 1 by omega] at this
        exact this
  refine ⟨fun a t ty ha ht => ?_, fun a t kd vs k z ha hh hs hv => ?_⟩
  · obtain ⟨j, q, e, hc, hb⟩ := key a t ty ha ht
    unfold cx_hb at hb
    rw [ha] at hb
    dsimp only at hb
    rw [ht] at hb
    dsimp only at hb
    simp only [Bool.and_eq_true, Bool.or_eq_true, decide_eq_true_eq] at hb
    obtain ⟨b1, b2, b3, b4, b5, b6, b7⟩ := hb
    refine ⟨fun h20 => by omega, q.2.1 ++ List.replicate q.2.2.1 q.2.2.2, ?_, ?_, fun k v hv => ?_, fun e20 => ?_⟩
    · rw [hc, ← b2]
      rfl
    · rw [List.length_append, List.length_replicate]
      exact b3
    · by_cases hk : k < q.2.1.length
      · rw [List.getElem?_append_left hk] at hv
        have := (cx_cb_ok b4 k v hv).1
        rw [Nat.zero_add] at this
        exact this
      · rw [List.getElem?_append_right (by omega)] at hv
        have hlt := (List.getElem?_eq_some_iff.mp hv).1
        rw [List.length_replicate] at hlt
        rw [List.getElem?_replicate, if_pos hlt] at hv
        cases hv
        rcases b5 with b5 | b5
        · omega
        · exact cx_cz_ok b5 k (Nat.zero_le _) (by omega) (by omega)
    · have e20 : t = 20 := e20
      subst e20
      have hz : q.2.1 = [] ∧ q.2.2.2 = .int 0 := by
        rcases b7 with b7 | b7
        · cases b7
        · exact ⟨List.isEmpty_iff.mp b7.1, cx_veq_ok b7.2⟩
      intro s k _ _ hn
      exfalso
      have e0 : sx_el (q.2.1 ++ List.replicate q.2.2.1 q.2.2.2) (705 * s) = 0 := by
        rw [hz.1, hz.2, List.nil_append]
        unfold sx_el
        rw [List.getElem?_replicate]
        split
        · rename_i z hz2
          split at hz2
          · cases hz2
            decide
          · cases hz2
        · rfl
      rw [e0] at hn
      omega
  · have ht3 : t = 21 ∨ t = 22 ∨ t = 23 := by
      unfold sx_sens at hs
      simp only [Bool.or_eq_true, Bool.and_eq_true, beq_iff_eq] at hs
      omega
    have hT : ∃ ty, sx_TT[t]? = some ty := by
      rcases ht3 with e | e | e <;> (subst e; exact ⟨_, rfl⟩)
    obtain ⟨ty, hT⟩ := hT
    obtain ⟨j, q, e, hc, hb⟩ := key a t ty ha hT
    unfold cx_hb at hb
    rw [ha] at hb
    dsimp only at hb
    rw [hT] at hb
    dsimp only at hb
    simp only [Bool.and_eq_true, Bool.or_eq_true, decide_eq_true_eq] at hb
    obtain ⟨b1, b2, b3, b4, b5, b6, b7⟩ := hb
    rw [hc] at hh
    have hvs : vs = q.2.1 ++ List.replicate q.2.2.1 q.2.2.2 := (congrArg Prod.snd (Option.some.inj hh)).symm
    subst hvs
    by_cases hk : k < q.2.1.length
    · rw [List.getElem?_append_left hk] at hv
      have := (cx_cb_ok b4 k _ hv).2
      rw [Nat.zero_add] at this
      exact this hs z rfl
    · rw [List.getElem?_append_right (by omega)] at hv
      have hlt := (List.getElem?_eq_some_iff.mp hv).1
      rw [List.length_replicate] at hlt
      rw [List.getElem?_replicate, if_pos hlt] at hv
      rcases b6 with b6 | b6 | b6
      · omega
      · rw [cx_veq_ok b6] at hv
        cases hv
        decide
      · rw [sx_nst_ok b6] at hs
        cases hs
def lw_sl (xs : Nat → Int32) (L : Nat) : List Value := (List.range L).map (fun j => Value.int (xs j))
theorem cx_T0l : cx_T0.length = 8 := by decide +kernel
theorem cx_L1l : cx_L1.length = 137 := by decide +kernel
def cx_fc (a kd k : Nat) (v : Value) : Bool := match (cx_L1 ++ cx_L2)[a]? with
  | some q => q.1 == kd && (match (q.2.1 ++ List.replicate q.2.2.1 q.2.2.2)[k]? with
    | some w => cx_veq w v
    | none => false)
  | none => false
theorem cx_fc_ok (c0 : mj_C) {a kd k : Nat} {v : Value} (h : cx_fc a kd k v = true) : fdc_c (c0 :: (cx_L1 ++ cx_L2).map cx_x) (a + 1) kd k v := by
  unfold cx_fc at h
  split at h
  · rename_i q hq
    rw [Bool.and_eq_true, beq_iff_eq] at h
    obtain ⟨h1, h2⟩ := h
    split at h2
    · rename_i w hw
      have e := cx_veq_ok h2
      subst e
      refine ⟨q.2.1 ++ List.replicate q.2.2.1 q.2.2.2, ?_, hw⟩
      rw [List.getElem?_cons_succ, List.getElem?_map, hq, ← h1]
      rfl
    · cases h2
  · cases h
def cx_fa (a kd : Nat) (vs : List Value) : Bool := match (cx_L1 ++ cx_L2)[a]? with
  | some q => q.1 == kd && cx_leq (q.2.1 ++ List.replicate q.2.2.1 q.2.2.2) vs
  | none => false
theorem cx_fa_ok (c0 : mj_C) {a kd : Nat} {vs : List Value} (h : cx_fa a kd vs = true) : (c0 :: (cx_L1 ++ cx_L2).map cx_x)[a + 1]? = some (kd, vs) := by
  unfold cx_fa at h
  split at h
  · rename_i q hq
    rw [Bool.and_eq_true, beq_iff_eq] at h
    obtain ⟨h1, h2⟩ := h
    rw [List.getElem?_cons_succ, List.getElem?_map, hq, ← h1, ← cx_leq_ok h2]
    rfl
  · cases h
theorem tB_0 : tB (List.replicate 300 (wp_i 0)) := by
  refine ⟨List.length_replicate, fun j hj => ?_⟩
  have h1 : (List.replicate 300 (wp_i 0))[j]? = some (wp_i 0) := by rw [List.getElem?_replicate, if_pos hj]
  have h2 : sx_el (List.replicate 300 (wp_i 0)) j = 0 := by
    unfold sx_el
    rw [h1]
    rfl
  rw [h2]
  exact ⟨h1, by decide, by decide⟩
set_option maxRecDepth 1000000 in
theorem cx_PP : (fp_L.all fun e => cx_fc (e.1 - 1) e.2.1 e.2.2.1 (.ref e.2.2.2) && decide (0 < e.1)) = true := by decide +kernel
set_option maxRecDepth 1000000 in
theorem cx_PK : cx_fc 90 8 1 (wp_i 0) = true ∧ cx_fc 137 11 4 (wp_i 0) = true ∧ cx_fc 92 9 2 (wp_i 0) = true ∧ cx_fc 92 9 3 (wp_i 0) = true ∧ cx_fc 92 9 4 (wp_i (-1)) = true ∧ cx_fc 137 11 5 (wp_i (-1)) = true ∧ cx_fc 137 11 6 (wp_i (-1)) = true ∧ cx_fc 137 11 11 (.long (Int64.ofNat 0)) = true ∧ cx_fc 46 2 6 (wp_i 0) = true ∧ cx_fc 68 2 6 (wp_i 0) = true ∧ cx_fc 138 1000 2 (wp_i 0) = true ∧ cx_fc 139 1000 2 (wp_i 0) = true := by decide +kernel
set_option maxRecDepth 1000000 in
theorem cx_PA : cx_fa 0 1000 [Value.int 0, Value.int 0, Value.int 0, Value.int 1, Value.int 1, Value.int 0, Value.int 0, Value.int 0, Value.int 0, Value.int 1] = true ∧ cx_fa 1 1000 [Value.int 0, Value.int 0, Value.int 0, Value.int 99, Value.int 9, Value.int 5, Value.int 5, Value.int 7, Value.int 9, Value.int 60] = true ∧ cx_fa 2 1000 [Value.int (-1), Value.int (-1), Value.int (-1), Value.int 10, Value.int (-1), Value.int 11, Value.int 11, Value.int 12, Value.int (-1), Value.int (-1)] = true ∧ cx_fa 3 1000 [Value.int 0, Value.int 0, Value.int 0, Value.int 0, Value.int 0, Value.int 0, Value.int 0, Value.int 1, Value.int 0, Value.int 0] = true ∧ cx_fa 4 1000 [Value.int 0, Value.int 0, Value.int 0, Value.int 99, Value.int 0, Value.int 7, Value.int 7, Value.int 99, Value.int 0, Value.int 0] = true ∧ cx_fa 7 900 tk_V = true ∧ cx_fa 10 1101 [.ref 12, .ref 19, .ref 26, .ref 33, .ref 40] = true ∧ cx_fa 91 1000 (List.replicate 300 (wp_i 0)) = true ∧ cx_fa 141 1000 (List.replicate 300 (wp_i 0)) = true := by decide +kernel
theorem lw_len : (cx_L1 ++ cx_L2).length + 1 = 152 := by
  have k3 := cx_K3
  rw [Bool.and_eq_true, Bool.and_eq_true, decide_eq_true_eq, decide_eq_true_eq] at k3
  rw [k3.2.1]
theorem lv_169 (AM : lw_AM) {sl : List Value} {h : mj_H} {B : Int} {s : sg_} (W : WS sl h B s) (hB : B ≤ 2147483647) : wp_R 1198 169 0 [some (.ref 139), some (.ref 140), none] [] h (fun v h1 => v = none ∧ WS sl h1 B (cpy s 139 0 140 0 6044)) := by
  obtain ⟨I, P, S, C⟩ := W
  refine wp_mono (wl_wp (lw_K0 (n := 0) I P S (AM 1198 169 sx_K169 rfl) (vs := [.ref 139, .ref 140]) ⟨⟨139, rfl, rfl⟩, ⟨140, rfl, rfl⟩, trivial⟩ (show (0 : Int) + 0 ≤ ((1198 : Nat) : Int) by decide) (by decide) (by omega) (by rw [jn_169]; rfl) (by decide)) (fun nn => uc_169a (d := 1198) C)) ?_
  rintro v h1 ⟨⟨-, k2, k3, k4, -⟩, rfl, C1⟩
  exact ⟨rfl, lw_le k2 (by omega), k3, k4, C1⟩
theorem lw_start (AM : lw_AM) {xs : Nat → Int32} {L : Nat} {Q : Option Value → mj_H → Prop} (hQ : ∀ h, lw_V9 (lw_sl xs L) h 0 → wp_R 1200 0 18 [some (.ref 0), some (.ref 9), some (.ref 138), some (wp_i 0)] [] h Q) : wp_R 1200 0 0 mj_lv0 [] (mj_h0 xs L) Q := by
  show wp_R 1200 0 0 mj_lv0 [] ((1000, lw_sl xs L) :: cx_T0) Q
  generalize hc0 : ((1000, lw_sl xs L) : mj_C) = c0
  have k1 := cx_K1
  unfold cx_T1 at k1
  cases hn : mj_new 0 7 with
  | none => rw [hn] at k1; cases k1
  | some q =>
    rw [hn] at k1
    dsimp only at k1
    cases he : mj_ent (mj_nl 1) [.ref 9] with
    | none => rw [he] at k1; cases k1
    | some lv =>
      rw [he] at k1
      dsimp only at k1
      cases hr : cx_run 6000 30 1 0 lv [] (cx_T0 ++ [q]) with
      | none => rw [hr] at k1; cases k1
      | some vt =>
        obtain ⟨v, t⟩ := vt
        rw [hr] at k1
        cases v with
        | some w => cases k1
        | none =>
          have k1 : cx_heq t cx_L1 = true := k1
          have et := cx_heq_ok k1
          subst et
          have k2 := cx_K2
          cases hn2 : mj_new 0 10 with
          | none => rw [hn2] at k2; cases k2
          | some q2 =>
            cases he2 : mj_ent (mj_nl 168) [.ref 138] with
            | none => rw [hn2, he2] at k2; cases k2
            | some lv2 =>
              rw [hn2, he2] at k2
              dsimp only at k2
              cases hto : cx_to 197 168 2000 0 lv2 [] (cx_L1.map cx_x ++ [q2]) with
              | none => rw [hto] at k2; cases k2
              | some r =>
                obtain ⟨lv3, st3, t3⟩ := r
                rw [hto] at k2
                dsimp only at k2
                rw [Bool.and_eq_true] at k2
                obtain ⟨k2, k5⟩ := k2
                have et := cx_heq_ok k5
                subst et
                have est : st3 = [.ref 140, .ref 139] := by
                  split at k2
                  · rename_i x y
                    rw [Bool.and_eq_true, beq_iff_eq, beq_iff_eq] at k2
                    rw [k2.1, k2.2]
                  · cases k2
                subst est
                obtain ⟨hH, hW⟩ := cx_HW c0
                obtain ⟨p1, p2, p3, p4, p5, p6, p7, p8, p9, p10, p11, p12⟩ := cx_PK
                obtain ⟨a1, a2, a3, a4, a5, a6, a7, a8, a9⟩ := cx_PA
                have PP : fd_P (c0 :: (cx_L1 ++ cx_L2).map cx_x) := fun e he => by
                  have h9 := List.all_eq_true.mp cx_PP e he
                  rw [Bool.and_eq_true, decide_eq_true_eq] at h9
                  have h8 := cx_fc_ok c0 h9.1
                  rw [show e.1 - 1 + 1 = e.1 by omega] at h8
                  exact h8
                have W0 : WS (lw_sl xs L) (c0 :: (cx_L1 ++ cx_L2).map cx_x) 0 st0 := ⟨⟨hH, hW, by rw [List.length_cons, List.length_map, lw_len], by rw [← hc0]; rfl⟩, PP, ⟨⟨cx_fa_ok c0 a1, cx_fa_ok c0 a2, cx_fa_ok c0 a3, cx_fa_ok c0 a4, cx_fa_ok c0 a5⟩, cx_fa_ok c0 a6, cx_fa_ok c0 a7⟩, cs_of (CS0_st c0)⟩
                refine wp_s (pc' := 3) (lv' := mj_lv0) (st' := [.ref 9]) (h' := c0 :: (cx_T0 ++ [q])) ji_0_0 rfl rfl ?_ ?_
                · simp only [mj_st, hn, List.length_cons, cx_T0l]
                  rfl
                refine wp_s (pc' := 4) (lv' := mj_lv0) (st' := [.ref 9, .ref 9]) (h' := c0 :: (cx_T0 ++ [q])) ji_0_3 rfl rfl rfl ?_
                refine wp_c (d := 1199) (as := [.ref 9]) (rest := [.ref 9]) ji_0_4 rfl ?_ he (Q1 := fun v h1 => v = none ∧ h1 = c0 :: cx_L1.map cx_x) (wp_up (d := 30) (by decide) ⟨6000, none, _, cx_run_ok c0 hr, rfl, rfl⟩) (fun v h R => ?_)
                · simp only [mj_call, jc_0_9]
                  rfl
                obtain ⟨rfl, rfl⟩ := R
                show wp_R 1200 0 7 mj_lv0 [.ref 9] (c0 :: cx_L1.map cx_x) Q
                refine wp_s (pc' := 8) (lv' := [some (.ref 0), some (.ref 9), none, none]) (st' := []) (h' := c0 :: cx_L1.map cx_x) ji_0_7 rfl rfl rfl ?_
                refine wp_s (pc' := 11) (lv' := [some (.ref 0), some (.ref 9), none, none]) (st' := [.ref 138]) (h' := c0 :: (cx_L1.map cx_x ++ [q2])) ji_0_8 rfl rfl ?_ ?_
                · simp only [mj_st, hn2, List.length_cons, List.length_map, cx_L1l]
                  rfl
                refine wp_s (pc' := 12) (lv' := [some (.ref 0), some (.ref 9), none, none]) (st' := [.ref 138, .ref 138]) (h' := c0 :: (cx_L1.map cx_x ++ [q2])) ji_0_11 rfl rfl rfl ?_
                refine wp_c (d := 1199) (as := [.ref 138]) (rest := [.ref 138]) ji_0_12 rfl ?_ he2 (Q1 := fun v h1 => v = none ∧ lw_V9 (lw_sl xs L) h1 0) (cx_to_ok c0 hto ?_) (fun v h R => ?_)
                · simp only [mj_call, jc_0_12]
                  rfl
                · refine wp_sc (d := 1198) (as := [.ref 139, .ref 140]) (rest := []) ji_168_197 jc_168_62 (Nat.le_of_ble_eq_true rfl) rfl (Nat.le_of_ble_eq_true rfl) rfl (by rw [jn_169]; rfl) (lv_169 AM W0 (by decide)) (fun v h R => ?_)
                  obtain ⟨rfl, W⟩ := R
                  exact wp_rv ji_168_200 jr_168 ⟨rfl, st1_, _, _, 0, LAWS_st, ht_st, W, by decide⟩
                obtain ⟨rfl, I⟩ := R
                show wp_R 1200 0 15 [some (.ref 0), some (.ref 9), none, none] [.ref 138] h Q
                refine wp_s (pc' := 16) (lv' := [some (.ref 0), some (.ref 9), some (.ref 138), none]) (st' := []) (h' := h) ji_0_15 rfl rfl rfl ?_
                refine wp_s (pc' := 17) ji_0_16 rfl rfl rfl ?_
                refine wp_s (pc' := 18) (lv' := [some (.ref 0), some (.ref 9), some (.ref 138), some (wp_i 0)]) (st' := []) (h' := h) ji_0_17 rfl rfl rfl ?_
                exact hQ h I
def lq_Q (sl : List Value) : Option Value → mj_H → Prop := fun v h1 => v = some (wp_i 1) ∧ ∃ B, lw_I sl h1 B
theorem lw_head {sl : List Value} {h : mj_H} {B i : Int} (I : lw_I sl h B) (hl : sl.length ≤ 3072) (hi : 0 ≤ i ∧ i ≤ 4000) {Q : Option Value → mj_H → Prop} (h1 : (sl.length : Int) - 6 < i → wp_R 1200 0 1556 [some (.ref 0), some (.ref 9), some (.ref 138), some (wp_i i)] [] h Q) (h2 : ¬ ((sl.length : Int) - 6 < i) → wp_R 1200 0 27 [some (.ref 0), some (.ref 9), some (.ref 138), some (wp_i i)] [] h Q) : wp_R 1200 0 18 [some (.ref 0), some (.ref 9), some (.ref 138), some (wp_i i)] [] h Q := by
  refine wp_s (pc' := 19) ji_0_18 rfl rfl rfl ?_
  refine wp_s (pc' := 20) ji_0_19 rfl rfl rfl ?_
  refine wp_s (pc' := 21) (lv' := [some (.ref 0), some (.ref 9), some (.ref 138), some (wp_i i)]) (st' := [wp_i (sl.length : Int), wp_i i]) (h' := h) ji_0_20 rfl rfl ?_ ?_
  · simp only [mj_st, I.2.2.2]
    rw [if_pos (by decide)]
    show _ = some (21, _, [Value.int (Int32.ofInt (sl.length : Int)), wp_i i], h)
    rw [Int32.ofInt_eq_ofNat]
  refine wp_bp ji_0_21 rfl ?_
  refine wp_isub (x := (sl.length : Int)) (y := 6) (z := (sl.length : Int) - 6) ji_0_23 (by omega) ?_
  exact wp_icmp (t := 1556) ji_0_24 rfl (by omega) (by omega) h1 h2
theorem lw_exit {sl : List Value} {h : mj_H} {B i : Int} (Y : lw_V9 sl h B) : wp_R 1200 0 1556 [some (.ref 0), some (.ref 9), some (.ref 138), some (wp_i i)] [] h (lq_Q sl) := by
  refine wp_s (pc' := 1557) ji_0_1556 rfl rfl rfl ?_
  exact wp_ri ji_0_1557 jr_0 rfl ⟨rfl, B, lw_V9I Y⟩
set_option maxRecDepth 100000 in
theorem lw_turn (AM : lw_AM) {sl : List Value} {h : mj_H} {B i : Int} (Y : lw_V9 sl h B) (hi : 0 ≤ i ∧ i + 6 ≤ sl.length) (hl : sl.length ≤ 3072) (hsl : ∀ k, k < sl.length → sl[k]? = some (wp_i (sx_el sl k))) (hB : 0 ≤ B ∧ B ≤ 125000000) {Q : Option Value → mj_H → Prop} (hQ : ∀ h, lw_V9 sl h (B + 239976) → wp_R 1200 0 1550 [some (.ref 0), some (.ref 9), some (.ref 138), some (wp_i i)] [] h Q) : wp_R 1200 0 27 [some (.ref 0), some (.ref 9), some (.ref 138), some (wp_i i)] [] h Q := by
  refine wp_s (pc' := 28) ji_0_27 rfl rfl rfl ?_
  refine wp_s (pc' := 29) ji_0_28 rfl rfl rfl ?_
  refine wp_ial (x := i) ji_0_29 (lw_V9I Y).2.2.2 (by omega) (by omega) (by omega) (hsl i.toNat (by omega)) ?_
  refine wp_bp ji_0_30 rfl ?_
  refine wp_s (pc' := 33) ji_0_32 rfl rfl rfl ?_
  have hand := sx_iand2 (x := Int32.ofInt (sx_el sl i.toNat)) (y := Int32.ofInt 63) (by decide)
  have e63 : (Int32.ofInt 63).toInt = 63 := by decide
  show wp_R 1200 0 33 [some (.ref 0), some (.ref 9), some (.ref 138), some (wp_i i)] [.int (Int32.ofInt (sx_el sl i.toNat) &&& Int32.ofInt 63)] h Q
  rw [wp_iz]
  obtain ⟨v, hv⟩ : ∃ v, (Int32.ofInt (sx_el sl i.toNat) &&& Int32.ofInt 63).toInt = v := ⟨_, rfl⟩
  rw [hv] at hand ⊢
  by_cases h44 : 43 < v
  · refine wp_s (pc' := 1550) (lv' := [some (.ref 0), some (.ref 9), some (.ref 138), some (wp_i i)]) (st' := []) (h' := h) ji_0_33 rfl rfl ?_ (hQ h (lw_V9le Y (by omega)))
    simp only [mj_st, wp_ti (show wp_r v by omega)]
    rw [if_pos (Or.inr h44)]
    rfl
  · have hc : v = 0 ∨ v = 1 ∨ v = 2 ∨ v = 3 ∨ v = 4 ∨ v = 5 ∨ v = 6 ∨ v = 7 ∨ v = 8 ∨ v = 9 ∨ v = 10 ∨ v = 11 ∨ v = 12 ∨ v = 13 ∨ v = 14 ∨ v = 15 ∨ v = 16 ∨ v = 17 ∨ v = 18 ∨ v = 19 ∨ v = 20 ∨ v = 21 ∨ v = 22 ∨ v = 23 ∨ v = 24 ∨ v = 25 ∨ v = 26 ∨ v = 27 ∨ v = 28 ∨ v = 29 ∨ v = 30 ∨ v = 31 ∨ v = 32 ∨ v = 33 ∨ v = 34 ∨ v = 35 ∨ v = 36 ∨ v = 37 ∨ v = 38 ∨ v = 39 ∨ v = 40 ∨ v = 41 ∨ v = 42 ∨ v = 43 := by omega
    rcases hc with e | e | e | e | e | e | e | e | e | e | e | e | e | e | e | e | e | e | e | e | e | e | e | e | e | e | e | e | e | e | e | e | e | e | e | e | e | e | e | e | e | e | e | e
    · subst e
      refine wp_s (pc' := 224) (lv' := [some (.ref 0), some (.ref 9), some (.ref 138), some (wp_i i)]) (st' := []) (h' := h) ji_0_33 rfl rfl ?_ (lz9_0 AM Y hi hl hsl hB hQ)
      simp only [mj_st, wp_ti (show wp_r 0 by omega)]
      rfl
    · subst e
      refine wp_s (pc' := 257) (lv' := [some (.ref 0), some (.ref 9), some (.ref 138), some (wp_i i)]) (st' := []) (h' := h) ji_0_33 rfl rfl ?_ (lz9_1 AM Y hi hl hsl hB hQ)
      simp only [mj_st, wp_ti (show wp_r 1 by omega)]
      rfl
    · subst e
      refine wp_s (pc' := 290) (lv' := [some (.ref 0), some (.ref 9), some (.ref 138), some (wp_i i)]) (st' := []) (h' := h) ji_0_33 rfl rfl ?_ (lz9_2 AM Y hi hl hsl hB hQ)
      simp only [mj_st, wp_ti (show wp_r 2 by omega)]
      rfl
    · subst e
      refine wp_s (pc' := 353) (lv' := [some (.ref 0), some (.ref 9), some (.ref 138), some (wp_i i)]) (st' := []) (h' := h) ji_0_33 rfl rfl ?_ (lz9_3 AM Y hi hl hsl hB hQ)
      simp only [mj_st, wp_ti (show wp_r 3 by omega)]
      rfl
    · subst e
      refine wp_s (pc' := 376) (lv' := [some (.ref 0), some (.ref 9), some (.ref 138), some (wp_i i)]) (st' := []) (h' := h) ji_0_33 rfl rfl ?_ (lz9_4 AM Y hi hl hsl hB hQ)
      simp only [mj_st, wp_ti (show wp_r 4 by omega)]
      rfl
    · subst e
      refine wp_s (pc' := 389) (lv' := [some (.ref 0), some (.ref 9), some (.ref 138), some (wp_i i)]) (st' := []) (h' := h) ji_0_33 rfl rfl ?_ (lz9_5 AM Y hi hl hsl hB hQ)
      simp only [mj_st, wp_ti (show wp_r 5 by omega)]
      rfl
    · subst e
      refine wp_s (pc' := 412) (lv' := [some (.ref 0), some (.ref 9), some (.ref 138), some (wp_i i)]) (st' := []) (h' := h) ji_0_33 rfl rfl ?_ (lz9_6 AM Y hi hl hsl hB hQ)
      simp only [mj_st, wp_ti (show wp_r 6 by omega)]
      rfl
    · subst e
      refine wp_s (pc' := 435) (lv' := [some (.ref 0), some (.ref 9), some (.ref 138), some (wp_i i)]) (st' := []) (h' := h) ji_0_33 rfl rfl ?_ (lz9_7 AM Y hi hl hsl hB hQ)
      simp only [mj_st, wp_ti (show wp_r 7 by omega)]
      rfl
    · subst e
      refine wp_s (pc' := 458) (lv' := [some (.ref 0), some (.ref 9), some (.ref 138), some (wp_i i)]) (st' := []) (h' := h) ji_0_33 rfl rfl ?_ (lz9_8 AM Y hi hl hsl hB hQ)
      simp only [mj_st, wp_ti (show wp_r 8 by omega)]
      rfl
    · subst e
      refine wp_s (pc' := 491) (lv' := [some (.ref 0), some (.ref 9), some (.ref 138), some (wp_i i)]) (st' := []) (h' := h) ji_0_33 rfl rfl ?_ (lz9_9 AM Y hi hl hsl hB hQ)
      simp only [mj_st, wp_ti (show wp_r 9 by omega)]
      rfl
    · subst e
      refine wp_s (pc' := 524) (lv' := [some (.ref 0), some (.ref 9), some (.ref 138), some (wp_i i)]) (st' := []) (h' := h) ji_0_33 rfl rfl ?_ (lz9_10 AM Y hi hl hsl hB hQ)
      simp only [mj_st, wp_ti (show wp_r 10 by omega)]
      rfl
    · subst e
      refine wp_s (pc' := 557) (lv' := [some (.ref 0), some (.ref 9), some (.ref 138), some (wp_i i)]) (st' := []) (h' := h) ji_0_33 rfl rfl ?_ (lz9_11 AM Y hi hl hsl hB hQ)
      simp only [mj_st, wp_ti (show wp_r 11 by omega)]
      rfl
    · subst e
      refine wp_s (pc' := 580) (lv' := [some (.ref 0), some (.ref 9), some (.ref 138), some (wp_i i)]) (st' := []) (h' := h) ji_0_33 rfl rfl ?_ (lz9_12 AM Y hi hl hsl hB hQ)
      simp only [mj_st, wp_ti (show wp_r 12 by omega)]
      rfl
    · subst e
      refine wp_s (pc' := 603) (lv' := [some (.ref 0), some (.ref 9), some (.ref 138), some (wp_i i)]) (st' := []) (h' := h) ji_0_33 rfl rfl ?_ (lz9_13 AM Y hi hl hsl hB hQ)
      simp only [mj_st, wp_ti (show wp_r 13 by omega)]
      rfl
    · subst e
      refine wp_s (pc' := 636) (lv' := [some (.ref 0), some (.ref 9), some (.ref 138), some (wp_i i)]) (st' := []) (h' := h) ji_0_33 rfl rfl ?_ (lz9_14 AM Y hi hl hsl hB hQ)
      simp only [mj_st, wp_ti (show wp_r 14 by omega)]
      rfl
    · subst e
      refine wp_s (pc' := 649) (lv' := [some (.ref 0), some (.ref 9), some (.ref 138), some (wp_i i)]) (st' := []) (h' := h) ji_0_33 rfl rfl ?_ (lz9_15 AM Y hi hl hsl hB hQ)
      simp only [mj_st, wp_ti (show wp_r 15 by omega)]
      rfl
    · subst e
      refine wp_s (pc' := 682) (lv' := [some (.ref 0), some (.ref 9), some (.ref 138), some (wp_i i)]) (st' := []) (h' := h) ji_0_33 rfl rfl ?_ (lz9_16 AM Y hi hl hsl hB hQ)
      simp only [mj_st, wp_ti (show wp_r 16 by omega)]
      rfl
    · subst e
      refine wp_s (pc' := 715) (lv' := [some (.ref 0), some (.ref 9), some (.ref 138), some (wp_i i)]) (st' := []) (h' := h) ji_0_33 rfl rfl ?_ (lz9_17 AM Y hi hl hsl hB hQ)
      simp only [mj_st, wp_ti (show wp_r 17 by omega)]
      rfl
    · subst e
      refine wp_s (pc' := 758) (lv' := [some (.ref 0), some (.ref 9), some (.ref 138), some (wp_i i)]) (st' := []) (h' := h) ji_0_33 rfl rfl ?_ (lz9_18 AM Y hi hl hsl hB hQ)
      simp only [mj_st, wp_ti (show wp_r 18 by omega)]
      rfl
    · subst e
      refine wp_s (pc' := 781) (lv' := [some (.ref 0), some (.ref 9), some (.ref 138), some (wp_i i)]) (st' := []) (h' := h) ji_0_33 rfl rfl ?_ (lz9_19 AM Y hi hl hsl hB hQ)
      simp only [mj_st, wp_ti (show wp_r 19 by omega)]
      rfl
    · subst e
      refine wp_s (pc' := 814) (lv' := [some (.ref 0), some (.ref 9), some (.ref 138), some (wp_i i)]) (st' := []) (h' := h) ji_0_33 rfl rfl ?_ (lz9_20 AM Y hi hl hsl hB hQ)
      simp only [mj_st, wp_ti (show wp_r 20 by omega)]
      rfl
    · subst e
      refine wp_s (pc' := 837) (lv' := [some (.ref 0), some (.ref 9), some (.ref 138), some (wp_i i)]) (st' := []) (h' := h) ji_0_33 rfl rfl ?_ (lz9_21 AM Y hi hl hsl hB hQ)
      simp only [mj_st, wp_ti (show wp_r 21 by omega)]
      rfl
    · subst e
      refine wp_s (pc' := 880) (lv' := [some (.ref 0), some (.ref 9), some (.ref 138), some (wp_i i)]) (st' := []) (h' := h) ji_0_33 rfl rfl ?_ (lz9_22 AM Y hi hl hsl hB hQ)
      simp only [mj_st, wp_ti (show wp_r 22 by omega)]
      rfl
    · subst e
      refine wp_s (pc' := 903) (lv' := [some (.ref 0), some (.ref 9), some (.ref 138), some (wp_i i)]) (st' := []) (h' := h) ji_0_33 rfl rfl ?_ (lz9_23 AM Y hi hl hsl hB hQ)
      simp only [mj_st, wp_ti (show wp_r 23 by omega)]
      rfl
    · subst e
      refine wp_s (pc' := 926) (lv' := [some (.ref 0), some (.ref 9), some (.ref 138), some (wp_i i)]) (st' := []) (h' := h) ji_0_33 rfl rfl ?_ (lz9_24 AM Y hi hl hsl hB hQ)
      simp only [mj_st, wp_ti (show wp_r 24 by omega)]
      rfl
    · subst e
      refine wp_s (pc' := 949) (lv' := [some (.ref 0), some (.ref 9), some (.ref 138), some (wp_i i)]) (st' := []) (h' := h) ji_0_33 rfl rfl ?_ (lz9_25 AM Y hi hl hsl hB hQ)
      simp only [mj_st, wp_ti (show wp_r 25 by omega)]
      rfl
    · subst e
      refine wp_s (pc' := 1008) (lv' := [some (.ref 0), some (.ref 9), some (.ref 138), some (wp_i i)]) (st' := []) (h' := h) ji_0_33 rfl rfl ?_ (lz9_26 AM Y hi hl hsl hB hQ)
      simp only [mj_st, wp_ti (show wp_r 26 by omega)]
      rfl
    · subst e
      refine wp_s (pc' := 1051) (lv' := [some (.ref 0), some (.ref 9), some (.ref 138), some (wp_i i)]) (st' := []) (h' := h) ji_0_33 rfl rfl ?_ (lz9_27 AM Y hi hl hsl hB hQ)
      simp only [mj_st, wp_ti (show wp_r 27 by omega)]
      rfl
    · subst e
      refine wp_s (pc' := 1074) (lv' := [some (.ref 0), some (.ref 9), some (.ref 138), some (wp_i i)]) (st' := []) (h' := h) ji_0_33 rfl rfl ?_ (lz9_28 AM Y hi hl hsl hB hQ)
      simp only [mj_st, wp_ti (show wp_r 28 by omega)]
      rfl
    · subst e
      refine wp_s (pc' := 1097) (lv' := [some (.ref 0), some (.ref 9), some (.ref 138), some (wp_i i)]) (st' := []) (h' := h) ji_0_33 rfl rfl ?_ (lz9_29 AM Y hi hl hsl hB hQ)
      simp only [mj_st, wp_ti (show wp_r 29 by omega)]
      rfl
    · subst e
      refine wp_s (pc' := 1120) (lv' := [some (.ref 0), some (.ref 9), some (.ref 138), some (wp_i i)]) (st' := []) (h' := h) ji_0_33 rfl rfl ?_ (lz9_30 AM Y hi hl hsl hB hQ)
      simp only [mj_st, wp_ti (show wp_r 30 by omega)]
      rfl
    · subst e
      refine wp_s (pc' := 1143) (lv' := [some (.ref 0), some (.ref 9), some (.ref 138), some (wp_i i)]) (st' := []) (h' := h) ji_0_33 rfl rfl ?_ (lz9_31 AM Y hi hl hsl hB hQ)
      simp only [mj_st, wp_ti (show wp_r 31 by omega)]
      rfl
    · subst e
      refine wp_s (pc' := 1156) (lv' := [some (.ref 0), some (.ref 9), some (.ref 138), some (wp_i i)]) (st' := []) (h' := h) ji_0_33 rfl rfl ?_ (lz9_32 AM Y hi hl hsl hB hQ)
      simp only [mj_st, wp_ti (show wp_r 32 by omega)]
      rfl
    · subst e
      refine wp_s (pc' := 1215) (lv' := [some (.ref 0), some (.ref 9), some (.ref 138), some (wp_i i)]) (st' := []) (h' := h) ji_0_33 rfl rfl ?_ (lz9_33 AM Y hi hl hsl hB hQ)
      simp only [mj_st, wp_ti (show wp_r 33 by omega)]
      rfl
    · subst e
      refine wp_s (pc' := 1238) (lv' := [some (.ref 0), some (.ref 9), some (.ref 138), some (wp_i i)]) (st' := []) (h' := h) ji_0_33 rfl rfl ?_ (lz9_34 AM Y hi hl hsl hB hQ)
      simp only [mj_st, wp_ti (show wp_r 34 by omega)]
      rfl
    · subst e
      refine wp_s (pc' := 1281) (lv' := [some (.ref 0), some (.ref 9), some (.ref 138), some (wp_i i)]) (st' := []) (h' := h) ji_0_33 rfl rfl ?_ (lz9_35 AM Y hi hl hsl hB hQ)
      simp only [mj_st, wp_ti (show wp_r 35 by omega)]
      rfl
    · subst e
      refine wp_s (pc' := 1324) (lv' := [some (.ref 0), some (.ref 9), some (.ref 138), some (wp_i i)]) (st' := []) (h' := h) ji_0_33 rfl rfl ?_ (lz9_36 AM Y hi hl hsl hB hQ)
      simp only [mj_st, wp_ti (show wp_r 36 by omega)]
      rfl
    · subst e
      refine wp_s (pc' := 1373) (lv' := [some (.ref 0), some (.ref 9), some (.ref 138), some (wp_i i)]) (st' := []) (h' := h) ji_0_33 rfl rfl ?_ (lz9_37 AM Y hi hl hsl hB hQ)
      simp only [mj_st, wp_ti (show wp_r 37 by omega)]
      rfl
    · subst e
      refine wp_s (pc' := 1412) (lv' := [some (.ref 0), some (.ref 9), some (.ref 138), some (wp_i i)]) (st' := []) (h' := h) ji_0_33 rfl rfl ?_ (lz9_38 AM Y hi hl hsl hB hQ)
      simp only [mj_st, wp_ti (show wp_r 38 by omega)]
      rfl
    · subst e
      refine wp_s (pc' := 1445) (lv' := [some (.ref 0), some (.ref 9), some (.ref 138), some (wp_i i)]) (st' := []) (h' := h) ji_0_33 rfl rfl ?_ (lz9_39 AM Y hi hl hsl hB hQ)
      simp only [mj_st, wp_ti (show wp_r 39 by omega)]
      rfl
    · subst e
      refine wp_s (pc' := 1468) (lv' := [some (.ref 0), some (.ref 9), some (.ref 138), some (wp_i i)]) (st' := []) (h' := h) ji_0_33 rfl rfl ?_ (lz9_40 AM Y hi hl hsl hB hQ)
      simp only [mj_st, wp_ti (show wp_r 40 by omega)]
      rfl
    · subst e
      refine wp_s (pc' := 1501) (lv' := [some (.ref 0), some (.ref 9), some (.ref 138), some (wp_i i)]) (st' := []) (h' := h) ji_0_33 rfl rfl ?_ (lz9_41 AM Y hi hl hsl hB hQ)
      simp only [mj_st, wp_ti (show wp_r 41 by omega)]
      rfl
    · subst e
      refine wp_s (pc' := 1514) (lv' := [some (.ref 0), some (.ref 9), some (.ref 138), some (wp_i i)]) (st' := []) (h' := h) ji_0_33 rfl rfl ?_ (lz9_42 AM Y hi hl hsl hB hQ)
      simp only [mj_st, wp_ti (show wp_r 42 by omega)]
      rfl
    · subst e
      refine wp_s (pc' := 1527) (lv' := [some (.ref 0), some (.ref 9), some (.ref 138), some (wp_i i)]) (st' := []) (h' := h) ji_0_33 rfl rfl ?_ (lz9_43 AM Y hi hl hsl hB hQ)
      simp only [mj_st, wp_ti (show wp_r 43 by omega)]
      rfl
theorem lw_loop (AM : lw_AM) {sl : List Value} (hl : sl.length ≤ 3072) (hsl : ∀ k, k < sl.length → sl[k]? = some (wp_i (sx_el sl k))) : ∀ (n k : Nat) (h : mj_H) (i : Int), k + n = 513 → i = 6 * (k : Int) → lw_V9 sl h (239976 * (k : Int)) → wp_R 1200 0 18 [some (.ref 0), some (.ref 9), some (.ref 138), some (wp_i i)] [] h (lq_Q sl) := by
  intro n
  induction n with
  | zero =>
    intro k h i hk hi I
    exact lw_head (lw_V9I I) hl (by omega) (fun _ => lw_exit I) (fun q => by exfalso; omega)
  | succ n ih =>
    intro k h i hk hi I
    refine lw_head (lw_V9I I) hl (by omega) (fun _ => lw_exit I) (fun q => ?_)
    refine lw_turn AM I (by omega) hl hsl (by omega) (fun h I => ?_)
    refine wp_iinc (x := i) (z := i + 6) (lv' := [some (.ref 0), some (.ref 9), some (.ref 138), some (wp_i (i + 6))]) ji_0_1550 rfl (Nat.le_of_ble_eq_true rfl) (by omega) rfl ?_
    refine wp_goto (t := 18) ji_0_1553 rfl ?_
    exact ih (k + 1) h (i + 6) (by omega) (by omega) (lw_V9le I (by omega))
theorem hsz_le {N : Nat} : ∀ {h : mj_H}, (∀ c ∈ h, c.2.length ≤ N) → mj_hsz h ≤ h.length * N
  | [], _ => Nat.zero_le _
  | c :: h, hh => by
    have ih := hsz_le (h := h) (fun c hc => hh c (List.mem_cons_of_mem _ hc))
    have h1 := hh c List.mem_cons_self
    unfold mj_hsz at ih ⊢
    rw [List.map_cons, List.sum_cons, List.length_cons, Nat.add_mul, Nat.one_mul]
    omega
theorem lw_sz {sl : List Value} (hl : sl.length ≤ 3072) {h : mj_H} {B : Int} (I : lw_I sl h B) : mj_hsz h ≤ 152 * 6044 := by
  have k4 := cx_K4
  simp only [Bool.and_eq_true, decide_eq_true_eq] at k4
  obtain ⟨s1, s2, s3, s4⟩ := k4
  have k3 := cx_K3
  rw [Bool.and_eq_true, Bool.and_eq_true, decide_eq_true_eq, decide_eq_true_eq] at k3
  have hall : ∀ c ∈ h, c.2.length ≤ 6044 := by
    intro c hc
    obtain ⟨a, ha, e⟩ := List.mem_iff_getElem.mp hc
    have hga : h[a]? = some c := by rw [List.getElem?_eq_getElem ha, e]
    have hlt : a < sx_tau.length := by rw [k3.2.2, ← I.2.2.1]; exact ha
    have ht : sx_tau[a]? = some sx_tau[a] := List.getElem?_eq_getElem hlt
    have hd := List.all_eq_true.mp s4 _ (List.getElem_mem hlt)
    rw [Bool.or_eq_true, decide_eq_true_eq, decide_eq_true_eq] at hd
    cases a with
    | zero =>
      rw [I.2.2.2] at hga
      cases hga
      show sl.length ≤ 6044
      omega
    | succ a =>
      by_cases h73 : sx_tau[a + 1] < 73
      · have hlen : sx_TT.length = 73 := by decide
        have hT : sx_TT[sx_tau[a + 1]]? = some sx_TT[sx_tau[a + 1]] := List.getElem?_eq_getElem (by omega)
        obtain ⟨-, vs, c1, c2, -⟩ := I.1 (a + 1) _ _ ht hT
        rw [hga] at c1
        cases c1
        have := List.all_eq_true.mp s3 _ (List.getElem_mem (show sx_tau[a + 1] < sx_TT.length by omega))
        rw [decide_eq_true_eq] at this
        show vs.length ≤ 6044
        omega
      · exfalso
        have h1000 : sx_tau[a + 1] = 1000 := by omega
        have hone : ((List.range 151).all fun j => match sx_tau[j + 1]? with
          | some t => decide (t ≠ 1000)
          | none => true) = true := by decide +kernel
        have := List.all_eq_true.mp hone a (List.mem_range.mpr (by have := k3.2.2; omega))
        rw [ht] at this
        exact (of_decide_eq_true this) h1000
  have := hsz_le hall
  rw [I.2.2.1] at this
  exact this
theorem lw_ok (AM : lw_AM) {xs : Nat → Int32} {L : Nat} (hL : L ≤ 3072) : mj_Ok xs L := by
  have hlen : (lw_sl xs L).length = L := by
    unfold lw_sl
    rw [List.length_map, List.length_range]
  have hsl : ∀ k, k < (lw_sl xs L).length → (lw_sl xs L)[k]? = some (wp_i (sx_el (lw_sl xs L) k)) := by
    intro k hk
    rw [hlen] at hk
    have e : (lw_sl xs L)[k]? = some (.int (xs k)) := by
      unfold lw_sl
      rw [List.getElem?_map, List.getElem?_range hk]
      rfl
    have e2 : sx_el (lw_sl xs L) k = (xs k).toInt := by
      unfold sx_el
      rw [e]
    rw [e, e2, wp_iz]
  obtain ⟨f, v, h', r1, rfl, B, I⟩ := lw_start AM (Q := lq_Q (lw_sl xs L)) (fun h I => lw_loop AM (by omega) hsl 513 0 h 0 rfl rfl (lw_V9le I (by omega)))
  refine ⟨f, 1200, h', by decide, r1, ?_, ?_⟩
  · have := I.2.2.1
    omega
  · have := lw_sz (by omega) I
    omega
