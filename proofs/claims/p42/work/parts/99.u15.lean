/-! -/
/-! -/
set_option maxRecDepth 100000 in
theorem ji_61_0 : mj_ins 61 0 = some (.aload_n 0) := by decide +kernel
set_option maxRecDepth 100000 in
theorem ji_61_1 : mj_ins 61 1 = some (.getfield 12) := by decide +kernel
set_option maxRecDepth 100000 in
theorem jf_61_12 : mj_fld 61 12 = some (2, 0, (.object "ForestOfPoles$Forest"), false) := by decide +kernel
set_option maxRecDepth 100000 in
theorem ji_61_4 : mj_ins 61 4 = some (.getfield 81) := by decide +kernel
set_option maxRecDepth 100000 in
theorem jf_61_81 : mj_fld 61 81 = some (3, 10, .int, true) := by decide +kernel
set_option maxRecDepth 100000 in
theorem ji_61_7 : mj_ins 61 7 = some (.istore_n 1) := by decide +kernel
set_option maxRecDepth 100000 in
theorem ji_61_8 : mj_ins 61 8 = some (.aload_n 0) := by decide +kernel
set_option maxRecDepth 100000 in
theorem ji_61_9 : mj_ins 61 9 = some (.getfield 12) := by decide +kernel
set_option maxRecDepth 100000 in
theorem ji_61_12 : mj_ins 61 12 = some (.getfield 84) := by decide +kernel
set_option maxRecDepth 100000 in
theorem jf_61_84 : mj_fld 61 84 = some (3, 11, .int, true) := by decide +kernel
set_option maxRecDepth 100000 in
theorem ji_61_15 : mj_ins 61 15 = some (.istore_n 2) := by decide +kernel
set_option maxRecDepth 100000 in
theorem ji_61_16 : mj_ins 61 16 = some (.aload_n 0) := by decide +kernel
set_option maxRecDepth 100000 in
theorem ji_61_17 : mj_ins 61 17 = some (.getfield 12) := by decide +kernel
set_option maxRecDepth 100000 in
theorem ji_61_20 : mj_ins 61 20 = some (.aload_n 0) := by decide +kernel
set_option maxRecDepth 100000 in
theorem ji_61_21 : mj_ins 61 21 = some (.invokevirtual 87) := by decide +kernel
set_option maxRecDepth 100000 in
theorem jc_61_87 : mj_cal 61 87 = some (2, 62, 0) := by decide +kernel
set_option maxRecDepth 100000 in
theorem jn_62 : mj_nl 62 = 1 := by decide +kernel
set_option maxRecDepth 100000 in
theorem jk_62 : mj_cls 62 = 2 := by decide +kernel
set_option maxRecDepth 100000 in
theorem ji_61_24 : mj_ins 61 24 = some (.invokevirtual 91) := by decide +kernel
set_option maxRecDepth 100000 in
theorem jc_61_91 : mj_cal 61 91 = some (2, 63, 1) := by decide +kernel
set_option maxRecDepth 100000 in
theorem jn_63 : mj_nl 63 = 6 := by decide +kernel
set_option maxRecDepth 100000 in
theorem jk_63 : mj_cls 63 = 3 := by decide +kernel
set_option maxRecDepth 100000 in
theorem ji_61_27 : mj_ins 61 27 = some (.aload_n 0) := by decide +kernel
set_option maxRecDepth 100000 in
theorem ji_61_28 : mj_ins 61 28 = some (.getfield 12) := by decide +kernel
set_option maxRecDepth 100000 in
theorem ji_61_31 : mj_ins 61 31 = some (.invokevirtual 95) := by decide +kernel
set_option maxRecDepth 100000 in
theorem jc_61_95 : mj_cal 61 95 = some (2, 74, 0) := by decide +kernel
set_option maxRecDepth 100000 in
theorem jn_74 : mj_nl 74 = 1 := by decide +kernel
set_option maxRecDepth 100000 in
theorem jk_74 : mj_cls 74 = 3 := by decide +kernel
set_option maxRecDepth 100000 in
theorem ji_61_34 : mj_ins 61 34 = some (.aload_n 0) := by decide +kernel
set_option maxRecDepth 100000 in
theorem ji_61_35 : mj_ins 61 35 = some (.getfield 12) := by decide +kernel
set_option maxRecDepth 100000 in
theorem ji_61_38 : mj_ins 61 38 = some (.getfield 84) := by decide +kernel
set_option maxRecDepth 100000 in
theorem ji_61_41 : mj_ins 61 41 = some (.iload_n 2) := by decide +kernel
set_option maxRecDepth 100000 in
theorem ji_61_42 : mj_ins 61 42 = some (.if_icmp .eq 18) := by decide +kernel
set_option maxRecDepth 100000 in
theorem ji_61_60 : mj_ins 61 60 = some (.return_) := by decide +kernel
set_option maxRecDepth 100000 in
theorem jr_61 : mj_ret 61 = none := by decide +kernel
set_option maxRecDepth 100000 in
theorem ji_61_45 : mj_ins 61 45 = some (.aload_n 0) := by decide +kernel
set_option maxRecDepth 100000 in
theorem ji_61_46 : mj_ins 61 46 = some (.getfield 21) := by decide +kernel
set_option maxRecDepth 100000 in
theorem jf_61_21 : mj_fld 61 21 = some (2, 1, (.object "ForestOfPoles$Book"), false) := by decide +kernel
set_option maxRecDepth 100000 in
theorem ji_61_49 : mj_ins 61 49 = some (.iload_n 1) := by decide +kernel
set_option maxRecDepth 100000 in
theorem ji_61_50 : mj_ins 61 50 = some (.aload_n 0) := by decide +kernel
set_option maxRecDepth 100000 in
theorem ji_61_51 : mj_ins 61 51 = some (.getfield 12) := by decide +kernel
set_option maxRecDepth 100000 in
theorem ji_61_54 : mj_ins 61 54 = some (.getfield 84) := by decide +kernel
set_option maxRecDepth 100000 in
theorem ji_61_57 : mj_ins 61 57 = some (.invokevirtual 98) := by decide +kernel
set_option maxRecDepth 100000 in
theorem jc_61_98 : mj_cal 61 98 = some (2, 76, 2) := by decide +kernel
set_option maxRecDepth 100000 in
theorem jn_76 : mj_nl 76 = 3 := by decide +kernel
set_option maxRecDepth 100000 in
theorem jk_76 : mj_cls 76 = 4 := by decide +kernel
/-! hours of the state, run, in the class; laid by program (wp_u15.py) -/
theorem uc_61 {nn d : Nat} {h : mj_H} {s : sg_} (C : CS h s) {tc : tcs} (N : NV s tc) (h9 : s 48 10 < 9999) : wl_R nn (d + 5) 61 0 [some (.ref 47), none, none] [] h (fun v1 h1 => v1 = none ∧ CS h1 (hrC tc s)) := by
  have hR := rulT_i N.t.2
  have h10 := N.g.1.2.2.2.2.2.2.2.1
  have h11 := N.g.1.2.2.2.2.2.2.2.2.1
  refine wl_s (pc' := 1) ji_61_0 rfl rfl rfl ?_
  refine cs_gr (r := 48) (k := 0) C (by decide) sq_47 rfl ji_61_1 jf_61_12 ?_
  refine cs_gi (k := 10) (kI := 10) C (by decide) (by decide) sq_48 rfl rfl ji_61_4 jf_61_81 ?_
  have bd1 : wp_r (s 48 10) := cs_ri (k := 10) (kI := 10) C (by decide) (by decide) sq_48 rfl rfl (show 10 < 13 by decide)
  refine wl_s (pc' := 8) (lv' := [some (.ref 47), some (wp_i (s 48 10)), none]) ji_61_7 rfl rfl rfl ?_
  refine wl_s (pc' := 9) ji_61_8 rfl rfl rfl ?_
  refine cs_gr (r := 48) (k := 0) C (by decide) sq_47 rfl ji_61_9 jf_61_12 ?_
  refine cs_gi (k := 11) (kI := 11) C (by decide) (by decide) sq_48 rfl rfl ji_61_12 jf_61_84 ?_
  have bd2 : wp_r (s 48 11) := cs_ri (k := 11) (kI := 11) C (by decide) (by decide) sq_48 rfl rfl (show 11 < 13 by decide)
  refine wl_s (pc' := 16) (lv' := [some (.ref 47), some (wp_i (s 48 10)), some (wp_i (s 48 11))]) ji_61_15 rfl rfl rfl ?_
  refine wl_s (pc' := 17) ji_61_16 rfl rfl rfl ?_
  refine cs_gr (r := 48) (k := 0) C (by decide) sq_47 rfl ji_61_17 jf_61_12 ?_
  refine wl_s (pc' := 21) ji_61_20 rfl rfl rfl ?_
  obtain ⟨q4, hq4⟩ := cs_c C (by decide) sq_47
  refine wl_vc (d := d + 4) (as := [.ref 47]) (rest := [.ref 48]) ji_61_21 jc_61_87 rfl hq4 jk_62.symm (Nat.le_of_ble_eq_true rfl) rfl (by rw [jn_62]; rfl) (uc_62 (d := d + 3) C N.t.2) (fun v1 h3 R => ?_)
  obtain ⟨ee, rfl⟩ := R
  rw [ee]
  clear ee
  show wl_R _ _ 61 24 [some (.ref 47), some (wp_i (s 48 10)), some (wp_i (s 48 11))] [.ref (rulT s), .ref 48] _ _
  obtain ⟨q6, hq6⟩ := cs_c C (by decide) sq_48
  refine wl_vc (d := d + 4) (as := [.ref 48, .ref (rulT s)]) (rest := []) ji_61_24 jc_61_91 rfl hq6 jk_63.symm (Nat.le_of_ble_eq_true rfl) rfl (by rw [jn_63]; rfl) (uc_63 (d := d) C hR isF_48 (NV_tx N) N.sc N.g) (fun v1 h5 R => ?_)
  obtain ⟨rfl, C⟩ := R
  obtain ⟨s7, es7⟩ : ∃ z9_, passC (tc (rulT s)) 48 s = z9_ := ⟨_, rfl⟩
  rw [es7] at C
  have G1 : IG s7 48 := es7 ▸ passC_IG N.g (by omega)
  have I1 := G1.1
  have b1 : 0 ≤ s7 56 2 ∧ s7 56 2 ≤ 40 := by rw [← es7, passC_fr (by decide) (by decide) (by decide)]; exact N.b
  show wl_R _ _ 61 27 [some (.ref 47), some (wp_i (s 48 10)), some (wp_i (s 48 11))] [] h5 _
  refine wl_s (pc' := 28) ji_61_27 rfl rfl rfl ?_
  refine cs_gr (r := 48) (k := 0) C (by decide) sq_47 rfl ji_61_28 jf_61_12 ?_
  obtain ⟨q9, hq9⟩ := cs_c C (by decide) sq_48
  refine wl_vc (d := d + 4) (as := [.ref 48]) (rest := []) ji_61_31 jc_61_95 rfl hq9 jk_74.symm (Nat.le_of_ble_eq_true rfl) rfl (by rw [jn_74]; rfl) (uc_74 (d := d + 3) C isF_48 I1) (fun v1 h8 R => ?_)
  obtain ⟨rfl, C⟩ := R
  obtain ⟨s10, es10⟩ : ∃ z9_, up s7 48 12 ((s7 48 12 * 283 + 181) % 30307) = z9_ := ⟨_, rfl⟩
  rw [es10] at C
  obtain ⟨s11, es11⟩ : ∃ z9_, up s10 48 9 (s7 48 12 % 10) = z9_ := ⟨_, rfl⟩
  rw [es11] at C
  show wl_R _ _ 61 34 [some (.ref 47), some (wp_i (s 48 10)), some (wp_i (s 48 11))] [] h8 _
  refine wl_s (pc' := 35) ji_61_34 rfl rfl rfl ?_
  refine cs_gr (r := 48) (k := 0) C (by decide) sq_47 rfl ji_61_35 jf_61_12 ?_
  refine cs_gi (k := 11) (kI := 11) C (by decide) (by decide) sq_48 rfl rfl ji_61_38 jf_61_84 ?_
  have rd12 : s11 48 11 = s7 48 11 := by rw [← es11, up_k (by decide)]; rw [← es10, up_k (by decide)]
  rw [rd12]
  have bd13 : wp_r (s7 48 11) := rd12 ▸ cs_ri (k := 11) (kI := 11) C (by decide) (by decide) sq_48 rfl rfl (show 11 < 13 by decide)
  refine wl_s (pc' := 42) ji_61_41 rfl rfl rfl ?_
  refine wl_icmp (t := 60) ji_61_42 rfl (by omega) (by omega) (fun (hb14 : (s7 48 11 : Int) = (s 48 11)) => ?_) (fun (hb14 : ¬ ((s7 48 11 : Int) = (s 48 11))) => ?_)
  · exact wl_rv ji_61_60 jr_61 (⟨rfl, cs_mono C (by unfold hrC; (try dsimp only); rw [es7, es10, es11, show s11 48 11 = s7 48 11 by rw [← es11, up_k (by decide), ← es10, up_k (by decide)], if_pos (by omega)])⟩)
  · have bu : 0 ≤ s11 56 2 ∧ s11 56 2 ≤ 40 := by rw [← es11, up_a (by decide), ← es10, up_a (by decide)]; exact b1
    refine wl_s (pc' := 46) ji_61_45 rfl rfl rfl ?_
    refine cs_gr (r := 56) (k := 1) C (by decide) sq_47 rfl ji_61_46 jf_61_21 ?_
    refine wl_s (pc' := 50) ji_61_49 rfl rfl rfl ?_
    refine wl_s (pc' := 51) ji_61_50 rfl rfl rfl ?_
    refine cs_gr (r := 48) (k := 0) C (by decide) sq_47 rfl ji_61_51 jf_61_12 ?_
    refine cs_gi (k := 11) (kI := 11) C (by decide) (by decide) sq_48 rfl rfl ji_61_54 jf_61_84 ?_
    have rd15 : s11 48 11 = s7 48 11 := by rw [← es11, up_k (by decide)]; rw [← es10, up_k (by decide)]
    rw [rd15]
    obtain ⟨q17, hq17⟩ := cs_c C (by decide) sq_56
    refine wl_vc (d := d + 4) (as := [.ref 56, wp_i (s 48 10), wp_i (s7 48 11)]) (rest := []) ji_61_57 jc_61_98 rfl hq17 jk_76.symm (Nat.le_of_ble_eq_true rfl) rfl (by rw [jn_76]; rfl) (uc_76 (d := d + 4) C (x := s 48 10) (z := s7 48 11) (by omega) (by omega) bu) (fun v1 h16 R => ?_)
    obtain ⟨rfl, C⟩ := R
    show wl_R _ _ 61 60 [some (.ref 47), some (wp_i (s 48 10)), some (wp_i (s 48 11))] [] h16 _
    exact wl_rv ji_61_60 jr_61 (⟨rfl, cs_mono C (by unfold hrC; (try dsimp only); rw [es7, es10, es11, show s11 48 11 = s7 48 11 by rw [← es11, up_k (by decide), ← es10, up_k (by decide)], if_neg (by omega)])⟩)
