/-! -/
/-! -/
set_option maxRecDepth 100000 in
theorem ji_94_0 : mj_ins 94 0 = some (.aload_n 0) := by decide +kernel
set_option maxRecDepth 100000 in
theorem ji_94_1 : mj_ins 94 1 = some (.getfield 12) := by decide +kernel
set_option maxRecDepth 100000 in
theorem jf_94_12 : mj_fld 94 12 = some (2, 0, (.object "ForestOfPoles$Forest"), false) := by decide +kernel
set_option maxRecDepth 100000 in
theorem ji_94_4 : mj_ins 94 4 = some (.getfield 136) := by decide +kernel
set_option maxRecDepth 100000 in
theorem jf_94_136 : mj_fld 94 136 = some (3, 0, .int, true) := by decide +kernel
set_option maxRecDepth 100000 in
theorem ji_94_7 : mj_ins 94 7 = some (.ifCond .eq 13) := by decide +kernel
set_option maxRecDepth 100000 in
theorem ji_94_20 : mj_ins 94 20 = some (.return_) := by decide +kernel
set_option maxRecDepth 100000 in
theorem jr_94 : mj_ret 94 = none := by decide +kernel
set_option maxRecDepth 100000 in
theorem ji_94_10 : mj_ins 94 10 = some (.aload_n 0) := by decide +kernel
set_option maxRecDepth 100000 in
theorem ji_94_11 : mj_ins 94 11 = some (.getfield 12) := by decide +kernel
set_option maxRecDepth 100000 in
theorem ji_94_14 : mj_ins 94 14 = some (.getfield 139) := by decide +kernel
set_option maxRecDepth 100000 in
theorem jf_94_139 : mj_fld 94 139 = some (3, 1, .int, true) := by decide +kernel
set_option maxRecDepth 100000 in
theorem ji_94_17 : mj_ins 94 17 = some (.ifCond .ne 4) := by decide +kernel
set_option maxRecDepth 100000 in
theorem ji_94_21 : mj_ins 94 21 = some (.aload_n 0) := by decide +kernel
set_option maxRecDepth 100000 in
theorem ji_94_22 : mj_ins 94 22 = some (.getfield 12) := by decide +kernel
set_option maxRecDepth 100000 in
theorem ji_94_25 : mj_ins 94 25 = some (.invokevirtual 142) := by decide +kernel
set_option maxRecDepth 100000 in
theorem jc_94_142 : mj_cal 94 142 = some (2, 75, 0) := by decide +kernel
set_option maxRecDepth 100000 in
theorem ji_94_28 : mj_ins 94 28 = some (.istore_n 1) := by decide +kernel
set_option maxRecDepth 100000 in
theorem ji_94_29 : mj_ins 94 29 = some (.iload_n 1) := by decide +kernel
set_option maxRecDepth 100000 in
theorem ji_94_30 : mj_ins 94 30 = some (.aload_n 0) := by decide +kernel
set_option maxRecDepth 100000 in
theorem ji_94_31 : mj_ins 94 31 = some (.getfield 12) := by decide +kernel
set_option maxRecDepth 100000 in
theorem ji_94_34 : mj_ins 94 34 = some (.getfield 139) := by decide +kernel
set_option maxRecDepth 100000 in
theorem ji_94_37 : mj_ins 94 37 = some (.irem) := by decide +kernel
set_option maxRecDepth 100000 in
theorem ji_94_38 : mj_ins 94 38 = some (.istore_n 2) := by decide +kernel
set_option maxRecDepth 100000 in
theorem ji_94_39 : mj_ins 94 39 = some (.iload_n 1) := by decide +kernel
set_option maxRecDepth 100000 in
theorem ji_94_40 : mj_ins 94 40 = some (.aload_n 0) := by decide +kernel
set_option maxRecDepth 100000 in
theorem ji_94_41 : mj_ins 94 41 = some (.getfield 12) := by decide +kernel
set_option maxRecDepth 100000 in
theorem ji_94_44 : mj_ins 94 44 = some (.getfield 136) := by decide +kernel
set_option maxRecDepth 100000 in
theorem ji_94_47 : mj_ins 94 47 = some (.irem) := by decide +kernel
set_option maxRecDepth 100000 in
theorem ji_94_48 : mj_ins 94 48 = some (.istore_n 3) := by decide +kernel
set_option maxRecDepth 100000 in
theorem ji_94_49 : mj_ins 94 49 = some (.iconst 1) := by decide +kernel
set_option maxRecDepth 100000 in
theorem ji_94_50 : mj_ins 94 50 = some (.iload_n 1) := by decide +kernel
set_option maxRecDepth 100000 in
theorem ji_94_51 : mj_ins 94 51 = some (.iconst 3) := by decide +kernel
set_option maxRecDepth 100000 in
theorem ji_94_52 : mj_ins 94 52 = some (.irem) := by decide +kernel
set_option maxRecDepth 100000 in
theorem ji_94_53 : mj_ins 94 53 = some (.iadd) := by decide +kernel
set_option maxRecDepth 100000 in
theorem ji_94_54 : mj_ins 94 54 = some (.istore 4) := by decide +kernel
set_option maxRecDepth 100000 in
theorem ji_94_56 : mj_ins 94 56 = some (.iload_n 1) := by decide +kernel
set_option maxRecDepth 100000 in
theorem ji_94_57 : mj_ins 94 57 = some (.bipush 7) := by decide +kernel
set_option maxRecDepth 100000 in
theorem ji_94_59 : mj_ins 94 59 = some (.irem) := by decide +kernel
set_option maxRecDepth 100000 in
theorem ji_94_60 : mj_ins 94 60 = some (.tableswitch 94 0 3 #[32, 32, 56, 68]) := by decide +kernel
set_option maxRecDepth 100000 in
theorem ji_94_92 : mj_ins 94 92 = some (.aload_n 0) := by decide +kernel
set_option maxRecDepth 100000 in
theorem ji_94_93 : mj_ins 94 93 = some (.getfield 12) := by decide +kernel
set_option maxRecDepth 100000 in
theorem ji_94_96 : mj_ins 94 96 = some (.iload_n 2) := by decide +kernel
set_option maxRecDepth 100000 in
theorem ji_94_97 : mj_ins 94 97 = some (.iload_n 3) := by decide +kernel
set_option maxRecDepth 100000 in
theorem ji_94_98 : mj_ins 94 98 = some (.invokevirtual 114) := by decide +kernel
set_option maxRecDepth 100000 in
theorem jc_94_114 : mj_cal 94 114 = some (2, 79, 2) := by decide +kernel
set_option maxRecDepth 100000 in
theorem jn_79 : mj_nl 79 = 3 := by decide +kernel
set_option maxRecDepth 100000 in
theorem jk_79 : mj_cls 79 = 3 := by decide +kernel
set_option maxRecDepth 100000 in
theorem ji_94_101 : mj_ins 94 101 = some (.ifCond .eq 70) := by decide +kernel
set_option maxRecDepth 100000 in
theorem ji_94_171 : mj_ins 94 171 = some (.return_) := by decide +kernel
set_option maxRecDepth 100000 in
theorem ji_94_104 : mj_ins 94 104 = some (.aload_n 0) := by decide +kernel
set_option maxRecDepth 100000 in
theorem ji_94_105 : mj_ins 94 105 = some (.getfield 12) := by decide +kernel
set_option maxRecDepth 100000 in
theorem ji_94_108 : mj_ins 94 108 = some (.iload_n 2) := by decide +kernel
set_option maxRecDepth 100000 in
theorem ji_94_109 : mj_ins 94 109 = some (.iload_n 3) := by decide +kernel
set_option maxRecDepth 100000 in
theorem ji_94_110 : mj_ins 94 110 = some (.invokevirtual 118) := by decide +kernel
set_option maxRecDepth 100000 in
theorem jc_94_118 : mj_cal 94 118 = some (2, 82, 2) := by decide +kernel
set_option maxRecDepth 100000 in
theorem jn_82 : mj_nl 82 = 3 := by decide +kernel
set_option maxRecDepth 100000 in
theorem jk_82 : mj_cls 82 = 3 := by decide +kernel
set_option maxRecDepth 100000 in
theorem ji_94_113 : mj_ins 94 113 = some (.goto 58) := by decide +kernel
set_option maxRecDepth 100000 in
theorem ji_94_116 : mj_ins 94 116 = some (.aload_n 0) := by decide +kernel
set_option maxRecDepth 100000 in
theorem ji_94_117 : mj_ins 94 117 = some (.getfield 12) := by decide +kernel
set_option maxRecDepth 100000 in
theorem ji_94_120 : mj_ins 94 120 = some (.iload_n 2) := by decide +kernel
set_option maxRecDepth 100000 in
theorem ji_94_121 : mj_ins 94 121 = some (.iload_n 3) := by decide +kernel
set_option maxRecDepth 100000 in
theorem ji_94_122 : mj_ins 94 122 = some (.invokevirtual 124) := by decide +kernel
set_option maxRecDepth 100000 in
theorem jc_94_124 : mj_cal 94 124 = some (2, 71, 2) := by decide +kernel
set_option maxRecDepth 100000 in
theorem ji_94_125 : mj_ins 94 125 = some (.goto 46) := by decide +kernel
set_option maxRecDepth 100000 in
theorem ji_94_128 : mj_ins 94 128 = some (.aload_n 0) := by decide +kernel
set_option maxRecDepth 100000 in
theorem ji_94_129 : mj_ins 94 129 = some (.getfield 12) := by decide +kernel
set_option maxRecDepth 100000 in
theorem ji_94_132 : mj_ins 94 132 = some (.iload_n 3) := by decide +kernel
set_option maxRecDepth 100000 in
theorem ji_94_133 : mj_ins 94 133 = some (.iload 4) := by decide +kernel
set_option maxRecDepth 100000 in
theorem ji_94_135 : mj_ins 94 135 = some (.invokevirtual 127) := by decide +kernel
set_option maxRecDepth 100000 in
theorem jc_94_127 : mj_cal 94 127 = some (2, 88, 2) := by decide +kernel
set_option maxRecDepth 100000 in
theorem jn_88 : mj_nl 88 = 3 := by decide +kernel
set_option maxRecDepth 100000 in
theorem jk_88 : mj_cls 88 = 3 := by decide +kernel
set_option maxRecDepth 100000 in
theorem ji_94_138 : mj_ins 94 138 = some (.ifCond .eq 33) := by decide +kernel
set_option maxRecDepth 100000 in
theorem ji_94_141 : mj_ins 94 141 = some (.aload_n 0) := by decide +kernel
set_option maxRecDepth 100000 in
theorem ji_94_142 : mj_ins 94 142 = some (.getfield 12) := by decide +kernel
set_option maxRecDepth 100000 in
theorem ji_94_145 : mj_ins 94 145 = some (.iload_n 3) := by decide +kernel
set_option maxRecDepth 100000 in
theorem ji_94_146 : mj_ins 94 146 = some (.iload 4) := by decide +kernel
set_option maxRecDepth 100000 in
theorem ji_94_148 : mj_ins 94 148 = some (.invokevirtual 130) := by decide +kernel
set_option maxRecDepth 100000 in
theorem jc_94_130 : mj_cal 94 130 = some (2, 89, 2) := by decide +kernel
set_option maxRecDepth 100000 in
theorem jn_89 : mj_nl 89 = 5 := by decide +kernel
set_option maxRecDepth 100000 in
theorem jk_89 : mj_cls 89 = 3 := by decide +kernel
set_option maxRecDepth 100000 in
theorem ji_94_151 : mj_ins 94 151 = some (.goto 20) := by decide +kernel
set_option maxRecDepth 100000 in
theorem ji_94_154 : mj_ins 94 154 = some (.aload_n 0) := by decide +kernel
set_option maxRecDepth 100000 in
theorem ji_94_155 : mj_ins 94 155 = some (.getfield 12) := by decide +kernel
set_option maxRecDepth 100000 in
theorem ji_94_158 : mj_ins 94 158 = some (.getfield 81) := by decide +kernel
set_option maxRecDepth 100000 in
theorem jf_94_81 : mj_fld 94 81 = some (3, 10, .int, true) := by decide +kernel
set_option maxRecDepth 100000 in
theorem ji_94_161 : mj_ins 94 161 = some (.sipush 9999) := by decide +kernel
set_option maxRecDepth 100000 in
theorem ji_94_164 : mj_ins 94 164 = some (.if_icmp .ge 7) := by decide +kernel
set_option maxRecDepth 100000 in
theorem ji_94_167 : mj_ins 94 167 = some (.aload_n 0) := by decide +kernel
set_option maxRecDepth 100000 in
theorem ji_94_168 : mj_ins 94 168 = some (.invokevirtual 111) := by decide +kernel
set_option maxRecDepth 100000 in
theorem jc_94_111 : mj_cal 94 111 = some (2, 61, 0) := by decide +kernel
/-! a draw of centuries, in the class; laid by program (wp_u17.py) -/
abbrev mrC (s : sg_) (w p : Int) : Prop := s 54 (p * 6 + w) = -1 ∧ fcn (fun j => s 54 (p * 6 + j)) (s 48 1).toNat < 2
def rsC (s : sg_) (w p : Int) : sg_ := up (up s 54 (p * 6 + w) 0) 55 (p * 6 + w) 0
def ctD (tc : tcs) (s1 : sg_) (q w p n : Int) : sg_ := if q = 0 ∨ q = 1 then (if mrC s1 w p then rsC s1 w p else s1)
  else if q = 2 then up s1 54 (p * 6 + w) (-1)
  else if q = 3 then (if n < s1 50 p then cutW s1 48 p n (s1 48 1) else s1)
  else if s1 48 10 < 9999 then hrC tc s1 else s1
def ctC (tc : tcs) (s : sg_) : sg_ := if s 48 0 = 0 ∨ s 48 1 = 0 then s else
  ctD tc (up s 48 12 ((s 48 12 * 283 + 181) % 30307)) (s 48 12 % 7) (s 48 12 % s 48 1) (s 48 12 % s 48 0) (1 + s 48 12 % 3)
theorem NV_12 {s : sg_} {tc : tcs} (N : NV s tc) {y : Int} (hy : 0 ≤ y ∧ y ≤ 30306) : NV (up s 48 12 y) tc := NV_f N (fun b j hb => up_a (by omega)) (IG_12 N.g hy) (by rw [up_k (by decide)]; exact N.h) (by rw [up_a (by decide)]; exact N.b) (by rw [up_a (by decide), up_a (by decide)]; exact ⟨N.e, N.c⟩)
theorem uc_94 {nn d : Nat} {h : mj_H} {s : sg_} (C : CS h s) {tc : tcs} (N : NV s tc) : wl_R nn (d + 6) 94 0 [some (.ref 47), none, none, none, none] [] h (fun v1 h1 => v1 = none ∧ CS h1 (ctC tc s)) := by
  have i0 := N.g.1.1
  have i1 := N.g.1.2.1
  have i12 := N.g.1.2.2.2.2.2.2.2.2.2
  have iN := N.h
  refine wl_s (pc' := 1) ji_94_0 rfl rfl rfl ?_
  refine cs_gr (r := 48) (k := 0) C (by decide) sq_47 rfl ji_94_1 jf_94_12 ?_
  refine cs_gi (k := 0) (kI := 0) C (by decide) (by decide) sq_48 rfl rfl ji_94_4 jf_94_136 ?_
  have bd1 : wp_r (s 48 0) := cs_ri (k := 0) (kI := 0) C (by decide) (by decide) sq_48 rfl rfl (show 0 < 13 by decide)
  refine wl_if (t := 20) ji_94_7 rfl (by omega) (fun (hb2 : (s 48 0 : Int) = 0) => ?_) (fun (hb2 : ¬ ((s 48 0 : Int) = 0)) => ?_)
  · exact wl_rv ji_94_20 jr_94 (⟨rfl, cs_mono C (by unfold ctC; rw [if_pos (by omega)])⟩)
  · refine wl_s (pc' := 11) ji_94_10 rfl rfl rfl ?_
    refine cs_gr (r := 48) (k := 0) C (by decide) sq_47 rfl ji_94_11 jf_94_12 ?_
    refine cs_gi (k := 1) (kI := 1) C (by decide) (by decide) sq_48 rfl rfl ji_94_14 jf_94_139 ?_
    have bd3 : wp_r (s 48 1) := cs_ri (k := 1) (kI := 1) C (by decide) (by decide) sq_48 rfl rfl (show 1 < 13 by decide)
    refine wl_if (t := 21) ji_94_17 rfl (by omega) (fun (hb4 : ¬ (s 48 1 : Int) = 0) => ?_) (fun (hb4 : ¬ (¬ (s 48 1 : Int) = 0)) => ?_)
    · refine wl_s (pc' := 22) ji_94_21 rfl rfl rfl ?_
      refine cs_gr (r := 48) (k := 0) C (by decide) sq_47 rfl ji_94_22 jf_94_12 ?_
      obtain ⟨q6, hq6⟩ := cs_c C (by decide) sq_48
      refine wl_vc (d := d + 5) (as := [.ref 48]) (rest := []) ji_94_25 jc_94_142 rfl hq6 jk_75.symm (Nat.le_of_ble_eq_true rfl) rfl (by rw [jn_75]; rfl) (uc_75 (d := d + 5) C isF_48 N.g.1) (fun v1 h5 R => ?_)
      obtain ⟨rfl, C⟩ := R
      obtain ⟨t, et⟩ : ∃ z9_, up s 48 12 ((s 48 12 * 283 + 181) % 30307) = z9_ := ⟨_, rfl⟩
      rw [et] at C
      have N1 : NV t tc := et ▸ NV_12 N (by omega)
      have I1 := N1.g.1
      have t0 : t 48 0 = s 48 0 := by rw [← et, up_k (by decide)]
      have t1 : t 48 1 = s 48 1 := by rw [← et, up_k (by decide)]
      have t10 : t 48 10 = s 48 10 := by rw [← et, up_k (by decide)]
      show wl_R _ _ 94 28 [some (.ref 47), none, none, none, none] [wp_i (s 48 12)] h5 _
      refine wl_s (pc' := 29) (lv' := [some (.ref 47), some (wp_i (s 48 12)), none, none, none]) ji_94_28 rfl rfl rfl ?_
      refine wl_s (pc' := 30) ji_94_29 rfl rfl rfl ?_
      refine wl_s (pc' := 31) ji_94_30 rfl rfl rfl ?_
      refine cs_gr (r := 48) (k := 0) C (by decide) sq_47 rfl ji_94_31 jf_94_12 ?_
      refine cs_gi (k := 1) (kI := 1) C (by decide) (by decide) sq_48 rfl rfl ji_94_34 jf_94_139 ?_
      have bd7 : wp_r (t 48 1) := cs_ri (k := 1) (kI := 1) C (by decide) (by decide) sq_48 rfl rfl (show 1 < 13 by decide)
      refine wl_irem (x := s 48 12) (y := t 48 1) ji_94_37 (by omega) (by omega) ?_
      have wa := Int.emod_nonneg (s 48 12) (show ¬ t 48 1 = 0 by omega)
      have wb := Int.emod_lt_of_pos (s 48 12) (show 0 < t 48 1 by omega)
      obtain ⟨w, ew⟩ : ∃ z9_, s 48 12 % (t 48 1) = z9_ := ⟨_, rfl⟩
      rw [ew] at wa wb ⊢
      refine wl_s (pc' := 39) (lv' := [some (.ref 47), some (wp_i (s 48 12)), some (wp_i w), none, none]) ji_94_38 rfl rfl rfl ?_
      refine wl_s (pc' := 40) ji_94_39 rfl rfl rfl ?_
      refine wl_s (pc' := 41) ji_94_40 rfl rfl rfl ?_
      refine cs_gr (r := 48) (k := 0) C (by decide) sq_47 rfl ji_94_41 jf_94_12 ?_
      refine cs_gi (k := 0) (kI := 0) C (by decide) (by decide) sq_48 rfl rfl ji_94_44 jf_94_136 ?_
      have bd8 : wp_r (t 48 0) := cs_ri (k := 0) (kI := 0) C (by decide) (by decide) sq_48 rfl rfl (show 0 < 13 by decide)
      refine wl_irem (x := s 48 12) (y := t 48 0) ji_94_47 (by omega) (by omega) ?_
      have pa := Int.emod_nonneg (s 48 12) (show ¬ t 48 0 = 0 by omega)
      have pb := Int.emod_lt_of_pos (s 48 12) (show 0 < t 48 0 by omega)
      obtain ⟨p, ep⟩ : ∃ z9_, s 48 12 % (t 48 0) = z9_ := ⟨_, rfl⟩
      rw [ep] at pa pb ⊢
      refine wl_s (pc' := 49) (lv' := [some (.ref 47), some (wp_i (s 48 12)), some (wp_i w), some (wp_i p), none]) ji_94_48 rfl rfl rfl ?_
      refine wl_s (pc' := 50) ji_94_49 rfl rfl rfl ?_
      refine wl_s (pc' := 51) ji_94_50 rfl rfl rfl ?_
      refine wl_s (pc' := 52) ji_94_51 rfl rfl rfl ?_
      refine wl_irem (x := s 48 12) (y := 3) ji_94_52 (by omega) (by omega) ?_
      obtain ⟨c3, ec3⟩ : ∃ z9_, s 48 12 % 3 = z9_ := ⟨_, rfl⟩
      rw [ec3]
      refine wl_iadd (x := 1) (y := c3) (z := 1 + c3) ji_94_53 (by omega) ?_
      refine wl_s (pc' := 56) (lv' := [some (.ref 47), some (wp_i (s 48 12)), some (wp_i w), some (wp_i p), some (wp_i (1 + c3))]) ji_94_54 rfl rfl rfl ?_
      refine wl_s (pc' := 57) ji_94_56 rfl rfl rfl ?_
      refine wl_bp ji_94_57 rfl ?_
      refine wl_irem (x := s 48 12) (y := 7) ji_94_59 (by omega) (by omega) ?_
      obtain ⟨q, eq⟩ : ∃ z9_, s 48 12 % 7 = z9_ := ⟨_, rfl⟩
      rw [eq]
      have hq : q = 0 ∨ q = 1 ∨ q = 2 ∨ q = 3 ∨ q = 4 ∨ q = 5 ∨ q = 6 := by omega
      rcases hq with hq | hq | hq | hq | hq | hq | hq
      · rw [hq]
        refine wl_s (pc' := 92) ji_94_60 rfl rfl rfl ?_
        refine wl_s (pc' := 93) ji_94_92 rfl rfl rfl ?_
        refine cs_gr (r := 48) (k := 0) C (by decide) sq_47 rfl ji_94_93 jf_94_12 ?_
        refine wl_s (pc' := 97) ji_94_96 rfl rfl rfl ?_
        refine wl_s (pc' := 98) ji_94_97 rfl rfl rfl ?_
        obtain ⟨q10, hq10⟩ := cs_c C (by decide) sq_48
        refine wl_vc (d := d + 5) (as := [.ref 48, wp_i w, wp_i p]) (rest := []) ji_94_98 jc_94_114 rfl hq10 jk_79.symm (Nat.le_of_ble_eq_true rfl) rfl (by rw [jn_79]; rfl) (uc_79 (d := d + 4) C isF_48 I1 (w := w) (p := p) (by omega) (by omega)) (fun v1 h9 R => ?_)
        obtain ⟨ee, y11, rfl, hy11a, hy11b⟩ := R
        rw [ee]
        clear ee
        show wl_R _ _ 94 101 [some (.ref 47), some (wp_i (s 48 12)), some (wp_i w), some (wp_i p), some (wp_i (1 + c3))] [wp_i y11] _ _
        have hy11b : y11 = 1 ↔ ((0 ≤ w ∧ w < t 48 1) ∧ (0 ≤ p ∧ p < t 48 0) ∧ t 54 (p * 6 + w) = -1 ∧ fcn (fun j => t 54 (p * 6 + j)) (t 48 1).toNat < 2) := hy11b
        refine wl_if (t := 171) ji_94_101 rfl (by omega) (fun (hb12 : (y11 : Int) = 0) => ?_) (fun (hb12 : ¬ ((y11 : Int) = 0)) => ?_)
        · exact wl_rv ji_94_171 jr_94 (⟨rfl, cs_mono C (by unfold ctC; rw [if_neg (by omega), et, ← t1, ← t0, ew, ep, ec3, eq, hq]; unfold ctD; rw [if_pos (by decide), if_neg (fun z => by have := hy11b.mpr ⟨by omega, by omega, z⟩; omega)])⟩)
        · refine wl_s (pc' := 105) ji_94_104 rfl rfl rfl ?_
          refine cs_gr (r := 48) (k := 0) C (by decide) sq_47 rfl ji_94_105 jf_94_12 ?_
          refine wl_s (pc' := 109) ji_94_108 rfl rfl rfl ?_
          refine wl_s (pc' := 110) ji_94_109 rfl rfl rfl ?_
          obtain ⟨q14, hq14⟩ := cs_c C (by decide) sq_48
          refine wl_vc (d := d + 5) (as := [.ref 48, wp_i w, wp_i p]) (rest := []) ji_94_110 jc_94_118 rfl hq14 jk_82.symm (Nat.le_of_ble_eq_true rfl) rfl (by rw [jn_82]; rfl) (uc_82 (d := d + 5) C isF_48 (w := w) (p := p) (by omega) (by omega)) (fun v1 h13 R => ?_)
          obtain ⟨rfl, C⟩ := R
          have C : CS h13 (rsC t w p) := C
          show wl_R _ _ 94 113 [some (.ref 47), some (wp_i (s 48 12)), some (wp_i w), some (wp_i p), some (wp_i (1 + c3))] [] h13 _
          refine wl_goto (t := 171) ji_94_113 rfl ?_
          exact wl_rv ji_94_171 jr_94 (⟨rfl, cs_mono C (by unfold ctC; rw [if_neg (by omega), et, ← t1, ← t0, ew, ep, ec3, eq, hq]; unfold ctD; rw [if_pos (by decide), if_pos (hy11b.mp (by omega)).2.2])⟩)
      · rw [hq]
        refine wl_s (pc' := 92) ji_94_60 rfl rfl rfl ?_
        refine wl_s (pc' := 93) ji_94_92 rfl rfl rfl ?_
        refine cs_gr (r := 48) (k := 0) C (by decide) sq_47 rfl ji_94_93 jf_94_12 ?_
        refine wl_s (pc' := 97) ji_94_96 rfl rfl rfl ?_
        refine wl_s (pc' := 98) ji_94_97 rfl rfl rfl ?_
        obtain ⟨q16, hq16⟩ := cs_c C (by decide) sq_48
        refine wl_vc (d := d + 5) (as := [.ref 48, wp_i w, wp_i p]) (rest := []) ji_94_98 jc_94_114 rfl hq16 jk_79.symm (Nat.le_of_ble_eq_true rfl) rfl (by rw [jn_79]; rfl) (uc_79 (d := d + 4) C isF_48 I1 (w := w) (p := p) (by omega) (by omega)) (fun v1 h15 R => ?_)
        obtain ⟨ee, y17, rfl, hy17a, hy17b⟩ := R
        rw [ee]
        clear ee
        show wl_R _ _ 94 101 [some (.ref 47), some (wp_i (s 48 12)), some (wp_i w), some (wp_i p), some (wp_i (1 + c3))] [wp_i y17] _ _
        have hy17b : y17 = 1 ↔ ((0 ≤ w ∧ w < t 48 1) ∧ (0 ≤ p ∧ p < t 48 0) ∧ t 54 (p * 6 + w) = -1 ∧ fcn (fun j => t 54 (p * 6 + j)) (t 48 1).toNat < 2) := hy17b
        refine wl_if (t := 171) ji_94_101 rfl (by omega) (fun (hb18 : (y17 : Int) = 0) => ?_) (fun (hb18 : ¬ ((y17 : Int) = 0)) => ?_)
        · exact wl_rv ji_94_171 jr_94 (⟨rfl, cs_mono C (by unfold ctC; rw [if_neg (by omega), et, ← t1, ← t0, ew, ep, ec3, eq, hq]; unfold ctD; rw [if_pos (by decide), if_neg (fun z => by have := hy17b.mpr ⟨by omega, by omega, z⟩; omega)])⟩)
        · refine wl_s (pc' := 105) ji_94_104 rfl rfl rfl ?_
          refine cs_gr (r := 48) (k := 0) C (by decide) sq_47 rfl ji_94_105 jf_94_12 ?_
          refine wl_s (pc' := 109) ji_94_108 rfl rfl rfl ?_
          refine wl_s (pc' := 110) ji_94_109 rfl rfl rfl ?_
          obtain ⟨q20, hq20⟩ := cs_c C (by decide) sq_48
          refine wl_vc (d := d + 5) (as := [.ref 48, wp_i w, wp_i p]) (rest := []) ji_94_110 jc_94_118 rfl hq20 jk_82.symm (Nat.le_of_ble_eq_true rfl) rfl (by rw [jn_82]; rfl) (uc_82 (d := d + 5) C isF_48 (w := w) (p := p) (by omega) (by omega)) (fun v1 h19 R => ?_)
          obtain ⟨rfl, C⟩ := R
          have C : CS h19 (rsC t w p) := C
          show wl_R _ _ 94 113 [some (.ref 47), some (wp_i (s 48 12)), some (wp_i w), some (wp_i p), some (wp_i (1 + c3))] [] h19 _
          refine wl_goto (t := 171) ji_94_113 rfl ?_
          exact wl_rv ji_94_171 jr_94 (⟨rfl, cs_mono C (by unfold ctC; rw [if_neg (by omega), et, ← t1, ← t0, ew, ep, ec3, eq, hq]; unfold ctD; rw [if_pos (by decide), if_pos (hy17b.mp (by omega)).2.2])⟩)
      · rw [hq]
        refine wl_s (pc' := 116) ji_94_60 rfl rfl rfl ?_
        refine wl_s (pc' := 117) ji_94_116 rfl rfl rfl ?_
        refine cs_gr (r := 48) (k := 0) C (by decide) sq_47 rfl ji_94_117 jf_94_12 ?_
        refine wl_s (pc' := 121) ji_94_120 rfl rfl rfl ?_
        refine wl_s (pc' := 122) ji_94_121 rfl rfl rfl ?_
        obtain ⟨q22, hq22⟩ := cs_c C (by decide) sq_48
        refine wl_vc (d := d + 5) (as := [.ref 48, wp_i w, wp_i p]) (rest := []) ji_94_122 jc_94_124 rfl hq22 jk_71.symm (Nat.le_of_ble_eq_true rfl) rfl (by rw [jn_71]; rfl) (uc_71 (d := d + 5) C isF_48 (w := w) (p := p) (by omega) (by omega)) (fun v1 h21 R => ?_)
        obtain ⟨rfl, C⟩ := R
        have C : CS h21 (up t 54 (p * 6 + w) (-1)) := C
        show wl_R _ _ 94 125 [some (.ref 47), some (wp_i (s 48 12)), some (wp_i w), some (wp_i p), some (wp_i (1 + c3))] [] h21 _
        refine wl_goto (t := 171) ji_94_125 rfl ?_
        exact wl_rv ji_94_171 jr_94 (⟨rfl, cs_mono C (by unfold ctC; rw [if_neg (by omega), et, ← t1, ← t0, ew, ep, ec3, eq, hq]; unfold ctD; rw [if_neg (by decide), if_pos rfl])⟩)
      · rw [hq]
        refine wl_s (pc' := 128) ji_94_60 rfl rfl rfl ?_
        refine wl_s (pc' := 129) ji_94_128 rfl rfl rfl ?_
        refine cs_gr (r := 48) (k := 0) C (by decide) sq_47 rfl ji_94_129 jf_94_12 ?_
        refine wl_s (pc' := 133) ji_94_132 rfl rfl rfl ?_
        refine wl_s (pc' := 135) ji_94_133 rfl rfl rfl ?_
        obtain ⟨q24, hq24⟩ := cs_c C (by decide) sq_48
        refine wl_vc (d := d + 5) (as := [.ref 48, wp_i p, wp_i (1 + c3)]) (rest := []) ji_94_135 jc_94_127 rfl hq24 jk_88.symm (Nat.le_of_ble_eq_true rfl) rfl (by rw [jn_88]; rfl) (uc_88 (d := d + 4) C isF_48 I1 (p := p) (n := 1 + c3) (by omega) (by omega)) (fun v1 h23 R => ?_)
        obtain ⟨ee, y25, rfl, hy25a, hy25b⟩ := R
        rw [ee]
        clear ee
        show wl_R _ _ 94 138 [some (.ref 47), some (wp_i (s 48 12)), some (wp_i w), some (wp_i p), some (wp_i (1 + c3))] [wp_i y25] _ _
        have hy25b : y25 = 1 ↔ ((0 ≤ p ∧ p < t 48 0) ∧ 1 ≤ 1 + c3 ∧ 1 + c3 < t 50 p) := hy25b
        refine wl_if (t := 171) ji_94_138 rfl (by omega) (fun (hb26 : (y25 : Int) = 0) => ?_) (fun (hb26 : ¬ ((y25 : Int) = 0)) => ?_)
        · exact wl_rv ji_94_171 jr_94 (⟨rfl, cs_mono C (by unfold ctC; rw [if_neg (by omega), et, ← t1, ← t0, ew, ep, ec3, eq, hq]; unfold ctD; rw [if_neg (by decide), if_neg (by decide), if_pos rfl, if_neg (fun z => by have := hy25b.mpr ⟨by omega, by omega, z⟩; omega)])⟩)
        · refine wl_s (pc' := 142) ji_94_141 rfl rfl rfl ?_
          refine cs_gr (r := 48) (k := 0) C (by decide) sq_47 rfl ji_94_142 jf_94_12 ?_
          refine wl_s (pc' := 146) ji_94_145 rfl rfl rfl ?_
          refine wl_s (pc' := 148) ji_94_146 rfl rfl rfl ?_
          obtain ⟨q28, hq28⟩ := cs_c C (by decide) sq_48
          refine wl_vc (d := d + 5) (as := [.ref 48, wp_i p, wp_i (1 + c3)]) (rest := []) ji_94_148 jc_94_130 rfl hq28 jk_89.symm (Nat.le_of_ble_eq_true rfl) rfl (by rw [jn_89]; rfl) (uc_89 (d := d + 5) C isF_48 I1 (p := p) (n := 1 + c3) (by omega) (by show 0 ≤ 1 + c3 ∧ 1 + c3 < t 50 p; omega)) (fun v1 h27 R => ?_)
          obtain ⟨rfl, C⟩ := R
          have C : CS h27 (cutW t 48 p (1 + c3) (t 48 1)) := C
          show wl_R _ _ 94 151 [some (.ref 47), some (wp_i (s 48 12)), some (wp_i w), some (wp_i p), some (wp_i (1 + c3))] [] h27 _
          refine wl_goto (t := 171) ji_94_151 rfl ?_
          exact wl_rv ji_94_171 jr_94 (⟨rfl, cs_mono C (by unfold ctC; rw [if_neg (by omega), et, ← t1, ← t0, ew, ep, ec3, eq, hq]; unfold ctD; rw [if_neg (by decide), if_neg (by decide), if_pos rfl, if_pos (hy25b.mp (by omega)).2.2])⟩)
      · rw [hq]
        refine wl_s (pc' := 154) ji_94_60 rfl rfl rfl ?_
        refine wl_s (pc' := 155) ji_94_154 rfl rfl rfl ?_
        refine cs_gr (r := 48) (k := 0) C (by decide) sq_47 rfl ji_94_155 jf_94_12 ?_
        refine cs_gi (k := 10) (kI := 10) C (by decide) (by decide) sq_48 rfl rfl ji_94_158 jf_94_81 ?_
        have bd29 : wp_r (t 48 10) := cs_ri (k := 10) (kI := 10) C (by decide) (by decide) sq_48 rfl rfl (show 10 < 13 by decide)
        refine wl_sp ji_94_161 rfl ?_
        refine wl_icmp (t := 171) ji_94_164 rfl (by omega) (by omega) (fun (hb30 : (9999 : Int) ≤ (t 48 10)) => ?_) (fun (hb30 : ¬ ((9999 : Int) ≤ (t 48 10))) => ?_)
        · exact wl_rv ji_94_171 jr_94 (⟨rfl, cs_mono C (by unfold ctC; rw [if_neg (by omega), et, ← t1, ← t0, ew, ep, ec3, eq, hq]; unfold ctD; rw [if_neg (by decide), if_neg (by decide), if_neg (by decide), if_neg (by omega)])⟩)
        · refine wl_s (pc' := 168) ji_94_167 rfl rfl rfl ?_
          obtain ⟨q32, hq32⟩ := cs_c C (by decide) sq_47
          refine wl_vc (d := d + 5) (as := [.ref 47]) (rest := []) ji_94_168 jc_94_111 rfl hq32 jk_61.symm (Nat.le_of_ble_eq_true rfl) rfl (by rw [jn_61]; rfl) (uc_61 (d := d) C N1 (by omega)) (fun v1 h31 R => ?_)
          obtain ⟨rfl, C⟩ := R
          have C : CS h31 (hrC tc t) := C
          show wl_R _ _ 94 171 [some (.ref 47), some (wp_i (s 48 12)), some (wp_i w), some (wp_i p), some (wp_i (1 + c3))] [] h31 _
          exact wl_rv ji_94_171 jr_94 (⟨rfl, cs_mono C (by unfold ctC; rw [if_neg (by omega), et, ← t1, ← t0, ew, ep, ec3, eq, hq]; unfold ctD; rw [if_neg (by decide), if_neg (by decide), if_neg (by decide), if_pos (by omega)])⟩)
      · rw [hq]
        refine wl_s (pc' := 154) ji_94_60 rfl rfl rfl ?_
        refine wl_s (pc' := 155) ji_94_154 rfl rfl rfl ?_
        refine cs_gr (r := 48) (k := 0) C (by decide) sq_47 rfl ji_94_155 jf_94_12 ?_
        refine cs_gi (k := 10) (kI := 10) C (by decide) (by decide) sq_48 rfl rfl ji_94_158 jf_94_81 ?_
        have bd33 : wp_r (t 48 10) := cs_ri (k := 10) (kI := 10) C (by decide) (by decide) sq_48 rfl rfl (show 10 < 13 by decide)
        refine wl_sp ji_94_161 rfl ?_
        refine wl_icmp (t := 171) ji_94_164 rfl (by omega) (by omega) (fun (hb34 : (9999 : Int) ≤ (t 48 10)) => ?_) (fun (hb34 : ¬ ((9999 : Int) ≤ (t 48 10))) => ?_)
        · exact wl_rv ji_94_171 jr_94 (⟨rfl, cs_mono C (by unfold ctC; rw [if_neg (by omega), et, ← t1, ← t0, ew, ep, ec3, eq, hq]; unfold ctD; rw [if_neg (by decide), if_neg (by decide), if_neg (by decide), if_neg (by omega)])⟩)
        · refine wl_s (pc' := 168) ji_94_167 rfl rfl rfl ?_
          obtain ⟨q36, hq36⟩ := cs_c C (by decide) sq_47
          refine wl_vc (d := d + 5) (as := [.ref 47]) (rest := []) ji_94_168 jc_94_111 rfl hq36 jk_61.symm (Nat.le_of_ble_eq_true rfl) rfl (by rw [jn_61]; rfl) (uc_61 (d := d) C N1 (by omega)) (fun v1 h35 R => ?_)
          obtain ⟨rfl, C⟩ := R
          have C : CS h35 (hrC tc t) := C
          show wl_R _ _ 94 171 [some (.ref 47), some (wp_i (s 48 12)), some (wp_i w), some (wp_i p), some (wp_i (1 + c3))] [] h35 _
          exact wl_rv ji_94_171 jr_94 (⟨rfl, cs_mono C (by unfold ctC; rw [if_neg (by omega), et, ← t1, ← t0, ew, ep, ec3, eq, hq]; unfold ctD; rw [if_neg (by decide), if_neg (by decide), if_neg (by decide), if_pos (by omega)])⟩)
      · rw [hq]
        refine wl_s (pc' := 154) ji_94_60 rfl rfl rfl ?_
        refine wl_s (pc' := 155) ji_94_154 rfl rfl rfl ?_
        refine cs_gr (r := 48) (k := 0) C (by decide) sq_47 rfl ji_94_155 jf_94_12 ?_
        refine cs_gi (k := 10) (kI := 10) C (by decide) (by decide) sq_48 rfl rfl ji_94_158 jf_94_81 ?_
        have bd37 : wp_r (t 48 10) := cs_ri (k := 10) (kI := 10) C (by decide) (by decide) sq_48 rfl rfl (show 10 < 13 by decide)
        refine wl_sp ji_94_161 rfl ?_
        refine wl_icmp (t := 171) ji_94_164 rfl (by omega) (by omega) (fun (hb38 : (9999 : Int) ≤ (t 48 10)) => ?_) (fun (hb38 : ¬ ((9999 : Int) ≤ (t 48 10))) => ?_)
        · exact wl_rv ji_94_171 jr_94 (⟨rfl, cs_mono C (by unfold ctC; rw [if_neg (by omega), et, ← t1, ← t0, ew, ep, ec3, eq, hq]; unfold ctD; rw [if_neg (by decide), if_neg (by decide), if_neg (by decide), if_neg (by omega)])⟩)
        · refine wl_s (pc' := 168) ji_94_167 rfl rfl rfl ?_
          obtain ⟨q40, hq40⟩ := cs_c C (by decide) sq_47
          refine wl_vc (d := d + 5) (as := [.ref 47]) (rest := []) ji_94_168 jc_94_111 rfl hq40 jk_61.symm (Nat.le_of_ble_eq_true rfl) rfl (by rw [jn_61]; rfl) (uc_61 (d := d) C N1 (by omega)) (fun v1 h39 R => ?_)
          obtain ⟨rfl, C⟩ := R
          have C : CS h39 (hrC tc t) := C
          show wl_R _ _ 94 171 [some (.ref 47), some (wp_i (s 48 12)), some (wp_i w), some (wp_i p), some (wp_i (1 + c3))] [] h39 _
          exact wl_rv ji_94_171 jr_94 (⟨rfl, cs_mono C (by unfold ctC; rw [if_neg (by omega), et, ← t1, ← t0, ew, ep, ec3, eq, hq]; unfold ctD; rw [if_neg (by decide), if_neg (by decide), if_neg (by decide), if_pos (by omega)])⟩)
    · exact wl_rv ji_94_20 jr_94 (⟨rfl, cs_mono C (by unfold ctC; rw [if_pos (by omega)])⟩)
