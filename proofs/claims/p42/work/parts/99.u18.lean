/-! -/
/-! -/
set_option maxRecDepth 100000 in
theorem ji_78_0 : mj_ins 78 0 = some (.aload_n 0) := by decide +kernel
set_option maxRecDepth 100000 in
theorem ji_78_1 : mj_ins 78 1 = some (.getfield 12) := by decide +kernel
set_option maxRecDepth 100000 in
theorem jf_78_12 : mj_fld 78 12 = some (2, 0, (.object "ForestOfPoles$Forest"), false) := by decide +kernel
set_option maxRecDepth 100000 in
theorem ji_78_4 : mj_ins 78 4 = some (.iload_n 1) := by decide +kernel
set_option maxRecDepth 100000 in
theorem ji_78_5 : mj_ins 78 5 = some (.iload_n 2) := by decide +kernel
set_option maxRecDepth 100000 in
theorem ji_78_6 : mj_ins 78 6 = some (.invokevirtual 114) := by decide +kernel
set_option maxRecDepth 100000 in
theorem jc_78_114 : mj_cal 78 114 = some (2, 79, 2) := by decide +kernel
set_option maxRecDepth 100000 in
theorem ji_78_9 : mj_ins 78 9 = some (.ifCond .ne 5) := by decide +kernel
set_option maxRecDepth 100000 in
theorem ji_78_14 : mj_ins 78 14 = some (.aload_n 0) := by decide +kernel
set_option maxRecDepth 100000 in
theorem ji_78_15 : mj_ins 78 15 = some (.invokevirtual 108) := by decide +kernel
set_option maxRecDepth 100000 in
theorem jc_78_108 : mj_cal 78 108 = some (2, 59, 0) := by decide +kernel
set_option maxRecDepth 100000 in
theorem ji_78_18 : mj_ins 78 18 = some (.aload_n 0) := by decide +kernel
set_option maxRecDepth 100000 in
theorem ji_78_19 : mj_ins 78 19 = some (.getfield 12) := by decide +kernel
set_option maxRecDepth 100000 in
theorem ji_78_22 : mj_ins 78 22 = some (.iload_n 1) := by decide +kernel
set_option maxRecDepth 100000 in
theorem ji_78_23 : mj_ins 78 23 = some (.iload_n 2) := by decide +kernel
set_option maxRecDepth 100000 in
theorem ji_78_24 : mj_ins 78 24 = some (.invokevirtual 118) := by decide +kernel
set_option maxRecDepth 100000 in
theorem jc_78_118 : mj_cal 78 118 = some (2, 82, 2) := by decide +kernel
set_option maxRecDepth 100000 in
theorem ji_78_27 : mj_ins 78 27 = some (.iconst 1) := by decide +kernel
set_option maxRecDepth 100000 in
theorem ji_78_28 : mj_ins 78 28 = some (.ireturn) := by decide +kernel
set_option maxRecDepth 100000 in
theorem jr_78 : mj_ret 78 = some .boolean := by decide +kernel
set_option maxRecDepth 100000 in
theorem ji_78_12 : mj_ins 78 12 = some (.iconst 0) := by decide +kernel
set_option maxRecDepth 100000 in
theorem ji_78_13 : mj_ins 78 13 = some (.ireturn) := by decide +kernel
set_option maxRecDepth 100000 in
theorem ji_84_0 : mj_ins 84 0 = some (.aload_n 0) := by decide +kernel
set_option maxRecDepth 100000 in
theorem ji_84_1 : mj_ins 84 1 = some (.getfield 12) := by decide +kernel
set_option maxRecDepth 100000 in
theorem jf_84_12 : mj_fld 84 12 = some (2, 0, (.object "ForestOfPoles$Forest"), false) := by decide +kernel
set_option maxRecDepth 100000 in
theorem ji_84_4 : mj_ins 84 4 = some (.iload_n 1) := by decide +kernel
set_option maxRecDepth 100000 in
theorem ji_84_5 : mj_ins 84 5 = some (.iload_n 2) := by decide +kernel
set_option maxRecDepth 100000 in
theorem ji_84_6 : mj_ins 84 6 = some (.invokevirtual 121) := by decide +kernel
set_option maxRecDepth 100000 in
theorem jc_84_121 : mj_cal 84 121 = some (2, 85, 2) := by decide +kernel
set_option maxRecDepth 100000 in
theorem jn_85 : mj_nl 85 = 3 := by decide +kernel
set_option maxRecDepth 100000 in
theorem jk_85 : mj_cls 85 = 3 := by decide +kernel
set_option maxRecDepth 100000 in
theorem ji_84_9 : mj_ins 84 9 = some (.ifCond .ne 5) := by decide +kernel
set_option maxRecDepth 100000 in
theorem ji_84_14 : mj_ins 84 14 = some (.aload_n 0) := by decide +kernel
set_option maxRecDepth 100000 in
theorem ji_84_15 : mj_ins 84 15 = some (.invokevirtual 108) := by decide +kernel
set_option maxRecDepth 100000 in
theorem jc_84_108 : mj_cal 84 108 = some (2, 59, 0) := by decide +kernel
set_option maxRecDepth 100000 in
theorem ji_84_18 : mj_ins 84 18 = some (.aload_n 0) := by decide +kernel
set_option maxRecDepth 100000 in
theorem ji_84_19 : mj_ins 84 19 = some (.getfield 12) := by decide +kernel
set_option maxRecDepth 100000 in
theorem ji_84_22 : mj_ins 84 22 = some (.iload_n 1) := by decide +kernel
set_option maxRecDepth 100000 in
theorem ji_84_23 : mj_ins 84 23 = some (.iload_n 2) := by decide +kernel
set_option maxRecDepth 100000 in
theorem ji_84_24 : mj_ins 84 24 = some (.invokevirtual 124) := by decide +kernel
set_option maxRecDepth 100000 in
theorem jc_84_124 : mj_cal 84 124 = some (2, 71, 2) := by decide +kernel
set_option maxRecDepth 100000 in
theorem ji_84_27 : mj_ins 84 27 = some (.iconst 1) := by decide +kernel
set_option maxRecDepth 100000 in
theorem ji_84_28 : mj_ins 84 28 = some (.ireturn) := by decide +kernel
set_option maxRecDepth 100000 in
theorem jr_84 : mj_ret 84 = some .boolean := by decide +kernel
set_option maxRecDepth 100000 in
theorem ji_84_12 : mj_ins 84 12 = some (.iconst 0) := by decide +kernel
set_option maxRecDepth 100000 in
theorem ji_84_13 : mj_ins 84 13 = some (.ireturn) := by decide +kernel
set_option maxRecDepth 100000 in
theorem ji_87_0 : mj_ins 87 0 = some (.aload_n 0) := by decide +kernel
set_option maxRecDepth 100000 in
theorem ji_87_1 : mj_ins 87 1 = some (.getfield 12) := by decide +kernel
set_option maxRecDepth 100000 in
theorem jf_87_12 : mj_fld 87 12 = some (2, 0, (.object "ForestOfPoles$Forest"), false) := by decide +kernel
set_option maxRecDepth 100000 in
theorem ji_87_4 : mj_ins 87 4 = some (.iload_n 1) := by decide +kernel
set_option maxRecDepth 100000 in
theorem ji_87_5 : mj_ins 87 5 = some (.iload_n 2) := by decide +kernel
set_option maxRecDepth 100000 in
theorem ji_87_6 : mj_ins 87 6 = some (.invokevirtual 127) := by decide +kernel
set_option maxRecDepth 100000 in
theorem jc_87_127 : mj_cal 87 127 = some (2, 88, 2) := by decide +kernel
set_option maxRecDepth 100000 in
theorem ji_87_9 : mj_ins 87 9 = some (.ifCond .ne 5) := by decide +kernel
set_option maxRecDepth 100000 in
theorem ji_87_14 : mj_ins 87 14 = some (.aload_n 0) := by decide +kernel
set_option maxRecDepth 100000 in
theorem ji_87_15 : mj_ins 87 15 = some (.invokevirtual 108) := by decide +kernel
set_option maxRecDepth 100000 in
theorem jc_87_108 : mj_cal 87 108 = some (2, 59, 0) := by decide +kernel
set_option maxRecDepth 100000 in
theorem ji_87_18 : mj_ins 87 18 = some (.aload_n 0) := by decide +kernel
set_option maxRecDepth 100000 in
theorem ji_87_19 : mj_ins 87 19 = some (.getfield 12) := by decide +kernel
set_option maxRecDepth 100000 in
theorem ji_87_22 : mj_ins 87 22 = some (.iload_n 1) := by decide +kernel
set_option maxRecDepth 100000 in
theorem ji_87_23 : mj_ins 87 23 = some (.iload_n 2) := by decide +kernel
set_option maxRecDepth 100000 in
theorem ji_87_24 : mj_ins 87 24 = some (.invokevirtual 130) := by decide +kernel
set_option maxRecDepth 100000 in
theorem jc_87_130 : mj_cal 87 130 = some (2, 89, 2) := by decide +kernel
set_option maxRecDepth 100000 in
theorem ji_87_27 : mj_ins 87 27 = some (.iconst 1) := by decide +kernel
set_option maxRecDepth 100000 in
theorem ji_87_28 : mj_ins 87 28 = some (.ireturn) := by decide +kernel
set_option maxRecDepth 100000 in
theorem jr_87 : mj_ret 87 = some .boolean := by decide +kernel
set_option maxRecDepth 100000 in
theorem ji_87_12 : mj_ins 87 12 = some (.iconst 0) := by decide +kernel
set_option maxRecDepth 100000 in
theorem ji_87_13 : mj_ins 87 13 = some (.ireturn) := by decide +kernel
set_option maxRecDepth 100000 in
theorem ji_91_0 : mj_ins 91 0 = some (.iload_n 1) := by decide +kernel
set_option maxRecDepth 100000 in
theorem ji_91_1 : mj_ins 91 1 = some (.ifCond .lt 20) := by decide +kernel
set_option maxRecDepth 100000 in
theorem ji_91_21 : mj_ins 91 21 = some (.iconst 0) := by decide +kernel
set_option maxRecDepth 100000 in
theorem ji_91_22 : mj_ins 91 22 = some (.ireturn) := by decide +kernel
set_option maxRecDepth 100000 in
theorem jr_91 : mj_ret 91 = some .boolean := by decide +kernel
set_option maxRecDepth 100000 in
theorem ji_91_4 : mj_ins 91 4 = some (.iload_n 1) := by decide +kernel
set_option maxRecDepth 100000 in
theorem ji_91_5 : mj_ins 91 5 = some (.bipush 9) := by decide +kernel
set_option maxRecDepth 100000 in
theorem ji_91_7 : mj_ins 91 7 = some (.if_icmp .gt 14) := by decide +kernel
set_option maxRecDepth 100000 in
theorem ji_91_10 : mj_ins 91 10 = some (.iload_n 1) := by decide +kernel
set_option maxRecDepth 100000 in
theorem ji_91_11 : mj_ins 91 11 = some (.aload_n 0) := by decide +kernel
set_option maxRecDepth 100000 in
theorem ji_91_12 : mj_ins 91 12 = some (.getfield 12) := by decide +kernel
set_option maxRecDepth 100000 in
theorem jf_91_12 : mj_fld 91 12 = some (2, 0, (.object "ForestOfPoles$Forest"), false) := by decide +kernel
set_option maxRecDepth 100000 in
theorem ji_91_15 : mj_ins 91 15 = some (.getfield 133) := by decide +kernel
set_option maxRecDepth 100000 in
theorem jf_91_133 : mj_fld 91 133 = some (3, 9, .int, true) := by decide +kernel
set_option maxRecDepth 100000 in
theorem ji_91_18 : mj_ins 91 18 = some (.if_icmp .ne 5) := by decide +kernel
set_option maxRecDepth 100000 in
theorem ji_91_23 : mj_ins 91 23 = some (.aload_n 0) := by decide +kernel
set_option maxRecDepth 100000 in
theorem ji_91_24 : mj_ins 91 24 = some (.invokevirtual 108) := by decide +kernel
set_option maxRecDepth 100000 in
theorem jc_91_108 : mj_cal 91 108 = some (2, 59, 0) := by decide +kernel
set_option maxRecDepth 100000 in
theorem ji_91_27 : mj_ins 91 27 = some (.aload_n 0) := by decide +kernel
set_option maxRecDepth 100000 in
theorem ji_91_28 : mj_ins 91 28 = some (.getfield 12) := by decide +kernel
set_option maxRecDepth 100000 in
theorem ji_91_31 : mj_ins 91 31 = some (.iload_n 1) := by decide +kernel
set_option maxRecDepth 100000 in
theorem ji_91_32 : mj_ins 91 32 = some (.putfield 133) := by decide +kernel
set_option maxRecDepth 100000 in
theorem ji_91_35 : mj_ins 91 35 = some (.iconst 1) := by decide +kernel
set_option maxRecDepth 100000 in
theorem ji_91_36 : mj_ins 91 36 = some (.ireturn) := by decide +kernel
/-! steps of the state, in the class; laid by program (wp_u18.py) -/
theorem uc_78 {nn d : Nat} {h : mj_H} {s : sg_} (C : CS h s) {tc : tcs} (N : NV s tc) {w p : Int} (hw : wp_r w) (hp : wp_r p) : wl_R nn (d + 2) 78 0 [some (.ref 47), some (wp_i w), some (wp_i p)] [] h (fun v1 h1 => (v1 = some (wp_i 1) ∧ ((0 ≤ w ∧ w < s 48 1) ∧ (0 ≤ p ∧ p < s 48 0) ∧ mrC s w p) ∧ CS h1 (rsC (keepC s) w p)) ∨ (v1 = some (wp_i 0) ∧ ¬ ((0 ≤ w ∧ w < s 48 1) ∧ (0 ≤ p ∧ p < s 48 0) ∧ mrC s w p) ∧ CS h1 s)) := by
  have i0 := N.g.1.1
  have i1 := N.g.1.2.1
  refine wl_s (pc' := 1) ji_78_0 rfl rfl rfl ?_
  refine cs_gr (r := 48) (k := 0) C (by decide) sq_47 rfl ji_78_1 jf_78_12 ?_
  refine wl_s (pc' := 5) ji_78_4 rfl rfl rfl ?_
  refine wl_s (pc' := 6) ji_78_5 rfl rfl rfl ?_
  obtain ⟨q2, hq2⟩ := cs_c C (by decide) sq_48
  refine wl_vc (d := d + 1) (as := [.ref 48, wp_i w, wp_i p]) (rest := []) ji_78_6 jc_78_114 rfl hq2 jk_79.symm (Nat.le_of_ble_eq_true rfl) rfl (by rw [jn_79]; rfl) (uc_79 (d := d) C isF_48 N.g.1 (w := w) (p := p) hw hp) (fun v1 h1 R => ?_)
  obtain ⟨ee, y3, rfl, hy3a, hy3b⟩ := R
  rw [ee]
  clear ee
  show wl_R _ _ 78 9 [some (.ref 47), some (wp_i w), some (wp_i p)] [wp_i y3] _ _
  have hy3b : y3 = 1 ↔ ((0 ≤ w ∧ w < s 48 1) ∧ (0 ≤ p ∧ p < s 48 0) ∧ mrC s w p) := hy3b
  refine wl_if (t := 14) ji_78_9 rfl (by omega) (fun (hb4 : ¬ (y3 : Int) = 0) => ?_) (fun (hb4 : ¬ (¬ (y3 : Int) = 0)) => ?_)
  · refine wl_s (pc' := 15) ji_78_14 rfl rfl rfl ?_
    obtain ⟨q6, hq6⟩ := cs_c C (by decide) sq_47
    refine wl_vc (d := d + 1) (as := [.ref 47]) (rest := []) ji_78_15 jc_78_108 rfl hq6 jk_59.symm (Nat.le_of_ble_eq_true rfl) rfl (by rw [jn_59]; rfl) (uc_59 (d := d) C N.e N.c) (fun v1 h5 R => ?_)
    obtain ⟨rfl, C⟩ := R
    obtain ⟨t, et⟩ : ∃ z9_, keepC s = z9_ := ⟨_, rfl⟩
    rw [et] at C
    have N1 : NV t tc := et ▸ keepC_NV N
    have k5 : ∀ j, t 50 j = s 50 j := fun j => by rw [← et, keepC_fr (by decide) (by decide)]
    show wl_R _ _ 78 18 [some (.ref 47), some (wp_i w), some (wp_i p)] [] h5 _
    refine wl_s (pc' := 19) ji_78_18 rfl rfl rfl ?_
    refine cs_gr (r := 48) (k := 0) C (by decide) sq_47 rfl ji_78_19 jf_78_12 ?_
    refine wl_s (pc' := 23) ji_78_22 rfl rfl rfl ?_
    refine wl_s (pc' := 24) ji_78_23 rfl rfl rfl ?_
    obtain ⟨q8, hq8⟩ := cs_c C (by decide) sq_48
    refine wl_vc (d := d + 1) (as := [.ref 48, wp_i w, wp_i p]) (rest := []) ji_78_24 jc_78_118 rfl hq8 jk_82.symm (Nat.le_of_ble_eq_true rfl) rfl (by rw [jn_82]; rfl) (uc_82 (d := d + 1) C isF_48 (w := w) (p := p) (by omega) (by omega)) (fun v1 h7 R => ?_)
    obtain ⟨rfl, C⟩ := R
    have C : CS h7 (rsC t w p) := C
    show wl_R _ _ 78 27 [some (.ref 47), some (wp_i w), some (wp_i p)] [] h7 _
    refine wl_s (pc' := 28) ji_78_27 rfl rfl rfl ?_
    exact wl_ri ji_78_28 jr_78 (pv_nb (by omega)) (Or.inl ⟨rfl, hy3b.mp (by omega), by rw [et]; exact C⟩)
  · refine wl_s (pc' := 13) ji_78_12 rfl rfl rfl ?_
    exact wl_ri ji_78_13 jr_78 (pv_nb (by omega)) (Or.inr ⟨rfl, fun z => by have := hy3b.mpr z; omega, C⟩)
theorem uc_84 {nn d : Nat} {h : mj_H} {s : sg_} (C : CS h s) {tc : tcs} (N : NV s tc) {w p : Int} (hw : wp_r w) (hp : wp_r p) : wl_R nn (d + 2) 84 0 [some (.ref 47), some (wp_i w), some (wp_i p)] [] h (fun v1 h1 => (v1 = some (wp_i 1) ∧ ((0 ≤ w ∧ w < s 48 1) ∧ (0 ≤ p ∧ p < s 48 0) ∧ ¬ s 54 (p * 6 + w) = -1) ∧ CS h1 (up (keepC s) 54 (p * 6 + w) (-1))) ∨ (v1 = some (wp_i 0) ∧ ¬ ((0 ≤ w ∧ w < s 48 1) ∧ (0 ≤ p ∧ p < s 48 0) ∧ ¬ s 54 (p * 6 + w) = -1) ∧ CS h1 s)) := by
  have i0 := N.g.1.1
  have i1 := N.g.1.2.1
  refine wl_s (pc' := 1) ji_84_0 rfl rfl rfl ?_
  refine cs_gr (r := 48) (k := 0) C (by decide) sq_47 rfl ji_84_1 jf_84_12 ?_
  refine wl_s (pc' := 5) ji_84_4 rfl rfl rfl ?_
  refine wl_s (pc' := 6) ji_84_5 rfl rfl rfl ?_
  obtain ⟨q2, hq2⟩ := cs_c C (by decide) sq_48
  refine wl_vc (d := d + 1) (as := [.ref 48, wp_i w, wp_i p]) (rest := []) ji_84_6 jc_84_121 rfl hq2 jk_85.symm (Nat.le_of_ble_eq_true rfl) rfl (by rw [jn_85]; rfl) (uc_85 (d := d) C isF_48 N.g.1 (w := w) (p := p) hw hp) (fun v1 h1 R => ?_)
  obtain ⟨ee, y3, rfl, hy3a, hy3b⟩ := R
  rw [ee]
  clear ee
  show wl_R _ _ 84 9 [some (.ref 47), some (wp_i w), some (wp_i p)] [wp_i y3] _ _
  have hy3b : y3 = 1 ↔ ((0 ≤ w ∧ w < s 48 1) ∧ (0 ≤ p ∧ p < s 48 0) ∧ ¬ s 54 (p * 6 + w) = -1) := hy3b
  refine wl_if (t := 14) ji_84_9 rfl (by omega) (fun (hb4 : ¬ (y3 : Int) = 0) => ?_) (fun (hb4 : ¬ (¬ (y3 : Int) = 0)) => ?_)
  · refine wl_s (pc' := 15) ji_84_14 rfl rfl rfl ?_
    obtain ⟨q6, hq6⟩ := cs_c C (by decide) sq_47
    refine wl_vc (d := d + 1) (as := [.ref 47]) (rest := []) ji_84_15 jc_84_108 rfl hq6 jk_59.symm (Nat.le_of_ble_eq_true rfl) rfl (by rw [jn_59]; rfl) (uc_59 (d := d) C N.e N.c) (fun v1 h5 R => ?_)
    obtain ⟨rfl, C⟩ := R
    obtain ⟨t, et⟩ : ∃ z9_, keepC s = z9_ := ⟨_, rfl⟩
    rw [et] at C
    have N1 : NV t tc := et ▸ keepC_NV N
    have k5 : ∀ j, t 50 j = s 50 j := fun j => by rw [← et, keepC_fr (by decide) (by decide)]
    show wl_R _ _ 84 18 [some (.ref 47), some (wp_i w), some (wp_i p)] [] h5 _
    refine wl_s (pc' := 19) ji_84_18 rfl rfl rfl ?_
    refine cs_gr (r := 48) (k := 0) C (by decide) sq_47 rfl ji_84_19 jf_84_12 ?_
    refine wl_s (pc' := 23) ji_84_22 rfl rfl rfl ?_
    refine wl_s (pc' := 24) ji_84_23 rfl rfl rfl ?_
    obtain ⟨q8, hq8⟩ := cs_c C (by decide) sq_48
    refine wl_vc (d := d + 1) (as := [.ref 48, wp_i w, wp_i p]) (rest := []) ji_84_24 jc_84_124 rfl hq8 jk_71.symm (Nat.le_of_ble_eq_true rfl) rfl (by rw [jn_71]; rfl) (uc_71 (d := d + 1) C isF_48 (w := w) (p := p) (by omega) (by omega)) (fun v1 h7 R => ?_)
    obtain ⟨rfl, C⟩ := R
    have C : CS h7 (up t 54 (p * 6 + w) (-1)) := C
    show wl_R _ _ 84 27 [some (.ref 47), some (wp_i w), some (wp_i p)] [] h7 _
    refine wl_s (pc' := 28) ji_84_27 rfl rfl rfl ?_
    exact wl_ri ji_84_28 jr_84 (pv_nb (by omega)) (Or.inl ⟨rfl, hy3b.mp (by omega), by rw [et]; exact C⟩)
  · refine wl_s (pc' := 13) ji_84_12 rfl rfl rfl ?_
    exact wl_ri ji_84_13 jr_84 (pv_nb (by omega)) (Or.inr ⟨rfl, fun z => by have := hy3b.mpr z; omega, C⟩)
theorem uc_87 {nn d : Nat} {h : mj_H} {s : sg_} (C : CS h s) {tc : tcs} (N : NV s tc) {p n : Int} (hp : wp_r p) (hn : wp_r n) : wl_R nn (d + 2) 87 0 [some (.ref 47), some (wp_i p), some (wp_i n)] [] h (fun v1 h1 => (v1 = some (wp_i 1) ∧ ((0 ≤ p ∧ p < s 48 0) ∧ 1 ≤ n ∧ n < s 50 p) ∧ CS h1 (cutW (keepC s) 48 p n (keepC s 48 1))) ∨ (v1 = some (wp_i 0) ∧ ¬ ((0 ≤ p ∧ p < s 48 0) ∧ 1 ≤ n ∧ n < s 50 p) ∧ CS h1 s)) := by
  have i0 := N.g.1.1
  have i1 := N.g.1.2.1
  refine wl_s (pc' := 1) ji_87_0 rfl rfl rfl ?_
  refine cs_gr (r := 48) (k := 0) C (by decide) sq_47 rfl ji_87_1 jf_87_12 ?_
  refine wl_s (pc' := 5) ji_87_4 rfl rfl rfl ?_
  refine wl_s (pc' := 6) ji_87_5 rfl rfl rfl ?_
  obtain ⟨q2, hq2⟩ := cs_c C (by decide) sq_48
  refine wl_vc (d := d + 1) (as := [.ref 48, wp_i p, wp_i n]) (rest := []) ji_87_6 jc_87_127 rfl hq2 jk_88.symm (Nat.le_of_ble_eq_true rfl) rfl (by rw [jn_88]; rfl) (uc_88 (d := d) C isF_48 N.g.1 (p := p) (n := n) hp hn) (fun v1 h1 R => ?_)
  obtain ⟨ee, y3, rfl, hy3a, hy3b⟩ := R
  rw [ee]
  clear ee
  show wl_R _ _ 87 9 [some (.ref 47), some (wp_i p), some (wp_i n)] [wp_i y3] _ _
  have hy3b : y3 = 1 ↔ ((0 ≤ p ∧ p < s 48 0) ∧ 1 ≤ n ∧ n < s 50 p) := hy3b
  refine wl_if (t := 14) ji_87_9 rfl (by omega) (fun (hb4 : ¬ (y3 : Int) = 0) => ?_) (fun (hb4 : ¬ (¬ (y3 : Int) = 0)) => ?_)
  · refine wl_s (pc' := 15) ji_87_14 rfl rfl rfl ?_
    obtain ⟨q6, hq6⟩ := cs_c C (by decide) sq_47
    refine wl_vc (d := d + 1) (as := [.ref 47]) (rest := []) ji_87_15 jc_87_108 rfl hq6 jk_59.symm (Nat.le_of_ble_eq_true rfl) rfl (by rw [jn_59]; rfl) (uc_59 (d := d) C N.e N.c) (fun v1 h5 R => ?_)
    obtain ⟨rfl, C⟩ := R
    obtain ⟨t, et⟩ : ∃ z9_, keepC s = z9_ := ⟨_, rfl⟩
    rw [et] at C
    have N1 : NV t tc := et ▸ keepC_NV N
    have k5 : ∀ j, t 50 j = s 50 j := fun j => by rw [← et, keepC_fr (by decide) (by decide)]
    show wl_R _ _ 87 18 [some (.ref 47), some (wp_i p), some (wp_i n)] [] h5 _
    refine wl_s (pc' := 19) ji_87_18 rfl rfl rfl ?_
    refine cs_gr (r := 48) (k := 0) C (by decide) sq_47 rfl ji_87_19 jf_87_12 ?_
    refine wl_s (pc' := 23) ji_87_22 rfl rfl rfl ?_
    refine wl_s (pc' := 24) ji_87_23 rfl rfl rfl ?_
    obtain ⟨q8, hq8⟩ := cs_c C (by decide) sq_48
    refine wl_vc (d := d + 1) (as := [.ref 48, wp_i p, wp_i n]) (rest := []) ji_87_24 jc_87_130 rfl hq8 jk_89.symm (Nat.le_of_ble_eq_true rfl) rfl (by rw [jn_89]; rfl) (uc_89 (d := d + 1) C isF_48 N1.g.1 (p := p) (n := n) (by omega) (by show 0 ≤ n ∧ n < t 50 p; rw [k5]; omega)) (fun v1 h7 R => ?_)
    obtain ⟨rfl, C⟩ := R
    have C : CS h7 (cutW t 48 p n (t 48 1)) := C
    show wl_R _ _ 87 27 [some (.ref 47), some (wp_i p), some (wp_i n)] [] h7 _
    refine wl_s (pc' := 28) ji_87_27 rfl rfl rfl ?_
    exact wl_ri ji_87_28 jr_87 (pv_nb (by omega)) (Or.inl ⟨rfl, hy3b.mp (by omega), by rw [et]; exact C⟩)
  · refine wl_s (pc' := 13) ji_87_12 rfl rfl rfl ?_
    exact wl_ri ji_87_13 jr_87 (pv_nb (by omega)) (Or.inr ⟨rfl, fun z => by have := hy3b.mpr z; omega, C⟩)
theorem uc_91 {nn d : Nat} {h : mj_H} {s : sg_} (C : CS h s) {tc : tcs} (N : NV s tc) {w : Int} (hw : wp_r w) : wl_R nn (d + 2) 91 0 [some (.ref 47), some (wp_i w)] [] h (fun v1 h1 => (v1 = some (wp_i 1) ∧ ((0 ≤ w ∧ w ≤ 9) ∧ ¬ w = s 48 9) ∧ CS h1 (up (keepC s) 48 9 w)) ∨ (v1 = some (wp_i 0) ∧ ¬ ((0 ≤ w ∧ w ≤ 9) ∧ ¬ w = s 48 9) ∧ CS h1 s)) := by
  have i0 := N.g.1.1
  have i1 := N.g.1.2.1
  refine wl_s (pc' := 1) ji_91_0 rfl rfl rfl ?_
  refine wl_if (t := 21) ji_91_1 rfl (by omega) (fun (hb1 : (w : Int) < 0) => ?_) (fun (hb1 : ¬ ((w : Int) < 0)) => ?_)
  · refine wl_s (pc' := 22) ji_91_21 rfl rfl rfl ?_
    exact wl_ri ji_91_22 jr_91 (pv_nb (by omega)) (Or.inr ⟨rfl, by omega, C⟩)
  · refine wl_s (pc' := 5) ji_91_4 rfl rfl rfl ?_
    refine wl_bp ji_91_5 rfl ?_
    refine wl_icmp (t := 21) ji_91_7 rfl (by omega) (by omega) (fun (hb2 : (9 : Int) < w) => ?_) (fun (hb2 : ¬ ((9 : Int) < w)) => ?_)
    · refine wl_s (pc' := 22) ji_91_21 rfl rfl rfl ?_
      exact wl_ri ji_91_22 jr_91 (pv_nb (by omega)) (Or.inr ⟨rfl, by omega, C⟩)
    · refine wl_s (pc' := 11) ji_91_10 rfl rfl rfl ?_
      refine wl_s (pc' := 12) ji_91_11 rfl rfl rfl ?_
      refine cs_gr (r := 48) (k := 0) C (by decide) sq_47 rfl ji_91_12 jf_91_12 ?_
      refine cs_gi (k := 9) (kI := 9) C (by decide) (by decide) sq_48 rfl rfl ji_91_15 jf_91_133 ?_
      have bd3 : wp_r (s 48 9) := cs_ri (k := 9) (kI := 9) C (by decide) (by decide) sq_48 rfl rfl (show 9 < 13 by decide)
      refine wl_icmp (t := 23) ji_91_18 rfl (by omega) (by omega) (fun (hb4 : ¬ (w : Int) = (s 48 9)) => ?_) (fun (hb4 : ¬ (¬ (w : Int) = (s 48 9))) => ?_)
      · refine wl_s (pc' := 24) ji_91_23 rfl rfl rfl ?_
        obtain ⟨q6, hq6⟩ := cs_c C (by decide) sq_47
        refine wl_vc (d := d + 1) (as := [.ref 47]) (rest := []) ji_91_24 jc_91_108 rfl hq6 jk_59.symm (Nat.le_of_ble_eq_true rfl) rfl (by rw [jn_59]; rfl) (uc_59 (d := d) C N.e N.c) (fun v1 h5 R => ?_)
        obtain ⟨rfl, C⟩ := R
        obtain ⟨t, et⟩ : ∃ z9_, keepC s = z9_ := ⟨_, rfl⟩
        rw [et] at C
        have N1 : NV t tc := et ▸ keepC_NV N
        have k5 : ∀ j, t 50 j = s 50 j := fun j => by rw [← et, keepC_fr (by decide) (by decide)]
        show wl_R _ _ 91 27 [some (.ref 47), some (wp_i w)] [] h5 _
        refine wl_s (pc' := 28) ji_91_27 rfl rfl rfl ?_
        refine cs_gr (r := 48) (k := 0) C (by decide) sq_47 rfl ji_91_28 jf_91_12 ?_
        refine wl_s (pc' := 32) ji_91_31 rfl rfl rfl ?_
        refine cs_pi (k := 9) (kI := 9) (y := w) C (by decide) sq_48 rfl rfl ji_91_32 jf_91_133 rfl rfl (by omega) (fun h C => ?_)
        obtain ⟨s7, es7⟩ : ∃ z9_, up t 48 9 w = z9_ := ⟨_, rfl⟩
        rw [es7] at C
        refine wl_s (pc' := 36) ji_91_35 rfl rfl rfl ?_
        exact wl_ri ji_91_36 jr_91 (pv_nb (by omega)) (Or.inl ⟨rfl, by omega, cs_mono C (by rw [et, es7])⟩)
      · refine wl_s (pc' := 22) ji_91_21 rfl rfl rfl ?_
        exact wl_ri ji_91_22 jr_91 (pv_nb (by omega)) (Or.inr ⟨rfl, by omega, C⟩)
