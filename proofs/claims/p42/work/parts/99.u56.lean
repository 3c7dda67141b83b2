/-! -/
set_option maxRecDepth 100000 in
theorem ji_12_0 : mj_ins 12 0 = some (.aload_n 0) := by decide +kernel
set_option maxRecDepth 100000 in
theorem ji_12_1 : mj_ins 12 1 = some (.getfield 19) := by decide +kernel
set_option maxRecDepth 100000 in
theorem sq_9 : sh_T[9]? = some (0, [50, 72, 94, 96, 98], 0, 0) := by decide +kernel
set_option maxRecDepth 100000 in
theorem jf_12_19 : mj_fld 12 19 = some (0, 0, (.object "ForestOfPoles$State"), false) := by decide +kernel
set_option maxRecDepth 100000 in
theorem ji_12_4 : mj_ins 12 4 = some (.getfield 49) := by decide +kernel
set_option maxRecDepth 100000 in
theorem jf_12_49 : mj_fld 12 49 = some (2, 0, (.object "ForestOfPoles$Forest"), false) := by decide +kernel
set_option maxRecDepth 100000 in
theorem ji_12_7 : mj_ins 12 7 = some (.iload_n 1) := by decide +kernel
set_option maxRecDepth 100000 in
theorem ji_12_8 : mj_ins 12 8 = some (.iload_n 2) := by decide +kernel
set_option maxRecDepth 100000 in
theorem ji_12_9 : mj_ins 12 9 = some (.invokevirtual 53) := by decide +kernel
set_option maxRecDepth 100000 in
theorem jc_12_53 : mj_cal 12 53 = some (2, 13, 2) := by decide +kernel
set_option maxRecDepth 100000 in
theorem jn_13 : mj_nl 13 = 3 := by decide +kernel
set_option maxRecDepth 100000 in
theorem jk_13 : mj_cls 13 = 3 := by decide +kernel
set_option maxRecDepth 100000 in
theorem ji_12_12 : mj_ins 12 12 = some (.ireturn) := by decide +kernel
set_option maxRecDepth 100000 in
theorem jr_12 : mj_ret 12 = some .int := by decide +kernel
set_option maxRecDepth 100000 in
theorem ji_14_0 : mj_ins 14 0 = some (.aload_n 0) := by decide +kernel
set_option maxRecDepth 100000 in
theorem ji_14_1 : mj_ins 14 1 = some (.getfield 19) := by decide +kernel
set_option maxRecDepth 100000 in
theorem jf_14_19 : mj_fld 14 19 = some (0, 0, (.object "ForestOfPoles$State"), false) := by decide +kernel
set_option maxRecDepth 100000 in
theorem ji_14_4 : mj_ins 14 4 = some (.getfield 49) := by decide +kernel
set_option maxRecDepth 100000 in
theorem jf_14_49 : mj_fld 14 49 = some (2, 0, (.object "ForestOfPoles$Forest"), false) := by decide +kernel
set_option maxRecDepth 100000 in
theorem ji_14_7 : mj_ins 14 7 = some (.iload_n 1) := by decide +kernel
set_option maxRecDepth 100000 in
theorem ji_14_8 : mj_ins 14 8 = some (.iload_n 2) := by decide +kernel
set_option maxRecDepth 100000 in
theorem ji_14_9 : mj_ins 14 9 = some (.invokevirtual 59) := by decide +kernel
set_option maxRecDepth 100000 in
theorem jc_14_59 : mj_cal 14 59 = some (2, 15, 2) := by decide +kernel
set_option maxRecDepth 100000 in
theorem jn_15 : mj_nl 15 = 3 := by decide +kernel
set_option maxRecDepth 100000 in
theorem jk_15 : mj_cls 15 = 3 := by decide +kernel
set_option maxRecDepth 100000 in
theorem ji_14_12 : mj_ins 14 12 = some (.ireturn) := by decide +kernel
set_option maxRecDepth 100000 in
theorem jr_14 : mj_ret 14 = some .int := by decide +kernel
set_option maxRecDepth 100000 in
theorem ji_57_0 : mj_ins 57 0 = some (.iload_n 1) := by decide +kernel
set_option maxRecDepth 100000 in
theorem ji_57_1 : mj_ins 57 1 = some (.iconst 1) := by decide +kernel
set_option maxRecDepth 100000 in
theorem ji_57_2 : mj_ins 57 2 = some (.if_icmp .lt 27) := by decide +kernel
set_option maxRecDepth 100000 in
theorem ji_57_29 : mj_ins 57 29 = some (.bipush (-2)) := by decide +kernel
set_option maxRecDepth 100000 in
theorem ji_57_31 : mj_ins 57 31 = some (.ireturn) := by decide +kernel
set_option maxRecDepth 100000 in
theorem jr_57 : mj_ret 57 = some .int := by decide +kernel
set_option maxRecDepth 100000 in
theorem ji_57_5 : mj_ins 57 5 = some (.iload_n 1) := by decide +kernel
set_option maxRecDepth 100000 in
theorem ji_57_6 : mj_ins 57 6 = some (.bipush 60) := by decide +kernel
set_option maxRecDepth 100000 in
theorem ji_57_8 : mj_ins 57 8 = some (.if_icmp .gt 21) := by decide +kernel
set_option maxRecDepth 100000 in
theorem ji_57_11 : mj_ins 57 11 = some (.aload_n 0) := by decide +kernel
set_option maxRecDepth 100000 in
theorem ji_57_12 : mj_ins 57 12 = some (.getfield 19) := by decide +kernel
set_option maxRecDepth 100000 in
theorem jf_57_19 : mj_fld 57 19 = some (0, 0, (.object "ForestOfPoles$State"), false) := by decide +kernel
set_option maxRecDepth 100000 in
theorem ji_57_15 : mj_ins 57 15 = some (.getfield 49) := by decide +kernel
set_option maxRecDepth 100000 in
theorem jf_57_49 : mj_fld 57 49 = some (2, 0, (.object "ForestOfPoles$Forest"), false) := by decide +kernel
set_option maxRecDepth 100000 in
theorem ji_57_18 : mj_ins 57 18 = some (.getfield 98) := by decide +kernel
set_option maxRecDepth 100000 in
theorem jf_57_98 : mj_fld 57 98 = some (3, 10, .int, true) := by decide +kernel
set_option maxRecDepth 100000 in
theorem ji_57_21 : mj_ins 57 21 = some (.iload_n 1) := by decide +kernel
set_option maxRecDepth 100000 in
theorem ji_57_22 : mj_ins 57 22 = some (.iadd) := by decide +kernel
set_option maxRecDepth 100000 in
theorem ji_57_23 : mj_ins 57 23 = some (.sipush 9999) := by decide +kernel
set_option maxRecDepth 100000 in
theorem ji_57_26 : mj_ins 57 26 = some (.if_icmp .le 6) := by decide +kernel
set_option maxRecDepth 100000 in
theorem ji_57_32 : mj_ins 57 32 = some (.aload_n 0) := by decide +kernel
set_option maxRecDepth 100000 in
theorem ji_57_33 : mj_ins 57 33 = some (.getfield 19) := by decide +kernel
set_option maxRecDepth 100000 in
theorem ji_57_36 : mj_ins 57 36 = some (.iload_n 1) := by decide +kernel
set_option maxRecDepth 100000 in
theorem ji_57_37 : mj_ins 57 37 = some (.invokevirtual 101) := by decide +kernel
set_option maxRecDepth 100000 in
theorem jc_57_101 : mj_cal 57 101 = some (2, 58, 1) := by decide +kernel
set_option maxRecDepth 100000 in
theorem jn_58 : mj_nl 58 = 4 := by decide +kernel
set_option maxRecDepth 100000 in
theorem jk_58 : mj_cls 58 = 2 := by decide +kernel
set_option maxRecDepth 100000 in
theorem ji_57_40 : mj_ins 57 40 = some (.pop) := by decide +kernel
set_option maxRecDepth 100000 in
theorem ji_57_41 : mj_ins 57 41 = some (.aload_n 0) := by decide +kernel
set_option maxRecDepth 100000 in
theorem ji_57_42 : mj_ins 57 42 = some (.getfield 19) := by decide +kernel
set_option maxRecDepth 100000 in
theorem ji_57_45 : mj_ins 57 45 = some (.getfield 49) := by decide +kernel
set_option maxRecDepth 100000 in
theorem ji_57_48 : mj_ins 57 48 = some (.getfield 104) := by decide +kernel
set_option maxRecDepth 100000 in
theorem jf_57_104 : mj_fld 57 104 = some (3, 11, .int, true) := by decide +kernel
set_option maxRecDepth 100000 in
theorem ji_57_51 : mj_ins 57 51 = some (.ireturn) := by decide +kernel
set_option maxRecDepth 100000 in
theorem ji_77_0 : mj_ins 77 0 = some (.aload_n 0) := by decide +kernel
set_option maxRecDepth 100000 in
theorem ji_77_1 : mj_ins 77 1 = some (.getfield 19) := by decide +kernel
set_option maxRecDepth 100000 in
theorem jf_77_19 : mj_fld 77 19 = some (0, 0, (.object "ForestOfPoles$State"), false) := by decide +kernel
set_option maxRecDepth 100000 in
theorem ji_77_4 : mj_ins 77 4 = some (.iload_n 1) := by decide +kernel
set_option maxRecDepth 100000 in
theorem ji_77_5 : mj_ins 77 5 = some (.iload_n 2) := by decide +kernel
set_option maxRecDepth 100000 in
theorem ji_77_6 : mj_ins 77 6 = some (.invokevirtual 107) := by decide +kernel
set_option maxRecDepth 100000 in
theorem jc_77_107 : mj_cal 77 107 = some (2, 78, 2) := by decide +kernel
set_option maxRecDepth 100000 in
theorem jn_78 : mj_nl 78 = 3 := by decide +kernel
set_option maxRecDepth 100000 in
theorem jk_78 : mj_cls 78 = 2 := by decide +kernel
set_option maxRecDepth 100000 in
theorem ji_77_9 : mj_ins 77 9 = some (.ireturn) := by decide +kernel
set_option maxRecDepth 100000 in
theorem jr_77 : mj_ret 77 = some .boolean := by decide +kernel
set_option maxRecDepth 100000 in
theorem ji_83_0 : mj_ins 83 0 = some (.aload_n 0) := by decide +kernel
set_option maxRecDepth 100000 in
theorem ji_83_1 : mj_ins 83 1 = some (.getfield 19) := by decide +kernel
set_option maxRecDepth 100000 in
theorem jf_83_19 : mj_fld 83 19 = some (0, 0, (.object "ForestOfPoles$State"), false) := by decide +kernel
set_option maxRecDepth 100000 in
theorem ji_83_4 : mj_ins 83 4 = some (.iload_n 1) := by decide +kernel
set_option maxRecDepth 100000 in
theorem ji_83_5 : mj_ins 83 5 = some (.iload_n 2) := by decide +kernel
set_option maxRecDepth 100000 in
theorem ji_83_6 : mj_ins 83 6 = some (.invokevirtual 111) := by decide +kernel
set_option maxRecDepth 100000 in
theorem jc_83_111 : mj_cal 83 111 = some (2, 84, 2) := by decide +kernel
set_option maxRecDepth 100000 in
theorem jn_84 : mj_nl 84 = 3 := by decide +kernel
set_option maxRecDepth 100000 in
theorem jk_84 : mj_cls 84 = 2 := by decide +kernel
set_option maxRecDepth 100000 in
theorem ji_83_9 : mj_ins 83 9 = some (.ireturn) := by decide +kernel
set_option maxRecDepth 100000 in
theorem jr_83 : mj_ret 83 = some .boolean := by decide +kernel
set_option maxRecDepth 100000 in
theorem ji_86_0 : mj_ins 86 0 = some (.aload_n 0) := by decide +kernel
set_option maxRecDepth 100000 in
theorem ji_86_1 : mj_ins 86 1 = some (.getfield 19) := by decide +kernel
set_option maxRecDepth 100000 in
theorem jf_86_19 : mj_fld 86 19 = some (0, 0, (.object "ForestOfPoles$State"), false) := by decide +kernel
set_option maxRecDepth 100000 in
theorem ji_86_4 : mj_ins 86 4 = some (.iload_n 1) := by decide +kernel
set_option maxRecDepth 100000 in
theorem ji_86_5 : mj_ins 86 5 = some (.iload_n 2) := by decide +kernel
set_option maxRecDepth 100000 in
theorem ji_86_6 : mj_ins 86 6 = some (.invokevirtual 114) := by decide +kernel
set_option maxRecDepth 100000 in
theorem jc_86_114 : mj_cal 86 114 = some (2, 87, 2) := by decide +kernel
set_option maxRecDepth 100000 in
theorem jn_87 : mj_nl 87 = 3 := by decide +kernel
set_option maxRecDepth 100000 in
theorem jk_87 : mj_cls 87 = 2 := by decide +kernel
set_option maxRecDepth 100000 in
theorem ji_86_9 : mj_ins 86 9 = some (.ifCond .eq 18) := by decide +kernel
set_option maxRecDepth 100000 in
theorem ji_86_12 : mj_ins 86 12 = some (.aload_n 0) := by decide +kernel
set_option maxRecDepth 100000 in
theorem ji_86_13 : mj_ins 86 13 = some (.getfield 19) := by decide +kernel
set_option maxRecDepth 100000 in
theorem ji_86_16 : mj_ins 86 16 = some (.getfield 49) := by decide +kernel
set_option maxRecDepth 100000 in
theorem jf_86_49 : mj_fld 86 49 = some (2, 0, (.object "ForestOfPoles$Forest"), false) := by decide +kernel
set_option maxRecDepth 100000 in
theorem ji_86_19 : mj_ins 86 19 = some (.getfield 117) := by decide +kernel
set_option maxRecDepth 100000 in
theorem jf_86_117 : mj_fld 86 117 = some (3, 3, (.array .int), false) := by decide +kernel
set_option maxRecDepth 100000 in
theorem ji_86_22 : mj_ins 86 22 = some (.iload_n 1) := by decide +kernel
set_option maxRecDepth 100000 in
theorem ji_86_23 : mj_ins 86 23 = some (.iaload) := by decide +kernel
set_option maxRecDepth 100000 in
theorem ji_86_24 : mj_ins 86 24 = some (.goto 4) := by decide +kernel
set_option maxRecDepth 100000 in
theorem ji_86_28 : mj_ins 86 28 = some (.ireturn) := by decide +kernel
set_option maxRecDepth 100000 in
theorem jr_86 : mj_ret 86 = some .int := by decide +kernel
set_option maxRecDepth 100000 in
theorem ji_86_27 : mj_ins 86 27 = some (.iconst (-1)) := by decide +kernel
set_option maxRecDepth 100000 in
theorem ji_90_0 : mj_ins 90 0 = some (.aload_n 0) := by decide +kernel
set_option maxRecDepth 100000 in
theorem ji_90_1 : mj_ins 90 1 = some (.getfield 19) := by decide +kernel
set_option maxRecDepth 100000 in
theorem jf_90_19 : mj_fld 90 19 = some (0, 0, (.object "ForestOfPoles$State"), false) := by decide +kernel
set_option maxRecDepth 100000 in
theorem ji_90_4 : mj_ins 90 4 = some (.iload_n 1) := by decide +kernel
set_option maxRecDepth 100000 in
theorem ji_90_5 : mj_ins 90 5 = some (.invokevirtual 121) := by decide +kernel
set_option maxRecDepth 100000 in
theorem jc_90_121 : mj_cal 90 121 = some (2, 91, 1) := by decide +kernel
set_option maxRecDepth 100000 in
theorem jn_91 : mj_nl 91 = 2 := by decide +kernel
set_option maxRecDepth 100000 in
theorem jk_91 : mj_cls 91 = 2 := by decide +kernel
set_option maxRecDepth 100000 in
theorem ji_90_8 : mj_ins 90 8 = some (.ireturn) := by decide +kernel
set_option maxRecDepth 100000 in
theorem jr_90 : mj_ret 90 = some .boolean := by decide +kernel
set_option maxRecDepth 100000 in
theorem ji_95_0 : mj_ins 95 0 = some (.aload_n 0) := by decide +kernel
set_option maxRecDepth 100000 in
theorem ji_95_1 : mj_ins 95 1 = some (.getfield 19) := by decide +kernel
set_option maxRecDepth 100000 in
theorem jf_95_19 : mj_fld 95 19 = some (0, 0, (.object "ForestOfPoles$State"), false) := by decide +kernel
set_option maxRecDepth 100000 in
theorem ji_95_4 : mj_ins 95 4 = some (.getfield 151) := by decide +kernel
set_option maxRecDepth 100000 in
theorem jf_95_151 : mj_fld 95 151 = some (2, 2, (.object "ForestOfPoles$Steps"), false) := by decide +kernel
set_option maxRecDepth 100000 in
theorem ji_95_7 : mj_ins 95 7 = some (.aload_n 0) := by decide +kernel
set_option maxRecDepth 100000 in
theorem ji_95_8 : mj_ins 95 8 = some (.getfield 19) := by decide +kernel
set_option maxRecDepth 100000 in
theorem ji_95_11 : mj_ins 95 11 = some (.getfield 49) := by decide +kernel
set_option maxRecDepth 100000 in
theorem jf_95_49 : mj_fld 95 49 = some (2, 0, (.object "ForestOfPoles$Forest"), false) := by decide +kernel
set_option maxRecDepth 100000 in
theorem ji_95_14 : mj_ins 95 14 = some (.aload_n 0) := by decide +kernel
set_option maxRecDepth 100000 in
theorem ji_95_15 : mj_ins 95 15 = some (.getfield 19) := by decide +kernel
set_option maxRecDepth 100000 in
theorem ji_95_18 : mj_ins 95 18 = some (.getfield 155) := by decide +kernel
set_option maxRecDepth 100000 in
theorem jf_95_155 : mj_fld 95 155 = some (2, 1, (.object "ForestOfPoles$Book"), false) := by decide +kernel
set_option maxRecDepth 100000 in
theorem ji_95_21 : mj_ins 95 21 = some (.invokevirtual 159) := by decide +kernel
set_option maxRecDepth 100000 in
theorem jc_95_159 : mj_cal 95 159 = some (2, 96, 2) := by decide +kernel
set_option maxRecDepth 100000 in
theorem jn_96 : mj_nl 96 = 6 := by decide +kernel
set_option maxRecDepth 100000 in
theorem jk_96 : mj_cls 96 = 5 := by decide +kernel
set_option maxRecDepth 100000 in
theorem ji_95_24 : mj_ins 95 24 = some (.ifCond .eq 16) := by decide +kernel
set_option maxRecDepth 100000 in
theorem ji_95_40 : mj_ins 95 40 = some (.iconst (-1)) := by decide +kernel
set_option maxRecDepth 100000 in
theorem ji_95_41 : mj_ins 95 41 = some (.ireturn) := by decide +kernel
set_option maxRecDepth 100000 in
theorem jr_95 : mj_ret 95 = some .int := by decide +kernel
set_option maxRecDepth 100000 in
theorem ji_95_27 : mj_ins 95 27 = some (.aload_n 0) := by decide +kernel
set_option maxRecDepth 100000 in
theorem ji_95_28 : mj_ins 95 28 = some (.getfield 19) := by decide +kernel
set_option maxRecDepth 100000 in
theorem ji_95_31 : mj_ins 95 31 = some (.getfield 151) := by decide +kernel
set_option maxRecDepth 100000 in
theorem ji_95_34 : mj_ins 95 34 = some (.getfield 165) := by decide +kernel
set_option maxRecDepth 100000 in
theorem jf_95_165 : mj_fld 95 165 = some (5, 2, .int, true) := by decide +kernel
set_option maxRecDepth 100000 in
theorem ji_95_37 : mj_ins 95 37 = some (.goto 4) := by decide +kernel
/-! the class's calls that change the game; laid by program (wp_u56.py) -/
def plC (s : sg_) (x z : Int) : sg_ := up (up (up (up s 49 (s 48 0) x) 50 (s 48 0) x) 51 (s 48 0) z) 48 0 (s 48 0 + 1)
def pwC (s : sg_) (x z : Int) : sg_ := up (up (up s 52 (s 48 1) x) 53 (s 48 1) z) 48 1 (s 48 1 + 1)
theorem uc_12 {nn d : Nat} {h : mj_H} {s : sg_} (C : CS h s) (I : IF s 48) {x z : Int} (hx : wp_r x) (hz : wp_r z) : wl_R nn (d + 1) 12 0 [some (.ref 9), some (wp_i x), some (wp_i z)] [] h (fun v1 h1 => ((s 48 0 < 8 ∧ (1 ≤ x ∧ x ≤ 99) ∧ (0 ≤ z ∧ z ≤ 99)) ∧ v1 = some (wp_i (s 48 0)) ∧ CS h1 (plC s x z)) ∨ (¬ (s 48 0 < 8 ∧ (1 ≤ x ∧ x ≤ 99) ∧ (0 ≤ z ∧ z ≤ 99)) ∧ v1 = some (wp_i (-1)) ∧ CS h1 s)) := by
  refine wl_s (pc' := 1) ji_12_0 rfl rfl rfl ?_
  refine cs_gr (r := 47) (k := 0) C (by decide) sq_9 rfl ji_12_1 jf_12_19 ?_
  refine cs_gr (r := 48) (k := 0) C (by decide) sq_47 rfl ji_12_4 jf_12_49 ?_
  refine wl_s (pc' := 8) ji_12_7 rfl rfl rfl ?_
  refine wl_s (pc' := 9) ji_12_8 rfl rfl rfl ?_
  obtain ⟨q2, hq2⟩ := cs_c C (by decide) sq_48
  refine wl_vc (d := d) (as := [.ref 48, wp_i x, wp_i z]) (rest := []) ji_12_9 jc_12_53 rfl hq2 jk_13.symm (Nat.le_of_ble_eq_true rfl) rfl (by rw [jn_13]; rfl) (uc_13 (d := d) C isF_48 I (x := x) (z := z) hx hz) (fun v1 h1 R => ?_)
  rcases R with ⟨hc, rfl, rfl⟩ | ⟨hc, rfl, C⟩
  · show wl_R _ _ 12 12 [some (.ref 9), some (wp_i x), some (wp_i z)] [wp_i (-1)] h1 _
    exact wl_ri ji_12_12 jr_12 rfl (Or.inr ⟨hc, rfl, C⟩)
  · show wl_R _ _ 12 12 [some (.ref 9), some (wp_i x), some (wp_i z)] [wp_i (s 48 0)] h1 _
    exact wl_ri ji_12_12 jr_12 rfl (Or.inl ⟨hc, rfl, C⟩)
theorem uc_14 {nn d : Nat} {h : mj_H} {s : sg_} (C : CS h s) (I : IF s 48) {x z : Int} (hx : wp_r x) (hz : wp_r z) : wl_R nn (d + 1) 14 0 [some (.ref 9), some (wp_i x), some (wp_i z)] [] h (fun v1 h1 => ((s 48 1 < 6 ∧ (1 ≤ x ∧ x ≤ 9) ∧ (0 ≤ z ∧ z ≤ 511)) ∧ v1 = some (wp_i (s 48 1)) ∧ CS h1 (pwC s x z)) ∨ (¬ (s 48 1 < 6 ∧ (1 ≤ x ∧ x ≤ 9) ∧ (0 ≤ z ∧ z ≤ 511)) ∧ v1 = some (wp_i (-1)) ∧ CS h1 s)) := by
  refine wl_s (pc' := 1) ji_14_0 rfl rfl rfl ?_
  refine cs_gr (r := 47) (k := 0) C (by decide) sq_9 rfl ji_14_1 jf_14_19 ?_
  refine cs_gr (r := 48) (k := 0) C (by decide) sq_47 rfl ji_14_4 jf_14_49 ?_
  refine wl_s (pc' := 8) ji_14_7 rfl rfl rfl ?_
  refine wl_s (pc' := 9) ji_14_8 rfl rfl rfl ?_
  obtain ⟨q2, hq2⟩ := cs_c C (by decide) sq_48
  refine wl_vc (d := d) (as := [.ref 48, wp_i x, wp_i z]) (rest := []) ji_14_9 jc_14_59 rfl hq2 jk_15.symm (Nat.le_of_ble_eq_true rfl) rfl (by rw [jn_15]; rfl) (uc_15 (d := d) C isF_48 I (x := x) (z := z) hx hz) (fun v1 h1 R => ?_)
  rcases R with ⟨hc, rfl, rfl⟩ | ⟨hc, rfl, C⟩
  · show wl_R _ _ 14 12 [some (.ref 9), some (wp_i x), some (wp_i z)] [wp_i (-1)] h1 _
    exact wl_ri ji_14_12 jr_14 rfl (Or.inr ⟨hc, rfl, C⟩)
  · show wl_R _ _ 14 12 [some (.ref 9), some (wp_i x), some (wp_i z)] [wp_i (s 48 1)] h1 _
    exact wl_ri ji_14_12 jr_14 rfl (Or.inl ⟨hc, rfl, C⟩)
theorem uc_57 {nn d : Nat} {h : mj_H} {s : sg_} (C : CS h s) {tc : tcs} (N : NV s tc) {n : Int} (hn : wp_r n) : wl_R nn (d + 7) 57 0 [some (.ref 9), some (wp_i n)] [] h (fun v1 h1 => (((1 ≤ n ∧ n ≤ 60) ∧ s 48 10 + n ≤ 9999) ∧ v1 = some (wp_i (hrsC tc s n.toNat 48 11)) ∧ CS h1 (hrsC tc s n.toNat)) ∨ (¬ ((1 ≤ n ∧ n ≤ 60) ∧ s 48 10 + n ≤ 9999) ∧ v1 = some (wp_i (-2)) ∧ CS h1 s)) := by
  have i10 := N.g.1.2.2.2.2.2.2.2.1
  refine wl_s (pc' := 1) ji_57_0 rfl rfl rfl ?_
  refine wl_s (pc' := 2) ji_57_1 rfl rfl rfl ?_
  refine wl_icmp (t := 29) ji_57_2 rfl (by omega) (by omega) (fun (hb1 : (n : Int) < 1) => ?_) (fun (hb1 : ¬ ((n : Int) < 1)) => ?_)
  · refine wl_bp ji_57_29 rfl ?_
    exact wl_ri ji_57_31 jr_57 rfl (Or.inr ⟨by omega, rfl, C⟩)
  · refine wl_s (pc' := 6) ji_57_5 rfl rfl rfl ?_
    refine wl_bp ji_57_6 rfl ?_
    refine wl_icmp (t := 29) ji_57_8 rfl (by omega) (by omega) (fun (hb2 : (60 : Int) < n) => ?_) (fun (hb2 : ¬ ((60 : Int) < n)) => ?_)
    · refine wl_bp ji_57_29 rfl ?_
      exact wl_ri ji_57_31 jr_57 rfl (Or.inr ⟨by omega, rfl, C⟩)
    · refine wl_s (pc' := 12) ji_57_11 rfl rfl rfl ?_
      refine cs_gr (r := 47) (k := 0) C (by decide) sq_9 rfl ji_57_12 jf_57_19 ?_
      refine cs_gr (r := 48) (k := 0) C (by decide) sq_47 rfl ji_57_15 jf_57_49 ?_
      refine cs_gi (k := 10) (kI := 10) C (by decide) (by decide) sq_48 rfl rfl ji_57_18 jf_57_98 ?_
      have bd3 : wp_r (s 48 10) := cs_ri (k := 10) (kI := 10) C (by decide) (by decide) sq_48 rfl rfl (show 10 < 13 by decide)
      refine wl_s (pc' := 22) ji_57_21 rfl rfl rfl ?_
      refine wl_iadd (x := s 48 10) (y := n) (z := s 48 10 + n) ji_57_22 (by omega) ?_
      refine wl_sp ji_57_23 rfl ?_
      refine wl_icmp (t := 32) ji_57_26 rfl (by omega) (by omega) (fun (hb4 : (s 48 10 + n : Int) ≤ 9999) => ?_) (fun (hb4 : ¬ ((s 48 10 + n : Int) ≤ 9999)) => ?_)
      · refine wl_s (pc' := 33) ji_57_32 rfl rfl rfl ?_
        refine cs_gr (r := 47) (k := 0) C (by decide) sq_9 rfl ji_57_33 jf_57_19 ?_
        refine wl_s (pc' := 37) ji_57_36 rfl rfl rfl ?_
        obtain ⟨q6, hq6⟩ := cs_c C (by decide) sq_47
        refine wl_vc (d := d + 6) (as := [.ref 47, wp_i n]) (rest := []) ji_57_37 jc_57_101 rfl hq6 jk_58.symm (Nat.le_of_ble_eq_true rfl) rfl (by rw [jn_58]; rfl) (uc_58 (d := d) C N (n := n) hn) (fun v1 h5 R => ?_)
        obtain ⟨y, rfl, -, -, C⟩ := R
        rw [show (min n (9999 - s 48 10)).toNat = n.toNat by omega] at C
        obtain ⟨t, et⟩ : ∃ z9_, hrsC tc s n.toNat = z9_ := ⟨_, rfl⟩
        rw [et] at C
        show wl_R _ _ 57 40 [some (.ref 9), some (wp_i n)] [wp_i y] h5 _
        refine wl_s (pc' := 41) ji_57_40 rfl rfl rfl ?_
        refine wl_s (pc' := 42) ji_57_41 rfl rfl rfl ?_
        refine cs_gr (r := 47) (k := 0) C (by decide) sq_9 rfl ji_57_42 jf_57_19 ?_
        refine cs_gr (r := 48) (k := 0) C (by decide) sq_47 rfl ji_57_45 jf_57_49 ?_
        refine cs_gi (k := 11) (kI := 11) C (by decide) (by decide) sq_48 rfl rfl ji_57_48 jf_57_104 ?_
        have bd7 : wp_r (t 48 11) := cs_ri (k := 11) (kI := 11) C (by decide) (by decide) sq_48 rfl rfl (show 11 < 13 by decide)
        exact wl_ri ji_57_51 jr_57 rfl (Or.inl ⟨by omega, by rw [et], by rw [et]; exact C⟩)
      · refine wl_bp ji_57_29 rfl ?_
        exact wl_ri ji_57_31 jr_57 rfl (Or.inr ⟨by omega, rfl, C⟩)
theorem uc_77 {nn d : Nat} {h : mj_H} {s : sg_} (C : CS h s) {tc : tcs} (N : NV s tc) {w p : Int} (hw : wp_r w) (hp : wp_r p) : wl_R nn (d + 3) 77 0 [some (.ref 9), some (wp_i w), some (wp_i p)] [] h (fun v1 h1 => (((0 ≤ w ∧ w < s 48 1) ∧ (0 ≤ p ∧ p < s 48 0) ∧ mrC s w p) ∧ v1 = some (wp_i 1) ∧ CS h1 (rsC (keepC s) w p)) ∨ (¬ ((0 ≤ w ∧ w < s 48 1) ∧ (0 ≤ p ∧ p < s 48 0) ∧ mrC s w p) ∧ v1 = some (wp_i 0) ∧ CS h1 s)) := by
  refine wl_s (pc' := 1) ji_77_0 rfl rfl rfl ?_
  refine cs_gr (r := 47) (k := 0) C (by decide) sq_9 rfl ji_77_1 jf_77_19 ?_
  refine wl_s (pc' := 5) ji_77_4 rfl rfl rfl ?_
  refine wl_s (pc' := 6) ji_77_5 rfl rfl rfl ?_
  obtain ⟨q2, hq2⟩ := cs_c C (by decide) sq_47
  refine wl_vc (d := d + 2) (as := [.ref 47, wp_i w, wp_i p]) (rest := []) ji_77_6 jc_77_107 rfl hq2 jk_78.symm (Nat.le_of_ble_eq_true rfl) rfl (by rw [jn_78]; rfl) (uc_78 (d := d) C N (w := w) (p := p) hw hp) (fun v1 h1 R => ?_)
  rcases R with ⟨rfl, hc, C⟩ | ⟨rfl, hc, C⟩
  · show wl_R _ _ 77 9 [some (.ref 9), some (wp_i w), some (wp_i p)] [wp_i 1] h1 _
    exact wl_ri ji_77_9 jr_77 (pv_nb (by omega)) (Or.inl ⟨hc, rfl, C⟩)
  · show wl_R _ _ 77 9 [some (.ref 9), some (wp_i w), some (wp_i p)] [wp_i 0] h1 _
    exact wl_ri ji_77_9 jr_77 (pv_nb (by omega)) (Or.inr ⟨hc, rfl, C⟩)
theorem uc_83 {nn d : Nat} {h : mj_H} {s : sg_} (C : CS h s) {tc : tcs} (N : NV s tc) {w p : Int} (hw : wp_r w) (hp : wp_r p) : wl_R nn (d + 3) 83 0 [some (.ref 9), some (wp_i w), some (wp_i p)] [] h (fun v1 h1 => (((0 ≤ w ∧ w < s 48 1) ∧ (0 ≤ p ∧ p < s 48 0) ∧ ¬ s 54 (p * 6 + w) = -1) ∧ v1 = some (wp_i 1) ∧ CS h1 (up (keepC s) 54 (p * 6 + w) (-1))) ∨ (¬ ((0 ≤ w ∧ w < s 48 1) ∧ (0 ≤ p ∧ p < s 48 0) ∧ ¬ s 54 (p * 6 + w) = -1) ∧ v1 = some (wp_i 0) ∧ CS h1 s)) := by
  refine wl_s (pc' := 1) ji_83_0 rfl rfl rfl ?_
  refine cs_gr (r := 47) (k := 0) C (by decide) sq_9 rfl ji_83_1 jf_83_19 ?_
  refine wl_s (pc' := 5) ji_83_4 rfl rfl rfl ?_
  refine wl_s (pc' := 6) ji_83_5 rfl rfl rfl ?_
  obtain ⟨q2, hq2⟩ := cs_c C (by decide) sq_47
  refine wl_vc (d := d + 2) (as := [.ref 47, wp_i w, wp_i p]) (rest := []) ji_83_6 jc_83_111 rfl hq2 jk_84.symm (Nat.le_of_ble_eq_true rfl) rfl (by rw [jn_84]; rfl) (uc_84 (d := d) C N (w := w) (p := p) hw hp) (fun v1 h1 R => ?_)
  rcases R with ⟨rfl, hc, C⟩ | ⟨rfl, hc, C⟩
  · show wl_R _ _ 83 9 [some (.ref 9), some (wp_i w), some (wp_i p)] [wp_i 1] h1 _
    exact wl_ri ji_83_9 jr_83 (pv_nb (by omega)) (Or.inl ⟨hc, rfl, C⟩)
  · show wl_R _ _ 83 9 [some (.ref 9), some (wp_i w), some (wp_i p)] [wp_i 0] h1 _
    exact wl_ri ji_83_9 jr_83 (pv_nb (by omega)) (Or.inr ⟨hc, rfl, C⟩)
theorem uc_86 {nn d : Nat} {h : mj_H} {s : sg_} (C : CS h s) {tc : tcs} (N : NV s tc) {p n : Int} (hp : wp_r p) (hn : wp_r n) : wl_R nn (d + 3) 86 0 [some (.ref 9), some (wp_i p), some (wp_i n)] [] h (fun v1 h1 => (((0 ≤ p ∧ p < s 48 0) ∧ 1 ≤ n ∧ n < s 50 p) ∧ v1 = some (wp_i (s 50 p - n)) ∧ CS h1 (cutW (keepC s) 48 p n (keepC s 48 1))) ∨ (¬ ((0 ≤ p ∧ p < s 48 0) ∧ 1 ≤ n ∧ n < s 50 p) ∧ v1 = some (wp_i (-1)) ∧ CS h1 s)) := by
  have i0 := N.g.1.1
  refine wl_s (pc' := 1) ji_86_0 rfl rfl rfl ?_
  refine cs_gr (r := 47) (k := 0) C (by decide) sq_9 rfl ji_86_1 jf_86_19 ?_
  refine wl_s (pc' := 5) ji_86_4 rfl rfl rfl ?_
  refine wl_s (pc' := 6) ji_86_5 rfl rfl rfl ?_
  obtain ⟨q2, hq2⟩ := cs_c C (by decide) sq_47
  refine wl_vc (d := d + 2) (as := [.ref 47, wp_i p, wp_i n]) (rest := []) ji_86_6 jc_86_114 rfl hq2 jk_87.symm (Nat.le_of_ble_eq_true rfl) rfl (by rw [jn_87]; rfl) (uc_87 (d := d) C N (p := p) (n := n) hp hn) (fun v1 h1 R => ?_)
  rcases R with ⟨rfl, hc, C⟩ | ⟨rfl, hc, C⟩
  · obtain ⟨t, et⟩ : ∃ z9_, cutW (keepC s) 48 p n (keepC s 48 1) = z9_ := ⟨_, rfl⟩
    rw [et] at C
    have k5 : t 50 p = s 50 p - n := by rw [← et]; exact (cutW_t (F := 48) (p := p)).trans (by show keepC s 50 p - n = _; rw [keepC_fr (by decide) (by decide)])
    show wl_R _ _ 86 9 [some (.ref 9), some (wp_i p), some (wp_i n)] [wp_i 1] h1 _
    refine wl_if (t := 27) ji_86_9 rfl (by omega) (fun (hb3 : (1 : Int) = 0) => (by exfalso; omega)) (fun (hb3 : ¬ ((1 : Int) = 0)) => ?_)
    refine wl_s (pc' := 13) ji_86_12 rfl rfl rfl ?_
    refine cs_gr (r := 47) (k := 0) C (by decide) sq_9 rfl ji_86_13 jf_86_19 ?_
    refine cs_gr (r := 48) (k := 0) C (by decide) sq_47 rfl ji_86_16 jf_86_49 ?_
    refine cs_gr (r := 50) (k := 3) C (by decide) sq_48 rfl ji_86_19 jf_86_117 ?_
    refine wl_s (pc' := 23) ji_86_22 rfl rfl rfl ?_
    refine cs_l (x := p) C (by decide) (by decide) sq_50 (by omega) ji_86_23 (fun ld40 ld41 ld42 => ?_)
    refine wl_goto (t := 28) ji_86_24 rfl ?_
    exact wl_ri ji_86_28 jr_86 rfl (Or.inl ⟨hc, by rw [k5], by rw [et]; exact C⟩)
  · show wl_R _ _ 86 9 [some (.ref 9), some (wp_i p), some (wp_i n)] [wp_i 0] h1 _
    refine wl_if (t := 27) ji_86_9 rfl (by omega) (fun (hb5 : (0 : Int) = 0) => ?_) (fun (hb5 : ¬ ((0 : Int) = 0)) => (by exfalso; omega))
    refine wl_s (pc' := 28) ji_86_27 rfl rfl rfl ?_
    exact wl_ri ji_86_28 jr_86 rfl (Or.inr ⟨hc, rfl, C⟩)
theorem uc_90 {nn d : Nat} {h : mj_H} {s : sg_} (C : CS h s) {tc : tcs} (N : NV s tc) {w : Int} (hw : wp_r w) : wl_R nn (d + 3) 90 0 [some (.ref 9), some (wp_i w)] [] h (fun v1 h1 => (((0 ≤ w ∧ w ≤ 9) ∧ ¬ w = s 48 9) ∧ v1 = some (wp_i 1) ∧ CS h1 (up (keepC s) 48 9 w)) ∨ (¬ ((0 ≤ w ∧ w ≤ 9) ∧ ¬ w = s 48 9) ∧ v1 = some (wp_i 0) ∧ CS h1 s)) := by
  refine wl_s (pc' := 1) ji_90_0 rfl rfl rfl ?_
  refine cs_gr (r := 47) (k := 0) C (by decide) sq_9 rfl ji_90_1 jf_90_19 ?_
  refine wl_s (pc' := 5) ji_90_4 rfl rfl rfl ?_
  obtain ⟨q2, hq2⟩ := cs_c C (by decide) sq_47
  refine wl_vc (d := d + 2) (as := [.ref 47, wp_i w]) (rest := []) ji_90_5 jc_90_121 rfl hq2 jk_91.symm (Nat.le_of_ble_eq_true rfl) rfl (by rw [jn_91]; rfl) (uc_91 (d := d) C N (w := w) hw) (fun v1 h1 R => ?_)
  rcases R with ⟨rfl, hc, C⟩ | ⟨rfl, hc, C⟩
  · show wl_R _ _ 90 8 [some (.ref 9), some (wp_i w)] [wp_i 1] h1 _
    exact wl_ri ji_90_8 jr_90 (pv_nb (by omega)) (Or.inl ⟨hc, rfl, C⟩)
  · show wl_R _ _ 90 8 [some (.ref 9), some (wp_i w)] [wp_i 0] h1 _
    exact wl_ri ji_90_8 jr_90 (pv_nb (by omega)) (Or.inr ⟨hc, rfl, C⟩)
theorem backC_2 {s : sg_} : backC s 59 2 = s 59 2 - 1 := by
  unfold backC tb2 cpy
  rw [if_neg (by omega), if_neg (by omega), if_neg (by omega), if_neg (by omega), tlW_fr (by decide)]
  unfold tb1
  rw [up_a (by decide), up_a (by decide), up_a (by decide), up_a (by decide), up_a (by decide), up_e]
theorem uc_95 {nn d : Nat} {h : mj_H} {s : sg_} (C : CS h s) (i0 : 0 ≤ s 48 0 ∧ s 48 0 ≤ 8) (i1 : 0 ≤ s 59 1 ∧ s 59 1 < 30) (i2 : 0 ≤ s 59 2 ∧ s 59 2 ≤ 30) : wl_R nn (d + 1) 95 0 [some (.ref 9)] [] h (fun v1 h1 => (¬ s 59 2 = 0 ∧ v1 = some (wp_i (s 59 2 - 1)) ∧ CS h1 (backC s)) ∨ (s 59 2 = 0 ∧ v1 = some (wp_i (-1)) ∧ CS h1 s)) := by
  refine wl_s (pc' := 1) ji_95_0 rfl rfl rfl ?_
  refine cs_gr (r := 47) (k := 0) C (by decide) sq_9 rfl ji_95_1 jf_95_19 ?_
  refine cs_gr (r := 59) (k := 2) C (by decide) sq_47 rfl ji_95_4 jf_95_151 ?_
  refine wl_s (pc' := 8) ji_95_7 rfl rfl rfl ?_
  refine cs_gr (r := 47) (k := 0) C (by decide) sq_9 rfl ji_95_8 jf_95_19 ?_
  refine cs_gr (r := 48) (k := 0) C (by decide) sq_47 rfl ji_95_11 jf_95_49 ?_
  refine wl_s (pc' := 15) ji_95_14 rfl rfl rfl ?_
  refine cs_gr (r := 47) (k := 0) C (by decide) sq_9 rfl ji_95_15 jf_95_19 ?_
  refine cs_gr (r := 56) (k := 1) C (by decide) sq_47 rfl ji_95_18 jf_95_155 ?_
  obtain ⟨q2, hq2⟩ := cs_c C (by decide) sq_59
  refine wl_vc (d := d) (as := [.ref 59, .ref 48, .ref 56]) (rest := []) ji_95_21 jc_95_159 rfl hq2 jk_96.symm (Nat.le_of_ble_eq_true rfl) rfl (by rw [jn_96]; rfl) (uc_96 (d := d) C i0 i1 i2) (fun v1 h1 R => ?_)
  rcases R with ⟨hc, rfl, C⟩ | ⟨hc, rfl, C⟩
  · show wl_R _ _ 95 24 [some (.ref 9)] [wp_i 0] h1 _
    refine wl_if (t := 40) ji_95_24 rfl (by omega) (fun (hb3 : (0 : Int) = 0) => ?_) (fun (hb3 : ¬ ((0 : Int) = 0)) => (by exfalso; omega))
    refine wl_s (pc' := 41) ji_95_40 rfl rfl rfl ?_
    exact wl_ri ji_95_41 jr_95 rfl (Or.inr ⟨hc, rfl, C⟩)
  · obtain ⟨t, et⟩ : ∃ z9_, backC s = z9_ := ⟨_, rfl⟩
    rw [et] at C
    have k2 : t 59 2 = s 59 2 - 1 := by rw [← et, backC_2]
    show wl_R _ _ 95 24 [some (.ref 9)] [wp_i 1] h1 _
    refine wl_if (t := 40) ji_95_24 rfl (by omega) (fun (hb4 : (1 : Int) = 0) => (by exfalso; omega)) (fun (hb4 : ¬ ((1 : Int) = 0)) => ?_)
    refine wl_s (pc' := 28) ji_95_27 rfl rfl rfl ?_
    refine cs_gr (r := 47) (k := 0) C (by decide) sq_9 rfl ji_95_28 jf_95_19 ?_
    refine cs_gr (r := 59) (k := 2) C (by decide) sq_47 rfl ji_95_31 jf_95_151 ?_
    refine cs_gi (k := 2) (kI := 2) C (by decide) (by decide) sq_59 rfl rfl ji_95_34 jf_95_165 ?_
    have bd5 : wp_r (t 59 2) := cs_ri (k := 2) (kI := 2) C (by decide) (by decide) sq_59 rfl rfl (show 2 < 3 by decide)
    refine wl_goto (t := 41) ji_95_37 rfl ?_
    exact wl_ri ji_95_41 jr_95 rfl (Or.inl ⟨hc, by rw [k2], by rw [et]; exact C⟩)
theorem uc_55 {nn d : Nat} {h : mj_H} {s : sg_} (C : CS h s) {x : Int} (hx : wp_r x) (i6 : 0 ≤ s 47 6 ∧ s 47 6 ≤ 4) : wl_R nn (d + 1) 55 0 [some (.ref 9), some (wp_i x)] [] h (fun v1 h1 => ((-1 ≤ x ∧ x < s 47 6) ∧ v1 = some (wp_i 1) ∧ CS h1 (up s 47 7 x)) ∨ (¬ (-1 ≤ x ∧ x < s 47 6) ∧ v1 = some (wp_i 0) ∧ CS h1 s)) := by
  refine wl_s (pc' := 1) ji_55_0 rfl rfl rfl ?_
  refine wl_s (pc' := 2) ji_55_1 rfl rfl rfl ?_
  refine wl_icmp (t := 18) ji_55_2 rfl (by omega) (by omega) (fun (hb1 : (x : Int) = (-1)) => ?_) (fun (hb1 : ¬ ((x : Int) = (-1))) => ?_)
  · refine wl_s (pc' := 19) ji_55_18 rfl rfl rfl ?_
    refine cs_gr (r := 47) (k := 0) C (by decide) sq_9 rfl ji_55_19 jf_55_19 ?_
    refine wl_s (pc' := 23) ji_55_22 rfl rfl rfl ?_
    refine cs_pi (k := 7) (kI := 7) (y := x) C (by decide) sq_47 rfl rfl ji_55_23 jf_55_95 rfl rfl (by omega) (fun h C => ?_)
    obtain ⟨s2, es2⟩ : ∃ z9_, up s 47 7 x = z9_ := ⟨_, rfl⟩
    rw [es2] at C
    refine wl_s (pc' := 27) ji_55_26 rfl rfl rfl ?_
    exact wl_ri ji_55_27 jr_55 (pv_nb (by omega)) (Or.inl ⟨by omega, rfl, cs_mono C (by rw [es2])⟩)
  · refine wl_s (pc' := 6) ji_55_5 rfl rfl rfl ?_
    refine cs_gr (r := 47) (k := 0) C (by decide) sq_9 rfl ji_55_6 jf_55_19 ?_
    refine wl_s (pc' := 10) ji_55_9 rfl rfl rfl ?_
    obtain ⟨q4, hq4⟩ := cs_c C (by decide) sq_47
    refine wl_vc (d := d) (as := [.ref 47, wp_i x]) (rest := []) ji_55_10 jc_55_91 rfl hq4 jk_56.symm (Nat.le_of_ble_eq_true rfl) rfl (by rw [jn_56]; rfl) (uc_56 (d := d) C (i := x) hx) (fun v1 h3 R => ?_)
    obtain ⟨ee, y5, rfl, hy5a, hy5b⟩ := R
    rw [ee]
    clear ee
    show wl_R _ _ 55 13 [some (.ref 9), some (wp_i x)] [wp_i y5] _ _
    refine wl_if (t := 18) ji_55_13 rfl (by omega) (fun (hb6 : ¬ (y5 : Int) = 0) => ?_) (fun (hb6 : ¬ (¬ (y5 : Int) = 0)) => ?_)
    · refine wl_s (pc' := 19) ji_55_18 rfl rfl rfl ?_
      refine cs_gr (r := 47) (k := 0) C (by decide) sq_9 rfl ji_55_19 jf_55_19 ?_
      refine wl_s (pc' := 23) ji_55_22 rfl rfl rfl ?_
      refine cs_pi (k := 7) (kI := 7) (y := x) C (by decide) sq_47 rfl rfl ji_55_23 jf_55_95 rfl rfl (by omega) (fun h C => ?_)
      obtain ⟨s7, es7⟩ : ∃ z9_, up s 47 7 x = z9_ := ⟨_, rfl⟩
      rw [es7] at C
      refine wl_s (pc' := 27) ji_55_26 rfl rfl rfl ?_
      exact wl_ri ji_55_27 jr_55 (pv_nb (by omega)) (Or.inl ⟨by omega, rfl, cs_mono C (by rw [es7])⟩)
    · refine wl_s (pc' := 17) ji_55_16 rfl rfl rfl ?_
      exact wl_ri ji_55_17 jr_55 (pv_nb (by omega)) (Or.inr ⟨by omega, rfl, C⟩)
