/-! -/
/-! -/
set_option maxRecDepth 100000 in
theorem ji_236_0 : mj_ins 236 0 = some (.lload_n 0) := by decide +kernel
set_option maxRecDepth 100000 in
theorem ji_236_1 : mj_ins 236 1 = some (.ldc2_w 257) := by decide +kernel
set_option maxRecDepth 100000 in
theorem jcn_236_257 : mj_con 236 257 = some (.long 1000000) := by decide +kernel
set_option maxRecDepth 100000 in
theorem ji_236_4 : mj_ins 236 4 = some (.lcmp) := by decide +kernel
set_option maxRecDepth 100000 in
theorem ji_236_5 : mj_ins 236 5 = some (.ifCond .le 9) := by decide +kernel
set_option maxRecDepth 100000 in
theorem ji_236_14 : mj_ins 236 14 = some (.lload_n 0) := by decide +kernel
set_option maxRecDepth 100000 in
theorem ji_236_15 : mj_ins 236 15 = some (.ldc2_w 259) := by decide +kernel
set_option maxRecDepth 100000 in
theorem jcn_236_259 : mj_con 236 259 = some (.long (-1000000)) := by decide +kernel
set_option maxRecDepth 100000 in
theorem ji_236_18 : mj_ins 236 18 = some (.lcmp) := by decide +kernel
set_option maxRecDepth 100000 in
theorem ji_236_19 : mj_ins 236 19 = some (.ifCond .ge 9) := by decide +kernel
set_option maxRecDepth 100000 in
theorem ji_236_28 : mj_ins 236 28 = some (.lload_n 0) := by decide +kernel
set_option maxRecDepth 100000 in
theorem ji_236_29 : mj_ins 236 29 = some (.lreturn) := by decide +kernel
set_option maxRecDepth 100000 in
theorem jr_236 : mj_ret 236 = some .long := by decide +kernel
set_option maxRecDepth 100000 in
theorem ji_236_22 : mj_ins 236 22 = some (.ldc2_w 259) := by decide +kernel
set_option maxRecDepth 100000 in
theorem ji_236_25 : mj_ins 236 25 = some (.goto 4) := by decide +kernel
set_option maxRecDepth 100000 in
theorem ji_236_8 : mj_ins 236 8 = some (.ldc2_w 257) := by decide +kernel
set_option maxRecDepth 100000 in
theorem ji_236_11 : mj_ins 236 11 = some (.goto 18) := by decide +kernel
set_option maxRecDepth 100000 in
theorem ji_235_0 : mj_ins 235 0 = some (.iload_n 0) := by decide +kernel
set_option maxRecDepth 100000 in
theorem ji_235_1 : mj_ins 235 1 = some (.tableswitch 48 4 6 #[27, 34, 41]) := by decide +kernel
set_option maxRecDepth 100000 in
theorem ji_235_28 : mj_ins 235 28 = some (.lload_n 1) := by decide +kernel
set_option maxRecDepth 100000 in
theorem ji_235_29 : mj_ins 235 29 = some (.lload_n 3) := by decide +kernel
set_option maxRecDepth 100000 in
theorem ji_235_30 : mj_ins 235 30 = some (.ladd) := by decide +kernel
set_option maxRecDepth 100000 in
theorem ji_235_31 : mj_ins 235 31 = some (.invokestatic 261) := by decide +kernel
set_option maxRecDepth 100000 in
theorem jc_235_261 : mj_cal 235 261 = some (1, 236, 1) := by decide +kernel
set_option maxRecDepth 100000 in
theorem jn_236 : mj_nl 236 = 2 := by decide +kernel
set_option maxRecDepth 100000 in
theorem ji_235_34 : mj_ins 235 34 = some (.lreturn) := by decide +kernel
set_option maxRecDepth 100000 in
theorem jr_235 : mj_ret 235 = some .long := by decide +kernel
set_option maxRecDepth 100000 in
theorem ji_235_35 : mj_ins 235 35 = some (.lload_n 1) := by decide +kernel
set_option maxRecDepth 100000 in
theorem ji_235_36 : mj_ins 235 36 = some (.lload_n 3) := by decide +kernel
set_option maxRecDepth 100000 in
theorem ji_235_37 : mj_ins 235 37 = some (.lsub) := by decide +kernel
set_option maxRecDepth 100000 in
theorem ji_235_38 : mj_ins 235 38 = some (.invokestatic 261) := by decide +kernel
set_option maxRecDepth 100000 in
theorem ji_235_41 : mj_ins 235 41 = some (.lreturn) := by decide +kernel
set_option maxRecDepth 100000 in
theorem ji_235_42 : mj_ins 235 42 = some (.lload_n 1) := by decide +kernel
set_option maxRecDepth 100000 in
theorem ji_235_43 : mj_ins 235 43 = some (.lload_n 3) := by decide +kernel
set_option maxRecDepth 100000 in
theorem ji_235_44 : mj_ins 235 44 = some (.lmul) := by decide +kernel
set_option maxRecDepth 100000 in
theorem ji_235_45 : mj_ins 235 45 = some (.invokestatic 261) := by decide +kernel
set_option maxRecDepth 100000 in
theorem ji_235_48 : mj_ins 235 48 = some (.lreturn) := by decide +kernel
set_option maxRecDepth 100000 in
theorem ji_235_49 : mj_ins 235 49 = some (.lload_n 3) := by decide +kernel
set_option maxRecDepth 100000 in
theorem ji_235_50 : mj_ins 235 50 = some (.lconst 0) := by decide +kernel
set_option maxRecDepth 100000 in
theorem ji_235_51 : mj_ins 235 51 = some (.lcmp) := by decide +kernel
set_option maxRecDepth 100000 in
theorem ji_235_52 : mj_ins 235 52 = some (.ifCond .ne 7) := by decide +kernel
set_option maxRecDepth 100000 in
theorem ji_235_59 : mj_ins 235 59 = some (.lload_n 1) := by decide +kernel
set_option maxRecDepth 100000 in
theorem ji_235_60 : mj_ins 235 60 = some (.lload_n 3) := by decide +kernel
set_option maxRecDepth 100000 in
theorem ji_235_61 : mj_ins 235 61 = some (.ldiv) := by decide +kernel
set_option maxRecDepth 100000 in
theorem ji_235_62 : mj_ins 235 62 = some (.invokestatic 261) := by decide +kernel
set_option maxRecDepth 100000 in
theorem ji_235_65 : mj_ins 235 65 = some (.lreturn) := by decide +kernel
set_option maxRecDepth 100000 in
theorem ji_235_55 : mj_ins 235 55 = some (.lconst 0) := by decide +kernel
set_option maxRecDepth 100000 in
theorem ji_235_56 : mj_ins 235 56 = some (.goto 9) := by decide +kernel
set_option maxRecDepth 100000 in
theorem ji_237_0 : mj_ins 237 0 = some (.iload_n 0) := by decide +kernel
set_option maxRecDepth 100000 in
theorem ji_237_1 : mj_ins 237 1 = some (.bipush 10) := by decide +kernel
set_option maxRecDepth 100000 in
theorem ji_237_3 : mj_ins 237 3 = some (.if_icmp .ne 17) := by decide +kernel
set_option maxRecDepth 100000 in
theorem ji_237_6 : mj_ins 237 6 = some (.lload_n 1) := by decide +kernel
set_option maxRecDepth 100000 in
theorem ji_237_7 : mj_ins 237 7 = some (.lload_n 3) := by decide +kernel
set_option maxRecDepth 100000 in
theorem ji_237_8 : mj_ins 237 8 = some (.lcmp) := by decide +kernel
set_option maxRecDepth 100000 in
theorem ji_237_9 : mj_ins 237 9 = some (.ifCond .ge 7) := by decide +kernel
set_option maxRecDepth 100000 in
theorem ji_237_16 : mj_ins 237 16 = some (.iconst 0) := by decide +kernel
set_option maxRecDepth 100000 in
theorem ji_237_17 : mj_ins 237 17 = some (.goto 94) := by decide +kernel
set_option maxRecDepth 100000 in
theorem ji_237_111 : mj_ins 237 111 = some (.ireturn) := by decide +kernel
set_option maxRecDepth 100000 in
theorem jr_237 : mj_ret 237 = some .boolean := by decide +kernel
set_option maxRecDepth 100000 in
theorem ji_237_12 : mj_ins 237 12 = some (.iconst 1) := by decide +kernel
set_option maxRecDepth 100000 in
theorem ji_237_13 : mj_ins 237 13 = some (.goto 98) := by decide +kernel
set_option maxRecDepth 100000 in
theorem ji_237_20 : mj_ins 237 20 = some (.iload_n 0) := by decide +kernel
set_option maxRecDepth 100000 in
theorem ji_237_21 : mj_ins 237 21 = some (.bipush 11) := by decide +kernel
set_option maxRecDepth 100000 in
theorem ji_237_23 : mj_ins 237 23 = some (.if_icmp .ne 17) := by decide +kernel
set_option maxRecDepth 100000 in
theorem ji_237_26 : mj_ins 237 26 = some (.lload_n 1) := by decide +kernel
set_option maxRecDepth 100000 in
theorem ji_237_27 : mj_ins 237 27 = some (.lload_n 3) := by decide +kernel
set_option maxRecDepth 100000 in
theorem ji_237_28 : mj_ins 237 28 = some (.lcmp) := by decide +kernel
set_option maxRecDepth 100000 in
theorem ji_237_29 : mj_ins 237 29 = some (.ifCond .gt 7) := by decide +kernel
set_option maxRecDepth 100000 in
theorem ji_237_36 : mj_ins 237 36 = some (.iconst 0) := by decide +kernel
set_option maxRecDepth 100000 in
theorem ji_237_37 : mj_ins 237 37 = some (.goto 74) := by decide +kernel
set_option maxRecDepth 100000 in
theorem ji_237_32 : mj_ins 237 32 = some (.iconst 1) := by decide +kernel
set_option maxRecDepth 100000 in
theorem ji_237_33 : mj_ins 237 33 = some (.goto 78) := by decide +kernel
set_option maxRecDepth 100000 in
theorem ji_237_40 : mj_ins 237 40 = some (.iload_n 0) := by decide +kernel
set_option maxRecDepth 100000 in
theorem ji_237_41 : mj_ins 237 41 = some (.bipush 12) := by decide +kernel
set_option maxRecDepth 100000 in
theorem ji_237_43 : mj_ins 237 43 = some (.if_icmp .ne 17) := by decide +kernel
set_option maxRecDepth 100000 in
theorem ji_237_46 : mj_ins 237 46 = some (.lload_n 1) := by decide +kernel
set_option maxRecDepth 100000 in
theorem ji_237_47 : mj_ins 237 47 = some (.lload_n 3) := by decide +kernel
set_option maxRecDepth 100000 in
theorem ji_237_48 : mj_ins 237 48 = some (.lcmp) := by decide +kernel
set_option maxRecDepth 100000 in
theorem ji_237_49 : mj_ins 237 49 = some (.ifCond .le 7) := by decide +kernel
set_option maxRecDepth 100000 in
theorem ji_237_56 : mj_ins 237 56 = some (.iconst 0) := by decide +kernel
set_option maxRecDepth 100000 in
theorem ji_237_57 : mj_ins 237 57 = some (.goto 54) := by decide +kernel
set_option maxRecDepth 100000 in
theorem ji_237_52 : mj_ins 237 52 = some (.iconst 1) := by decide +kernel
set_option maxRecDepth 100000 in
theorem ji_237_53 : mj_ins 237 53 = some (.goto 58) := by decide +kernel
set_option maxRecDepth 100000 in
theorem ji_237_60 : mj_ins 237 60 = some (.iload_n 0) := by decide +kernel
set_option maxRecDepth 100000 in
theorem ji_237_61 : mj_ins 237 61 = some (.bipush 13) := by decide +kernel
set_option maxRecDepth 100000 in
theorem ji_237_63 : mj_ins 237 63 = some (.if_icmp .ne 17) := by decide +kernel
set_option maxRecDepth 100000 in
theorem ji_237_66 : mj_ins 237 66 = some (.lload_n 1) := by decide +kernel
set_option maxRecDepth 100000 in
theorem ji_237_67 : mj_ins 237 67 = some (.lload_n 3) := by decide +kernel
set_option maxRecDepth 100000 in
theorem ji_237_68 : mj_ins 237 68 = some (.lcmp) := by decide +kernel
set_option maxRecDepth 100000 in
theorem ji_237_69 : mj_ins 237 69 = some (.ifCond .lt 7) := by decide +kernel
set_option maxRecDepth 100000 in
theorem ji_237_76 : mj_ins 237 76 = some (.iconst 0) := by decide +kernel
set_option maxRecDepth 100000 in
theorem ji_237_77 : mj_ins 237 77 = some (.goto 34) := by decide +kernel
set_option maxRecDepth 100000 in
theorem ji_237_72 : mj_ins 237 72 = some (.iconst 1) := by decide +kernel
set_option maxRecDepth 100000 in
theorem ji_237_73 : mj_ins 237 73 = some (.goto 38) := by decide +kernel
set_option maxRecDepth 100000 in
theorem ji_237_80 : mj_ins 237 80 = some (.iload_n 0) := by decide +kernel
set_option maxRecDepth 100000 in
theorem ji_237_81 : mj_ins 237 81 = some (.bipush 14) := by decide +kernel
set_option maxRecDepth 100000 in
theorem ji_237_83 : mj_ins 237 83 = some (.if_icmp .ne 17) := by decide +kernel
set_option maxRecDepth 100000 in
theorem ji_237_86 : mj_ins 237 86 = some (.lload_n 1) := by decide +kernel
set_option maxRecDepth 100000 in
theorem ji_237_87 : mj_ins 237 87 = some (.lload_n 3) := by decide +kernel
set_option maxRecDepth 100000 in
theorem ji_237_88 : mj_ins 237 88 = some (.lcmp) := by decide +kernel
set_option maxRecDepth 100000 in
theorem ji_237_89 : mj_ins 237 89 = some (.ifCond .ne 7) := by decide +kernel
set_option maxRecDepth 100000 in
theorem ji_237_96 : mj_ins 237 96 = some (.iconst 0) := by decide +kernel
set_option maxRecDepth 100000 in
theorem ji_237_97 : mj_ins 237 97 = some (.goto 14) := by decide +kernel
set_option maxRecDepth 100000 in
theorem ji_237_92 : mj_ins 237 92 = some (.iconst 1) := by decide +kernel
set_option maxRecDepth 100000 in
theorem ji_237_93 : mj_ins 237 93 = some (.goto 18) := by decide +kernel
set_option maxRecDepth 100000 in
theorem ji_237_100 : mj_ins 237 100 = some (.lload_n 1) := by decide +kernel
set_option maxRecDepth 100000 in
theorem ji_237_101 : mj_ins 237 101 = some (.lload_n 3) := by decide +kernel
set_option maxRecDepth 100000 in
theorem ji_237_102 : mj_ins 237 102 = some (.lcmp) := by decide +kernel
set_option maxRecDepth 100000 in
theorem ji_237_103 : mj_ins 237 103 = some (.ifCond .eq 7) := by decide +kernel
set_option maxRecDepth 100000 in
theorem ji_237_110 : mj_ins 237 110 = some (.iconst 0) := by decide +kernel
set_option maxRecDepth 100000 in
theorem ji_237_106 : mj_ins 237 106 = some (.iconst 1) := by decide +kernel
set_option maxRecDepth 100000 in
theorem ji_237_107 : mj_ins 237 107 = some (.goto 4) := by decide +kernel
/-! the reference's sums and asks; laid by program (wp_u24.py) -/
theorem wl_rlg {nn d m pc : Nat} {lv : mj_L} {h : mj_H} {Q : Option Value → mj_H → Prop} {x : Int} (hi : mj_ins m pc = some .lreturn) (ht : mj_ret m = some .long) (hq : Q (some (wl_L x)) h) : wl_R nn d m pc lv [wl_L x] h Q := by
  refine wl_e hi ?_ hq
  simp only [mj_end, ht]
theorem uc_236 {nn d : Nat} {h : mj_H} {x : Int} (hx : wl_q x) : wl_R nn d 236 0 [some (wl_L x), none] [] h (fun v1 h1 => h1 = h ∧ v1 = some (wl_L (clp x))) := by
  unfold wl_q at hx
  refine wl_s (pc' := 1) ji_236_0 rfl rfl rfl ?_
  refine wl_lk (n := 1000000) ji_236_1 jcn_236_257 (by decide) ?_
  refine wl_lcm (x := x) (y := 1000000) ji_236_4 (by unfold wl_q; omega) (by unfold wl_q; omega) (fun cm1 hcm1r hcm1 => ?_)
  refine wl_if (t := 14) ji_236_5 rfl (by omega) (fun (hb2 : (cm1 : Int) ≤ 0) => ?_) (fun (hb2 : ¬ ((cm1 : Int) ≤ 0)) => ?_)
  · refine wl_s (pc' := 15) ji_236_14 rfl rfl rfl ?_
    refine wl_lk (n := -1000000) ji_236_15 jcn_236_259 (by decide) ?_
    refine wl_lcm (x := x) (y := -1000000) ji_236_18 (by unfold wl_q; omega) (by unfold wl_q; omega) (fun cm3 hcm3r hcm3 => ?_)
    refine wl_if (t := 28) ji_236_19 rfl (by omega) (fun (hb4 : (0 : Int) ≤ cm3) => ?_) (fun (hb4 : ¬ ((0 : Int) ≤ cm3)) => ?_)
    · refine wl_s (pc' := 29) ji_236_28 rfl rfl rfl ?_
      exact wl_rlg ji_236_29 jr_236 (⟨rfl, congrArg (fun z => some (wl_L z)) (by unfold clp; omega)⟩)
    · refine wl_lk (n := -1000000) ji_236_22 jcn_236_259 (by decide) ?_
      refine wl_goto (t := 29) ji_236_25 rfl ?_
      exact wl_rlg ji_236_29 jr_236 (⟨rfl, congrArg (fun z => some (wl_L z)) (by unfold clp; omega)⟩)
  · refine wl_lk (n := 1000000) ji_236_8 jcn_236_257 (by decide) ?_
    refine wl_goto (t := 29) ji_236_11 rfl ?_
    exact wl_rlg ji_236_29 jr_236 (⟨rfl, congrArg (fun z => some (wl_L z)) (by unfold clp; omega)⟩)
theorem uc_238 {nn d : Nat} {h : mj_H} {x a b : Int} (hx : wl_q x) (ha : wp_r a) (hb : wp_r b) (hab : a ≤ b) : wl_R nn d 238 0 [some (wl_L x), none, some (wp_i a), some (wp_i b)] [] h (fun v1 h1 => h1 = h ∧ v1 = some (wp_i (max a (min b x)))) := by
  unfold wl_q at hx
  refine wl_s (pc' := 1) ji_238_0 rfl rfl rfl ?_
  refine wl_s (pc' := 2) ji_238_1 rfl rfl rfl ?_
  refine wl_i2g (x := a) ji_238_2 (by omega) ?_
  refine wl_lcm (x := x) (y := a) ji_238_3 (by unfold wl_q; omega) (by unfold wl_q; omega) (fun cm1 hcm1r hcm1 => ?_)
  refine wl_if (t := 11) ji_238_4 rfl (by omega) (fun (hb2 : (0 : Int) ≤ cm1) => ?_) (fun (hb2 : ¬ ((0 : Int) ≤ cm1)) => ?_)
  · refine wl_s (pc' := 12) ji_238_11 rfl rfl rfl ?_
    refine wl_s (pc' := 13) ji_238_12 rfl rfl rfl ?_
    refine wl_i2g (x := b) ji_238_13 (by omega) ?_
    refine wl_lcm (x := x) (y := b) ji_238_14 (by unfold wl_q; omega) (by unfold wl_q; omega) (fun cm3 hcm3r hcm3 => ?_)
    refine wl_if (t := 22) ji_238_15 rfl (by omega) (fun (hb4 : (cm3 : Int) ≤ 0) => ?_) (fun (hb4 : ¬ ((cm3 : Int) ≤ 0)) => ?_)
    · refine wl_s (pc' := 23) ji_238_22 rfl rfl rfl ?_
      refine wl_l2g (x := x) ji_238_23 (by unfold wl_q; omega) ?_
      exact wl_ri ji_238_24 jr_238 rfl (⟨rfl, congrArg (fun z => some (wp_i z)) (by omega)⟩)
    · refine wl_s (pc' := 19) ji_238_18 rfl rfl rfl ?_
      refine wl_goto (t := 24) ji_238_19 rfl ?_
      exact wl_ri ji_238_24 jr_238 rfl (⟨rfl, congrArg (fun z => some (wp_i z)) (by omega)⟩)
  · refine wl_s (pc' := 8) ji_238_7 rfl rfl rfl ?_
    refine wl_goto (t := 24) ji_238_8 rfl ?_
    exact wl_ri ji_238_24 jr_238 rfl (⟨rfl, congrArg (fun z => some (wp_i z)) (by omega)⟩)
theorem uc_235_4 {nn d : Nat} {h : mj_H} {a b : Int} (ha : wp_r a) (hb : wp_r b) : wl_R nn (d + 1) 235 0 [some (wp_i 4), some (wl_L a), none, some (wl_L b), none] [] h (fun v1 h1 => h1 = h ∧ v1 = some (wl_L (clp (a + b)))) := by
  refine wl_s (pc' := 1) ji_235_0 rfl rfl rfl ?_
  refine wl_s (pc' := 28) ji_235_1 rfl rfl rfl ?_
  refine wl_s (pc' := 29) ji_235_28 rfl rfl rfl ?_
  refine wl_s (pc' := 30) ji_235_29 rfl rfl rfl ?_
  refine wl_ladd (x := a) (y := b) ji_235_30 ?_
  refine wl_sc (d := d) (as := [wl_L (a + b)]) (rest := []) ji_235_31 jc_235_261 (Nat.le_of_ble_eq_true rfl) rfl (Nat.le_of_ble_eq_true rfl) rfl (by rw [jn_236]; rfl) (uc_236 (d := d) (x := a + b) (by unfold wl_q; omega)) (fun v1 h1 R => ?_)
  obtain ⟨ee, rfl⟩ := R
  rw [ee]
  clear ee
  show wl_R _ _ 235 34 [some (wp_i 4), some (wl_L a), none, some (wl_L b), none] [wl_L (clp (a + b))] _ _
  exact wl_rlg ji_235_34 jr_235 (⟨rfl, rfl⟩)
theorem uc_235_5 {nn d : Nat} {h : mj_H} {a b : Int} (ha : wp_r a) (hb : wp_r b) : wl_R nn (d + 1) 235 0 [some (wp_i 5), some (wl_L a), none, some (wl_L b), none] [] h (fun v1 h1 => h1 = h ∧ v1 = some (wl_L (clp (a - b)))) := by
  refine wl_s (pc' := 1) ji_235_0 rfl rfl rfl ?_
  refine wl_s (pc' := 35) ji_235_1 rfl rfl rfl ?_
  refine wl_s (pc' := 36) ji_235_35 rfl rfl rfl ?_
  refine wl_s (pc' := 37) ji_235_36 rfl rfl rfl ?_
  refine wl_lsub (x := a) (y := b) ji_235_37 ?_
  refine wl_sc (d := d) (as := [wl_L (a - b)]) (rest := []) ji_235_38 jc_235_261 (Nat.le_of_ble_eq_true rfl) rfl (Nat.le_of_ble_eq_true rfl) rfl (by rw [jn_236]; rfl) (uc_236 (d := d) (x := a - b) (by unfold wl_q; omega)) (fun v1 h1 R => ?_)
  obtain ⟨ee, rfl⟩ := R
  rw [ee]
  clear ee
  show wl_R _ _ 235 41 [some (wp_i 5), some (wl_L a), none, some (wl_L b), none] [wl_L (clp (a - b))] _ _
  exact wl_rlg ji_235_41 jr_235 (⟨rfl, rfl⟩)
theorem uc_235_6 {nn d : Nat} {h : mj_H} {a b : Int} (ha : wp_r a) (hb : wp_r b) : wl_R nn (d + 1) 235 0 [some (wp_i 6), some (wl_L a), none, some (wl_L b), none] [] h (fun v1 h1 => h1 = h ∧ v1 = some (wl_L (clp (a * b)))) := by
  have rm := wl_qm ha hb
  unfold wl_q at rm
  refine wl_s (pc' := 1) ji_235_0 rfl rfl rfl ?_
  refine wl_s (pc' := 42) ji_235_1 rfl rfl rfl ?_
  refine wl_s (pc' := 43) ji_235_42 rfl rfl rfl ?_
  refine wl_s (pc' := 44) ji_235_43 rfl rfl rfl ?_
  refine wl_lmul (x := a) (y := b) ji_235_44 ?_
  refine wl_sc (d := d) (as := [wl_L (a * b)]) (rest := []) ji_235_45 jc_235_261 (Nat.le_of_ble_eq_true rfl) rfl (Nat.le_of_ble_eq_true rfl) rfl (by rw [jn_236]; rfl) (uc_236 (d := d) (x := a * b) (by unfold wl_q; omega)) (fun v1 h1 R => ?_)
  obtain ⟨ee, rfl⟩ := R
  rw [ee]
  clear ee
  show wl_R _ _ 235 48 [some (wp_i 6), some (wl_L a), none, some (wl_L b), none] [wl_L (clp (a * b))] _ _
  exact wl_rlg ji_235_48 jr_235 (⟨rfl, rfl⟩)
theorem uc_235_7 {nn d : Nat} {h : mj_H} {a b : Int} (ha : wp_r a) (hb : wp_r b) : wl_R nn (d + 1) 235 0 [some (wp_i 7), some (wl_L a), none, some (wl_L b), none] [] h (fun v1 h1 => h1 = h ∧ v1 = some (wl_L (clp (if b = 0 then 0 else a.tdiv b)))) := by
  have rm := wl_qt (b := b) ha
  unfold wl_q at rm
  refine wl_s (pc' := 1) ji_235_0 rfl rfl rfl ?_
  refine wl_s (pc' := 49) ji_235_1 rfl rfl rfl ?_
  refine wl_s (pc' := 50) ji_235_49 rfl rfl rfl ?_
  refine wl_s (pc' := 51) (st' := [wl_L 0, wl_L b]) ji_235_50 rfl rfl rfl ?_
  refine wl_lcm (x := b) (y := 0) ji_235_51 (by unfold wl_q; omega) (by unfold wl_q; omega) (fun cm1 hcm1r hcm1 => ?_)
  refine wl_if (t := 59) ji_235_52 rfl (by omega) (fun (hb2 : ¬ (cm1 : Int) = 0) => ?_) (fun (hb2 : ¬ (¬ (cm1 : Int) = 0)) => ?_)
  · refine wl_s (pc' := 60) ji_235_59 rfl rfl rfl ?_
    refine wl_s (pc' := 61) ji_235_60 rfl rfl rfl ?_
    refine wl_ldv (x := a) (y := b) ji_235_61 (by omega) (by omega) (by omega) ?_
    refine wl_sc (d := d) (as := [wl_L (Int.tdiv a b)]) (rest := []) ji_235_62 jc_235_261 (Nat.le_of_ble_eq_true rfl) rfl (Nat.le_of_ble_eq_true rfl) rfl (by rw [jn_236]; rfl) (uc_236 (d := d) (x := Int.tdiv a b) (by unfold wl_q; omega)) (fun v1 h3 R => ?_)
    obtain ⟨ee, rfl⟩ := R
    rw [ee]
    clear ee
    show wl_R _ _ 235 65 [some (wp_i 7), some (wl_L a), none, some (wl_L b), none] [wl_L (clp (Int.tdiv a b))] _ _
    exact wl_rlg ji_235_65 jr_235 (⟨rfl, congrArg (fun z => some (wl_L z)) (by rw [if_neg (by omega)])⟩)
  · refine wl_s (pc' := 56) (st' := [wl_L 0]) ji_235_55 rfl rfl rfl ?_
    refine wl_goto (t := 65) ji_235_56 rfl ?_
    exact wl_rlg ji_235_65 jr_235 (⟨rfl, congrArg (fun z => some (wl_L z)) (by rw [if_pos (by omega)]; decide)⟩)
theorem uc_237_10 {nn d : Nat} {h : mj_H} {a b : Int} (ha : wp_r a) (hb : wp_r b) : wl_R nn d 237 0 [some (wp_i 10), some (wl_L a), none, some (wl_L b), none] [] h (fun v1 h1 => h1 = h ∧ ∃ y : Int, v1 = some (wp_i y) ∧ (y = 0 ∨ y = 1) ∧ (y = 1 ↔ a < b)) := by
  refine wl_s (pc' := 1) ji_237_0 rfl rfl rfl ?_
  refine wl_bp ji_237_1 rfl ?_
  refine wl_icmp (t := 20) ji_237_3 rfl (by omega) (by omega) (fun (hb1 : ¬ (10 : Int) = 10) => (by exfalso; omega)) (fun (hb1 : ¬ (¬ (10 : Int) = 10)) => ?_)
  refine wl_s (pc' := 7) ji_237_6 rfl rfl rfl ?_
  refine wl_s (pc' := 8) ji_237_7 rfl rfl rfl ?_
  refine wl_lcm (x := a) (y := b) ji_237_8 (by unfold wl_q; omega) (by unfold wl_q; omega) (fun cm2 hcm2r hcm2 => ?_)
  refine wl_if (t := 16) ji_237_9 rfl (by omega) (fun (hb3 : (0 : Int) ≤ cm2) => ?_) (fun (hb3 : ¬ ((0 : Int) ≤ cm2)) => ?_)
  · refine wl_s (pc' := 17) ji_237_16 rfl rfl rfl ?_
    refine wl_goto (t := 111) ji_237_17 rfl ?_
    exact wl_ri ji_237_111 jr_237 (pv_nb (by omega)) (⟨rfl, 0, rfl, by omega, by omega⟩)
  · refine wl_s (pc' := 13) ji_237_12 rfl rfl rfl ?_
    refine wl_goto (t := 111) ji_237_13 rfl ?_
    exact wl_ri ji_237_111 jr_237 (pv_nb (by omega)) (⟨rfl, 1, rfl, by omega, by omega⟩)
theorem uc_237_11 {nn d : Nat} {h : mj_H} {a b : Int} (ha : wp_r a) (hb : wp_r b) : wl_R nn d 237 0 [some (wp_i 11), some (wl_L a), none, some (wl_L b), none] [] h (fun v1 h1 => h1 = h ∧ ∃ y : Int, v1 = some (wp_i y) ∧ (y = 0 ∨ y = 1) ∧ (y = 1 ↔ a ≤ b)) := by
  refine wl_s (pc' := 1) ji_237_0 rfl rfl rfl ?_
  refine wl_bp ji_237_1 rfl ?_
  refine wl_icmp (t := 20) ji_237_3 rfl (by omega) (by omega) (fun (hb1 : ¬ (11 : Int) = 10) => ?_) (fun (hb1 : ¬ (¬ (11 : Int) = 10)) => (by exfalso; omega))
  refine wl_s (pc' := 21) ji_237_20 rfl rfl rfl ?_
  refine wl_bp ji_237_21 rfl ?_
  refine wl_icmp (t := 40) ji_237_23 rfl (by omega) (by omega) (fun (hb2 : ¬ (11 : Int) = 11) => (by exfalso; omega)) (fun (hb2 : ¬ (¬ (11 : Int) = 11)) => ?_)
  refine wl_s (pc' := 27) ji_237_26 rfl rfl rfl ?_
  refine wl_s (pc' := 28) ji_237_27 rfl rfl rfl ?_
  refine wl_lcm (x := a) (y := b) ji_237_28 (by unfold wl_q; omega) (by unfold wl_q; omega) (fun cm3 hcm3r hcm3 => ?_)
  refine wl_if (t := 36) ji_237_29 rfl (by omega) (fun (hb4 : (0 : Int) < cm3) => ?_) (fun (hb4 : ¬ ((0 : Int) < cm3)) => ?_)
  · refine wl_s (pc' := 37) ji_237_36 rfl rfl rfl ?_
    refine wl_goto (t := 111) ji_237_37 rfl ?_
    exact wl_ri ji_237_111 jr_237 (pv_nb (by omega)) (⟨rfl, 0, rfl, by omega, by omega⟩)
  · refine wl_s (pc' := 33) ji_237_32 rfl rfl rfl ?_
    refine wl_goto (t := 111) ji_237_33 rfl ?_
    exact wl_ri ji_237_111 jr_237 (pv_nb (by omega)) (⟨rfl, 1, rfl, by omega, by omega⟩)
theorem uc_237_12 {nn d : Nat} {h : mj_H} {a b : Int} (ha : wp_r a) (hb : wp_r b) : wl_R nn d 237 0 [some (wp_i 12), some (wl_L a), none, some (wl_L b), none] [] h (fun v1 h1 => h1 = h ∧ ∃ y : Int, v1 = some (wp_i y) ∧ (y = 0 ∨ y = 1) ∧ (y = 1 ↔ b < a)) := by
  refine wl_s (pc' := 1) ji_237_0 rfl rfl rfl ?_
  refine wl_bp ji_237_1 rfl ?_
  refine wl_icmp (t := 20) ji_237_3 rfl (by omega) (by omega) (fun (hb1 : ¬ (12 : Int) = 10) => ?_) (fun (hb1 : ¬ (¬ (12 : Int) = 10)) => (by exfalso; omega))
  refine wl_s (pc' := 21) ji_237_20 rfl rfl rfl ?_
  refine wl_bp ji_237_21 rfl ?_
  refine wl_icmp (t := 40) ji_237_23 rfl (by omega) (by omega) (fun (hb2 : ¬ (12 : Int) = 11) => ?_) (fun (hb2 : ¬ (¬ (12 : Int) = 11)) => (by exfalso; omega))
  refine wl_s (pc' := 41) ji_237_40 rfl rfl rfl ?_
  refine wl_bp ji_237_41 rfl ?_
  refine wl_icmp (t := 60) ji_237_43 rfl (by omega) (by omega) (fun (hb3 : ¬ (12 : Int) = 12) => (by exfalso; omega)) (fun (hb3 : ¬ (¬ (12 : Int) = 12)) => ?_)
  refine wl_s (pc' := 47) ji_237_46 rfl rfl rfl ?_
  refine wl_s (pc' := 48) ji_237_47 rfl rfl rfl ?_
  refine wl_lcm (x := a) (y := b) ji_237_48 (by unfold wl_q; omega) (by unfold wl_q; omega) (fun cm4 hcm4r hcm4 => ?_)
  refine wl_if (t := 56) ji_237_49 rfl (by omega) (fun (hb5 : (cm4 : Int) ≤ 0) => ?_) (fun (hb5 : ¬ ((cm4 : Int) ≤ 0)) => ?_)
  · refine wl_s (pc' := 57) ji_237_56 rfl rfl rfl ?_
    refine wl_goto (t := 111) ji_237_57 rfl ?_
    exact wl_ri ji_237_111 jr_237 (pv_nb (by omega)) (⟨rfl, 0, rfl, by omega, by omega⟩)
  · refine wl_s (pc' := 53) ji_237_52 rfl rfl rfl ?_
    refine wl_goto (t := 111) ji_237_53 rfl ?_
    exact wl_ri ji_237_111 jr_237 (pv_nb (by omega)) (⟨rfl, 1, rfl, by omega, by omega⟩)
theorem uc_237_13 {nn d : Nat} {h : mj_H} {a b : Int} (ha : wp_r a) (hb : wp_r b) : wl_R nn d 237 0 [some (wp_i 13), some (wl_L a), none, some (wl_L b), none] [] h (fun v1 h1 => h1 = h ∧ ∃ y : Int, v1 = some (wp_i y) ∧ (y = 0 ∨ y = 1) ∧ (y = 1 ↔ b ≤ a)) := by
  refine wl_s (pc' := 1) ji_237_0 rfl rfl rfl ?_
  refine wl_bp ji_237_1 rfl ?_
  refine wl_icmp (t := 20) ji_237_3 rfl (by omega) (by omega) (fun (hb1 : ¬ (13 : Int) = 10) => ?_) (fun (hb1 : ¬ (¬ (13 : Int) = 10)) => (by exfalso; omega))
  refine wl_s (pc' := 21) ji_237_20 rfl rfl rfl ?_
  refine wl_bp ji_237_21 rfl ?_
  refine wl_icmp (t := 40) ji_237_23 rfl (by omega) (by omega) (fun (hb2 : ¬ (13 : Int) = 11) => ?_) (fun (hb2 : ¬ (¬ (13 : Int) = 11)) => (by exfalso; omega))
  refine wl_s (pc' := 41) ji_237_40 rfl rfl rfl ?_
  refine wl_bp ji_237_41 rfl ?_
  refine wl_icmp (t := 60) ji_237_43 rfl (by omega) (by omega) (fun (hb3 : ¬ (13 : Int) = 12) => ?_) (fun (hb3 : ¬ (¬ (13 : Int) = 12)) => (by exfalso; omega))
  refine wl_s (pc' := 61) ji_237_60 rfl rfl rfl ?_
  refine wl_bp ji_237_61 rfl ?_
  refine wl_icmp (t := 80) ji_237_63 rfl (by omega) (by omega) (fun (hb4 : ¬ (13 : Int) = 13) => (by exfalso; omega)) (fun (hb4 : ¬ (¬ (13 : Int) = 13)) => ?_)
  refine wl_s (pc' := 67) ji_237_66 rfl rfl rfl ?_
  refine wl_s (pc' := 68) ji_237_67 rfl rfl rfl ?_
  refine wl_lcm (x := a) (y := b) ji_237_68 (by unfold wl_q; omega) (by unfold wl_q; omega) (fun cm5 hcm5r hcm5 => ?_)
  refine wl_if (t := 76) ji_237_69 rfl (by omega) (fun (hb6 : (cm5 : Int) < 0) => ?_) (fun (hb6 : ¬ ((cm5 : Int) < 0)) => ?_)
  · refine wl_s (pc' := 77) ji_237_76 rfl rfl rfl ?_
    refine wl_goto (t := 111) ji_237_77 rfl ?_
    exact wl_ri ji_237_111 jr_237 (pv_nb (by omega)) (⟨rfl, 0, rfl, by omega, by omega⟩)
  · refine wl_s (pc' := 73) ji_237_72 rfl rfl rfl ?_
    refine wl_goto (t := 111) ji_237_73 rfl ?_
    exact wl_ri ji_237_111 jr_237 (pv_nb (by omega)) (⟨rfl, 1, rfl, by omega, by omega⟩)
theorem uc_237_14 {nn d : Nat} {h : mj_H} {a b : Int} (ha : wp_r a) (hb : wp_r b) : wl_R nn d 237 0 [some (wp_i 14), some (wl_L a), none, some (wl_L b), none] [] h (fun v1 h1 => h1 = h ∧ ∃ y : Int, v1 = some (wp_i y) ∧ (y = 0 ∨ y = 1) ∧ (y = 1 ↔ a = b)) := by
  refine wl_s (pc' := 1) ji_237_0 rfl rfl rfl ?_
  refine wl_bp ji_237_1 rfl ?_
  refine wl_icmp (t := 20) ji_237_3 rfl (by omega) (by omega) (fun (hb1 : ¬ (14 : Int) = 10) => ?_) (fun (hb1 : ¬ (¬ (14 : Int) = 10)) => (by exfalso; omega))
  refine wl_s (pc' := 21) ji_237_20 rfl rfl rfl ?_
  refine wl_bp ji_237_21 rfl ?_
  refine wl_icmp (t := 40) ji_237_23 rfl (by omega) (by omega) (fun (hb2 : ¬ (14 : Int) = 11) => ?_) (fun (hb2 : ¬ (¬ (14 : Int) = 11)) => (by exfalso; omega))
  refine wl_s (pc' := 41) ji_237_40 rfl rfl rfl ?_
  refine wl_bp ji_237_41 rfl ?_
  refine wl_icmp (t := 60) ji_237_43 rfl (by omega) (by omega) (fun (hb3 : ¬ (14 : Int) = 12) => ?_) (fun (hb3 : ¬ (¬ (14 : Int) = 12)) => (by exfalso; omega))
  refine wl_s (pc' := 61) ji_237_60 rfl rfl rfl ?_
  refine wl_bp ji_237_61 rfl ?_
  refine wl_icmp (t := 80) ji_237_63 rfl (by omega) (by omega) (fun (hb4 : ¬ (14 : Int) = 13) => ?_) (fun (hb4 : ¬ (¬ (14 : Int) = 13)) => (by exfalso; omega))
  refine wl_s (pc' := 81) ji_237_80 rfl rfl rfl ?_
  refine wl_bp ji_237_81 rfl ?_
  refine wl_icmp (t := 100) ji_237_83 rfl (by omega) (by omega) (fun (hb5 : ¬ (14 : Int) = 14) => (by exfalso; omega)) (fun (hb5 : ¬ (¬ (14 : Int) = 14)) => ?_)
  refine wl_s (pc' := 87) ji_237_86 rfl rfl rfl ?_
  refine wl_s (pc' := 88) ji_237_87 rfl rfl rfl ?_
  refine wl_lcm (x := a) (y := b) ji_237_88 (by unfold wl_q; omega) (by unfold wl_q; omega) (fun cm6 hcm6r hcm6 => ?_)
  refine wl_if (t := 96) ji_237_89 rfl (by omega) (fun (hb7 : ¬ (cm6 : Int) = 0) => ?_) (fun (hb7 : ¬ (¬ (cm6 : Int) = 0)) => ?_)
  · refine wl_s (pc' := 97) ji_237_96 rfl rfl rfl ?_
    refine wl_goto (t := 111) ji_237_97 rfl ?_
    exact wl_ri ji_237_111 jr_237 (pv_nb (by omega)) (⟨rfl, 0, rfl, by omega, by omega⟩)
  · refine wl_s (pc' := 93) ji_237_92 rfl rfl rfl ?_
    refine wl_goto (t := 111) ji_237_93 rfl ?_
    exact wl_ri ji_237_111 jr_237 (pv_nb (by omega)) (⟨rfl, 1, rfl, by omega, by omega⟩)
theorem uc_237_15 {nn d : Nat} {h : mj_H} {a b : Int} (ha : wp_r a) (hb : wp_r b) : wl_R nn d 237 0 [some (wp_i 15), some (wl_L a), none, some (wl_L b), none] [] h (fun v1 h1 => h1 = h ∧ ∃ y : Int, v1 = some (wp_i y) ∧ (y = 0 ∨ y = 1) ∧ (y = 1 ↔ ¬ a = b)) := by
  refine wl_s (pc' := 1) ji_237_0 rfl rfl rfl ?_
  refine wl_bp ji_237_1 rfl ?_
  refine wl_icmp (t := 20) ji_237_3 rfl (by omega) (by omega) (fun (hb1 : ¬ (15 : Int) = 10) => ?_) (fun (hb1 : ¬ (¬ (15 : Int) = 10)) => (by exfalso; omega))
  refine wl_s (pc' := 21) ji_237_20 rfl rfl rfl ?_
  refine wl_bp ji_237_21 rfl ?_
  refine wl_icmp (t := 40) ji_237_23 rfl (by omega) (by omega) (fun (hb2 : ¬ (15 : Int) = 11) => ?_) (fun (hb2 : ¬ (¬ (15 : Int) = 11)) => (by exfalso; omega))
  refine wl_s (pc' := 41) ji_237_40 rfl rfl rfl ?_
  refine wl_bp ji_237_41 rfl ?_
  refine wl_icmp (t := 60) ji_237_43 rfl (by omega) (by omega) (fun (hb3 : ¬ (15 : Int) = 12) => ?_) (fun (hb3 : ¬ (¬ (15 : Int) = 12)) => (by exfalso; omega))
  refine wl_s (pc' := 61) ji_237_60 rfl rfl rfl ?_
  refine wl_bp ji_237_61 rfl ?_
  refine wl_icmp (t := 80) ji_237_63 rfl (by omega) (by omega) (fun (hb4 : ¬ (15 : Int) = 13) => ?_) (fun (hb4 : ¬ (¬ (15 : Int) = 13)) => (by exfalso; omega))
  refine wl_s (pc' := 81) ji_237_80 rfl rfl rfl ?_
  refine wl_bp ji_237_81 rfl ?_
  refine wl_icmp (t := 100) ji_237_83 rfl (by omega) (by omega) (fun (hb5 : ¬ (15 : Int) = 14) => ?_) (fun (hb5 : ¬ (¬ (15 : Int) = 14)) => (by exfalso; omega))
  refine wl_s (pc' := 101) ji_237_100 rfl rfl rfl ?_
  refine wl_s (pc' := 102) ji_237_101 rfl rfl rfl ?_
  refine wl_lcm (x := a) (y := b) ji_237_102 (by unfold wl_q; omega) (by unfold wl_q; omega) (fun cm6 hcm6r hcm6 => ?_)
  refine wl_if (t := 110) ji_237_103 rfl (by omega) (fun (hb7 : (cm6 : Int) = 0) => ?_) (fun (hb7 : ¬ ((cm6 : Int) = 0)) => ?_)
  · refine wl_s (pc' := 111) ji_237_110 rfl rfl rfl ?_
    exact wl_ri ji_237_111 jr_237 (pv_nb (by omega)) (⟨rfl, 0, rfl, by omega, by omega⟩)
  · refine wl_s (pc' := 107) ji_237_106 rfl rfl rfl ?_
    refine wl_goto (t := 111) ji_237_107 rfl ?_
    exact wl_ri ji_237_111 jr_237 (pv_nb (by omega)) (⟨rfl, 1, rfl, by omega, by omega⟩)
