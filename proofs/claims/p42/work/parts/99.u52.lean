/-! -/
set_option maxRecDepth 100000 in
theorem ji_258_0 : mj_ins 258 0 = some (.iload_n 1) := by decide +kernel
set_option maxRecDepth 100000 in
theorem ji_258_1 : mj_ins 258 1 = some (.aload_n 0) := by decide +kernel
set_option maxRecDepth 100000 in
theorem ji_258_2 : mj_ins 258 2 = some (.getfield 7) := by decide +kernel
set_option maxRecDepth 100000 in
theorem jf_258_7 : mj_fld 258 7 = some (11, 0, (.array .int), false) := by decide +kernel
set_option maxRecDepth 100000 in
theorem ji_258_5 : mj_ins 258 5 = some (.iconst 1) := by decide +kernel
set_option maxRecDepth 100000 in
theorem ji_258_6 : mj_ins 258 6 = some (.iaload) := by decide +kernel
set_option maxRecDepth 100000 in
theorem ji_258_7 : mj_ins 258 7 = some (.irem) := by decide +kernel
set_option maxRecDepth 100000 in
theorem ji_258_8 : mj_ins 258 8 = some (.istore_n 2) := by decide +kernel
set_option maxRecDepth 100000 in
theorem ji_258_9 : mj_ins 258 9 = some (.iload_n 1) := by decide +kernel
set_option maxRecDepth 100000 in
theorem ji_258_10 : mj_ins 258 10 = some (.aload_n 0) := by decide +kernel
set_option maxRecDepth 100000 in
theorem ji_258_11 : mj_ins 258 11 = some (.getfield 7) := by decide +kernel
set_option maxRecDepth 100000 in
theorem ji_258_14 : mj_ins 258 14 = some (.iconst 0) := by decide +kernel
set_option maxRecDepth 100000 in
theorem ji_258_15 : mj_ins 258 15 = some (.iaload) := by decide +kernel
set_option maxRecDepth 100000 in
theorem ji_258_16 : mj_ins 258 16 = some (.irem) := by decide +kernel
set_option maxRecDepth 100000 in
theorem ji_258_17 : mj_ins 258 17 = some (.istore_n 3) := by decide +kernel
set_option maxRecDepth 100000 in
theorem ji_258_18 : mj_ins 258 18 = some (.iload_n 1) := by decide +kernel
set_option maxRecDepth 100000 in
theorem ji_258_19 : mj_ins 258 19 = some (.bipush 7) := by decide +kernel
set_option maxRecDepth 100000 in
theorem ji_258_21 : mj_ins 258 21 = some (.irem) := by decide +kernel
set_option maxRecDepth 100000 in
theorem ji_258_22 : mj_ins 258 22 = some (.tableswitch 103 0 3 #[30, 48, 66, 75]) := by decide +kernel
set_option maxRecDepth 100000 in
theorem ji_258_52 : mj_ins 258 52 = some (.aload_n 0) := by decide +kernel
set_option maxRecDepth 100000 in
theorem ji_258_53 : mj_ins 258 53 = some (.iload_n 2) := by decide +kernel
set_option maxRecDepth 100000 in
theorem ji_258_54 : mj_ins 258 54 = some (.iload_n 3) := by decide +kernel
set_option maxRecDepth 100000 in
theorem ji_258_55 : mj_ins 258 55 = some (.invokevirtual 351) := by decide +kernel
set_option maxRecDepth 100000 in
theorem jc_258_351 : mj_cal 258 351 = some (2, 249, 2) := by decide +kernel
set_option maxRecDepth 100000 in
theorem ji_258_58 : mj_ins 258 58 = some (.ifCond .eq 84) := by decide +kernel
set_option maxRecDepth 100000 in
theorem ji_258_142 : mj_ins 258 142 = some (.return_) := by decide +kernel
set_option maxRecDepth 100000 in
theorem jr_258 : mj_ret 258 = none := by decide +kernel
set_option maxRecDepth 100000 in
theorem ji_258_61 : mj_ins 258 61 = some (.aload_n 0) := by decide +kernel
set_option maxRecDepth 100000 in
theorem ji_258_62 : mj_ins 258 62 = some (.iload_n 2) := by decide +kernel
set_option maxRecDepth 100000 in
theorem ji_258_63 : mj_ins 258 63 = some (.iload_n 3) := by decide +kernel
set_option maxRecDepth 100000 in
theorem ji_258_64 : mj_ins 258 64 = some (.invokevirtual 354) := by decide +kernel
set_option maxRecDepth 100000 in
theorem jc_258_354 : mj_cal 258 354 = some (2, 250, 2) := by decide +kernel
set_option maxRecDepth 100000 in
theorem ji_258_67 : mj_ins 258 67 = some (.goto 75) := by decide +kernel
set_option maxRecDepth 100000 in
theorem ji_258_70 : mj_ins 258 70 = some (.aload_n 0) := by decide +kernel
set_option maxRecDepth 100000 in
theorem ji_258_71 : mj_ins 258 71 = some (.iload_n 2) := by decide +kernel
set_option maxRecDepth 100000 in
theorem ji_258_72 : mj_ins 258 72 = some (.iload_n 3) := by decide +kernel
set_option maxRecDepth 100000 in
theorem ji_258_73 : mj_ins 258 73 = some (.invokevirtual 351) := by decide +kernel
set_option maxRecDepth 100000 in
theorem ji_258_76 : mj_ins 258 76 = some (.ifCond .eq 66) := by decide +kernel
set_option maxRecDepth 100000 in
theorem ji_258_79 : mj_ins 258 79 = some (.aload_n 0) := by decide +kernel
set_option maxRecDepth 100000 in
theorem ji_258_80 : mj_ins 258 80 = some (.iload_n 2) := by decide +kernel
set_option maxRecDepth 100000 in
theorem ji_258_81 : mj_ins 258 81 = some (.iload_n 3) := by decide +kernel
set_option maxRecDepth 100000 in
theorem ji_258_82 : mj_ins 258 82 = some (.invokevirtual 354) := by decide +kernel
set_option maxRecDepth 100000 in
theorem ji_258_85 : mj_ins 258 85 = some (.goto 57) := by decide +kernel
set_option maxRecDepth 100000 in
theorem ji_258_88 : mj_ins 258 88 = some (.aload_n 0) := by decide +kernel
set_option maxRecDepth 100000 in
theorem ji_258_89 : mj_ins 258 89 = some (.iload_n 2) := by decide +kernel
set_option maxRecDepth 100000 in
theorem ji_258_90 : mj_ins 258 90 = some (.iload_n 3) := by decide +kernel
set_option maxRecDepth 100000 in
theorem ji_258_91 : mj_ins 258 91 = some (.invokevirtual 324) := by decide +kernel
set_option maxRecDepth 100000 in
theorem jc_258_324 : mj_cal 258 324 = some (2, 241, 2) := by decide +kernel
set_option maxRecDepth 100000 in
theorem ji_258_94 : mj_ins 258 94 = some (.goto 48) := by decide +kernel
set_option maxRecDepth 100000 in
theorem ji_258_97 : mj_ins 258 97 = some (.aload_n 0) := by decide +kernel
set_option maxRecDepth 100000 in
theorem ji_258_98 : mj_ins 258 98 = some (.iload_n 3) := by decide +kernel
set_option maxRecDepth 100000 in
theorem ji_258_99 : mj_ins 258 99 = some (.invokevirtual 289) := by decide +kernel
set_option maxRecDepth 100000 in
theorem jc_258_289 : mj_cal 258 289 = some (2, 220, 1) := by decide +kernel
set_option maxRecDepth 100000 in
theorem ji_258_102 : mj_ins 258 102 = some (.iconst 1) := by decide +kernel
set_option maxRecDepth 100000 in
theorem ji_258_103 : mj_ins 258 103 = some (.isub) := by decide +kernel
set_option maxRecDepth 100000 in
theorem ji_258_104 : mj_ins 258 104 = some (.iload_n 1) := by decide +kernel
set_option maxRecDepth 100000 in
theorem ji_258_105 : mj_ins 258 105 = some (.iconst 3) := by decide +kernel
set_option maxRecDepth 100000 in
theorem ji_258_106 : mj_ins 258 106 = some (.irem) := by decide +kernel
set_option maxRecDepth 100000 in
theorem ji_258_107 : mj_ins 258 107 = some (.isub) := by decide +kernel
set_option maxRecDepth 100000 in
theorem ji_258_108 : mj_ins 258 108 = some (.iconst 1) := by decide +kernel
set_option maxRecDepth 100000 in
theorem ji_258_109 : mj_ins 258 109 = some (.if_icmp .lt 33) := by decide +kernel
set_option maxRecDepth 100000 in
theorem ji_258_112 : mj_ins 258 112 = some (.aload_n 0) := by decide +kernel
set_option maxRecDepth 100000 in
theorem ji_258_113 : mj_ins 258 113 = some (.iload_n 3) := by decide +kernel
set_option maxRecDepth 100000 in
theorem ji_258_114 : mj_ins 258 114 = some (.iconst 1) := by decide +kernel
set_option maxRecDepth 100000 in
theorem ji_258_115 : mj_ins 258 115 = some (.iload_n 1) := by decide +kernel
set_option maxRecDepth 100000 in
theorem ji_258_116 : mj_ins 258 116 = some (.iconst 3) := by decide +kernel
set_option maxRecDepth 100000 in
theorem ji_258_117 : mj_ins 258 117 = some (.irem) := by decide +kernel
set_option maxRecDepth 100000 in
theorem ji_258_118 : mj_ins 258 118 = some (.iadd) := by decide +kernel
set_option maxRecDepth 100000 in
theorem ji_258_119 : mj_ins 258 119 = some (.invokevirtual 357) := by decide +kernel
set_option maxRecDepth 100000 in
theorem jc_258_357 : mj_cal 258 357 = some (2, 253, 2) := by decide +kernel
set_option maxRecDepth 100000 in
theorem ji_258_122 : mj_ins 258 122 = some (.goto 20) := by decide +kernel
set_option maxRecDepth 100000 in
theorem ji_258_125 : mj_ins 258 125 = some (.aload_n 0) := by decide +kernel
set_option maxRecDepth 100000 in
theorem ji_258_126 : mj_ins 258 126 = some (.getfield 7) := by decide +kernel
set_option maxRecDepth 100000 in
theorem ji_258_129 : mj_ins 258 129 = some (.bipush 8) := by decide +kernel
set_option maxRecDepth 100000 in
theorem ji_258_131 : mj_ins 258 131 = some (.iaload) := by decide +kernel
set_option maxRecDepth 100000 in
theorem ji_258_132 : mj_ins 258 132 = some (.sipush 9999) := by decide +kernel
set_option maxRecDepth 100000 in
theorem ji_258_135 : mj_ins 258 135 = some (.if_icmp .ge 7) := by decide +kernel
set_option maxRecDepth 100000 in
theorem ji_258_138 : mj_ins 258 138 = some (.aload_n 0) := by decide +kernel
set_option maxRecDepth 100000 in
theorem ji_258_139 : mj_ins 258 139 = some (.invokevirtual 339) := by decide +kernel
set_option maxRecDepth 100000 in
theorem jc_258_339 : mj_cal 258 339 = some (2, 221, 0) := by decide +kernel
/-! a draw of centuries, in the reference; laid by program (wp_u52.py) -/
def hapD (cr : crs) (s : sg_) (q w p n : Int) : sg_ := if q = 0 ∨ q = 1 then (if mrR s w p then rsR s w p else s)
  else if q = 2 then gnR s w p
  else if q = 3 then (if n < s 139 (16 + 3 * p) then prR s p n else s)
  else if s 139 8 < 9999 then hourR cr s else s
def hapR (cr : crs) (s : sg_) (x : Int) : sg_ := hapD cr s (x % 7) (x % s 139 1) (x % s 139 0) (1 + x % 3)
def ctR (cr : crs) (s : sg_) : sg_ := hapR cr (up s 139 11 ((s 139 11 * 283 + 181) % 30307)) (s 139 11)
theorem uc_258 {nn d : Nat} {h : mj_H} {s : sg_} (C : CS h s) {cr : crs} {M : Int} (hM : M ≤ 2000000000) (T : RT s cr M) (h0 : ¬ s 139 0 = 0) (h1 : ¬ s 139 1 = 0) {x : Int} (hx : 0 ≤ x ∧ x ≤ 30306) : wl_R nn (d + 9) 258 0 [some (.ref 138), some (wp_i x), none, none] [] h (fun v1 h1 => v1 = none ∧ CS h1 (hapR cr s x)) := by
  have i0 := T.rs.g.p0
  have i1 := T.rs.g.w0
  have i8 := T.rs.g.o
  refine wl_s (pc' := 1) ji_258_0 rfl rfl rfl ?_
  refine wl_s (pc' := 2) ji_258_1 rfl rfl rfl ?_
  refine cs_gr (r := 139) (k := 0) C (by decide) sq_138 rfl ji_258_2 jf_258_7 ?_
  refine wl_s (pc' := 6) ji_258_5 rfl rfl rfl ?_
  refine cs_l (x := 1) C (by decide) (by decide) sq_139 (by omega) ji_258_6 (fun ld10 ld11 ld12 => ?_)
  refine wl_irem (x := x) (y := s 139 1) ji_258_7 (by omega) (by omega) ?_
  have wa := Int.emod_nonneg (x) (show ¬ s 139 1 = 0 by omega)
  have wb := Int.emod_lt_of_pos (x) (show 0 < s 139 1 by omega)
  obtain ⟨w, ew⟩ : ∃ z9_, x % (s 139 1) = z9_ := ⟨_, rfl⟩
  rw [ew] at wa wb ⊢
  refine wl_s (pc' := 9) (lv' := [some (.ref 138), some (wp_i x), some (wp_i w), none]) ji_258_8 rfl rfl rfl ?_
  refine wl_s (pc' := 10) ji_258_9 rfl rfl rfl ?_
  refine wl_s (pc' := 11) ji_258_10 rfl rfl rfl ?_
  refine cs_gr (r := 139) (k := 0) C (by decide) sq_138 rfl ji_258_11 jf_258_7 ?_
  refine wl_s (pc' := 15) ji_258_14 rfl rfl rfl ?_
  refine cs_l (x := 0) C (by decide) (by decide) sq_139 (by omega) ji_258_15 (fun ld20 ld21 ld22 => ?_)
  refine wl_irem (x := x) (y := s 139 0) ji_258_16 (by omega) (by omega) ?_
  have pa := Int.emod_nonneg (x) (show ¬ s 139 0 = 0 by omega)
  have pb := Int.emod_lt_of_pos (x) (show 0 < s 139 0 by omega)
  obtain ⟨p, ep⟩ : ∃ z9_, x % (s 139 0) = z9_ := ⟨_, rfl⟩
  rw [ep] at pa pb ⊢
  refine wl_s (pc' := 18) (lv' := [some (.ref 138), some (wp_i x), some (wp_i w), some (wp_i p)]) ji_258_17 rfl rfl rfl ?_
  refine wl_s (pc' := 19) ji_258_18 rfl rfl rfl ?_
  refine wl_bp ji_258_19 rfl ?_
  refine wl_irem (x := x) (y := 7) ji_258_21 (by omega) (by omega) ?_
  obtain ⟨q, eq⟩ : ∃ z9_, x % 7 = z9_ := ⟨_, rfl⟩
  rw [eq]
  have hq : q = 0 ∨ q = 1 ∨ q = 2 ∨ q = 3 ∨ q = 4 ∨ q = 5 ∨ q = 6 := by omega
  rcases hq with hq | hq | hq | hq | hq | hq | hq
  · rw [hq]
    refine wl_s (pc' := 52) ji_258_22 rfl rfl rfl ?_
    refine wl_s (pc' := 53) ji_258_52 rfl rfl rfl ?_
    refine wl_s (pc' := 54) ji_258_53 rfl rfl rfl ?_
    refine wl_s (pc' := 55) ji_258_54 rfl rfl rfl ?_
    obtain ⟨q4, hq4⟩ := cs_c C (by decide) sq_138
    refine wl_vc (d := d + 8) (as := [.ref 138, wp_i w, wp_i p]) (rest := []) ji_258_55 jc_258_351 rfl hq4 jk_249.symm (Nat.le_of_ble_eq_true rfl) rfl (by rw [jn_249]; rfl) (uc_249 (d := d + 5) C i1 (w := w) (p := p) (by omega) (by omega)) (fun v1 h3 R => ?_)
    obtain ⟨ee, y5, rfl, hy5a, hy5b⟩ := R
    rw [ee]
    clear ee
    show wl_R _ _ 258 58 [some (.ref 138), some (wp_i x), some (wp_i w), some (wp_i p)] [wp_i y5] _ _
    refine wl_if (t := 142) ji_258_58 rfl (by omega) (fun (hb6 : (y5 : Int) = 0) => ?_) (fun (hb6 : ¬ ((y5 : Int) = 0)) => ?_)
    · exact wl_rv ji_258_142 jr_258 (⟨rfl, cs_mono C (by unfold hapR; rw [ew, ep, eq, hq]; unfold hapD; rw [if_pos (by decide), if_neg (fun z => by have := hy5b.mpr z; omega)])⟩)
    · refine wl_s (pc' := 62) ji_258_61 rfl rfl rfl ?_
      refine wl_s (pc' := 63) ji_258_62 rfl rfl rfl ?_
      refine wl_s (pc' := 64) ji_258_63 rfl rfl rfl ?_
      obtain ⟨q8, hq8⟩ := cs_c C (by decide) sq_138
      refine wl_vc (d := d + 8) (as := [.ref 138, wp_i w, wp_i p]) (rest := []) ji_258_64 jc_258_354 rfl hq8 jk_250.symm (Nat.le_of_ble_eq_true rfl) rfl (by rw [jn_250]; rfl) (uc_250 (d := d + 7) C (w := w) (p := p) (by omega) (by omega)) (fun v1 h7 R => ?_)
      obtain ⟨rfl, C⟩ := R
      have C : CS h7 (rsR s w p) := C
      show wl_R _ _ 258 67 [some (.ref 138), some (wp_i x), some (wp_i w), some (wp_i p)] [] h7 _
      refine wl_goto (t := 142) ji_258_67 rfl ?_
      exact wl_rv ji_258_142 jr_258 (⟨rfl, cs_mono C (by unfold hapR; rw [ew, ep, eq, hq]; unfold hapD; rw [if_pos (by decide), if_pos (hy5b.mp (by omega))])⟩)
  · rw [hq]
    refine wl_s (pc' := 70) ji_258_22 rfl rfl rfl ?_
    refine wl_s (pc' := 71) ji_258_70 rfl rfl rfl ?_
    refine wl_s (pc' := 72) ji_258_71 rfl rfl rfl ?_
    refine wl_s (pc' := 73) ji_258_72 rfl rfl rfl ?_
    obtain ⟨q10, hq10⟩ := cs_c C (by decide) sq_138
    refine wl_vc (d := d + 8) (as := [.ref 138, wp_i w, wp_i p]) (rest := []) ji_258_73 jc_258_351 rfl hq10 jk_249.symm (Nat.le_of_ble_eq_true rfl) rfl (by rw [jn_249]; rfl) (uc_249 (d := d + 5) C i1 (w := w) (p := p) (by omega) (by omega)) (fun v1 h9 R => ?_)
    obtain ⟨ee, y11, rfl, hy11a, hy11b⟩ := R
    rw [ee]
    clear ee
    show wl_R _ _ 258 76 [some (.ref 138), some (wp_i x), some (wp_i w), some (wp_i p)] [wp_i y11] _ _
    refine wl_if (t := 142) ji_258_76 rfl (by omega) (fun (hb12 : (y11 : Int) = 0) => ?_) (fun (hb12 : ¬ ((y11 : Int) = 0)) => ?_)
    · exact wl_rv ji_258_142 jr_258 (⟨rfl, cs_mono C (by unfold hapR; rw [ew, ep, eq, hq]; unfold hapD; rw [if_pos (by decide), if_neg (fun z => by have := hy11b.mpr z; omega)])⟩)
    · refine wl_s (pc' := 80) ji_258_79 rfl rfl rfl ?_
      refine wl_s (pc' := 81) ji_258_80 rfl rfl rfl ?_
      refine wl_s (pc' := 82) ji_258_81 rfl rfl rfl ?_
      obtain ⟨q14, hq14⟩ := cs_c C (by decide) sq_138
      refine wl_vc (d := d + 8) (as := [.ref 138, wp_i w, wp_i p]) (rest := []) ji_258_82 jc_258_354 rfl hq14 jk_250.symm (Nat.le_of_ble_eq_true rfl) rfl (by rw [jn_250]; rfl) (uc_250 (d := d + 7) C (w := w) (p := p) (by omega) (by omega)) (fun v1 h13 R => ?_)
      obtain ⟨rfl, C⟩ := R
      have C : CS h13 (rsR s w p) := C
      show wl_R _ _ 258 85 [some (.ref 138), some (wp_i x), some (wp_i w), some (wp_i p)] [] h13 _
      refine wl_goto (t := 142) ji_258_85 rfl ?_
      exact wl_rv ji_258_142 jr_258 (⟨rfl, cs_mono C (by unfold hapR; rw [ew, ep, eq, hq]; unfold hapD; rw [if_pos (by decide), if_pos (hy11b.mp (by omega))])⟩)
  · rw [hq]
    refine wl_s (pc' := 88) ji_258_22 rfl rfl rfl ?_
    refine wl_s (pc' := 89) ji_258_88 rfl rfl rfl ?_
    refine wl_s (pc' := 90) ji_258_89 rfl rfl rfl ?_
    refine wl_s (pc' := 91) ji_258_90 rfl rfl rfl ?_
    obtain ⟨q16, hq16⟩ := cs_c C (by decide) sq_138
    refine wl_vc (d := d + 8) (as := [.ref 138, wp_i w, wp_i p]) (rest := []) ji_258_91 jc_258_324 rfl hq16 jk_241.symm (Nat.le_of_ble_eq_true rfl) rfl (by rw [jn_241]; rfl) (uc_241 (d := d + 7) C (w := w) (p := p) (by omega) (by omega)) (fun v1 h15 R => ?_)
    obtain ⟨rfl, C⟩ := R
    have C : CS h15 (gnR s w p) := C
    show wl_R _ _ 258 94 [some (.ref 138), some (wp_i x), some (wp_i w), some (wp_i p)] [] h15 _
    refine wl_goto (t := 142) ji_258_94 rfl ?_
    exact wl_rv ji_258_142 jr_258 (⟨rfl, cs_mono C (by unfold hapR; rw [ew, ep, eq, hq]; unfold hapD; rw [if_neg (by decide), if_pos rfl])⟩)
  · rw [hq]
    refine wl_s (pc' := 97) ji_258_22 rfl rfl rfl ?_
    refine wl_s (pc' := 98) ji_258_97 rfl rfl rfl ?_
    refine wl_s (pc' := 99) ji_258_98 rfl rfl rfl ?_
    obtain ⟨q18, hq18⟩ := cs_c C (by decide) sq_138
    refine wl_vc (d := d + 8) (as := [.ref 138, wp_i p]) (rest := []) ji_258_99 jc_258_289 rfl hq18 jk_220.symm (Nat.le_of_ble_eq_true rfl) rfl (by rw [jn_220]; rfl) (uc_220 (d := d + 8) C (p := p) (by omega)) (fun v1 h17 R => ?_)
    obtain ⟨ee, rfl⟩ := R
    rw [ee]
    clear ee
    show wl_R _ _ 258 102 [some (.ref 138), some (wp_i x), some (wp_i w), some (wp_i p)] [wp_i (s 139 (16 + 3 * p))] _ _
    have rt := T.rs.g.a p (by omega)
    refine wl_s (pc' := 103) ji_258_102 rfl rfl rfl ?_
    refine wl_isub (x := s 139 (16 + 3 * p)) (y := 1) (z := s 139 (16 + 3 * p) - 1) ji_258_103 (by omega) ?_
    refine wl_s (pc' := 105) ji_258_104 rfl rfl rfl ?_
    refine wl_s (pc' := 106) ji_258_105 rfl rfl rfl ?_
    refine wl_irem (x := x) (y := 3) ji_258_106 (by omega) (by omega) ?_
    obtain ⟨c3, ec3⟩ : ∃ z9_, x % 3 = z9_ := ⟨_, rfl⟩
    rw [ec3]
    refine wl_isub (x := s 139 (16 + 3 * p) - 1) (y := c3) (z := s 139 (16 + 3 * p) - 1 - c3) ji_258_107 (by omega) ?_
    refine wl_s (pc' := 109) ji_258_108 rfl rfl rfl ?_
    refine wl_icmp (t := 142) ji_258_109 rfl (by omega) (by omega) (fun (hb19 : (s 139 (16 + 3 * p) - 1 - c3 : Int) < 1) => ?_) (fun (hb19 : ¬ ((s 139 (16 + 3 * p) - 1 - c3 : Int) < 1)) => ?_)
    · exact wl_rv ji_258_142 jr_258 (⟨rfl, cs_mono C (by unfold hapR; rw [ew, ep, eq, hq]; unfold hapD; rw [if_neg (by decide), if_neg (by decide), if_pos rfl, ec3, if_neg (by omega)])⟩)
    · refine wl_s (pc' := 113) ji_258_112 rfl rfl rfl ?_
      refine wl_s (pc' := 114) ji_258_113 rfl rfl rfl ?_
      refine wl_s (pc' := 115) ji_258_114 rfl rfl rfl ?_
      refine wl_s (pc' := 116) ji_258_115 rfl rfl rfl ?_
      refine wl_s (pc' := 117) ji_258_116 rfl rfl rfl ?_
      refine wl_irem (x := x) (y := 3) ji_258_117 (by omega) (by omega) ?_
      rw [ec3]
      refine wl_iadd (x := 1) (y := c3) (z := 1 + c3) ji_258_118 (by omega) ?_
      obtain ⟨q21, hq21⟩ := cs_c C (by decide) sq_138
      refine wl_vc (d := d + 8) (as := [.ref 138, wp_i p, wp_i (1 + c3)]) (rest := []) ji_258_119 jc_258_357 rfl hq21 jk_253.symm (Nat.le_of_ble_eq_true rfl) rfl (by rw [jn_253]; rfl) (uc_253 (d := d + 7) C i1 (p := p) (n := 1 + c3) (by omega) (by omega) (by omega)) (fun v1 h20 R => ?_)
      obtain ⟨rfl, C⟩ := R
      have C : CS h20 (prR s p (1 + c3)) := C
      show wl_R _ _ 258 122 [some (.ref 138), some (wp_i x), some (wp_i w), some (wp_i p)] [] h20 _
      refine wl_goto (t := 142) ji_258_122 rfl ?_
      exact wl_rv ji_258_142 jr_258 (⟨rfl, cs_mono C (by unfold hapR; rw [ew, ep, eq, hq]; unfold hapD; rw [if_neg (by decide), if_neg (by decide), if_pos rfl, ec3, if_pos (by omega)])⟩)
  · rw [hq]
    refine wl_s (pc' := 125) ji_258_22 rfl rfl rfl ?_
    refine wl_s (pc' := 126) ji_258_125 rfl rfl rfl ?_
    refine cs_gr (r := 139) (k := 0) C (by decide) sq_138 rfl ji_258_126 jf_258_7 ?_
    refine wl_bp ji_258_129 rfl ?_
    refine cs_l (x := 8) C (by decide) (by decide) sq_139 (by omega) ji_258_131 (fun ld220 ld221 ld222 => ?_)
    refine wl_sp ji_258_132 rfl ?_
    refine wl_icmp (t := 142) ji_258_135 rfl (by omega) (by omega) (fun (hb23 : (9999 : Int) ≤ (s 139 8)) => ?_) (fun (hb23 : ¬ ((9999 : Int) ≤ (s 139 8))) => ?_)
    · exact wl_rv ji_258_142 jr_258 (⟨rfl, cs_mono C (by unfold hapR; rw [ew, ep, eq, hq]; unfold hapD; rw [if_neg (by decide), if_neg (by decide), if_neg (by decide), if_neg (by omega)])⟩)
    · refine wl_s (pc' := 139) ji_258_138 rfl rfl rfl ?_
      obtain ⟨q25, hq25⟩ := cs_c C (by decide) sq_138
      refine wl_vc (d := d + 8) (as := [.ref 138]) (rest := []) ji_258_139 jc_258_339 rfl hq25 jk_221.symm (Nat.le_of_ble_eq_true rfl) rfl (by rw [jn_221]; rfl) (uc_221 (d := d) C T.rs (by have := T.b; omega)) (fun v1 h24 R => ?_)
      obtain ⟨rfl, C⟩ := R
      have C : CS h24 (hourR cr s) := C
      show wl_R _ _ 258 142 [some (.ref 138), some (wp_i x), some (wp_i w), some (wp_i p)] [] h24 _
      exact wl_rv ji_258_142 jr_258 (⟨rfl, cs_mono C (by unfold hapR; rw [ew, ep, eq, hq]; unfold hapD; rw [if_neg (by decide), if_neg (by decide), if_neg (by decide), if_pos (by omega)])⟩)
  · rw [hq]
    refine wl_s (pc' := 125) ji_258_22 rfl rfl rfl ?_
    refine wl_s (pc' := 126) ji_258_125 rfl rfl rfl ?_
    refine cs_gr (r := 139) (k := 0) C (by decide) sq_138 rfl ji_258_126 jf_258_7 ?_
    refine wl_bp ji_258_129 rfl ?_
    refine cs_l (x := 8) C (by decide) (by decide) sq_139 (by omega) ji_258_131 (fun ld260 ld261 ld262 => ?_)
    refine wl_sp ji_258_132 rfl ?_
    refine wl_icmp (t := 142) ji_258_135 rfl (by omega) (by omega) (fun (hb27 : (9999 : Int) ≤ (s 139 8)) => ?_) (fun (hb27 : ¬ ((9999 : Int) ≤ (s 139 8))) => ?_)
    · exact wl_rv ji_258_142 jr_258 (⟨rfl, cs_mono C (by unfold hapR; rw [ew, ep, eq, hq]; unfold hapD; rw [if_neg (by decide), if_neg (by decide), if_neg (by decide), if_neg (by omega)])⟩)
    · refine wl_s (pc' := 139) ji_258_138 rfl rfl rfl ?_
      obtain ⟨q29, hq29⟩ := cs_c C (by decide) sq_138
      refine wl_vc (d := d + 8) (as := [.ref 138]) (rest := []) ji_258_139 jc_258_339 rfl hq29 jk_221.symm (Nat.le_of_ble_eq_true rfl) rfl (by rw [jn_221]; rfl) (uc_221 (d := d) C T.rs (by have := T.b; omega)) (fun v1 h28 R => ?_)
      obtain ⟨rfl, C⟩ := R
      have C : CS h28 (hourR cr s) := C
      show wl_R _ _ 258 142 [some (.ref 138), some (wp_i x), some (wp_i w), some (wp_i p)] [] h28 _
      exact wl_rv ji_258_142 jr_258 (⟨rfl, cs_mono C (by unfold hapR; rw [ew, ep, eq, hq]; unfold hapD; rw [if_neg (by decide), if_neg (by decide), if_neg (by decide), if_pos (by omega)])⟩)
  · rw [hq]
    refine wl_s (pc' := 125) ji_258_22 rfl rfl rfl ?_
    refine wl_s (pc' := 126) ji_258_125 rfl rfl rfl ?_
    refine cs_gr (r := 139) (k := 0) C (by decide) sq_138 rfl ji_258_126 jf_258_7 ?_
    refine wl_bp ji_258_129 rfl ?_
    refine cs_l (x := 8) C (by decide) (by decide) sq_139 (by omega) ji_258_131 (fun ld300 ld301 ld302 => ?_)
    refine wl_sp ji_258_132 rfl ?_
    refine wl_icmp (t := 142) ji_258_135 rfl (by omega) (by omega) (fun (hb31 : (9999 : Int) ≤ (s 139 8)) => ?_) (fun (hb31 : ¬ ((9999 : Int) ≤ (s 139 8))) => ?_)
    · exact wl_rv ji_258_142 jr_258 (⟨rfl, cs_mono C (by unfold hapR; rw [ew, ep, eq, hq]; unfold hapD; rw [if_neg (by decide), if_neg (by decide), if_neg (by decide), if_neg (by omega)])⟩)
    · refine wl_s (pc' := 139) ji_258_138 rfl rfl rfl ?_
      obtain ⟨q33, hq33⟩ := cs_c C (by decide) sq_138
      refine wl_vc (d := d + 8) (as := [.ref 138]) (rest := []) ji_258_139 jc_258_339 rfl hq33 jk_221.symm (Nat.le_of_ble_eq_true rfl) rfl (by rw [jn_221]; rfl) (uc_221 (d := d) C T.rs (by have := T.b; omega)) (fun v1 h32 R => ?_)
      obtain ⟨rfl, C⟩ := R
      have C : CS h32 (hourR cr s) := C
      show wl_R _ _ 258 142 [some (.ref 138), some (wp_i x), some (wp_i w), some (wp_i p)] [] h32 _
      exact wl_rv ji_258_142 jr_258 (⟨rfl, cs_mono C (by unfold hapR; rw [ew, ep, eq, hq]; unfold hapD; rw [if_neg (by decide), if_neg (by decide), if_neg (by decide), if_pos (by omega)])⟩)
theorem RG_11 {s : sg_} (G : RG s) {y : Int} (hy : 0 ≤ y ∧ y ≤ 30306) : RG (up s 139 11 y) := RG_e G (fun j a b => up_k (by omega)) (up_k (by decide)) (up_k (by decide)) (by rw [up_k (by decide)]; exact G.w) (by rw [up_k (by decide)]; exact G.o) (by rw [up_e]; exact hy) (by rw [up_k (by decide)]; exact G.d)
theorem RS_11 {s : sg_} {cr : crs} (H : RS s cr) {y : Int} (hy : 0 ≤ y ∧ y ≤ 30306) : RS (up s 139 11 y) cr := RS_f H (RG_11 H.g hy) (up_k (by decide)) (fun j => up_a (by decide))
theorem RT_11 {s : sg_} {cr : crs} {M : Int} (H : RT s cr M) {y : Int} (hy : 0 ≤ y ∧ y ≤ 30306) : RT (up s 139 11 y) cr M := ⟨RS_11 H.rs hy, by rw [up_k (by decide)]; exact H.k, by rw [up_k (by decide)]; exact H.b, by rw [up_k (by decide)]; exact H.o9⟩
theorem RT_m {s : sg_} {cr : crs} {M M1 : Int} (H : RT s cr M) (h : M ≤ M1) : RT s cr M1 := ⟨H.rs, H.k, by have := H.b; omega, H.o9⟩
/-- flags changed alone -/
theorem RT_g {s s1 : sg_} {cr : crs} {M : Int} (H : RT s cr M) (g : RG s1) (e : ∀ (b : Nat) (j : Int), ¬ b = 139 ∨ j < 16 → s1 b j = s b j) : RT s1 cr M := ⟨RS_f H.rs g (e _ _ (Or.inr (by decide))) (fun j => e _ _ (Or.inl (by decide))), by rw [e _ _ (Or.inr (by decide))]; exact H.k, by rw [e _ _ (Or.inr (by decide))]; exact H.b, by rw [e _ _ (Or.inr (by decide))]; exact H.o9⟩
theorem rsR_RG {s : sg_} (G : RG s) {w p : Int} (hw : 0 ≤ w ∧ w < 6) (hp : 0 ≤ p ∧ p < 8) : RG (rsR s w p) := by
  unfold rsR
  exact RG_up G hw hp (fun j h1 h2 => by rw [up_k h2, up_k h1]) (by unfold htR; rw [up_k (by omega), up_e]; decide) (by rw [up_e]; decide) (fun _ => by rw [up_e]; decide)
theorem gnR_RG {s : sg_} (G : RG s) {w p : Int} (hw : 0 ≤ w ∧ w < 6) (hp : 0 ≤ p ∧ p < 8) : RG (gnR s w p) := by
  unfold gnR
  exact RG_up G hw hp (fun j h1 h2 => by rw [up_k h2, up_k h1]) (by unfold htR; rw [up_k (by omega), up_e]; decide) (by rw [up_e]; decide) (fun _ => by rw [up_e]; decide)
theorem rsR_j {s : sg_} {w p : Int} (hw : 0 ≤ w ∧ w < 6) (hp : 0 ≤ p ∧ p < 8) {b : Nat} {j : Int} (h : ¬ b = 139 ∨ j < 52 ∨ 148 ≤ j) : rsR s w p b j = s b j := by
  unfold rsR
  rcases h with h | h
  · rw [up_a h, up_a h]
  · rw [up_k (by omega), up_k (by omega)]
theorem gnR_j {s : sg_} {w p : Int} (hw : 0 ≤ w ∧ w < 6) (hp : 0 ≤ p ∧ p < 8) {b : Nat} {j : Int} (h : ¬ b = 139 ∨ j < 52 ∨ 148 ≤ j) : gnR s w p b j = s b j := by
  unfold gnR
  rcases h with h | h
  · rw [up_a h, up_a h]
  · rw [up_k (by omega), up_k (by omega)]
theorem rsR_RT {s : sg_} {cr : crs} {M : Int} (H : RT s cr M) {w p : Int} (hw : 0 ≤ w ∧ w < 6) (hp : 0 ≤ p ∧ p < 8) : RT (rsR s w p) cr M := RT_g H (rsR_RG H.rs.g hw hp) (fun b j h => rsR_j hw hp (by omega))
theorem gnR_RT {s : sg_} {cr : crs} {M : Int} (H : RT s cr M) {w p : Int} (hw : 0 ≤ w ∧ w < 6) (hp : 0 ≤ p ∧ p < 8) : RT (gnR s w p) cr M := RT_g H (gnR_RG H.rs.g hw hp) (fun b j h => gnR_j hw hp (by omega))
theorem prR_RT {s : sg_} {cr : crs} {M : Int} (H : RT s cr M) {p n : Int} (hp : 0 ≤ p ∧ p < 8) (hn : 0 ≤ n) (ht : n ≤ s 139 (16 + 3 * p)) : RT (prR s p n) cr M := RT_g H (prR_RG H.rs.g hp hn ht) (fun b j h => prR_j hp (by omega))
theorem hapD_RT {s : sg_} {cr : crs} {M : Int} (H : RT s cr M) {q w p n : Int} (hw : 0 ≤ w ∧ w < 6) (hp : 0 ≤ p ∧ p < 8) (hn : 0 ≤ n) : RT (hapD cr s q w p n) cr (M + 1) := by
  have H1 : RT s cr (M + 1) := RT_m H (by omega)
  unfold hapD
  split
  · split
    · exact rsR_RT H1 hw hp
    · exact H1
  · split
    · exact gnR_RT H1 hw hp
    · split
      · split
        · exact prR_RT H1 hp hn (by omega)
        · exact H1
      · split
        · exact hourR_RT H (by omega)
        · exact H1
theorem ctR_RT {s : sg_} {cr : crs} {M : Int} (H : RT s cr M) (h0 : ¬ s 139 0 = 0) (h1 : ¬ s 139 1 = 0) : RT (ctR cr s) cr (M + 1) := by
  have x := H.rs.g.x
  have p0 := H.rs.g.p0
  have w0 := H.rs.g.w0
  have H1 := RT_11 H (y := (s 139 11 * 283 + 181) % 30307) (by omega)
  unfold ctR hapR
  have e0 : up s 139 11 ((s 139 11 * 283 + 181) % 30307) 139 0 = s 139 0 := up_k (by decide)
  have e1 : up s 139 11 ((s 139 11 * 283 + 181) % 30307) 139 1 = s 139 1 := up_k (by decide)
  rw [e0, e1]
  have wa := Int.emod_nonneg (s 139 11) h1
  have wb := Int.emod_lt_of_pos (s 139 11) (show 0 < s 139 1 by omega)
  have pa := Int.emod_nonneg (s 139 11) h0
  have pb := Int.emod_lt_of_pos (s 139 11) (show 0 < s 139 0 by omega)
  exact hapD_RT H1 (by omega) (by omega) (by omega)
theorem hapD_01 {s : sg_} {cr : crs} {q w p n : Int} (hw : 0 ≤ w ∧ w < 6) (hp : 0 ≤ p ∧ p < 8) (h12 : 0 ≤ s 139 12) {j : Int} (hj : j < 8) : hapD cr s q w p n 139 j = s 139 j := by
  unfold hapD
  split
  · split
    · exact rsR_j hw hp (by omega)
    · rfl
  · split
    · exact gnR_j hw hp (by omega)
    · split
      · split
        · exact prR_j hp (by omega)
        · rfl
      · split
        · rw [hourR_j (by omega) (by omega) h12, flA_j (Or.inr (by omega))]
        · rfl
theorem ctR_01 {s : sg_} {cr : crs} {M : Int} (H : RT s cr M) (h0 : ¬ s 139 0 = 0) (h1 : ¬ s 139 1 = 0) {j : Int} (hj : j < 8) : ctR cr s 139 j = s 139 j := by
  have p0 := H.rs.g.p0
  have w0 := H.rs.g.w0
  have b0 := H.b
  unfold ctR hapR
  have e0 : up s 139 11 ((s 139 11 * 283 + 181) % 30307) 139 0 = s 139 0 := up_k (by decide)
  have e1 : up s 139 11 ((s 139 11 * 283 + 181) % 30307) 139 1 = s 139 1 := up_k (by decide)
  rw [e0, e1]
  have wa := Int.emod_nonneg (s 139 11) h1
  have wb := Int.emod_lt_of_pos (s 139 11) (show 0 < s 139 1 by omega)
  have pa := Int.emod_nonneg (s 139 11) h0
  have pb := Int.emod_lt_of_pos (s 139 11) (show 0 < s 139 0 by omega)
  rw [hapD_01 (by omega) (by omega) (by rw [up_k (by decide)]; omega) hj, up_k (by omega)]
def ctsR (cr : crs) (s : sg_) : Nat → sg_
  | 0 => s
  | n + 1 => ctR cr (ctsR cr s n)
theorem ctsR_RT {s : sg_} {cr : crs} {M : Int} (H : RT s cr M) (h0 : ¬ s 139 0 = 0) (h1 : ¬ s 139 1 = 0) : ∀ n : Nat, RT (ctsR cr s n) cr (M + n) ∧ ∀ j, j < 8 → ctsR cr s n 139 j = s 139 j
  | 0 => ⟨RT_m H (by omega), fun _ _ => rfl⟩
  | n + 1 => by
    have ih := ctsR_RT H h0 h1 n
    have g0 : ¬ ctsR cr s n 139 0 = 0 := by rw [ih.2 0 (by decide)]; exact h0
    have g1 : ¬ ctsR cr s n 139 1 = 0 := by rw [ih.2 1 (by decide)]; exact h1
    refine ⟨?_, fun j hj => ?_⟩
    · rw [show M + ((n + 1 : Nat) : Int) = M + (n : Int) + 1 by omega]
      exact ctR_RT ih.1 g0 g1
    · rw [← ih.2 j hj]
      exact ctR_01 ih.1 g0 g1 hj
