/-! -/
/-! -/
set_option maxRecDepth 100000 in
theorem ji_226_0 : mj_ins 226 0 = some (.aload_n 0) := by decide +kernel
set_option maxRecDepth 100000 in
theorem ji_226_1 : mj_ins 226 1 = some (.getfield 32) := by decide +kernel
set_option maxRecDepth 100000 in
theorem jf_226_32 : mj_fld 226 32 = some (11, 22, (.array .int), false) := by decide +kernel
set_option maxRecDepth 100000 in
theorem ji_226_4 : mj_ins 226 4 = some (.iconst 0) := by decide +kernel
set_option maxRecDepth 100000 in
theorem ji_226_5 : mj_ins 226 5 = some (.aload_n 0) := by decide +kernel
set_option maxRecDepth 100000 in
theorem ji_226_6 : mj_ins 226 6 = some (.getfield 7) := by decide +kernel
set_option maxRecDepth 100000 in
theorem jf_226_7 : mj_fld 226 7 = some (11, 0, (.array .int), false) := by decide +kernel
set_option maxRecDepth 100000 in
theorem ji_226_9 : mj_ins 226 9 = some (.bipush 8) := by decide +kernel
set_option maxRecDepth 100000 in
theorem ji_226_11 : mj_ins 226 11 = some (.iaload) := by decide +kernel
set_option maxRecDepth 100000 in
theorem ji_226_12 : mj_ins 226 12 = some (.iastore) := by decide +kernel
set_option maxRecDepth 100000 in
theorem sq_144 : sh_T[144]? = some (1000, [], 10, 0) := by decide +kernel
set_option maxRecDepth 100000 in
theorem ji_226_13 : mj_ins 226 13 = some (.aload_n 0) := by decide +kernel
set_option maxRecDepth 100000 in
theorem ji_226_14 : mj_ins 226 14 = some (.getfield 32) := by decide +kernel
set_option maxRecDepth 100000 in
theorem ji_226_17 : mj_ins 226 17 = some (.iconst 1) := by decide +kernel
set_option maxRecDepth 100000 in
theorem ji_226_18 : mj_ins 226 18 = some (.aload_n 0) := by decide +kernel
set_option maxRecDepth 100000 in
theorem ji_226_19 : mj_ins 226 19 = some (.getfield 7) := by decide +kernel
set_option maxRecDepth 100000 in
theorem ji_226_22 : mj_ins 226 22 = some (.bipush 9) := by decide +kernel
set_option maxRecDepth 100000 in
theorem ji_226_24 : mj_ins 226 24 = some (.iaload) := by decide +kernel
set_option maxRecDepth 100000 in
theorem ji_226_25 : mj_ins 226 25 = some (.iastore) := by decide +kernel
set_option maxRecDepth 100000 in
theorem ji_226_26 : mj_ins 226 26 = some (.aload_n 0) := by decide +kernel
set_option maxRecDepth 100000 in
theorem ji_226_27 : mj_ins 226 27 = some (.getfield 32) := by decide +kernel
set_option maxRecDepth 100000 in
theorem ji_226_30 : mj_ins 226 30 = some (.iconst 2) := by decide +kernel
set_option maxRecDepth 100000 in
theorem ji_226_31 : mj_ins 226 31 = some (.iload_n 1) := by decide +kernel
set_option maxRecDepth 100000 in
theorem ji_226_32 : mj_ins 226 32 = some (.iastore) := by decide +kernel
set_option maxRecDepth 100000 in
theorem ji_226_33 : mj_ins 226 33 = some (.aload_n 0) := by decide +kernel
set_option maxRecDepth 100000 in
theorem ji_226_34 : mj_ins 226 34 = some (.getfield 32) := by decide +kernel
set_option maxRecDepth 100000 in
theorem ji_226_37 : mj_ins 226 37 = some (.iconst 3) := by decide +kernel
set_option maxRecDepth 100000 in
theorem ji_226_38 : mj_ins 226 38 = some (.aload_n 0) := by decide +kernel
set_option maxRecDepth 100000 in
theorem ji_226_39 : mj_ins 226 39 = some (.iload_n 1) := by decide +kernel
set_option maxRecDepth 100000 in
theorem ji_226_40 : mj_ins 226 40 = some (.invokevirtual 286) := by decide +kernel
set_option maxRecDepth 100000 in
theorem jc_226_286 : mj_cal 226 286 = some (2, 227, 1) := by decide +kernel
set_option maxRecDepth 100000 in
theorem ji_226_43 : mj_ins 226 43 = some (.iastore) := by decide +kernel
set_option maxRecDepth 100000 in
theorem ji_226_44 : mj_ins 226 44 = some (.aload_n 0) := by decide +kernel
set_option maxRecDepth 100000 in
theorem ji_226_45 : mj_ins 226 45 = some (.getfield 32) := by decide +kernel
set_option maxRecDepth 100000 in
theorem ji_226_48 : mj_ins 226 48 = some (.iconst 4) := by decide +kernel
set_option maxRecDepth 100000 in
theorem ji_226_49 : mj_ins 226 49 = some (.aload_n 0) := by decide +kernel
set_option maxRecDepth 100000 in
theorem ji_226_50 : mj_ins 226 50 = some (.iload_n 2) := by decide +kernel
set_option maxRecDepth 100000 in
theorem ji_226_51 : mj_ins 226 51 = some (.invokevirtual 289) := by decide +kernel
set_option maxRecDepth 100000 in
theorem jc_226_289 : mj_cal 226 289 = some (2, 220, 1) := by decide +kernel
set_option maxRecDepth 100000 in
theorem jn_220 : mj_nl 220 = 2 := by decide +kernel
set_option maxRecDepth 100000 in
theorem jk_220 : mj_cls 220 = 11 := by decide +kernel
set_option maxRecDepth 100000 in
theorem ji_226_54 : mj_ins 226 54 = some (.iastore) := by decide +kernel
set_option maxRecDepth 100000 in
theorem ji_226_55 : mj_ins 226 55 = some (.aload_n 0) := by decide +kernel
set_option maxRecDepth 100000 in
theorem ji_226_56 : mj_ins 226 56 = some (.getfield 32) := by decide +kernel
set_option maxRecDepth 100000 in
theorem ji_226_59 : mj_ins 226 59 = some (.iconst 5) := by decide +kernel
set_option maxRecDepth 100000 in
theorem ji_226_60 : mj_ins 226 60 = some (.aload_n 0) := by decide +kernel
set_option maxRecDepth 100000 in
theorem ji_226_61 : mj_ins 226 61 = some (.iload_n 1) := by decide +kernel
set_option maxRecDepth 100000 in
theorem ji_226_62 : mj_ins 226 62 = some (.iload_n 2) := by decide +kernel
set_option maxRecDepth 100000 in
theorem ji_226_63 : mj_ins 226 63 = some (.iconst 0) := by decide +kernel
set_option maxRecDepth 100000 in
theorem ji_226_64 : mj_ins 226 64 = some (.invokevirtual 70) := by decide +kernel
set_option maxRecDepth 100000 in
theorem jc_226_70 : mj_cal 226 70 = some (2, 224, 3) := by decide +kernel
set_option maxRecDepth 100000 in
theorem ji_226_67 : mj_ins 226 67 = some (.iastore) := by decide +kernel
set_option maxRecDepth 100000 in
theorem ji_226_68 : mj_ins 226 68 = some (.aload_n 0) := by decide +kernel
set_option maxRecDepth 100000 in
theorem ji_226_69 : mj_ins 226 69 = some (.getfield 32) := by decide +kernel
set_option maxRecDepth 100000 in
theorem ji_226_72 : mj_ins 226 72 = some (.bipush 6) := by decide +kernel
set_option maxRecDepth 100000 in
theorem ji_226_74 : mj_ins 226 74 = some (.aload_n 0) := by decide +kernel
set_option maxRecDepth 100000 in
theorem ji_226_75 : mj_ins 226 75 = some (.iload_n 1) := by decide +kernel
set_option maxRecDepth 100000 in
theorem ji_226_76 : mj_ins 226 76 = some (.iload_n 2) := by decide +kernel
set_option maxRecDepth 100000 in
theorem ji_226_77 : mj_ins 226 77 = some (.iconst 1) := by decide +kernel
set_option maxRecDepth 100000 in
theorem ji_226_78 : mj_ins 226 78 = some (.invokevirtual 70) := by decide +kernel
set_option maxRecDepth 100000 in
theorem ji_226_81 : mj_ins 226 81 = some (.iastore) := by decide +kernel
set_option maxRecDepth 100000 in
theorem ji_226_82 : mj_ins 226 82 = some (.aload_n 0) := by decide +kernel
set_option maxRecDepth 100000 in
theorem ji_226_83 : mj_ins 226 83 = some (.getfield 32) := by decide +kernel
set_option maxRecDepth 100000 in
theorem ji_226_86 : mj_ins 226 86 = some (.bipush 7) := by decide +kernel
set_option maxRecDepth 100000 in
theorem ji_226_88 : mj_ins 226 88 = some (.aload_n 0) := by decide +kernel
set_option maxRecDepth 100000 in
theorem ji_226_89 : mj_ins 226 89 = some (.iload_n 2) := by decide +kernel
set_option maxRecDepth 100000 in
theorem ji_226_90 : mj_ins 226 90 = some (.invokevirtual 292) := by decide +kernel
set_option maxRecDepth 100000 in
theorem jc_226_292 : mj_cal 226 292 = some (2, 228, 1) := by decide +kernel
set_option maxRecDepth 100000 in
theorem jn_228 : mj_nl 228 = 4 := by decide +kernel
set_option maxRecDepth 100000 in
theorem jk_228 : mj_cls 228 = 11 := by decide +kernel
set_option maxRecDepth 100000 in
theorem ji_226_93 : mj_ins 226 93 = some (.invokestatic 295) := by decide +kernel
set_option maxRecDepth 100000 in
theorem jc_226_295 : mj_cal 226 295 = some (1, 229, 1) := by decide +kernel
set_option maxRecDepth 100000 in
theorem jn_229 : mj_nl 229 = 3 := by decide +kernel
set_option maxRecDepth 100000 in
theorem ji_226_96 : mj_ins 226 96 = some (.iastore) := by decide +kernel
set_option maxRecDepth 100000 in
theorem ji_226_97 : mj_ins 226 97 = some (.aload_n 0) := by decide +kernel
set_option maxRecDepth 100000 in
theorem ji_226_98 : mj_ins 226 98 = some (.getfield 32) := by decide +kernel
set_option maxRecDepth 100000 in
theorem ji_226_101 : mj_ins 226 101 = some (.bipush 8) := by decide +kernel
set_option maxRecDepth 100000 in
theorem ji_226_103 : mj_ins 226 103 = some (.aload_n 0) := by decide +kernel
set_option maxRecDepth 100000 in
theorem ji_226_104 : mj_ins 226 104 = some (.iload_n 2) := by decide +kernel
set_option maxRecDepth 100000 in
theorem ji_226_105 : mj_ins 226 105 = some (.invokevirtual 298) := by decide +kernel
set_option maxRecDepth 100000 in
theorem jc_226_298 : mj_cal 226 298 = some (2, 230, 1) := by decide +kernel
set_option maxRecDepth 100000 in
theorem jn_230 : mj_nl 230 = 2 := by decide +kernel
set_option maxRecDepth 100000 in
theorem jk_230 : mj_cls 230 = 11 := by decide +kernel
set_option maxRecDepth 100000 in
theorem ji_226_108 : mj_ins 226 108 = some (.iastore) := by decide +kernel
set_option maxRecDepth 100000 in
theorem ji_226_109 : mj_ins 226 109 = some (.aload_n 0) := by decide +kernel
set_option maxRecDepth 100000 in
theorem ji_226_110 : mj_ins 226 110 = some (.getfield 32) := by decide +kernel
set_option maxRecDepth 100000 in
theorem ji_226_113 : mj_ins 226 113 = some (.bipush 9) := by decide +kernel
set_option maxRecDepth 100000 in
theorem ji_226_115 : mj_ins 226 115 = some (.aload_n 0) := by decide +kernel
set_option maxRecDepth 100000 in
theorem ji_226_116 : mj_ins 226 116 = some (.getfield 7) := by decide +kernel
set_option maxRecDepth 100000 in
theorem ji_226_119 : mj_ins 226 119 = some (.bipush 10) := by decide +kernel
set_option maxRecDepth 100000 in
theorem ji_226_121 : mj_ins 226 121 = some (.iaload) := by decide +kernel
set_option maxRecDepth 100000 in
theorem ji_226_122 : mj_ins 226 122 = some (.iload_n 1) := by decide +kernel
set_option maxRecDepth 100000 in
theorem ji_226_123 : mj_ins 226 123 = some (.if_icmp .ne 7) := by decide +kernel
set_option maxRecDepth 100000 in
theorem ji_226_130 : mj_ins 226 130 = some (.iconst 0) := by decide +kernel
set_option maxRecDepth 100000 in
theorem ji_226_131 : mj_ins 226 131 = some (.iastore) := by decide +kernel
set_option maxRecDepth 100000 in
theorem ji_226_132 : mj_ins 226 132 = some (.return_) := by decide +kernel
set_option maxRecDepth 100000 in
theorem jr_226 : mj_ret 226 = none := by decide +kernel
set_option maxRecDepth 100000 in
theorem ji_226_126 : mj_ins 226 126 = some (.iconst 1) := by decide +kernel
set_option maxRecDepth 100000 in
theorem ji_226_127 : mj_ins 226 127 = some (.goto 4) := by decide +kernel
/-! the reference's table of names; laid by program (wp_u23.py) -/
theorem ten {k : Int} (h : 0 ≤ k ∧ k < 10) : k = 0 ∨ k = 1 ∨ k = 2 ∨ k = 3 ∨ k = 4 ∨ k = 5 ∨ k = 6 ∨ k = 7 ∨ k = 8 ∨ k = 9 := by omega
def nmR (s : sg_) (w p k : Int) : Int := if k = 0 then s 139 8 else if k = 1 then s 139 9 else if k = 2 then w else if k = 3 then s 139 (40 + 2 * w) else if k = 4 then s 139 (16 + 3 * p) else if k = 5 then s 139 (52 + 2 * (8 * w + p) + 0) else if k = 6 then s 139 (52 + 2 * (8 * w + p) + 1) else if k = 7 then bcn (flg (fun j => s 139 (52 + 2 * (8 * j + p) + 0)) (s 139 1).toNat) else if k = 8 then s 139 (16 + 3 * p + 1) else if s 139 10 = w then 1 else 0
theorem uc_226 {nn d : Nat} {h : mj_H} {s : sg_} (C : CS0 h s) (h1 : 0 ≤ s 139 1 ∧ s 139 1 ≤ 6) {w p : Int} (hw : 0 ≤ w ∧ w < 6) (hp : 0 ≤ p ∧ p < 8) : wl_R nn (d + 3) 226 0 [some (.ref 138), some (wp_i w), some (wp_i p)] [] h (fun v1 h1 => v1 = none ∧ ∃ s1, CS0 h1 s1 ∧ (∀ (b : Nat) (j : Int), ¬ b = 144 → s1 b j = s b j) ∧ ∀ k, 0 ≤ k ∧ k < 10 → s1 144 k = nmR s w p k) := by
  have frs : ∀ (b : Nat) (j : Int), ¬ b = 144 → s b j = s b j := fun _ _ _ => rfl
  refine wl_s (pc' := 1) ji_226_0 rfl rfl rfl ?_
  refine c0_gr (r := 144) (k := 22) C (by decide) sq_138 rfl ji_226_1 jf_226_32 ?_
  refine wl_s (pc' := 5) ji_226_4 rfl rfl rfl ?_
  refine wl_s (pc' := 6) ji_226_5 rfl rfl rfl ?_
  refine c0_gr (r := 139) (k := 0) C (by decide) sq_138 rfl ji_226_6 jf_226_7 ?_
  refine wl_bp ji_226_9 rfl ?_
  refine c0_l (x := 8) C (by decide) sq_139 (by omega) ji_226_11 (fun ld10 ld11 ld12 => ?_)
  refine c0_s (x := 0) (y := s 139 8) C (by decide) sq_144 (by omega) (by omega) ji_226_12 (fun h st20 st21 C => ?_)
  obtain ⟨s3, es3⟩ : ∃ z9_, up s 144 0 (s 139 8) = z9_ := ⟨_, rfl⟩
  rw [es3] at C
  have frs3 : ∀ (b : Nat) (j : Int), ¬ b = 144 → s3 b j = s b j := fun b j hb => (show s3 b j = s b j by rw [← es3]; exact up_a hb).trans (frs b j hb)
  refine wl_s (pc' := 14) ji_226_13 rfl rfl rfl ?_
  refine c0_gr (r := 144) (k := 22) C (by decide) sq_138 rfl ji_226_14 jf_226_32 ?_
  refine wl_s (pc' := 18) ji_226_17 rfl rfl rfl ?_
  refine wl_s (pc' := 19) ji_226_18 rfl rfl rfl ?_
  refine c0_gr (r := 139) (k := 0) C (by decide) sq_138 rfl ji_226_19 jf_226_7 ?_
  refine wl_bp ji_226_22 rfl ?_
  refine c0_l (x := 9) C (by decide) sq_139 (by omega) ji_226_24 (fun ld40 ld41 ld42 => ?_)
  have rd5 : s3 139 9 = s 139 9 := by rw [← es3, up_a (by omega)]
  rw [rd5] at ld42 ⊢
  refine c0_s (x := 1) (y := s 139 9) C (by decide) sq_144 (by omega) (by omega) ji_226_25 (fun h st60 st61 C => ?_)
  obtain ⟨s7, es7⟩ : ∃ z9_, up s3 144 1 (s 139 9) = z9_ := ⟨_, rfl⟩
  rw [es7] at C
  have frs7 : ∀ (b : Nat) (j : Int), ¬ b = 144 → s7 b j = s b j := fun b j hb => (show s7 b j = s3 b j by rw [← es7]; exact up_a hb).trans (frs3 b j hb)
  refine wl_s (pc' := 27) ji_226_26 rfl rfl rfl ?_
  refine c0_gr (r := 144) (k := 22) C (by decide) sq_138 rfl ji_226_27 jf_226_32 ?_
  refine wl_s (pc' := 31) ji_226_30 rfl rfl rfl ?_
  refine wl_s (pc' := 32) ji_226_31 rfl rfl rfl ?_
  refine c0_s (x := 2) (y := w) C (by decide) sq_144 (by omega) (by omega) ji_226_32 (fun h st80 st81 C => ?_)
  obtain ⟨s9, es9⟩ : ∃ z9_, up s7 144 2 w = z9_ := ⟨_, rfl⟩
  rw [es9] at C
  have frs9 : ∀ (b : Nat) (j : Int), ¬ b = 144 → s9 b j = s b j := fun b j hb => (show s9 b j = s7 b j by rw [← es9]; exact up_a hb).trans (frs7 b j hb)
  refine wl_s (pc' := 34) ji_226_33 rfl rfl rfl ?_
  refine c0_gr (r := 144) (k := 22) C (by decide) sq_138 rfl ji_226_34 jf_226_32 ?_
  refine wl_s (pc' := 38) ji_226_37 rfl rfl rfl ?_
  refine wl_s (pc' := 39) ji_226_38 rfl rfl rfl ?_
  refine wl_s (pc' := 40) ji_226_39 rfl rfl rfl ?_
  obtain ⟨q11, hq11⟩ := c0_c C (by decide) sq_138
  refine wl_vc (d := d + 2) (as := [.ref 138, wp_i w]) (rest := [wp_i 3, .ref 144]) ji_226_40 jc_226_286 rfl hq11 jk_227.symm (Nat.le_of_ble_eq_true rfl) rfl (by rw [jn_227]; rfl) (uc_227 (d := d + 2) (cs_of C) (w := w) (by omega)) (fun v1 h10 R => ?_)
  obtain ⟨ee, rfl⟩ := R
  rw [ee]
  clear ee
  show wl_R _ _ 226 43 [some (.ref 138), some (wp_i w), some (wp_i p)] [wp_i (s9 139 (40 + 2 * w)), wp_i 3, .ref 144] _ _
  have gr12 : wp_r (s9 139 (40 + 2 * w)) := cs_ri (k := (40 + 2 * w).toNat) (cs_of C) (by decide) (by decide) sq_139 (by omega) rfl (by show _ < 0 + 6044; omega)
  refine c0_s (x := 3) (y := s9 139 (40 + 2 * w)) C (by decide) sq_144 (by omega) (by omega) ji_226_43 (fun h st130 st131 C => ?_)
  obtain ⟨s14, es14⟩ : ∃ z9_, up s9 144 3 (s9 139 (40 + 2 * w)) = z9_ := ⟨_, rfl⟩
  rw [es14] at C
  have frs14 : ∀ (b : Nat) (j : Int), ¬ b = 144 → s14 b j = s b j := fun b j hb => (show s14 b j = s9 b j by rw [← es14]; exact up_a hb).trans (frs9 b j hb)
  refine wl_s (pc' := 45) ji_226_44 rfl rfl rfl ?_
  refine c0_gr (r := 144) (k := 22) C (by decide) sq_138 rfl ji_226_45 jf_226_32 ?_
  refine wl_s (pc' := 49) ji_226_48 rfl rfl rfl ?_
  refine wl_s (pc' := 50) ji_226_49 rfl rfl rfl ?_
  refine wl_s (pc' := 51) ji_226_50 rfl rfl rfl ?_
  obtain ⟨q16, hq16⟩ := c0_c C (by decide) sq_138
  refine wl_vc (d := d + 2) (as := [.ref 138, wp_i p]) (rest := [wp_i 4, .ref 144]) ji_226_51 jc_226_289 rfl hq16 jk_220.symm (Nat.le_of_ble_eq_true rfl) rfl (by rw [jn_220]; rfl) (uc_220 (d := d + 2) (cs_of C) (p := p) (by omega)) (fun v1 h15 R => ?_)
  obtain ⟨ee, rfl⟩ := R
  rw [ee]
  clear ee
  show wl_R _ _ 226 54 [some (.ref 138), some (wp_i w), some (wp_i p)] [wp_i (s14 139 (16 + 3 * p)), wp_i 4, .ref 144] _ _
  have gr17 : wp_r (s14 139 (16 + 3 * p)) := cs_ri (k := (16 + 3 * p).toNat) (cs_of C) (by decide) (by decide) sq_139 (by omega) rfl (by show _ < 0 + 6044; omega)
  refine c0_s (x := 4) (y := s14 139 (16 + 3 * p)) C (by decide) sq_144 (by omega) (by omega) ji_226_54 (fun h st180 st181 C => ?_)
  obtain ⟨s19, es19⟩ : ∃ z9_, up s14 144 4 (s14 139 (16 + 3 * p)) = z9_ := ⟨_, rfl⟩
  rw [es19] at C
  have frs19 : ∀ (b : Nat) (j : Int), ¬ b = 144 → s19 b j = s b j := fun b j hb => (show s19 b j = s14 b j by rw [← es19]; exact up_a hb).trans (frs14 b j hb)
  refine wl_s (pc' := 56) ji_226_55 rfl rfl rfl ?_
  refine c0_gr (r := 144) (k := 22) C (by decide) sq_138 rfl ji_226_56 jf_226_32 ?_
  refine wl_s (pc' := 60) ji_226_59 rfl rfl rfl ?_
  refine wl_s (pc' := 61) ji_226_60 rfl rfl rfl ?_
  refine wl_s (pc' := 62) ji_226_61 rfl rfl rfl ?_
  refine wl_s (pc' := 63) ji_226_62 rfl rfl rfl ?_
  refine wl_s (pc' := 64) ji_226_63 rfl rfl rfl ?_
  obtain ⟨q21, hq21⟩ := c0_c C (by decide) sq_138
  refine wl_vc (d := d + 2) (as := [.ref 138, wp_i w, wp_i p, wp_i 0]) (rest := [wp_i 5, .ref 144]) ji_226_64 jc_226_70 rfl hq21 jk_224.symm (Nat.le_of_ble_eq_true rfl) rfl (by rw [jn_224]; rfl) (uc_224 (d := d + 2) (cs_of C) (w := w) (p := p) (k := 0) (by omega) (by omega) (by omega)) (fun v1 h20 R => ?_)
  obtain ⟨ee, rfl⟩ := R
  rw [ee]
  clear ee
  show wl_R _ _ 226 67 [some (.ref 138), some (wp_i w), some (wp_i p)] [wp_i (s19 139 (52 + 2 * (8 * w + p) + 0)), wp_i 5, .ref 144] _ _
  have gr22 : wp_r (s19 139 (52 + 2 * (8 * w + p) + 0)) := cs_ri (k := (52 + 2 * (8 * w + p) + 0).toNat) (cs_of C) (by decide) (by decide) sq_139 (by omega) rfl (by show _ < 0 + 6044; omega)
  refine c0_s (x := 5) (y := s19 139 (52 + 2 * (8 * w + p) + 0)) C (by decide) sq_144 (by omega) (by omega) ji_226_67 (fun h st230 st231 C => ?_)
  obtain ⟨s24, es24⟩ : ∃ z9_, up s19 144 5 (s19 139 (52 + 2 * (8 * w + p) + 0)) = z9_ := ⟨_, rfl⟩
  rw [es24] at C
  have frs24 : ∀ (b : Nat) (j : Int), ¬ b = 144 → s24 b j = s b j := fun b j hb => (show s24 b j = s19 b j by rw [← es24]; exact up_a hb).trans (frs19 b j hb)
  refine wl_s (pc' := 69) ji_226_68 rfl rfl rfl ?_
  refine c0_gr (r := 144) (k := 22) C (by decide) sq_138 rfl ji_226_69 jf_226_32 ?_
  refine wl_bp ji_226_72 rfl ?_
  refine wl_s (pc' := 75) ji_226_74 rfl rfl rfl ?_
  refine wl_s (pc' := 76) ji_226_75 rfl rfl rfl ?_
  refine wl_s (pc' := 77) ji_226_76 rfl rfl rfl ?_
  refine wl_s (pc' := 78) ji_226_77 rfl rfl rfl ?_
  obtain ⟨q26, hq26⟩ := c0_c C (by decide) sq_138
  refine wl_vc (d := d + 2) (as := [.ref 138, wp_i w, wp_i p, wp_i 1]) (rest := [wp_i 6, .ref 144]) ji_226_78 jc_226_70 rfl hq26 jk_224.symm (Nat.le_of_ble_eq_true rfl) rfl (by rw [jn_224]; rfl) (uc_224 (d := d + 2) (cs_of C) (w := w) (p := p) (k := 1) (by omega) (by omega) (by omega)) (fun v1 h25 R => ?_)
  obtain ⟨ee, rfl⟩ := R
  rw [ee]
  clear ee
  show wl_R _ _ 226 81 [some (.ref 138), some (wp_i w), some (wp_i p)] [wp_i (s24 139 (52 + 2 * (8 * w + p) + 1)), wp_i 6, .ref 144] _ _
  have gr27 : wp_r (s24 139 (52 + 2 * (8 * w + p) + 1)) := cs_ri (k := (52 + 2 * (8 * w + p) + 1).toNat) (cs_of C) (by decide) (by decide) sq_139 (by omega) rfl (by show _ < 0 + 6044; omega)
  refine c0_s (x := 6) (y := s24 139 (52 + 2 * (8 * w + p) + 1)) C (by decide) sq_144 (by omega) (by omega) ji_226_81 (fun h st280 st281 C => ?_)
  obtain ⟨s29, es29⟩ : ∃ z9_, up s24 144 6 (s24 139 (52 + 2 * (8 * w + p) + 1)) = z9_ := ⟨_, rfl⟩
  rw [es29] at C
  have frs29 : ∀ (b : Nat) (j : Int), ¬ b = 144 → s29 b j = s b j := fun b j hb => (show s29 b j = s24 b j by rw [← es29]; exact up_a hb).trans (frs24 b j hb)
  refine wl_s (pc' := 83) ji_226_82 rfl rfl rfl ?_
  refine c0_gr (r := 144) (k := 22) C (by decide) sq_138 rfl ji_226_83 jf_226_32 ?_
  refine wl_bp ji_226_86 rfl ?_
  refine wl_s (pc' := 89) ji_226_88 rfl rfl rfl ?_
  refine wl_s (pc' := 90) ji_226_89 rfl rfl rfl ?_
  obtain ⟨q31, hq31⟩ := c0_c C (by decide) sq_138
  refine wl_vc (d := d + 2) (as := [.ref 138, wp_i p]) (rest := [wp_i 7, .ref 144]) ji_226_90 jc_226_292 rfl hq31 jk_228.symm (Nat.le_of_ble_eq_true rfl) rfl (by rw [jn_228]; rfl) (uc_228 (d := d) (cs_of C) (by rw [frs29 139 1 (by decide)]; exact h1) (p := p) (by omega)) (fun v1 h30 R => ?_)
  obtain ⟨ee, rfl⟩ := R
  rw [ee]
  clear ee
  show wl_R _ _ 226 93 [some (.ref 138), some (wp_i w), some (wp_i p)] [wp_i (flg (fun j => s29 139 (52 + 2 * (8 * j + p) + 0)) (s29 139 1).toNat), wp_i 7, .ref 144] _ _
  have hfl := flg_6 (fun j => s29 139 (52 + 2 * (8 * j + p) + 0)) (n := (s29 139 1).toNat) (by rw [frs29 139 1 (by decide)]; omega)
  refine wl_sc (d := d + 2) (as := [wp_i (flg (fun j => s29 139 (52 + 2 * (8 * j + p) + 0)) (s29 139 1).toNat)]) (rest := [wp_i 7, .ref 144]) ji_226_93 jc_226_295 (Nat.le_of_ble_eq_true rfl) rfl (Nat.le_of_ble_eq_true rfl) rfl (by rw [jn_229]; rfl) (uc_229 (d := d + 2) (x := flg (fun j => s29 139 (52 + 2 * (8 * j + p) + 0)) (s29 139 1).toNat) (by omega)) (fun v1 h32 R => ?_)
  obtain ⟨ee, rfl⟩ := R
  rw [ee]
  clear ee
  show wl_R _ _ 226 96 [some (.ref 138), some (wp_i w), some (wp_i p)] [wp_i (bcn (flg (fun j => s29 139 (52 + 2 * (8 * j + p) + 0)) (s29 139 1).toNat)), wp_i 7, .ref 144] _ _
  have hbc := bcn_r (flg (fun j => s29 139 (52 + 2 * (8 * j + p) + 0)) (s29 139 1).toNat)
  refine c0_s (x := 7) (y := bcn (flg (fun j => s29 139 (52 + 2 * (8 * j + p) + 0)) (s29 139 1).toNat)) C (by decide) sq_144 (by omega) (by omega) ji_226_96 (fun h st330 st331 C => ?_)
  obtain ⟨s34, es34⟩ : ∃ z9_, up s29 144 7 (bcn (flg (fun j => s29 139 (52 + 2 * (8 * j + p) + 0)) (s29 139 1).toNat)) = z9_ := ⟨_, rfl⟩
  rw [es34] at C
  have frs34 : ∀ (b : Nat) (j : Int), ¬ b = 144 → s34 b j = s b j := fun b j hb => (show s34 b j = s29 b j by rw [← es34]; exact up_a hb).trans (frs29 b j hb)
  refine wl_s (pc' := 98) ji_226_97 rfl rfl rfl ?_
  refine c0_gr (r := 144) (k := 22) C (by decide) sq_138 rfl ji_226_98 jf_226_32 ?_
  refine wl_bp ji_226_101 rfl ?_
  refine wl_s (pc' := 104) ji_226_103 rfl rfl rfl ?_
  refine wl_s (pc' := 105) ji_226_104 rfl rfl rfl ?_
  obtain ⟨q36, hq36⟩ := c0_c C (by decide) sq_138
  refine wl_vc (d := d + 2) (as := [.ref 138, wp_i p]) (rest := [wp_i 8, .ref 144]) ji_226_105 jc_226_298 rfl hq36 jk_230.symm (Nat.le_of_ble_eq_true rfl) rfl (by rw [jn_230]; rfl) (uc_230 (d := d + 2) (cs_of C) (p := p) (by omega)) (fun v1 h35 R => ?_)
  obtain ⟨ee, rfl⟩ := R
  rw [ee]
  clear ee
  show wl_R _ _ 226 108 [some (.ref 138), some (wp_i w), some (wp_i p)] [wp_i (s34 139 (16 + 3 * p + 1)), wp_i 8, .ref 144] _ _
  have gr37 : wp_r (s34 139 (16 + 3 * p + 1)) := cs_ri (k := (16 + 3 * p + 1).toNat) (cs_of C) (by decide) (by decide) sq_139 (by omega) rfl (by show _ < 0 + 6044; omega)
  refine c0_s (x := 8) (y := s34 139 (16 + 3 * p + 1)) C (by decide) sq_144 (by omega) (by omega) ji_226_108 (fun h st380 st381 C => ?_)
  obtain ⟨s39, es39⟩ : ∃ z9_, up s34 144 8 (s34 139 (16 + 3 * p + 1)) = z9_ := ⟨_, rfl⟩
  rw [es39] at C
  have frs39 : ∀ (b : Nat) (j : Int), ¬ b = 144 → s39 b j = s b j := fun b j hb => (show s39 b j = s34 b j by rw [← es39]; exact up_a hb).trans (frs34 b j hb)
  refine wl_s (pc' := 110) ji_226_109 rfl rfl rfl ?_
  refine c0_gr (r := 144) (k := 22) C (by decide) sq_138 rfl ji_226_110 jf_226_32 ?_
  refine wl_bp ji_226_113 rfl ?_
  refine wl_s (pc' := 116) ji_226_115 rfl rfl rfl ?_
  refine c0_gr (r := 139) (k := 0) C (by decide) sq_138 rfl ji_226_116 jf_226_7 ?_
  refine wl_bp ji_226_119 rfl ?_
  refine c0_l (x := 10) C (by decide) sq_139 (by omega) ji_226_121 (fun ld400 ld401 ld402 => ?_)
  have rd41 : s39 139 10 = s 139 10 := by rw [← es39, up_a (by omega)]; rw [← es34, up_a (by omega)]; rw [← es29, up_a (by omega)]; rw [← es24, up_a (by omega)]; rw [← es19, up_a (by omega)]; rw [← es14, up_a (by omega)]; rw [← es9, up_a (by omega)]; rw [← es7, up_a (by omega)]; rw [← es3, up_a (by omega)]
  rw [rd41] at ld402 ⊢
  refine wl_s (pc' := 123) ji_226_122 rfl rfl rfl ?_
  refine wl_icmp (t := 130) ji_226_123 rfl (by omega) (by omega) (fun (hb42 : ¬ (s 139 10 : Int) = w) => ?_) (fun (hb42 : ¬ (¬ (s 139 10 : Int) = w)) => ?_)
  · refine wl_s (pc' := 131) ji_226_130 rfl rfl rfl ?_
    refine c0_s (x := 9) (y := 0) C (by decide) sq_144 (by omega) (by omega) ji_226_131 (fun h st430 st431 C => ?_)
    obtain ⟨s44, es44⟩ : ∃ z9_, up s39 144 9 0 = z9_ := ⟨_, rfl⟩
    rw [es44] at C
    have frs44 : ∀ (b : Nat) (j : Int), ¬ b = 144 → s44 b j = s b j := fun b j hb => (show s44 b j = s39 b j by rw [← es44]; exact up_a hb).trans (frs39 b j hb)
    exact wl_rv ji_226_132 jr_226 (⟨rfl, s44, C, frs44, fun k hk => by
    rcases ten hk with rfl | rfl | rfl | rfl | rfl | rfl | rfl | rfl | rfl | rfl
    · rw [← es44, up_k (by decide), ← es39, up_k (by decide), ← es34, up_k (by decide), ← es29, up_k (by decide), ← es24, up_k (by decide), ← es19, up_k (by decide), ← es14, up_k (by decide), ← es9, up_k (by decide), ← es7, up_k (by decide), ← es3, up_e]; rfl
    · rw [← es44, up_k (by decide), ← es39, up_k (by decide), ← es34, up_k (by decide), ← es29, up_k (by decide), ← es24, up_k (by decide), ← es19, up_k (by decide), ← es14, up_k (by decide), ← es9, up_k (by decide), ← es7, up_e]; rfl
    · rw [← es44, up_k (by decide), ← es39, up_k (by decide), ← es34, up_k (by decide), ← es29, up_k (by decide), ← es24, up_k (by decide), ← es19, up_k (by decide), ← es14, up_k (by decide), ← es9, up_e]; rfl
    · rw [← es44, up_k (by decide), ← es39, up_k (by decide), ← es34, up_k (by decide), ← es29, up_k (by decide), ← es24, up_k (by decide), ← es19, up_k (by decide), ← es14, up_e]; exact frs9 _ _ (by decide)
    · rw [← es44, up_k (by decide), ← es39, up_k (by decide), ← es34, up_k (by decide), ← es29, up_k (by decide), ← es24, up_k (by decide), ← es19, up_e]; exact frs14 _ _ (by decide)
    · rw [← es44, up_k (by decide), ← es39, up_k (by decide), ← es34, up_k (by decide), ← es29, up_k (by decide), ← es24, up_e]; exact frs19 _ _ (by decide)
    · rw [← es44, up_k (by decide), ← es39, up_k (by decide), ← es34, up_k (by decide), ← es29, up_e]; exact frs24 _ _ (by decide)
    · rw [← es44, up_k (by decide), ← es39, up_k (by decide), ← es34, up_e]; show bcn (flg (fun j => s29 139 (52 + 2 * (8 * j + p) + 0)) (s29 139 1).toNat) = bcn (flg (fun j => s 139 (52 + 2 * (8 * j + p) + 0)) (s 139 1).toNat); simp only [frs29 139 _ (show ¬ 139 = 144 by decide)]
    · rw [← es44, up_k (by decide), ← es39, up_e]; exact frs34 _ _ (by decide)
    · rw [← es44, up_e]; show _ = (if s 139 10 = w then 1 else 0); rw [if_neg (by omega)]⟩)
  · refine wl_s (pc' := 127) ji_226_126 rfl rfl rfl ?_
    refine wl_goto (t := 131) ji_226_127 rfl ?_
    refine c0_s (x := 9) (y := 1) C (by decide) sq_144 (by omega) (by omega) ji_226_131 (fun h st450 st451 C => ?_)
    obtain ⟨s46, es46⟩ : ∃ z9_, up s39 144 9 1 = z9_ := ⟨_, rfl⟩
    rw [es46] at C
    have frs46 : ∀ (b : Nat) (j : Int), ¬ b = 144 → s46 b j = s b j := fun b j hb => (show s46 b j = s39 b j by rw [← es46]; exact up_a hb).trans (frs39 b j hb)
    exact wl_rv ji_226_132 jr_226 (⟨rfl, s46, C, frs46, fun k hk => by
    rcases ten hk with rfl | rfl | rfl | rfl | rfl | rfl | rfl | rfl | rfl | rfl
    · rw [← es46, up_k (by decide), ← es39, up_k (by decide), ← es34, up_k (by decide), ← es29, up_k (by decide), ← es24, up_k (by decide), ← es19, up_k (by decide), ← es14, up_k (by decide), ← es9, up_k (by decide), ← es7, up_k (by decide), ← es3, up_e]; rfl
    · rw [← es46, up_k (by decide), ← es39, up_k (by decide), ← es34, up_k (by decide), ← es29, up_k (by decide), ← es24, up_k (by decide), ← es19, up_k (by decide), ← es14, up_k (by decide), ← es9, up_k (by decide), ← es7, up_e]; rfl
    · rw [← es46, up_k (by decide), ← es39, up_k (by decide), ← es34, up_k (by decide), ← es29, up_k (by decide), ← es24, up_k (by decide), ← es19, up_k (by decide), ← es14, up_k (by decide), ← es9, up_e]; rfl
    · rw [← es46, up_k (by decide), ← es39, up_k (by decide), ← es34, up_k (by decide), ← es29, up_k (by decide), ← es24, up_k (by decide), ← es19, up_k (by decide), ← es14, up_e]; exact frs9 _ _ (by decide)
    · rw [← es46, up_k (by decide), ← es39, up_k (by decide), ← es34, up_k (by decide), ← es29, up_k (by decide), ← es24, up_k (by decide), ← es19, up_e]; exact frs14 _ _ (by decide)
    · rw [← es46, up_k (by decide), ← es39, up_k (by decide), ← es34, up_k (by decide), ← es29, up_k (by decide), ← es24, up_e]; exact frs19 _ _ (by decide)
    · rw [← es46, up_k (by decide), ← es39, up_k (by decide), ← es34, up_k (by decide), ← es29, up_e]; exact frs24 _ _ (by decide)
    · rw [← es46, up_k (by decide), ← es39, up_k (by decide), ← es34, up_e]; show bcn (flg (fun j => s29 139 (52 + 2 * (8 * j + p) + 0)) (s29 139 1).toNat) = bcn (flg (fun j => s 139 (52 + 2 * (8 * j + p) + 0)) (s 139 1).toNat); simp only [frs29 139 _ (show ¬ 139 = 144 by decide)]
    · rw [← es46, up_k (by decide), ← es39, up_e]; exact frs34 _ _ (by decide)
    · rw [← es46, up_e]; show _ = (if s 139 10 = w then 1 else 0); rw [if_pos (by omega)]⟩)
