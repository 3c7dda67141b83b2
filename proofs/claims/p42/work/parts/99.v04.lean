/-! -/
set_option maxRecDepth 100000 in
theorem ji_120_0 : mj_ins 120 0 = some (.aload_n 0) := by decide +kernel
set_option maxRecDepth 100000 in
theorem ji_120_1 : mj_ins 120 1 = some (.getfield 13) := by decide +kernel
set_option maxRecDepth 100000 in
theorem jf_120_13 : mj_fld 120 13 = some (10, 0, (.array (.object "ForestOfPoles$Forest")), false) := by decide +kernel
set_option maxRecDepth 100000 in
theorem ji_120_4 : mj_ins 120 4 = some (.iload 4) := by decide +kernel
set_option maxRecDepth 100000 in
theorem ji_120_6 : mj_ins 120 6 = some (.aaload) := by decide +kernel
set_option maxRecDepth 100000 in
theorem ji_120_7 : mj_ins 120 7 = some (.astore 6) := by decide +kernel
set_option maxRecDepth 100000 in
theorem ji_120_9 : mj_ins 120 9 = some (.iload 4) := by decide +kernel
set_option maxRecDepth 100000 in
theorem ji_120_11 : mj_ins 120 11 = some (.iload_n 3) := by decide +kernel
set_option maxRecDepth 100000 in
theorem ji_120_12 : mj_ins 120 12 = some (.if_icmp .ge 9) := by decide +kernel
set_option maxRecDepth 100000 in
theorem ji_120_21 : mj_ins 120 21 = some (.iload 5) := by decide +kernel
set_option maxRecDepth 100000 in
theorem ji_120_23 : mj_ins 120 23 = some (.ifCond .ne 16) := by decide +kernel
set_option maxRecDepth 100000 in
theorem ji_120_39 : mj_ins 120 39 = some (.iconst 0) := by decide +kernel
set_option maxRecDepth 100000 in
theorem ji_120_40 : mj_ins 120 40 = some (.ireturn) := by decide +kernel
set_option maxRecDepth 100000 in
theorem jr_120 : mj_ret 120 = some .boolean := by decide +kernel
set_option maxRecDepth 100000 in
theorem ji_120_26 : mj_ins 120 26 = some (.aload 6) := by decide +kernel
set_option maxRecDepth 100000 in
theorem ji_120_28 : mj_ins 120 28 = some (.getfield 50) := by decide +kernel
set_option maxRecDepth 100000 in
theorem sq_130 : sh_T[130]? = some (3, [0, 0, 134, 135, 136, 137, 138, 139, 140, 0, 0, 0, 0], 0, 0) := by decide +kernel
set_option maxRecDepth 100000 in
theorem jf_120_50 : mj_fld 120 50 = some (3, 11, .int, true) := by decide +kernel
set_option maxRecDepth 100000 in
theorem ji_120_31 : mj_ins 120 31 = some (.iload_n 2) := by decide +kernel
set_option maxRecDepth 100000 in
theorem ji_120_32 : mj_ins 120 32 = some (.if_icmp .ne 7) := by decide +kernel
set_option maxRecDepth 100000 in
theorem ji_120_35 : mj_ins 120 35 = some (.iconst 1) := by decide +kernel
set_option maxRecDepth 100000 in
theorem ji_120_36 : mj_ins 120 36 = some (.goto 4) := by decide +kernel
set_option maxRecDepth 100000 in
theorem ji_120_15 : mj_ins 120 15 = some (.iload 4) := by decide +kernel
set_option maxRecDepth 100000 in
theorem ji_120_17 : mj_ins 120 17 = some (.iconst 4) := by decide +kernel
set_option maxRecDepth 100000 in
theorem ji_120_18 : mj_ins 120 18 = some (.if_icmp .lt 23) := by decide +kernel
set_option maxRecDepth 100000 in
theorem ji_120_55 : mj_ins 120 55 = some (.iload 8) := by decide +kernel
set_option maxRecDepth 100000 in
theorem ji_120_57 : mj_ins 120 57 = some (.aload 6) := by decide +kernel
set_option maxRecDepth 100000 in
theorem ji_120_59 : mj_ins 120 59 = some (.getfield 64) := by decide +kernel
set_option maxRecDepth 100000 in
theorem sq_122 : sh_T[122]? = some (3, [0, 0, 126, 127, 128, 129, 130, 131, 132, 0, 0, 0, 0], 0, 0) := by decide +kernel
set_option maxRecDepth 100000 in
theorem jf_120_64 : mj_fld 120 64 = some (3, 0, .int, true) := by decide +kernel
set_option maxRecDepth 100000 in
theorem ji_120_62 : mj_ins 120 62 = some (.if_icmp .ge 155) := by decide +kernel
set_option maxRecDepth 100000 in
theorem ji_120_217 : mj_ins 120 217 = some (.iconst 0) := by decide +kernel
set_option maxRecDepth 100000 in
theorem ji_120_218 : mj_ins 120 218 = some (.ireturn) := by decide +kernel
set_option maxRecDepth 100000 in
theorem ji_120_65 : mj_ins 120 65 = some (.iload 8) := by decide +kernel
set_option maxRecDepth 100000 in
theorem ji_120_67 : mj_ins 120 67 = some (.iconst (-1)) := by decide +kernel
set_option maxRecDepth 100000 in
theorem ji_120_68 : mj_ins 120 68 = some (.if_icmp .eq 7) := by decide +kernel
set_option maxRecDepth 100000 in
theorem ji_120_75 : mj_ins 120 75 = some (.iconst 0) := by decide +kernel
set_option maxRecDepth 100000 in
theorem ji_120_76 : mj_ins 120 76 = some (.istore 9) := by decide +kernel
set_option maxRecDepth 100000 in
theorem ji_120_78 : mj_ins 120 78 = some (.iload 9) := by decide +kernel
set_option maxRecDepth 100000 in
theorem ji_120_80 : mj_ins 120 80 = some (.ifCond .eq 27) := by decide +kernel
set_option maxRecDepth 100000 in
theorem ji_120_107 : mj_ins 120 107 = some (.iload 5) := by decide +kernel
set_option maxRecDepth 100000 in
theorem ji_120_109 : mj_ins 120 109 = some (.iload_n 3) := by decide +kernel
set_option maxRecDepth 100000 in
theorem ji_120_110 : mj_ins 120 110 = some (.iload 4) := by decide +kernel
set_option maxRecDepth 100000 in
theorem ji_120_112 : mj_ins 120 112 = some (.isub) := by decide +kernel
set_option maxRecDepth 100000 in
theorem ji_120_113 : mj_ins 120 113 = some (.if_icmp .ge 7) := by decide +kernel
set_option maxRecDepth 100000 in
theorem ji_120_120 : mj_ins 120 120 = some (.iconst 0) := by decide +kernel
set_option maxRecDepth 100000 in
theorem ji_120_121 : mj_ins 120 121 = some (.istore 10) := by decide +kernel
set_option maxRecDepth 100000 in
theorem ji_120_123 : mj_ins 120 123 = some (.iload 10) := by decide +kernel
set_option maxRecDepth 100000 in
theorem ji_120_125 : mj_ins 120 125 = some (.ifCond .ne 6) := by decide +kernel
set_option maxRecDepth 100000 in
theorem ji_120_128 : mj_ins 120 128 = some (.goto 83) := by decide +kernel
set_option maxRecDepth 100000 in
theorem ji_120_211 : mj_ins 120 211 = some (.iinc 8 1) := by decide +kernel
set_option maxRecDepth 100000 in
theorem ji_120_214 : mj_ins 120 214 = some (.goto (-159)) := by decide +kernel
set_option maxRecDepth 100000 in
theorem ji_120_116 : mj_ins 120 116 = some (.iconst 1) := by decide +kernel
set_option maxRecDepth 100000 in
theorem ji_120_117 : mj_ins 120 117 = some (.goto 4) := by decide +kernel
set_option maxRecDepth 100000 in
theorem ji_120_131 : mj_ins 120 131 = some (.aload 7) := by decide +kernel
set_option maxRecDepth 100000 in
theorem ji_120_133 : mj_ins 120 133 = some (.aload 6) := by decide +kernel
set_option maxRecDepth 100000 in
theorem ji_120_135 : mj_ins 120 135 = some (.invokevirtual 57) := by decide +kernel
set_option maxRecDepth 100000 in
theorem jc_120_57 : mj_cal 120 57 = some (2, 107, 1) := by decide +kernel
set_option maxRecDepth 100000 in
theorem ji_120_138 : mj_ins 120 138 = some (.iload 9) := by decide +kernel
set_option maxRecDepth 100000 in
theorem ji_120_140 : mj_ins 120 140 = some (.ifCond .eq 11) := by decide +kernel
set_option maxRecDepth 100000 in
theorem ji_120_151 : mj_ins 120 151 = some (.aload 7) := by decide +kernel
set_option maxRecDepth 100000 in
theorem ji_120_153 : mj_ins 120 153 = some (.aload_n 1) := by decide +kernel
set_option maxRecDepth 100000 in
theorem ji_120_154 : mj_ins 120 154 = some (.invokevirtual 40) := by decide +kernel
set_option maxRecDepth 100000 in
theorem jc_120_40 : mj_cal 120 40 = some (2, 63, 1) := by decide +kernel
set_option maxRecDepth 100000 in
theorem ji_120_157 : mj_ins 120 157 = some (.aload 7) := by decide +kernel
set_option maxRecDepth 100000 in
theorem ji_120_159 : mj_ins 120 159 = some (.invokevirtual 44) := by decide +kernel
set_option maxRecDepth 100000 in
theorem jc_120_44 : mj_cal 120 44 = some (2, 74, 0) := by decide +kernel
set_option maxRecDepth 100000 in
theorem ji_120_162 : mj_ins 120 162 = some (.aload_n 0) := by decide +kernel
set_option maxRecDepth 100000 in
theorem ji_120_163 : mj_ins 120 163 = some (.getfield 17) := by decide +kernel
set_option maxRecDepth 100000 in
theorem jf_120_17 : mj_fld 120 17 = some (10, 1, (.array .int), false) := by decide +kernel
set_option maxRecDepth 100000 in
theorem ji_120_166 : mj_ins 120 166 = some (.iload 4) := by decide +kernel
set_option maxRecDepth 100000 in
theorem ji_120_168 : mj_ins 120 168 = some (.iload 9) := by decide +kernel
set_option maxRecDepth 100000 in
theorem ji_120_170 : mj_ins 120 170 = some (.ifCond .eq 8) := by decide +kernel
set_option maxRecDepth 100000 in
theorem ji_120_178 : mj_ins 120 178 = some (.bipush 8) := by decide +kernel
set_option maxRecDepth 100000 in
theorem ji_120_180 : mj_ins 120 180 = some (.iastore) := by decide +kernel
set_option maxRecDepth 100000 in
theorem sq_97 : sh_T[97]? = some (1000, [], 4, 0) := by decide +kernel
set_option maxRecDepth 100000 in
theorem ji_120_181 : mj_ins 120 181 = some (.aload_n 0) := by decide +kernel
set_option maxRecDepth 100000 in
theorem ji_120_182 : mj_ins 120 182 = some (.aload_n 1) := by decide +kernel
set_option maxRecDepth 100000 in
theorem ji_120_183 : mj_ins 120 183 = some (.iload_n 2) := by decide +kernel
set_option maxRecDepth 100000 in
theorem ji_120_184 : mj_ins 120 184 = some (.iload_n 3) := by decide +kernel
set_option maxRecDepth 100000 in
theorem ji_120_185 : mj_ins 120 185 = some (.iload 4) := by decide +kernel
set_option maxRecDepth 100000 in
theorem ji_120_187 : mj_ins 120 187 = some (.iconst 1) := by decide +kernel
set_option maxRecDepth 100000 in
theorem ji_120_188 : mj_ins 120 188 = some (.iadd) := by decide +kernel
set_option maxRecDepth 100000 in
theorem ji_120_189 : mj_ins 120 189 = some (.iload 9) := by decide +kernel
set_option maxRecDepth 100000 in
theorem ji_120_191 : mj_ins 120 191 = some (.ifCond .eq 10) := by decide +kernel
set_option maxRecDepth 100000 in
theorem ji_120_201 : mj_ins 120 201 = some (.iload 5) := by decide +kernel
set_option maxRecDepth 100000 in
theorem ji_120_203 : mj_ins 120 203 = some (.invokevirtual 60) := by decide +kernel
set_option maxRecDepth 100000 in
theorem jc_120_60 : mj_cal 120 60 = some (2, 120, 5) := by decide +kernel
set_option maxRecDepth 100000 in
theorem jn_120 : mj_nl 120 = 11 := by decide +kernel
set_option maxRecDepth 100000 in
theorem jk_120 : mj_cls 120 = 10 := by decide +kernel
set_option maxRecDepth 100000 in
theorem ji_120_206 : mj_ins 120 206 = some (.ifCond .eq 5) := by decide +kernel
set_option maxRecDepth 100000 in
theorem ji_120_209 : mj_ins 120 209 = some (.iconst 1) := by decide +kernel
set_option maxRecDepth 100000 in
theorem ji_120_210 : mj_ins 120 210 = some (.ireturn) := by decide +kernel
set_option maxRecDepth 100000 in
theorem ji_120_71 : mj_ins 120 71 = some (.iconst 1) := by decide +kernel
set_option maxRecDepth 100000 in
theorem ji_120_72 : mj_ins 120 72 = some (.goto 4) := by decide +kernel
set_option maxRecDepth 100000 in
theorem ji_120_83 : mj_ins 120 83 = some (.iload 5) := by decide +kernel
set_option maxRecDepth 100000 in
theorem ji_120_85 : mj_ins 120 85 = some (.ifCond .le 18) := by decide +kernel
set_option maxRecDepth 100000 in
theorem ji_120_103 : mj_ins 120 103 = some (.iconst 0) := by decide +kernel
set_option maxRecDepth 100000 in
theorem ji_120_104 : mj_ins 120 104 = some (.goto 17) := by decide +kernel
set_option maxRecDepth 100000 in
theorem ji_120_88 : mj_ins 120 88 = some (.aload 6) := by decide +kernel
set_option maxRecDepth 100000 in
theorem ji_120_90 : mj_ins 120 90 = some (.iload_n 2) := by decide +kernel
set_option maxRecDepth 100000 in
theorem ji_120_91 : mj_ins 120 91 = some (.iload 8) := by decide +kernel
set_option maxRecDepth 100000 in
theorem ji_120_93 : mj_ins 120 93 = some (.invokevirtual 67) := by decide +kernel
set_option maxRecDepth 100000 in
theorem jc_120_67 : mj_cal 120 67 = some (2, 79, 2) := by decide +kernel
set_option maxRecDepth 100000 in
theorem ji_120_96 : mj_ins 120 96 = some (.ifCond .eq 7) := by decide +kernel
set_option maxRecDepth 100000 in
theorem ji_120_99 : mj_ins 120 99 = some (.iconst 1) := by decide +kernel
set_option maxRecDepth 100000 in
theorem ji_120_100 : mj_ins 120 100 = some (.goto 21) := by decide +kernel
set_option maxRecDepth 100000 in
theorem ji_120_143 : mj_ins 120 143 = some (.aload 7) := by decide +kernel
set_option maxRecDepth 100000 in
theorem ji_120_145 : mj_ins 120 145 = some (.iload_n 2) := by decide +kernel
set_option maxRecDepth 100000 in
theorem ji_120_146 : mj_ins 120 146 = some (.iload 8) := by decide +kernel
set_option maxRecDepth 100000 in
theorem ji_120_148 : mj_ins 120 148 = some (.invokevirtual 71) := by decide +kernel
set_option maxRecDepth 100000 in
theorem jc_120_71 : mj_cal 120 71 = some (2, 82, 2) := by decide +kernel
set_option maxRecDepth 100000 in
theorem ji_120_173 : mj_ins 120 173 = some (.iload 8) := by decide +kernel
set_option maxRecDepth 100000 in
theorem ji_120_175 : mj_ins 120 175 = some (.goto 5) := by decide +kernel
set_option maxRecDepth 100000 in
theorem ji_120_194 : mj_ins 120 194 = some (.iload 5) := by decide +kernel
set_option maxRecDepth 100000 in
theorem ji_120_196 : mj_ins 120 196 = some (.iconst 1) := by decide +kernel
set_option maxRecDepth 100000 in
theorem ji_120_197 : mj_ins 120 197 = some (.isub) := by decide +kernel
set_option maxRecDepth 100000 in
theorem ji_120_198 : mj_ins 120 198 = some (.goto 5) := by decide +kernel
set_option maxRecDepth 100000 in
theorem ji_120_41 : mj_ins 120 41 = some (.aload_n 0) := by decide +kernel
set_option maxRecDepth 100000 in
theorem ji_120_42 : mj_ins 120 42 = some (.getfield 13) := by decide +kernel
set_option maxRecDepth 100000 in
theorem ji_120_45 : mj_ins 120 45 = some (.iload 4) := by decide +kernel
set_option maxRecDepth 100000 in
theorem ji_120_47 : mj_ins 120 47 = some (.iconst 1) := by decide +kernel
set_option maxRecDepth 100000 in
theorem ji_120_48 : mj_ins 120 48 = some (.iadd) := by decide +kernel
set_option maxRecDepth 100000 in
theorem ji_120_49 : mj_ins 120 49 = some (.aaload) := by decide +kernel
set_option maxRecDepth 100000 in
theorem ji_120_50 : mj_ins 120 50 = some (.astore 7) := by decide +kernel
set_option maxRecDepth 100000 in
theorem ji_120_52 : mj_ins 120 52 = some (.iconst (-1)) := by decide +kernel
set_option maxRecDepth 100000 in
theorem ji_120_53 : mj_ins 120 53 = some (.istore 8) := by decide +kernel
/-! the class's seek for hoists: what it leaves alone; laid by program (wp_v04.py) -/
theorem uc_120_4 {nn d : Nat} {h : mj_H} {s : sg_} (C : CS h s) {cd : cds} {w n left : Int} {T : Nat} (hT : isT T) (hw : 0 ≤ w ∧ w < 6) (hn : 0 ≤ n ∧ n ≤ 4) (hl : -10 ≤ left ∧ left ≤ 100) (H : TXC s T cd) (SCs : SC s) (G : IG s 130) (h10 : s 130 10 ≤ 19004) : wl_R nn d 120 0 [some (.ref 95), some (.ref T), some (wp_i w), some (wp_i n), some (wp_i 4), some (wp_i left), none, none, none, none, none] [] h (fun v1 h1 => ∃ yy : Int, v1 = some (wp_i yy) ∧ (yy = 0 ∨ yy = 1) ∧ ∃ t, CS h1 t ∧ (∀ (b : Nat) (j : Int), ¬ (b = 97) → t b j = s b j)) := by
  have i0 := G.1.1
  have g11 := G.1.2.2.2.2.2.2.2.2.1
  refine wl_s (pc' := 1) ji_120_0 rfl rfl rfl ?_
  refine cs_gr (r := 96) (k := 0) C (by decide) sq_95 rfl ji_120_1 jf_120_13 ?_
  refine wl_s (pc' := 6) ji_120_4 rfl rfl rfl ?_
  refine cs_aa (r := 130) (x := 4) C (by decide) sq_96 (by decide) (by decide) (by decide) (by decide) rfl ji_120_6 ?_
  refine wl_s (pc' := 9) (lv' := [some (.ref 95), some (.ref T), some (wp_i w), some (wp_i n), some (wp_i 4), some (wp_i left), some (.ref 130), none, none, none, none]) ji_120_7 rfl rfl rfl ?_
  refine wl_s (pc' := 11) ji_120_9 rfl rfl rfl ?_
  refine wl_s (pc' := 12) ji_120_11 rfl rfl rfl ?_
  refine wl_icmp (t := 21) ji_120_12 rfl (by omega) (by omega) (fun (hb1 : (n : Int) ≤ 4) => ?_) (fun (hb1 : ¬ ((n : Int) ≤ 4)) => ?_)
  · refine wl_s (pc' := 23) ji_120_21 rfl rfl rfl ?_
    refine wl_if (t := 39) ji_120_23 rfl (by omega) (fun (hb2 : ¬ (left : Int) = 0) => ?_) (fun (hb2 : ¬ (¬ (left : Int) = 0)) => ?_)
    · refine wl_s (pc' := 40) ji_120_39 rfl rfl rfl ?_
      exact wl_ri ji_120_40 jr_120 (pv_nb (by omega)) (⟨0, rfl, by decide, s, C, fun _ _ _ => rfl⟩)
    · refine wl_s (pc' := 28) ji_120_26 rfl rfl rfl ?_
      refine cs_gi (k := 11) (kI := 11) C (by decide) (by decide) sq_130 rfl rfl ji_120_28 jf_120_50 ?_
      have bd3 : wp_r (s 130 11) := cs_ri (k := 11) (kI := 11) C (by decide) (by decide) sq_130 rfl rfl (show 11 < 13 by decide)
      refine wl_s (pc' := 32) ji_120_31 rfl rfl rfl ?_
      refine wl_icmp (t := 39) ji_120_32 rfl (by omega) (by omega) (fun (hb4 : ¬ (s 130 11 : Int) = w) => ?_) (fun (hb4 : ¬ (¬ (s 130 11 : Int) = w)) => ?_)
      · refine wl_s (pc' := 40) ji_120_39 rfl rfl rfl ?_
        exact wl_ri ji_120_40 jr_120 (pv_nb (by omega)) (⟨0, rfl, by decide, s, C, fun _ _ _ => rfl⟩)
      · refine wl_s (pc' := 36) ji_120_35 rfl rfl rfl ?_
        refine wl_goto (t := 40) ji_120_36 rfl ?_
        exact wl_ri ji_120_40 jr_120 (pv_nb (by omega)) (⟨1, rfl, by decide, s, C, fun _ _ _ => rfl⟩)
  · refine wl_s (pc' := 17) ji_120_15 rfl rfl rfl ?_
    refine wl_s (pc' := 18) ji_120_17 rfl rfl rfl ?_
    refine wl_icmp (t := 41) ji_120_18 rfl (by omega) (by omega) (fun (hb5 : (4 : Int) < 4) => (by exfalso; omega)) (fun (hb5 : ¬ ((4 : Int) < 4)) => ?_)
    refine wl_s (pc' := 23) ji_120_21 rfl rfl rfl ?_
    refine wl_if (t := 39) ji_120_23 rfl (by omega) (fun (hb6 : ¬ (left : Int) = 0) => ?_) (fun (hb6 : ¬ (¬ (left : Int) = 0)) => ?_)
    · refine wl_s (pc' := 40) ji_120_39 rfl rfl rfl ?_
      exact wl_ri ji_120_40 jr_120 (pv_nb (by omega)) (⟨0, rfl, by decide, s, C, fun _ _ _ => rfl⟩)
    · refine wl_s (pc' := 28) ji_120_26 rfl rfl rfl ?_
      refine cs_gi (k := 11) (kI := 11) C (by decide) (by decide) sq_130 rfl rfl ji_120_28 jf_120_50 ?_
      have bd7 : wp_r (s 130 11) := cs_ri (k := 11) (kI := 11) C (by decide) (by decide) sq_130 rfl rfl (show 11 < 13 by decide)
      refine wl_s (pc' := 32) ji_120_31 rfl rfl rfl ?_
      refine wl_icmp (t := 39) ji_120_32 rfl (by omega) (by omega) (fun (hb8 : ¬ (s 130 11 : Int) = w) => ?_) (fun (hb8 : ¬ (¬ (s 130 11 : Int) = w)) => ?_)
      · refine wl_s (pc' := 40) ji_120_39 rfl rfl rfl ?_
        exact wl_ri ji_120_40 jr_120 (pv_nb (by omega)) (⟨0, rfl, by decide, s, C, fun _ _ _ => rfl⟩)
      · refine wl_s (pc' := 36) ji_120_35 rfl rfl rfl ?_
        refine wl_goto (t := 40) ji_120_36 rfl ?_
        exact wl_ri ji_120_40 jr_120 (pv_nb (by omega)) (⟨1, rfl, by decide, s, C, fun _ _ _ => rfl⟩)
theorem uc_120_3l {d : Nat} {s : sg_} {cd : cds} {w n left : Int} {T : Nat} (hT : isT T) (hw : 0 ≤ w ∧ w < 6) (hn : 0 ≤ n ∧ n ≤ 4) (hl : -10 ≤ left ∧ left ≤ 100) (hi : 3 < n) (H : TXC s T cd) (SCs : SC s) (G : IG s 122) (h10 : s 122 10 ≤ 19003) (Q3 : 4 < n + 1 → SQF s 130 122) : ∀ (nn y : Nat) (h : mj_H) (t : sg_) (l9 l10 : Option Value), CS h t → y ≤ 9 → (∀ (b : Nat) (j : Int), ¬ ((b = 130 ∧ 9 ≤ j ∧ j ≤ 12) ∨ b = 136 ∨ b = 137 ∨ b = 97) → t b j = s b j) → wl_R nn (d + 5) 120 55 [some (.ref 95), some (.ref T), some (wp_i w), some (wp_i n), some (wp_i 3), some (wp_i left), some (.ref 122), some (.ref 130), some (wp_i ((y : Int) - 1)), l9, l10] [] h (fun v1 h1 => ∃ yy : Int, v1 = some (wp_i yy) ∧ (yy = 0 ∨ yy = 1) ∧ ∃ t, CS h1 t ∧ (∀ (b : Nat) (j : Int), ¬ ((b = 130 ∧ 9 ≤ j ∧ j ≤ 12) ∨ b = 136 ∨ b = 137 ∨ b = 97) → t b j = s b j)) := by
  intro nn
  induction nn with
  | zero => intros; exact wl_0
  | succ nn ih =>
    intro y h t l9 l10 C hy ft
    have Gt : IG t 122 := IG_f (fun b j a1 a2 => ft b j (by omega)) G
    have i0 := Gt.1.1
    have i1 := Gt.1.2.1
    refine wl_s1 (pc' := 57) ji_120_55 rfl rfl rfl ?_
    refine wl_s (pc' := 59) ji_120_57 rfl rfl rfl ?_
    refine cs_gi (k := 0) (kI := 0) C (by decide) (by decide) sq_122 rfl rfl ji_120_59 jf_120_64 ?_
    have bd1 : wp_r (t 122 0) := cs_ri (k := 0) (kI := 0) C (by decide) (by decide) sq_122 rfl rfl (show 0 < 13 by decide)
    refine wl_icmp (t := 217) ji_120_62 rfl (by omega) (by omega) (fun (hb2 : (t 122 0 : Int) ≤ ((y : Int) - 1)) => ?_) (fun (hb2 : ¬ ((t 122 0 : Int) ≤ ((y : Int) - 1))) => ?_)
    · refine wl_s (pc' := 218) ji_120_217 rfl rfl rfl ?_
      exact wl_ri ji_120_218 jr_120 (pv_nb (by omega)) (⟨0, rfl, by decide, t, C, ft⟩)
    · refine wl_s (pc' := 67) ji_120_65 rfl rfl rfl ?_
      refine wl_s (pc' := 68) ji_120_67 rfl rfl rfl ?_
      refine wl_icmp (t := 75) ji_120_68 rfl (by omega) (by omega) (fun (hb3 : ((y : Int) - 1 : Int) = (-1)) => ?_) (fun (hb3 : ¬ (((y : Int) - 1 : Int) = (-1))) => ?_)
      · refine wl_s (pc' := 76) ji_120_75 rfl rfl rfl ?_
        refine wl_s (pc' := 78) (lv' := [some (.ref 95), some (.ref T), some (wp_i w), some (wp_i n), some (wp_i 3), some (wp_i left), some (.ref 122), some (.ref 130), some (wp_i ((y : Int) - 1)), some (wp_i 0), l10]) ji_120_76 rfl rfl rfl ?_
        refine wl_s (pc' := 80) ji_120_78 rfl rfl rfl ?_
        refine wl_if (t := 107) ji_120_80 rfl (by omega) (fun (hb4 : (0 : Int) = 0) => ?_) (fun (hb4 : ¬ ((0 : Int) = 0)) => (by exfalso; omega))
        refine wl_s (pc' := 109) ji_120_107 rfl rfl rfl ?_
        refine wl_s (pc' := 110) ji_120_109 rfl rfl rfl ?_
        refine wl_s (pc' := 112) ji_120_110 rfl rfl rfl ?_
        refine wl_isub (x := n) (y := 3) (z := n - 3) ji_120_112 (by omega) ?_
        refine wl_icmp (t := 120) ji_120_113 rfl (by omega) (by omega) (fun (hb5 : (n - 3 : Int) ≤ left) => ?_) (fun (hb5 : ¬ ((n - 3 : Int) ≤ left)) => ?_)
        · refine wl_s (pc' := 121) ji_120_120 rfl rfl rfl ?_
          refine wl_s (pc' := 123) (lv' := [some (.ref 95), some (.ref T), some (wp_i w), some (wp_i n), some (wp_i 3), some (wp_i left), some (.ref 122), some (.ref 130), some (wp_i ((y : Int) - 1)), some (wp_i 0), some (wp_i 0)]) ji_120_121 rfl rfl rfl ?_
          refine wl_s (pc' := 125) ji_120_123 rfl rfl rfl ?_
          refine wl_if (t := 131) ji_120_125 rfl (by omega) (fun (hb6 : ¬ (0 : Int) = 0) => (by exfalso; omega)) (fun (hb6 : ¬ (¬ (0 : Int) = 0)) => ?_)
          refine wl_goto (t := 211) ji_120_128 rfl ?_
          refine wl_iinc (x := (y : Int) - 1) (z := (y : Int) - 1 + 1) (lv' := [some (.ref 95), some (.ref T), some (wp_i w), some (wp_i n), some (wp_i 3), some (wp_i left), some (.ref 122), some (.ref 130), some (wp_i ((y : Int) - 1 + 1)), some (wp_i 0), some (wp_i 0)]) ji_120_211 rfl (Nat.le_of_ble_eq_true rfl) (by omega) rfl ?_
          refine wl_goto (t := 55) ji_120_214 rfl ?_
          rw [show (y : Int) - 1 + 1 = ((y + 1 : Nat) : Int) - 1 by omega]
          exact ih (y + 1) _ t _ _ C (by omega) ft
        · refine wl_s (pc' := 117) ji_120_116 rfl rfl rfl ?_
          refine wl_goto (t := 121) ji_120_117 rfl ?_
          refine wl_s (pc' := 123) (lv' := [some (.ref 95), some (.ref T), some (wp_i w), some (wp_i n), some (wp_i 3), some (wp_i left), some (.ref 122), some (.ref 130), some (wp_i ((y : Int) - 1)), some (wp_i 0), some (wp_i 1)]) ji_120_121 rfl rfl rfl ?_
          refine wl_s (pc' := 125) ji_120_123 rfl rfl rfl ?_
          refine wl_if (t := 131) ji_120_125 rfl (by omega) (fun (hb7 : ¬ (1 : Int) = 0) => ?_) (fun (hb7 : ¬ (¬ (1 : Int) = 0)) => (by exfalso; omega))
          refine wl_s (pc' := 133) ji_120_131 rfl rfl rfl ?_
          refine wl_s (pc' := 135) ji_120_133 rfl rfl rfl ?_
          obtain ⟨q9, hq9⟩ := cs_c C (by decide) sq_130
          refine wl_vc (d := d + 4) (as := [.ref 130, .ref 122]) (rest := []) ji_120_135 jc_120_57 rfl hq9 jk_107.symm (Nat.le_of_ble_eq_true rfl) rfl (by rw [jn_107]; rfl) (uc_107 (d := d + 4) C isF_130 isF_122 (by decide)) (fun v1 h8 R => ?_)
          obtain ⟨rfl, t2, C, m6, m7, m9, m10, m11, m12, mf⟩ := R
          have Qt : SQF t 130 122 := SQF_f (Q3 (by omega)) (fun b j hb => ft b j (by omega))
          have FC : FCP t t2 122 130 := ⟨⟨by rw [mf _ _ (by omega) (by omega) (by omega)]; exact Qt.1.1, by rw [mf _ _ (by omega) (by omega) (by omega)]; exact Qt.1.2⟩, fun j a b => by { rw [mf (130 + 1) j (by omega) (by omega) (by omega), mf (130 + 2) j (by omega) (by omega) (by omega), mf (130 + 3) j (by omega) (by omega) (by omega)]; exact Qt.2.1 j a b }, fun j a b => by { rw [mf (130 + 4) j (by omega) (by omega) (by omega), mf (130 + 5) j (by omega) (by omega) (by omega)]; exact Qt.2.2 j a b }, fun j a b => ⟨m6 j a b, m7 j a b⟩, m9, m10, m11, m12⟩
          have G2 := IG_t Gt FC
          have f2 : ∀ (b : Nat) (j : Int), ¬ ((b = 130 ∧ 9 ≤ j ∧ j ≤ 12) ∨ b = 136 ∨ b = 137 ∨ b = 97) → t2 b j = s b j := fun b j a1 => (mf b j (by omega) (by omega) (by omega)).trans (ft b j a1)
          have h2 : t2 130 10 ≤ 19003 := by rw [m10, ft 122 10 (by omega)]; exact h10
          show wl_R _ _ 120 138 [some (.ref 95), some (.ref T), some (wp_i w), some (wp_i n), some (wp_i 3), some (wp_i left), some (.ref 122), some (.ref 130), some (wp_i ((y : Int) - 1)), some (wp_i 0), some (wp_i 1)] [] h8 _
          refine wl_s (pc' := 140) ji_120_138 rfl rfl rfl ?_
          refine wl_if (t := 151) ji_120_140 rfl (by omega) (fun (hb10 : (0 : Int) = 0) => ?_) (fun (hb10 : ¬ ((0 : Int) = 0)) => (by exfalso; omega))
          refine wl_s (pc' := 153) ji_120_151 rfl rfl rfl ?_
          refine wl_s (pc' := 154) ji_120_153 rfl rfl rfl ?_
          obtain ⟨q12, hq12⟩ := cs_c C (by decide) sq_130
          refine wl_vc (d := d + 4) (as := [.ref 130, .ref T]) (rest := []) ji_120_154 jc_120_40 rfl hq12 jk_63.symm (Nat.le_of_ble_eq_true rfl) rfl (by rw [jn_63]; rfl) (uc_63 (d := d) C hT isF_130 (TXC_f (fun b j a1 a2 => f2 b j (by have := isT_b hT; omega)) H) (SC_f (fun j => f2 _ j (by omega)) (fun j => f2 _ j (by omega)) SCs) G2) (fun v1 h11 R => ?_)
          obtain ⟨rfl, C⟩ := R
          obtain ⟨t4, e4⟩ : ∃ z9_, passC cd 130 t2 = z9_ := ⟨_, rfl⟩
          rw [e4] at C
          have G4 : IG t4 130 := by rw [← e4]; exact passC_IG G2 (by omega)
          have f4 : ∀ (b : Nat) (j : Int), ¬ ((b = 130 ∧ 9 ≤ j ∧ j ≤ 12) ∨ b = 136 ∨ b = 137 ∨ b = 97) → t4 b j = s b j := fun b j a1 => by { rw [← e4]; by_cases z : b = 130; subst z; rw [passC_0 (by omega) (by omega)]; exact f2 _ j a1; rw [passC_fr z (by omega) (by omega)]; exact f2 b j a1 }
          have h4 : t4 130 10 ≤ 19004 := by rw [← e4, passC_10]; omega
          show wl_R _ _ 120 157 [some (.ref 95), some (.ref T), some (wp_i w), some (wp_i n), some (wp_i 3), some (wp_i left), some (.ref 122), some (.ref 130), some (wp_i ((y : Int) - 1)), some (wp_i 0), some (wp_i 1)] [] h11 _
          refine wl_s (pc' := 159) ji_120_157 rfl rfl rfl ?_
          obtain ⟨q14, hq14⟩ := cs_c C (by decide) sq_130
          refine wl_vc (d := d + 4) (as := [.ref 130]) (rest := []) ji_120_159 jc_120_44 rfl hq14 jk_74.symm (Nat.le_of_ble_eq_true rfl) rfl (by rw [jn_74]; rfl) (uc_74 (d := d + 3) C isF_130 G4.1) (fun v1 h13 R => ?_)
          obtain ⟨rfl, C⟩ := R
          have C : CS h13 (drwC 130 t4) := C
          obtain ⟨t5, e5⟩ : ∃ z9_, drwC 130 t4 = z9_ := ⟨_, rfl⟩
          rw [e5] at C
          have G5 : IG t5 130 := by rw [← e5]; exact drwC_IG G4
          have f5 : ∀ (b : Nat) (j : Int), ¬ ((b = 130 ∧ 9 ≤ j ∧ j ≤ 12) ∨ b = 136 ∨ b = 137 ∨ b = 97) → t5 b j = s b j := fun b j a1 => by { rw [← e5]; by_cases z : b = 130; subst z; rw [drwC_0 (by omega) (by omega)]; exact f4 _ j a1; rw [drwC_fr z]; exact f4 b j a1 }
          have h5 : t5 130 10 ≤ 19004 := by rw [← e5, drwC_0 (by decide) (by decide)]; exact h4
          show wl_R _ _ 120 162 [some (.ref 95), some (.ref T), some (wp_i w), some (wp_i n), some (wp_i 3), some (wp_i left), some (.ref 122), some (.ref 130), some (wp_i ((y : Int) - 1)), some (wp_i 0), some (wp_i 1)] [] h13 _
          refine wl_s (pc' := 163) ji_120_162 rfl rfl rfl ?_
          refine cs_gr (r := 97) (k := 1) C (by decide) sq_95 rfl ji_120_163 jf_120_17 ?_
          refine wl_s (pc' := 168) ji_120_166 rfl rfl rfl ?_
          refine wl_s (pc' := 170) ji_120_168 rfl rfl rfl ?_
          refine wl_if (t := 178) ji_120_170 rfl (by omega) (fun (hb15 : (0 : Int) = 0) => ?_) (fun (hb15 : ¬ ((0 : Int) = 0)) => (by exfalso; omega))
          refine wl_bp ji_120_178 rfl ?_
          refine cs_s (x := 3) (y := 8) C (by decide) sq_97 (by omega) (by omega) ji_120_180 (fun h st160 st161 C => ?_)
          obtain ⟨s17, es17⟩ : ∃ z9_, up t5 97 3 8 = z9_ := ⟨_, rfl⟩
          rw [es17] at C
          refine wl_s (pc' := 182) ji_120_181 rfl rfl rfl ?_
          refine wl_s (pc' := 183) ji_120_182 rfl rfl rfl ?_
          refine wl_s (pc' := 184) ji_120_183 rfl rfl rfl ?_
          refine wl_s (pc' := 185) ji_120_184 rfl rfl rfl ?_
          refine wl_s (pc' := 187) ji_120_185 rfl rfl rfl ?_
          refine wl_s (pc' := 188) ji_120_187 rfl rfl rfl ?_
          refine wl_iadd (x := 3) (y := 1) (z := 4) ji_120_188 (by omega) ?_
          refine wl_s (pc' := 191) ji_120_189 rfl rfl rfl ?_
          refine wl_if (t := 201) ji_120_191 rfl (by omega) (fun (hb18 : (0 : Int) = 0) => ?_) (fun (hb18 : ¬ ((0 : Int) = 0)) => (by exfalso; omega))
          refine wl_s (pc' := 203) ji_120_201 rfl rfl rfl ?_
          have f6 : ∀ (b : Nat) (j : Int), ¬ ((b = 130 ∧ 9 ≤ j ∧ j ≤ 12) ∨ b = 136 ∨ b = 137 ∨ b = 97) → s17 b j = s b j := fun b j a1 => by rw [← es17, up_n (by omega)]; exact f5 b j a1
          have G6 : IG s17 130 := by rw [← es17]; exact IG_f (fun b j a1 a2 => up_a (by omega)) G5
          have h6 : s17 130 10 ≤ 19004 := by rw [← es17, up_a (by decide)]; exact h5
          obtain ⟨q20, hq20⟩ := cs_c C (by decide) sq_95
          refine wl_vc (d := d + 4) (as := [.ref 95, .ref T, wp_i w, wp_i n, wp_i 4, wp_i left]) (rest := []) ji_120_203 jc_120_60 rfl hq20 jk_120.symm (Nat.le_of_ble_eq_true rfl) rfl (by rw [jn_120]; rfl) (uc_120_4 (d := d + 4) C hT hw hn (left := left) (by omega) (TXC_f (fun b j a1 a2 => f6 b j (by have := isT_b hT; omega)) H) (SC_f (fun j => f6 _ j (by omega)) (fun j => f6 _ j (by omega)) SCs) G6 h6) (fun v1 h19 R => ?_)
          obtain ⟨yy, rfl, hy01, t7, C, f7⟩ := R
          have f8 : ∀ (b : Nat) (j : Int), ¬ ((b = 130 ∧ 9 ≤ j ∧ j ≤ 12) ∨ b = 136 ∨ b = 137 ∨ b = 97) → t7 b j = s b j := fun b j a1 => (f7 b j (by omega)).trans (f6 b j a1)
          show wl_R _ _ 120 206 [some (.ref 95), some (.ref T), some (wp_i w), some (wp_i n), some (wp_i 3), some (wp_i left), some (.ref 122), some (.ref 130), some (wp_i ((y : Int) - 1)), some (wp_i 0), some (wp_i 1)] [wp_i yy] h19 _
          refine wl_if (t := 211) ji_120_206 rfl (by omega) (fun (hb21 : (yy : Int) = 0) => ?_) (fun (hb21 : ¬ ((yy : Int) = 0)) => ?_)
          · refine wl_iinc (x := (y : Int) - 1) (z := (y : Int) - 1 + 1) (lv' := [some (.ref 95), some (.ref T), some (wp_i w), some (wp_i n), some (wp_i 3), some (wp_i left), some (.ref 122), some (.ref 130), some (wp_i ((y : Int) - 1 + 1)), some (wp_i 0), some (wp_i 1)]) ji_120_211 rfl (Nat.le_of_ble_eq_true rfl) (by omega) rfl ?_
            refine wl_goto (t := 55) ji_120_214 rfl ?_
            rw [show (y : Int) - 1 + 1 = ((y + 1 : Nat) : Int) - 1 by omega]
            exact ih (y + 1) _ t7 _ _ C (by omega) f8
          · refine wl_s (pc' := 210) ji_120_209 rfl rfl rfl ?_
            exact wl_ri ji_120_210 jr_120 (pv_nb (by omega)) (⟨1, rfl, by decide, t7, C, f8⟩)
      · refine wl_s (pc' := 72) ji_120_71 rfl rfl rfl ?_
        refine wl_goto (t := 76) ji_120_72 rfl ?_
        refine wl_s (pc' := 78) (lv' := [some (.ref 95), some (.ref T), some (wp_i w), some (wp_i n), some (wp_i 3), some (wp_i left), some (.ref 122), some (.ref 130), some (wp_i ((y : Int) - 1)), some (wp_i 1), l10]) ji_120_76 rfl rfl rfl ?_
        refine wl_s (pc' := 80) ji_120_78 rfl rfl rfl ?_
        refine wl_if (t := 107) ji_120_80 rfl (by omega) (fun (hb22 : (1 : Int) = 0) => (by exfalso; omega)) (fun (hb22 : ¬ ((1 : Int) = 0)) => ?_)
        refine wl_s (pc' := 85) ji_120_83 rfl rfl rfl ?_
        refine wl_if (t := 103) ji_120_85 rfl (by omega) (fun (hb23 : (left : Int) ≤ 0) => ?_) (fun (hb23 : ¬ ((left : Int) ≤ 0)) => ?_)
        · refine wl_s (pc' := 104) ji_120_103 rfl rfl rfl ?_
          refine wl_goto (t := 121) ji_120_104 rfl ?_
          refine wl_s (pc' := 123) (lv' := [some (.ref 95), some (.ref T), some (wp_i w), some (wp_i n), some (wp_i 3), some (wp_i left), some (.ref 122), some (.ref 130), some (wp_i ((y : Int) - 1)), some (wp_i 1), some (wp_i 0)]) ji_120_121 rfl rfl rfl ?_
          refine wl_s (pc' := 125) ji_120_123 rfl rfl rfl ?_
          refine wl_if (t := 131) ji_120_125 rfl (by omega) (fun (hb24 : ¬ (0 : Int) = 0) => (by exfalso; omega)) (fun (hb24 : ¬ (¬ (0 : Int) = 0)) => ?_)
          refine wl_goto (t := 211) ji_120_128 rfl ?_
          refine wl_iinc (x := (y : Int) - 1) (z := (y : Int) - 1 + 1) (lv' := [some (.ref 95), some (.ref T), some (wp_i w), some (wp_i n), some (wp_i 3), some (wp_i left), some (.ref 122), some (.ref 130), some (wp_i ((y : Int) - 1 + 1)), some (wp_i 1), some (wp_i 0)]) ji_120_211 rfl (Nat.le_of_ble_eq_true rfl) (by omega) rfl ?_
          refine wl_goto (t := 55) ji_120_214 rfl ?_
          rw [show (y : Int) - 1 + 1 = ((y + 1 : Nat) : Int) - 1 by omega]
          exact ih (y + 1) _ t _ _ C (by omega) ft
        · refine wl_s (pc' := 90) ji_120_88 rfl rfl rfl ?_
          refine wl_s (pc' := 91) ji_120_90 rfl rfl rfl ?_
          refine wl_s (pc' := 93) ji_120_91 rfl rfl rfl ?_
          obtain ⟨q26, hq26⟩ := cs_c C (by decide) sq_122
          refine wl_vc (d := d + 4) (as := [.ref 122, wp_i w, wp_i ((y : Int) - 1)]) (rest := []) ji_120_93 jc_120_67 rfl hq26 jk_79.symm (Nat.le_of_ble_eq_true rfl) rfl (by rw [jn_79]; rfl) (uc_79 (d := d + 3) C isF_122 Gt.1 (w := w) (p := (y : Int) - 1) (by omega) (by omega)) (fun v1 h25 R => ?_)
          obtain ⟨ee, y27, rfl, hy27a, hy27b⟩ := R
          rw [ee]
          clear ee
          show wl_R _ _ 120 96 [some (.ref 95), some (.ref T), some (wp_i w), some (wp_i n), some (wp_i 3), some (wp_i left), some (.ref 122), some (.ref 130), some (wp_i ((y : Int) - 1)), some (wp_i 1), l10] [wp_i y27] _ _
          refine wl_if (t := 103) ji_120_96 rfl (by omega) (fun (hb28 : (y27 : Int) = 0) => ?_) (fun (hb28 : ¬ ((y27 : Int) = 0)) => ?_)
          · refine wl_s (pc' := 104) ji_120_103 rfl rfl rfl ?_
            refine wl_goto (t := 121) ji_120_104 rfl ?_
            refine wl_s (pc' := 123) (lv' := [some (.ref 95), some (.ref T), some (wp_i w), some (wp_i n), some (wp_i 3), some (wp_i left), some (.ref 122), some (.ref 130), some (wp_i ((y : Int) - 1)), some (wp_i 1), some (wp_i 0)]) ji_120_121 rfl rfl rfl ?_
            refine wl_s (pc' := 125) ji_120_123 rfl rfl rfl ?_
            refine wl_if (t := 131) ji_120_125 rfl (by omega) (fun (hb29 : ¬ (0 : Int) = 0) => (by exfalso; omega)) (fun (hb29 : ¬ (¬ (0 : Int) = 0)) => ?_)
            refine wl_goto (t := 211) ji_120_128 rfl ?_
            refine wl_iinc (x := (y : Int) - 1) (z := (y : Int) - 1 + 1) (lv' := [some (.ref 95), some (.ref T), some (wp_i w), some (wp_i n), some (wp_i 3), some (wp_i left), some (.ref 122), some (.ref 130), some (wp_i ((y : Int) - 1 + 1)), some (wp_i 1), some (wp_i 0)]) ji_120_211 rfl (Nat.le_of_ble_eq_true rfl) (by omega) rfl ?_
            refine wl_goto (t := 55) ji_120_214 rfl ?_
            rw [show (y : Int) - 1 + 1 = ((y + 1 : Nat) : Int) - 1 by omega]
            exact ih (y + 1) _ t _ _ C (by omega) ft
          · refine wl_s (pc' := 100) ji_120_99 rfl rfl rfl ?_
            refine wl_goto (t := 121) ji_120_100 rfl ?_
            refine wl_s (pc' := 123) (lv' := [some (.ref 95), some (.ref T), some (wp_i w), some (wp_i n), some (wp_i 3), some (wp_i left), some (.ref 122), some (.ref 130), some (wp_i ((y : Int) - 1)), some (wp_i 1), some (wp_i 1)]) ji_120_121 rfl rfl rfl ?_
            refine wl_s (pc' := 125) ji_120_123 rfl rfl rfl ?_
            refine wl_if (t := 131) ji_120_125 rfl (by omega) (fun (hb30 : ¬ (1 : Int) = 0) => ?_) (fun (hb30 : ¬ (¬ (1 : Int) = 0)) => (by exfalso; omega))
            refine wl_s (pc' := 133) ji_120_131 rfl rfl rfl ?_
            refine wl_s (pc' := 135) ji_120_133 rfl rfl rfl ?_
            obtain ⟨q32, hq32⟩ := cs_c C (by decide) sq_130
            refine wl_vc (d := d + 4) (as := [.ref 130, .ref 122]) (rest := []) ji_120_135 jc_120_57 rfl hq32 jk_107.symm (Nat.le_of_ble_eq_true rfl) rfl (by rw [jn_107]; rfl) (uc_107 (d := d + 4) C isF_130 isF_122 (by decide)) (fun v1 h31 R => ?_)
            obtain ⟨rfl, t2, C, m6, m7, m9, m10, m11, m12, mf⟩ := R
            have Qt : SQF t 130 122 := SQF_f (Q3 (by omega)) (fun b j hb => ft b j (by omega))
            have FC : FCP t t2 122 130 := ⟨⟨by rw [mf _ _ (by omega) (by omega) (by omega)]; exact Qt.1.1, by rw [mf _ _ (by omega) (by omega) (by omega)]; exact Qt.1.2⟩, fun j a b => by { rw [mf (130 + 1) j (by omega) (by omega) (by omega), mf (130 + 2) j (by omega) (by omega) (by omega), mf (130 + 3) j (by omega) (by omega) (by omega)]; exact Qt.2.1 j a b }, fun j a b => by { rw [mf (130 + 4) j (by omega) (by omega) (by omega), mf (130 + 5) j (by omega) (by omega) (by omega)]; exact Qt.2.2 j a b }, fun j a b => ⟨m6 j a b, m7 j a b⟩, m9, m10, m11, m12⟩
            have G2 := IG_t Gt FC
            have f2 : ∀ (b : Nat) (j : Int), ¬ ((b = 130 ∧ 9 ≤ j ∧ j ≤ 12) ∨ b = 136 ∨ b = 137 ∨ b = 97) → t2 b j = s b j := fun b j a1 => (mf b j (by omega) (by omega) (by omega)).trans (ft b j a1)
            have h2 : t2 130 10 ≤ 19003 := by rw [m10, ft 122 10 (by omega)]; exact h10
            show wl_R _ _ 120 138 [some (.ref 95), some (.ref T), some (wp_i w), some (wp_i n), some (wp_i 3), some (wp_i left), some (.ref 122), some (.ref 130), some (wp_i ((y : Int) - 1)), some (wp_i 1), some (wp_i 1)] [] h31 _
            refine wl_s (pc' := 140) ji_120_138 rfl rfl rfl ?_
            refine wl_if (t := 151) ji_120_140 rfl (by omega) (fun (hb33 : (1 : Int) = 0) => (by exfalso; omega)) (fun (hb33 : ¬ ((1 : Int) = 0)) => ?_)
            refine wl_s (pc' := 145) ji_120_143 rfl rfl rfl ?_
            refine wl_s (pc' := 146) ji_120_145 rfl rfl rfl ?_
            refine wl_s (pc' := 148) ji_120_146 rfl rfl rfl ?_
            obtain ⟨q35, hq35⟩ := cs_c C (by decide) sq_130
            refine wl_vc (d := d + 4) (as := [.ref 130, wp_i w, wp_i ((y : Int) - 1)]) (rest := []) ji_120_148 jc_120_71 rfl hq35 jk_82.symm (Nat.le_of_ble_eq_true rfl) rfl (by rw [jn_82]; rfl) (uc_82 (d := d + 4) C isF_130 (w := w) (p := (y : Int) - 1) hw (by omega)) (fun v1 h34 R => ?_)
            obtain ⟨rfl, C⟩ := R
            obtain ⟨t3, e3⟩ : ∃ z9_, up (up t2 (130 + 6) (((y : Int) - 1) * 6 + w) 0) (130 + 7) (((y : Int) - 1) * 6 + w) 0 = z9_ := ⟨_, rfl⟩
            rw [e3] at C
            have G3 : IG t3 130 := by rw [← e3]; exact IG_raise (F := 130) G2
            have f3 : ∀ (b : Nat) (j : Int), ¬ ((b = 130 ∧ 9 ≤ j ∧ j ≤ 12) ∨ b = 136 ∨ b = 137 ∨ b = 97) → t3 b j = s b j := fun b j a1 => by rw [← e3, up_a (by omega), up_a (by omega)]; exact f2 b j a1
            have h3 : t3 130 10 ≤ 19003 := by rw [← e3, up_a (by decide), up_a (by decide)]; exact h2
            show wl_R _ _ 120 151 [some (.ref 95), some (.ref T), some (wp_i w), some (wp_i n), some (wp_i 3), some (wp_i left), some (.ref 122), some (.ref 130), some (wp_i ((y : Int) - 1)), some (wp_i 1), some (wp_i 1)] [] h34 _
            refine wl_s (pc' := 153) ji_120_151 rfl rfl rfl ?_
            refine wl_s (pc' := 154) ji_120_153 rfl rfl rfl ?_
            obtain ⟨q37, hq37⟩ := cs_c C (by decide) sq_130
            refine wl_vc (d := d + 4) (as := [.ref 130, .ref T]) (rest := []) ji_120_154 jc_120_40 rfl hq37 jk_63.symm (Nat.le_of_ble_eq_true rfl) rfl (by rw [jn_63]; rfl) (uc_63 (d := d) C hT isF_130 (TXC_f (fun b j a1 a2 => f3 b j (by have := isT_b hT; omega)) H) (SC_f (fun j => f3 _ j (by omega)) (fun j => f3 _ j (by omega)) SCs) G3) (fun v1 h36 R => ?_)
            obtain ⟨rfl, C⟩ := R
            obtain ⟨t4, e4⟩ : ∃ z9_, passC cd 130 t3 = z9_ := ⟨_, rfl⟩
            rw [e4] at C
            have G4 : IG t4 130 := by rw [← e4]; exact passC_IG G3 (by omega)
            have f4 : ∀ (b : Nat) (j : Int), ¬ ((b = 130 ∧ 9 ≤ j ∧ j ≤ 12) ∨ b = 136 ∨ b = 137 ∨ b = 97) → t4 b j = s b j := fun b j a1 => by { rw [← e4]; by_cases z : b = 130; subst z; rw [passC_0 (by omega) (by omega)]; exact f3 _ j a1; rw [passC_fr z (by omega) (by omega)]; exact f3 b j a1 }
            have h4 : t4 130 10 ≤ 19004 := by rw [← e4, passC_10]; omega
            show wl_R _ _ 120 157 [some (.ref 95), some (.ref T), some (wp_i w), some (wp_i n), some (wp_i 3), some (wp_i left), some (.ref 122), some (.ref 130), some (wp_i ((y : Int) - 1)), some (wp_i 1), some (wp_i 1)] [] h36 _
            refine wl_s (pc' := 159) ji_120_157 rfl rfl rfl ?_
            obtain ⟨q39, hq39⟩ := cs_c C (by decide) sq_130
            refine wl_vc (d := d + 4) (as := [.ref 130]) (rest := []) ji_120_159 jc_120_44 rfl hq39 jk_74.symm (Nat.le_of_ble_eq_true rfl) rfl (by rw [jn_74]; rfl) (uc_74 (d := d + 3) C isF_130 G4.1) (fun v1 h38 R => ?_)
            obtain ⟨rfl, C⟩ := R
            have C : CS h38 (drwC 130 t4) := C
            obtain ⟨t5, e5⟩ : ∃ z9_, drwC 130 t4 = z9_ := ⟨_, rfl⟩
            rw [e5] at C
            have G5 : IG t5 130 := by rw [← e5]; exact drwC_IG G4
            have f5 : ∀ (b : Nat) (j : Int), ¬ ((b = 130 ∧ 9 ≤ j ∧ j ≤ 12) ∨ b = 136 ∨ b = 137 ∨ b = 97) → t5 b j = s b j := fun b j a1 => by { rw [← e5]; by_cases z : b = 130; subst z; rw [drwC_0 (by omega) (by omega)]; exact f4 _ j a1; rw [drwC_fr z]; exact f4 b j a1 }
            have h5 : t5 130 10 ≤ 19004 := by rw [← e5, drwC_0 (by decide) (by decide)]; exact h4
            show wl_R _ _ 120 162 [some (.ref 95), some (.ref T), some (wp_i w), some (wp_i n), some (wp_i 3), some (wp_i left), some (.ref 122), some (.ref 130), some (wp_i ((y : Int) - 1)), some (wp_i 1), some (wp_i 1)] [] h38 _
            refine wl_s (pc' := 163) ji_120_162 rfl rfl rfl ?_
            refine cs_gr (r := 97) (k := 1) C (by decide) sq_95 rfl ji_120_163 jf_120_17 ?_
            refine wl_s (pc' := 168) ji_120_166 rfl rfl rfl ?_
            refine wl_s (pc' := 170) ji_120_168 rfl rfl rfl ?_
            refine wl_if (t := 178) ji_120_170 rfl (by omega) (fun (hb40 : (1 : Int) = 0) => (by exfalso; omega)) (fun (hb40 : ¬ ((1 : Int) = 0)) => ?_)
            refine wl_s (pc' := 175) ji_120_173 rfl rfl rfl ?_
            refine wl_goto (t := 180) ji_120_175 rfl ?_
            refine cs_s (x := 3) (y := (y : Int) - 1) C (by decide) sq_97 (by omega) (by omega) ji_120_180 (fun h st410 st411 C => ?_)
            obtain ⟨s42, es42⟩ : ∃ z9_, up t5 97 3 ((y : Int) - 1) = z9_ := ⟨_, rfl⟩
            rw [es42] at C
            refine wl_s (pc' := 182) ji_120_181 rfl rfl rfl ?_
            refine wl_s (pc' := 183) ji_120_182 rfl rfl rfl ?_
            refine wl_s (pc' := 184) ji_120_183 rfl rfl rfl ?_
            refine wl_s (pc' := 185) ji_120_184 rfl rfl rfl ?_
            refine wl_s (pc' := 187) ji_120_185 rfl rfl rfl ?_
            refine wl_s (pc' := 188) ji_120_187 rfl rfl rfl ?_
            refine wl_iadd (x := 3) (y := 1) (z := 4) ji_120_188 (by omega) ?_
            refine wl_s (pc' := 191) ji_120_189 rfl rfl rfl ?_
            refine wl_if (t := 201) ji_120_191 rfl (by omega) (fun (hb43 : (1 : Int) = 0) => (by exfalso; omega)) (fun (hb43 : ¬ ((1 : Int) = 0)) => ?_)
            refine wl_s (pc' := 196) ji_120_194 rfl rfl rfl ?_
            refine wl_s (pc' := 197) ji_120_196 rfl rfl rfl ?_
            refine wl_isub (x := left) (y := 1) (z := left - 1) ji_120_197 (by omega) ?_
            refine wl_goto (t := 203) ji_120_198 rfl ?_
            have f6 : ∀ (b : Nat) (j : Int), ¬ ((b = 130 ∧ 9 ≤ j ∧ j ≤ 12) ∨ b = 136 ∨ b = 137 ∨ b = 97) → s42 b j = s b j := fun b j a1 => by rw [← es42, up_n (by omega)]; exact f5 b j a1
            have G6 : IG s42 130 := by rw [← es42]; exact IG_f (fun b j a1 a2 => up_a (by omega)) G5
            have h6 : s42 130 10 ≤ 19004 := by rw [← es42, up_a (by decide)]; exact h5
            obtain ⟨q45, hq45⟩ := cs_c C (by decide) sq_95
            refine wl_vc (d := d + 4) (as := [.ref 95, .ref T, wp_i w, wp_i n, wp_i 4, wp_i (left - 1)]) (rest := []) ji_120_203 jc_120_60 rfl hq45 jk_120.symm (Nat.le_of_ble_eq_true rfl) rfl (by rw [jn_120]; rfl) (uc_120_4 (d := d + 4) C hT hw hn (left := left - 1) (by omega) (TXC_f (fun b j a1 a2 => f6 b j (by have := isT_b hT; omega)) H) (SC_f (fun j => f6 _ j (by omega)) (fun j => f6 _ j (by omega)) SCs) G6 h6) (fun v1 h44 R => ?_)
            obtain ⟨yy, rfl, hy01, t7, C, f7⟩ := R
            have f8 : ∀ (b : Nat) (j : Int), ¬ ((b = 130 ∧ 9 ≤ j ∧ j ≤ 12) ∨ b = 136 ∨ b = 137 ∨ b = 97) → t7 b j = s b j := fun b j a1 => (f7 b j (by omega)).trans (f6 b j a1)
            show wl_R _ _ 120 206 [some (.ref 95), some (.ref T), some (wp_i w), some (wp_i n), some (wp_i 3), some (wp_i left), some (.ref 122), some (.ref 130), some (wp_i ((y : Int) - 1)), some (wp_i 1), some (wp_i 1)] [wp_i yy] h44 _
            refine wl_if (t := 211) ji_120_206 rfl (by omega) (fun (hb46 : (yy : Int) = 0) => ?_) (fun (hb46 : ¬ ((yy : Int) = 0)) => ?_)
            · refine wl_iinc (x := (y : Int) - 1) (z := (y : Int) - 1 + 1) (lv' := [some (.ref 95), some (.ref T), some (wp_i w), some (wp_i n), some (wp_i 3), some (wp_i left), some (.ref 122), some (.ref 130), some (wp_i ((y : Int) - 1 + 1)), some (wp_i 1), some (wp_i 1)]) ji_120_211 rfl (Nat.le_of_ble_eq_true rfl) (by omega) rfl ?_
              refine wl_goto (t := 55) ji_120_214 rfl ?_
              rw [show (y : Int) - 1 + 1 = ((y + 1 : Nat) : Int) - 1 by omega]
              exact ih (y + 1) _ t7 _ _ C (by omega) f8
            · refine wl_s (pc' := 210) ji_120_209 rfl rfl rfl ?_
              exact wl_ri ji_120_210 jr_120 (pv_nb (by omega)) (⟨1, rfl, by decide, t7, C, f8⟩)
theorem uc_120_3 {nn d : Nat} {h : mj_H} {s : sg_} (C : CS h s) {cd : cds} {w n left : Int} {T : Nat} (hT : isT T) (hw : 0 ≤ w ∧ w < 6) (hn : 0 ≤ n ∧ n ≤ 4) (hl : -10 ≤ left ∧ left ≤ 100) (H : TXC s T cd) (SCs : SC s) (G : IG s 122) (h10 : s 122 10 ≤ 19003) (Q3 : 4 < n + 1 → SQF s 130 122) : wl_R nn (d + 5) 120 0 [some (.ref 95), some (.ref T), some (wp_i w), some (wp_i n), some (wp_i 3), some (wp_i left), none, none, none, none, none] [] h (fun v1 h1 => ∃ yy : Int, v1 = some (wp_i yy) ∧ (yy = 0 ∨ yy = 1) ∧ ∃ t, CS h1 t ∧ (∀ (b : Nat) (j : Int), ¬ ((b = 130 ∧ 9 ≤ j ∧ j ≤ 12) ∨ b = 136 ∨ b = 137 ∨ b = 97) → t b j = s b j)) := by
  have i0 := G.1.1
  have g11 := G.1.2.2.2.2.2.2.2.2.1
  refine wl_s (pc' := 1) ji_120_0 rfl rfl rfl ?_
  refine cs_gr (r := 96) (k := 0) C (by decide) sq_95 rfl ji_120_1 jf_120_13 ?_
  refine wl_s (pc' := 6) ji_120_4 rfl rfl rfl ?_
  refine cs_aa (r := 122) (x := 3) C (by decide) sq_96 (by decide) (by decide) (by decide) (by decide) rfl ji_120_6 ?_
  refine wl_s (pc' := 9) (lv' := [some (.ref 95), some (.ref T), some (wp_i w), some (wp_i n), some (wp_i 3), some (wp_i left), some (.ref 122), none, none, none, none]) ji_120_7 rfl rfl rfl ?_
  refine wl_s (pc' := 11) ji_120_9 rfl rfl rfl ?_
  refine wl_s (pc' := 12) ji_120_11 rfl rfl rfl ?_
  refine wl_icmp (t := 21) ji_120_12 rfl (by omega) (by omega) (fun (hb1 : (n : Int) ≤ 3) => ?_) (fun (hb1 : ¬ ((n : Int) ≤ 3)) => ?_)
  · refine wl_s (pc' := 23) ji_120_21 rfl rfl rfl ?_
    refine wl_if (t := 39) ji_120_23 rfl (by omega) (fun (hb2 : ¬ (left : Int) = 0) => ?_) (fun (hb2 : ¬ (¬ (left : Int) = 0)) => ?_)
    · refine wl_s (pc' := 40) ji_120_39 rfl rfl rfl ?_
      exact wl_ri ji_120_40 jr_120 (pv_nb (by omega)) (⟨0, rfl, by decide, s, C, fun _ _ _ => rfl⟩)
    · refine wl_s (pc' := 28) ji_120_26 rfl rfl rfl ?_
      refine cs_gi (k := 11) (kI := 11) C (by decide) (by decide) sq_122 rfl rfl ji_120_28 jf_120_50 ?_
      have bd3 : wp_r (s 122 11) := cs_ri (k := 11) (kI := 11) C (by decide) (by decide) sq_122 rfl rfl (show 11 < 13 by decide)
      refine wl_s (pc' := 32) ji_120_31 rfl rfl rfl ?_
      refine wl_icmp (t := 39) ji_120_32 rfl (by omega) (by omega) (fun (hb4 : ¬ (s 122 11 : Int) = w) => ?_) (fun (hb4 : ¬ (¬ (s 122 11 : Int) = w)) => ?_)
      · refine wl_s (pc' := 40) ji_120_39 rfl rfl rfl ?_
        exact wl_ri ji_120_40 jr_120 (pv_nb (by omega)) (⟨0, rfl, by decide, s, C, fun _ _ _ => rfl⟩)
      · refine wl_s (pc' := 36) ji_120_35 rfl rfl rfl ?_
        refine wl_goto (t := 40) ji_120_36 rfl ?_
        exact wl_ri ji_120_40 jr_120 (pv_nb (by omega)) (⟨1, rfl, by decide, s, C, fun _ _ _ => rfl⟩)
  · refine wl_s (pc' := 17) ji_120_15 rfl rfl rfl ?_
    refine wl_s (pc' := 18) ji_120_17 rfl rfl rfl ?_
    refine wl_icmp (t := 41) ji_120_18 rfl (by omega) (by omega) (fun (hb5 : (3 : Int) < 4) => ?_) (fun (hb5 : ¬ ((3 : Int) < 4)) => (by exfalso; omega))
    refine wl_s (pc' := 42) ji_120_41 rfl rfl rfl ?_
    refine cs_gr (r := 96) (k := 0) C (by decide) sq_95 rfl ji_120_42 jf_120_13 ?_
    refine wl_s (pc' := 47) ji_120_45 rfl rfl rfl ?_
    refine wl_s (pc' := 48) ji_120_47 rfl rfl rfl ?_
    refine wl_iadd (x := 3) (y := 1) (z := 4) ji_120_48 (by omega) ?_
    refine cs_aa (r := 130) (x := 4) C (by decide) sq_96 (by decide) (by decide) (by decide) (by decide) rfl ji_120_49 ?_
    refine wl_s (pc' := 52) (lv' := [some (.ref 95), some (.ref T), some (wp_i w), some (wp_i n), some (wp_i 3), some (wp_i left), some (.ref 122), some (.ref 130), none, none, none]) ji_120_50 rfl rfl rfl ?_
    refine wl_s (pc' := 53) ji_120_52 rfl rfl rfl ?_
    refine wl_s (pc' := 55) (lv' := [some (.ref 95), some (.ref T), some (wp_i w), some (wp_i n), some (wp_i 3), some (wp_i left), some (.ref 122), some (.ref 130), some (wp_i (-1)), none, none]) ji_120_53 rfl rfl rfl ?_
    rw [show (-1 : Int) = ((0 : Nat) : Int) - 1 from rfl]
    exact uc_120_3l hT hw hn hl (by omega) H SCs G h10 Q3 nn 0 _ s none none C (by decide) (fun _ _ _ => rfl)
theorem uc_120_2l {d : Nat} {s : sg_} {cd : cds} {w n left : Int} {T : Nat} (hT : isT T) (hw : 0 ≤ w ∧ w < 6) (hn : 0 ≤ n ∧ n ≤ 4) (hl : -10 ≤ left ∧ left ≤ 100) (hi : 2 < n) (H : TXC s T cd) (SCs : SC s) (G : IG s 114) (h10 : s 114 10 ≤ 19002) (Q2 : 3 < n + 1 → SQF s 122 114) (Q3 : 4 < n + 1 → SQF s 130 122) : ∀ (nn y : Nat) (h : mj_H) (t : sg_) (l9 l10 : Option Value), CS h t → y ≤ 9 → (∀ (b : Nat) (j : Int), ¬ ((b = 122 ∧ 9 ≤ j ∧ j ≤ 12) ∨ b = 128 ∨ b = 129 ∨ (b = 130 ∧ 9 ≤ j ∧ j ≤ 12) ∨ b = 136 ∨ b = 137 ∨ b = 97) → t b j = s b j) → wl_R nn (d + 6) 120 55 [some (.ref 95), some (.ref T), some (wp_i w), some (wp_i n), some (wp_i 2), some (wp_i left), some (.ref 114), some (.ref 122), some (wp_i ((y : Int) - 1)), l9, l10] [] h (fun v1 h1 => ∃ yy : Int, v1 = some (wp_i yy) ∧ (yy = 0 ∨ yy = 1) ∧ ∃ t, CS h1 t ∧ (∀ (b : Nat) (j : Int), ¬ ((b = 122 ∧ 9 ≤ j ∧ j ≤ 12) ∨ b = 128 ∨ b = 129 ∨ (b = 130 ∧ 9 ≤ j ∧ j ≤ 12) ∨ b = 136 ∨ b = 137 ∨ b = 97) → t b j = s b j)) := by
  intro nn
  induction nn with
  | zero => intros; exact wl_0
  | succ nn ih =>
    intro y h t l9 l10 C hy ft
    have Gt : IG t 114 := IG_f (fun b j a1 a2 => ft b j (by omega)) G
    have i0 := Gt.1.1
    have i1 := Gt.1.2.1
    refine wl_s1 (pc' := 57) ji_120_55 rfl rfl rfl ?_
    refine wl_s (pc' := 59) ji_120_57 rfl rfl rfl ?_
    refine cs_gi (k := 0) (kI := 0) C (by decide) (by decide) sq_114 rfl rfl ji_120_59 jf_120_64 ?_
    have bd1 : wp_r (t 114 0) := cs_ri (k := 0) (kI := 0) C (by decide) (by decide) sq_114 rfl rfl (show 0 < 13 by decide)
    refine wl_icmp (t := 217) ji_120_62 rfl (by omega) (by omega) (fun (hb2 : (t 114 0 : Int) ≤ ((y : Int) - 1)) => ?_) (fun (hb2 : ¬ ((t 114 0 : Int) ≤ ((y : Int) - 1))) => ?_)
    · refine wl_s (pc' := 218) ji_120_217 rfl rfl rfl ?_
      exact wl_ri ji_120_218 jr_120 (pv_nb (by omega)) (⟨0, rfl, by decide, t, C, ft⟩)
    · refine wl_s (pc' := 67) ji_120_65 rfl rfl rfl ?_
      refine wl_s (pc' := 68) ji_120_67 rfl rfl rfl ?_
      refine wl_icmp (t := 75) ji_120_68 rfl (by omega) (by omega) (fun (hb3 : ((y : Int) - 1 : Int) = (-1)) => ?_) (fun (hb3 : ¬ (((y : Int) - 1 : Int) = (-1))) => ?_)
      · refine wl_s (pc' := 76) ji_120_75 rfl rfl rfl ?_
        refine wl_s (pc' := 78) (lv' := [some (.ref 95), some (.ref T), some (wp_i w), some (wp_i n), some (wp_i 2), some (wp_i left), some (.ref 114), some (.ref 122), some (wp_i ((y : Int) - 1)), some (wp_i 0), l10]) ji_120_76 rfl rfl rfl ?_
        refine wl_s (pc' := 80) ji_120_78 rfl rfl rfl ?_
        refine wl_if (t := 107) ji_120_80 rfl (by omega) (fun (hb4 : (0 : Int) = 0) => ?_) (fun (hb4 : ¬ ((0 : Int) = 0)) => (by exfalso; omega))
        refine wl_s (pc' := 109) ji_120_107 rfl rfl rfl ?_
        refine wl_s (pc' := 110) ji_120_109 rfl rfl rfl ?_
        refine wl_s (pc' := 112) ji_120_110 rfl rfl rfl ?_
        refine wl_isub (x := n) (y := 2) (z := n - 2) ji_120_112 (by omega) ?_
        refine wl_icmp (t := 120) ji_120_113 rfl (by omega) (by omega) (fun (hb5 : (n - 2 : Int) ≤ left) => ?_) (fun (hb5 : ¬ ((n - 2 : Int) ≤ left)) => ?_)
        · refine wl_s (pc' := 121) ji_120_120 rfl rfl rfl ?_
          refine wl_s (pc' := 123) (lv' := [some (.ref 95), some (.ref T), some (wp_i w), some (wp_i n), some (wp_i 2), some (wp_i left), some (.ref 114), some (.ref 122), some (wp_i ((y : Int) - 1)), some (wp_i 0), some (wp_i 0)]) ji_120_121 rfl rfl rfl ?_
          refine wl_s (pc' := 125) ji_120_123 rfl rfl rfl ?_
          refine wl_if (t := 131) ji_120_125 rfl (by omega) (fun (hb6 : ¬ (0 : Int) = 0) => (by exfalso; omega)) (fun (hb6 : ¬ (¬ (0 : Int) = 0)) => ?_)
          refine wl_goto (t := 211) ji_120_128 rfl ?_
          refine wl_iinc (x := (y : Int) - 1) (z := (y : Int) - 1 + 1) (lv' := [some (.ref 95), some (.ref T), some (wp_i w), some (wp_i n), some (wp_i 2), some (wp_i left), some (.ref 114), some (.ref 122), some (wp_i ((y : Int) - 1 + 1)), some (wp_i 0), some (wp_i 0)]) ji_120_211 rfl (Nat.le_of_ble_eq_true rfl) (by omega) rfl ?_
          refine wl_goto (t := 55) ji_120_214 rfl ?_
          rw [show (y : Int) - 1 + 1 = ((y + 1 : Nat) : Int) - 1 by omega]
          exact ih (y + 1) _ t _ _ C (by omega) ft
        · refine wl_s (pc' := 117) ji_120_116 rfl rfl rfl ?_
          refine wl_goto (t := 121) ji_120_117 rfl ?_
          refine wl_s (pc' := 123) (lv' := [some (.ref 95), some (.ref T), some (wp_i w), some (wp_i n), some (wp_i 2), some (wp_i left), some (.ref 114), some (.ref 122), some (wp_i ((y : Int) - 1)), some (wp_i 0), some (wp_i 1)]) ji_120_121 rfl rfl rfl ?_
          refine wl_s (pc' := 125) ji_120_123 rfl rfl rfl ?_
          refine wl_if (t := 131) ji_120_125 rfl (by omega) (fun (hb7 : ¬ (1 : Int) = 0) => ?_) (fun (hb7 : ¬ (¬ (1 : Int) = 0)) => (by exfalso; omega))
          refine wl_s (pc' := 133) ji_120_131 rfl rfl rfl ?_
          refine wl_s (pc' := 135) ji_120_133 rfl rfl rfl ?_
          obtain ⟨q9, hq9⟩ := cs_c C (by decide) sq_122
          refine wl_vc (d := d + 5) (as := [.ref 122, .ref 114]) (rest := []) ji_120_135 jc_120_57 rfl hq9 jk_107.symm (Nat.le_of_ble_eq_true rfl) rfl (by rw [jn_107]; rfl) (uc_107 (d := d + 5) C isF_122 isF_114 (by decide)) (fun v1 h8 R => ?_)
          obtain ⟨rfl, t2, C, m6, m7, m9, m10, m11, m12, mf⟩ := R
          have Qt : SQF t 122 114 := SQF_f (Q2 (by omega)) (fun b j hb => ft b j (by omega))
          have FC : FCP t t2 114 122 := ⟨⟨by rw [mf _ _ (by omega) (by omega) (by omega)]; exact Qt.1.1, by rw [mf _ _ (by omega) (by omega) (by omega)]; exact Qt.1.2⟩, fun j a b => by { rw [mf (122 + 1) j (by omega) (by omega) (by omega), mf (122 + 2) j (by omega) (by omega) (by omega), mf (122 + 3) j (by omega) (by omega) (by omega)]; exact Qt.2.1 j a b }, fun j a b => by { rw [mf (122 + 4) j (by omega) (by omega) (by omega), mf (122 + 5) j (by omega) (by omega) (by omega)]; exact Qt.2.2 j a b }, fun j a b => ⟨m6 j a b, m7 j a b⟩, m9, m10, m11, m12⟩
          have G2 := IG_t Gt FC
          have f2 : ∀ (b : Nat) (j : Int), ¬ ((b = 122 ∧ 9 ≤ j ∧ j ≤ 12) ∨ b = 128 ∨ b = 129 ∨ (b = 130 ∧ 9 ≤ j ∧ j ≤ 12) ∨ b = 136 ∨ b = 137 ∨ b = 97) → t2 b j = s b j := fun b j a1 => (mf b j (by omega) (by omega) (by omega)).trans (ft b j a1)
          have h2 : t2 122 10 ≤ 19002 := by rw [m10, ft 114 10 (by omega)]; exact h10
          show wl_R _ _ 120 138 [some (.ref 95), some (.ref T), some (wp_i w), some (wp_i n), some (wp_i 2), some (wp_i left), some (.ref 114), some (.ref 122), some (wp_i ((y : Int) - 1)), some (wp_i 0), some (wp_i 1)] [] h8 _
          refine wl_s (pc' := 140) ji_120_138 rfl rfl rfl ?_
          refine wl_if (t := 151) ji_120_140 rfl (by omega) (fun (hb10 : (0 : Int) = 0) => ?_) (fun (hb10 : ¬ ((0 : Int) = 0)) => (by exfalso; omega))
          refine wl_s (pc' := 153) ji_120_151 rfl rfl rfl ?_
          refine wl_s (pc' := 154) ji_120_153 rfl rfl rfl ?_
          obtain ⟨q12, hq12⟩ := cs_c C (by decide) sq_122
          refine wl_vc (d := d + 5) (as := [.ref 122, .ref T]) (rest := []) ji_120_154 jc_120_40 rfl hq12 jk_63.symm (Nat.le_of_ble_eq_true rfl) rfl (by rw [jn_63]; rfl) (uc_63 (d := d + 1) C hT isF_122 (TXC_f (fun b j a1 a2 => f2 b j (by have := isT_b hT; omega)) H) (SC_f (fun j => f2 _ j (by omega)) (fun j => f2 _ j (by omega)) SCs) G2) (fun v1 h11 R => ?_)
          obtain ⟨rfl, C⟩ := R
          obtain ⟨t4, e4⟩ : ∃ z9_, passC cd 122 t2 = z9_ := ⟨_, rfl⟩
          rw [e4] at C
          have G4 : IG t4 122 := by rw [← e4]; exact passC_IG G2 (by omega)
          have f4 : ∀ (b : Nat) (j : Int), ¬ ((b = 122 ∧ 9 ≤ j ∧ j ≤ 12) ∨ b = 128 ∨ b = 129 ∨ (b = 130 ∧ 9 ≤ j ∧ j ≤ 12) ∨ b = 136 ∨ b = 137 ∨ b = 97) → t4 b j = s b j := fun b j a1 => by { rw [← e4]; by_cases z : b = 122; subst z; rw [passC_0 (by omega) (by omega)]; exact f2 _ j a1; rw [passC_fr z (by omega) (by omega)]; exact f2 b j a1 }
          have h4 : t4 122 10 ≤ 19003 := by rw [← e4, passC_10]; omega
          show wl_R _ _ 120 157 [some (.ref 95), some (.ref T), some (wp_i w), some (wp_i n), some (wp_i 2), some (wp_i left), some (.ref 114), some (.ref 122), some (wp_i ((y : Int) - 1)), some (wp_i 0), some (wp_i 1)] [] h11 _
          refine wl_s (pc' := 159) ji_120_157 rfl rfl rfl ?_
          obtain ⟨q14, hq14⟩ := cs_c C (by decide) sq_122
          refine wl_vc (d := d + 5) (as := [.ref 122]) (rest := []) ji_120_159 jc_120_44 rfl hq14 jk_74.symm (Nat.le_of_ble_eq_true rfl) rfl (by rw [jn_74]; rfl) (uc_74 (d := d + 4) C isF_122 G4.1) (fun v1 h13 R => ?_)
          obtain ⟨rfl, C⟩ := R
          have C : CS h13 (drwC 122 t4) := C
          obtain ⟨t5, e5⟩ : ∃ z9_, drwC 122 t4 = z9_ := ⟨_, rfl⟩
          rw [e5] at C
          have G5 : IG t5 122 := by rw [← e5]; exact drwC_IG G4
          have f5 : ∀ (b : Nat) (j : Int), ¬ ((b = 122 ∧ 9 ≤ j ∧ j ≤ 12) ∨ b = 128 ∨ b = 129 ∨ (b = 130 ∧ 9 ≤ j ∧ j ≤ 12) ∨ b = 136 ∨ b = 137 ∨ b = 97) → t5 b j = s b j := fun b j a1 => by { rw [← e5]; by_cases z : b = 122; subst z; rw [drwC_0 (by omega) (by omega)]; exact f4 _ j a1; rw [drwC_fr z]; exact f4 b j a1 }
          have h5 : t5 122 10 ≤ 19003 := by rw [← e5, drwC_0 (by decide) (by decide)]; exact h4
          show wl_R _ _ 120 162 [some (.ref 95), some (.ref T), some (wp_i w), some (wp_i n), some (wp_i 2), some (wp_i left), some (.ref 114), some (.ref 122), some (wp_i ((y : Int) - 1)), some (wp_i 0), some (wp_i 1)] [] h13 _
          refine wl_s (pc' := 163) ji_120_162 rfl rfl rfl ?_
          refine cs_gr (r := 97) (k := 1) C (by decide) sq_95 rfl ji_120_163 jf_120_17 ?_
          refine wl_s (pc' := 168) ji_120_166 rfl rfl rfl ?_
          refine wl_s (pc' := 170) ji_120_168 rfl rfl rfl ?_
          refine wl_if (t := 178) ji_120_170 rfl (by omega) (fun (hb15 : (0 : Int) = 0) => ?_) (fun (hb15 : ¬ ((0 : Int) = 0)) => (by exfalso; omega))
          refine wl_bp ji_120_178 rfl ?_
          refine cs_s (x := 2) (y := 8) C (by decide) sq_97 (by omega) (by omega) ji_120_180 (fun h st160 st161 C => ?_)
          obtain ⟨s17, es17⟩ : ∃ z9_, up t5 97 2 8 = z9_ := ⟨_, rfl⟩
          rw [es17] at C
          refine wl_s (pc' := 182) ji_120_181 rfl rfl rfl ?_
          refine wl_s (pc' := 183) ji_120_182 rfl rfl rfl ?_
          refine wl_s (pc' := 184) ji_120_183 rfl rfl rfl ?_
          refine wl_s (pc' := 185) ji_120_184 rfl rfl rfl ?_
          refine wl_s (pc' := 187) ji_120_185 rfl rfl rfl ?_
          refine wl_s (pc' := 188) ji_120_187 rfl rfl rfl ?_
          refine wl_iadd (x := 2) (y := 1) (z := 3) ji_120_188 (by omega) ?_
          refine wl_s (pc' := 191) ji_120_189 rfl rfl rfl ?_
          refine wl_if (t := 201) ji_120_191 rfl (by omega) (fun (hb18 : (0 : Int) = 0) => ?_) (fun (hb18 : ¬ ((0 : Int) = 0)) => (by exfalso; omega))
          refine wl_s (pc' := 203) ji_120_201 rfl rfl rfl ?_
          have f6 : ∀ (b : Nat) (j : Int), ¬ ((b = 122 ∧ 9 ≤ j ∧ j ≤ 12) ∨ b = 128 ∨ b = 129 ∨ (b = 130 ∧ 9 ≤ j ∧ j ≤ 12) ∨ b = 136 ∨ b = 137 ∨ b = 97) → s17 b j = s b j := fun b j a1 => by rw [← es17, up_n (by omega)]; exact f5 b j a1
          have G6 : IG s17 122 := by rw [← es17]; exact IG_f (fun b j a1 a2 => up_a (by omega)) G5
          have h6 : s17 122 10 ≤ 19003 := by rw [← es17, up_a (by decide)]; exact h5
          obtain ⟨q20, hq20⟩ := cs_c C (by decide) sq_95
          refine wl_vc (d := d + 5) (as := [.ref 95, .ref T, wp_i w, wp_i n, wp_i 3, wp_i left]) (rest := []) ji_120_203 jc_120_60 rfl hq20 jk_120.symm (Nat.le_of_ble_eq_true rfl) rfl (by rw [jn_120]; rfl) (uc_120_3 (d := d) C hT hw hn (left := left) (by omega) (TXC_f (fun b j a1 a2 => f6 b j (by have := isT_b hT; omega)) H) (SC_f (fun j => f6 _ j (by omega)) (fun j => f6 _ j (by omega)) SCs) G6 h6 (fun z => SQF_f (Q3 (by omega)) (fun b j hb => f6 b j (by omega)))) (fun v1 h19 R => ?_)
          obtain ⟨yy, rfl, hy01, t7, C, f7⟩ := R
          have f8 : ∀ (b : Nat) (j : Int), ¬ ((b = 122 ∧ 9 ≤ j ∧ j ≤ 12) ∨ b = 128 ∨ b = 129 ∨ (b = 130 ∧ 9 ≤ j ∧ j ≤ 12) ∨ b = 136 ∨ b = 137 ∨ b = 97) → t7 b j = s b j := fun b j a1 => (f7 b j (by omega)).trans (f6 b j a1)
          show wl_R _ _ 120 206 [some (.ref 95), some (.ref T), some (wp_i w), some (wp_i n), some (wp_i 2), some (wp_i left), some (.ref 114), some (.ref 122), some (wp_i ((y : Int) - 1)), some (wp_i 0), some (wp_i 1)] [wp_i yy] h19 _
          refine wl_if (t := 211) ji_120_206 rfl (by omega) (fun (hb21 : (yy : Int) = 0) => ?_) (fun (hb21 : ¬ ((yy : Int) = 0)) => ?_)
          · refine wl_iinc (x := (y : Int) - 1) (z := (y : Int) - 1 + 1) (lv' := [some (.ref 95), some (.ref T), some (wp_i w), some (wp_i n), some (wp_i 2), some (wp_i left), some (.ref 114), some (.ref 122), some (wp_i ((y : Int) - 1 + 1)), some (wp_i 0), some (wp_i 1)]) ji_120_211 rfl (Nat.le_of_ble_eq_true rfl) (by omega) rfl ?_
            refine wl_goto (t := 55) ji_120_214 rfl ?_
            rw [show (y : Int) - 1 + 1 = ((y + 1 : Nat) : Int) - 1 by omega]
            exact ih (y + 1) _ t7 _ _ C (by omega) f8
          · refine wl_s (pc' := 210) ji_120_209 rfl rfl rfl ?_
            exact wl_ri ji_120_210 jr_120 (pv_nb (by omega)) (⟨1, rfl, by decide, t7, C, f8⟩)
      · refine wl_s (pc' := 72) ji_120_71 rfl rfl rfl ?_
        refine wl_goto (t := 76) ji_120_72 rfl ?_
        refine wl_s (pc' := 78) (lv' := [some (.ref 95), some (.ref T), some (wp_i w), some (wp_i n), some (wp_i 2), some (wp_i left), some (.ref 114), some (.ref 122), some (wp_i ((y : Int) - 1)), some (wp_i 1), l10]) ji_120_76 rfl rfl rfl ?_
        refine wl_s (pc' := 80) ji_120_78 rfl rfl rfl ?_
        refine wl_if (t := 107) ji_120_80 rfl (by omega) (fun (hb22 : (1 : Int) = 0) => (by exfalso; omega)) (fun (hb22 : ¬ ((1 : Int) = 0)) => ?_)
        refine wl_s (pc' := 85) ji_120_83 rfl rfl rfl ?_
        refine wl_if (t := 103) ji_120_85 rfl (by omega) (fun (hb23 : (left : Int) ≤ 0) => ?_) (fun (hb23 : ¬ ((left : Int) ≤ 0)) => ?_)
        · refine wl_s (pc' := 104) ji_120_103 rfl rfl rfl ?_
          refine wl_goto (t := 121) ji_120_104 rfl ?_
          refine wl_s (pc' := 123) (lv' := [some (.ref 95), some (.ref T), some (wp_i w), some (wp_i n), some (wp_i 2), some (wp_i left), some (.ref 114), some (.ref 122), some (wp_i ((y : Int) - 1)), some (wp_i 1), some (wp_i 0)]) ji_120_121 rfl rfl rfl ?_
          refine wl_s (pc' := 125) ji_120_123 rfl rfl rfl ?_
          refine wl_if (t := 131) ji_120_125 rfl (by omega) (fun (hb24 : ¬ (0 : Int) = 0) => (by exfalso; omega)) (fun (hb24 : ¬ (¬ (0 : Int) = 0)) => ?_)
          refine wl_goto (t := 211) ji_120_128 rfl ?_
          refine wl_iinc (x := (y : Int) - 1) (z := (y : Int) - 1 + 1) (lv' := [some (.ref 95), some (.ref T), some (wp_i w), some (wp_i n), some (wp_i 2), some (wp_i left), some (.ref 114), some (.ref 122), some (wp_i ((y : Int) - 1 + 1)), some (wp_i 1), some (wp_i 0)]) ji_120_211 rfl (Nat.le_of_ble_eq_true rfl) (by omega) rfl ?_
          refine wl_goto (t := 55) ji_120_214 rfl ?_
          rw [show (y : Int) - 1 + 1 = ((y + 1 : Nat) : Int) - 1 by omega]
          exact ih (y + 1) _ t _ _ C (by omega) ft
        · refine wl_s (pc' := 90) ji_120_88 rfl rfl rfl ?_
          refine wl_s (pc' := 91) ji_120_90 rfl rfl rfl ?_
          refine wl_s (pc' := 93) ji_120_91 rfl rfl rfl ?_
          obtain ⟨q26, hq26⟩ := cs_c C (by decide) sq_114
          refine wl_vc (d := d + 5) (as := [.ref 114, wp_i w, wp_i ((y : Int) - 1)]) (rest := []) ji_120_93 jc_120_67 rfl hq26 jk_79.symm (Nat.le_of_ble_eq_true rfl) rfl (by rw [jn_79]; rfl) (uc_79 (d := d + 4) C isF_114 Gt.1 (w := w) (p := (y : Int) - 1) (by omega) (by omega)) (fun v1 h25 R => ?_)
          obtain ⟨ee, y27, rfl, hy27a, hy27b⟩ := R
          rw [ee]
          clear ee
          show wl_R _ _ 120 96 [some (.ref 95), some (.ref T), some (wp_i w), some (wp_i n), some (wp_i 2), some (wp_i left), some (.ref 114), some (.ref 122), some (wp_i ((y : Int) - 1)), some (wp_i 1), l10] [wp_i y27] _ _
          refine wl_if (t := 103) ji_120_96 rfl (by omega) (fun (hb28 : (y27 : Int) = 0) => ?_) (fun (hb28 : ¬ ((y27 : Int) = 0)) => ?_)
          · refine wl_s (pc' := 104) ji_120_103 rfl rfl rfl ?_
            refine wl_goto (t := 121) ji_120_104 rfl ?_
            refine wl_s (pc' := 123) (lv' := [some (.ref 95), some (.ref T), some (wp_i w), some (wp_i n), some (wp_i 2), some (wp_i left), some (.ref 114), some (.ref 122), some (wp_i ((y : Int) - 1)), some (wp_i 1), some (wp_i 0)]) ji_120_121 rfl rfl rfl ?_
            refine wl_s (pc' := 125) ji_120_123 rfl rfl rfl ?_
            refine wl_if (t := 131) ji_120_125 rfl (by omega) (fun (hb29 : ¬ (0 : Int) = 0) => (by exfalso; omega)) (fun (hb29 : ¬ (¬ (0 : Int) = 0)) => ?_)
            refine wl_goto (t := 211) ji_120_128 rfl ?_
            refine wl_iinc (x := (y : Int) - 1) (z := (y : Int) - 1 + 1) (lv' := [some (.ref 95), some (.ref T), some (wp_i w), some (wp_i n), some (wp_i 2), some (wp_i left), some (.ref 114), some (.ref 122), some (wp_i ((y : Int) - 1 + 1)), some (wp_i 1), some (wp_i 0)]) ji_120_211 rfl (Nat.le_of_ble_eq_true rfl) (by omega) rfl ?_
            refine wl_goto (t := 55) ji_120_214 rfl ?_
            rw [show (y : Int) - 1 + 1 = ((y + 1 : Nat) : Int) - 1 by omega]
            exact ih (y + 1) _ t _ _ C (by omega) ft
          · refine wl_s (pc' := 100) ji_120_99 rfl rfl rfl ?_
            refine wl_goto (t := 121) ji_120_100 rfl ?_
            refine wl_s (pc' := 123) (lv' := [some (.ref 95), some (.ref T), some (wp_i w), some (wp_i n), some (wp_i 2), some (wp_i left), some (.ref 114), some (.ref 122), some (wp_i ((y : Int) - 1)), some (wp_i 1), some (wp_i 1)]) ji_120_121 rfl rfl rfl ?_
            refine wl_s (pc' := 125) ji_120_123 rfl rfl rfl ?_
            refine wl_if (t := 131) ji_120_125 rfl (by omega) (fun (hb30 : ¬ (1 : Int) = 0) => ?_) (fun (hb30 : ¬ (¬ (1 : Int) = 0)) => (by exfalso; omega))
            refine wl_s (pc' := 133) ji_120_131 rfl rfl rfl ?_
            refine wl_s (pc' := 135) ji_120_133 rfl rfl rfl ?_
            obtain ⟨q32, hq32⟩ := cs_c C (by decide) sq_122
            refine wl_vc (d := d + 5) (as := [.ref 122, .ref 114]) (rest := []) ji_120_135 jc_120_57 rfl hq32 jk_107.symm (Nat.le_of_ble_eq_true rfl) rfl (by rw [jn_107]; rfl) (uc_107 (d := d + 5) C isF_122 isF_114 (by decide)) (fun v1 h31 R => ?_)
            obtain ⟨rfl, t2, C, m6, m7, m9, m10, m11, m12, mf⟩ := R
            have Qt : SQF t 122 114 := SQF_f (Q2 (by omega)) (fun b j hb => ft b j (by omega))
            have FC : FCP t t2 114 122 := ⟨⟨by rw [mf _ _ (by omega) (by omega) (by omega)]; exact Qt.1.1, by rw [mf _ _ (by omega) (by omega) (by omega)]; exact Qt.1.2⟩, fun j a b => by { rw [mf (122 + 1) j (by omega) (by omega) (by omega), mf (122 + 2) j (by omega) (by omega) (by omega), mf (122 + 3) j (by omega) (by omega) (by omega)]; exact Qt.2.1 j a b }, fun j a b => by { rw [mf (122 + 4) j (by omega) (by omega) (by omega), mf (122 + 5) j (by omega) (by omega) (by omega)]; exact Qt.2.2 j a b }, fun j a b => ⟨m6 j a b, m7 j a b⟩, m9, m10, m11, m12⟩
            have G2 := IG_t Gt FC
            have f2 : ∀ (b : Nat) (j : Int), ¬ ((b = 122 ∧ 9 ≤ j ∧ j ≤ 12) ∨ b = 128 ∨ b = 129 ∨ (b = 130 ∧ 9 ≤ j ∧ j ≤ 12) ∨ b = 136 ∨ b = 137 ∨ b = 97) → t2 b j = s b j := fun b j a1 => (mf b j (by omega) (by omega) (by omega)).trans (ft b j a1)
            have h2 : t2 122 10 ≤ 19002 := by rw [m10, ft 114 10 (by omega)]; exact h10
            show wl_R _ _ 120 138 [some (.ref 95), some (.ref T), some (wp_i w), some (wp_i n), some (wp_i 2), some (wp_i left), some (.ref 114), some (.ref 122), some (wp_i ((y : Int) - 1)), some (wp_i 1), some (wp_i 1)] [] h31 _
            refine wl_s (pc' := 140) ji_120_138 rfl rfl rfl ?_
            refine wl_if (t := 151) ji_120_140 rfl (by omega) (fun (hb33 : (1 : Int) = 0) => (by exfalso; omega)) (fun (hb33 : ¬ ((1 : Int) = 0)) => ?_)
            refine wl_s (pc' := 145) ji_120_143 rfl rfl rfl ?_
            refine wl_s (pc' := 146) ji_120_145 rfl rfl rfl ?_
            refine wl_s (pc' := 148) ji_120_146 rfl rfl rfl ?_
            obtain ⟨q35, hq35⟩ := cs_c C (by decide) sq_122
            refine wl_vc (d := d + 5) (as := [.ref 122, wp_i w, wp_i ((y : Int) - 1)]) (rest := []) ji_120_148 jc_120_71 rfl hq35 jk_82.symm (Nat.le_of_ble_eq_true rfl) rfl (by rw [jn_82]; rfl) (uc_82 (d := d + 5) C isF_122 (w := w) (p := (y : Int) - 1) hw (by omega)) (fun v1 h34 R => ?_)
            obtain ⟨rfl, C⟩ := R
            obtain ⟨t3, e3⟩ : ∃ z9_, up (up t2 (122 + 6) (((y : Int) - 1) * 6 + w) 0) (122 + 7) (((y : Int) - 1) * 6 + w) 0 = z9_ := ⟨_, rfl⟩
            rw [e3] at C
            have G3 : IG t3 122 := by rw [← e3]; exact IG_raise (F := 122) G2
            have f3 : ∀ (b : Nat) (j : Int), ¬ ((b = 122 ∧ 9 ≤ j ∧ j ≤ 12) ∨ b = 128 ∨ b = 129 ∨ (b = 130 ∧ 9 ≤ j ∧ j ≤ 12) ∨ b = 136 ∨ b = 137 ∨ b = 97) → t3 b j = s b j := fun b j a1 => by rw [← e3, up_a (by omega), up_a (by omega)]; exact f2 b j a1
            have h3 : t3 122 10 ≤ 19002 := by rw [← e3, up_a (by decide), up_a (by decide)]; exact h2
            show wl_R _ _ 120 151 [some (.ref 95), some (.ref T), some (wp_i w), some (wp_i n), some (wp_i 2), some (wp_i left), some (.ref 114), some (.ref 122), some (wp_i ((y : Int) - 1)), some (wp_i 1), some (wp_i 1)] [] h34 _
            refine wl_s (pc' := 153) ji_120_151 rfl rfl rfl ?_
            refine wl_s (pc' := 154) ji_120_153 rfl rfl rfl ?_
            obtain ⟨q37, hq37⟩ := cs_c C (by decide) sq_122
            refine wl_vc (d := d + 5) (as := [.ref 122, .ref T]) (rest := []) ji_120_154 jc_120_40 rfl hq37 jk_63.symm (Nat.le_of_ble_eq_true rfl) rfl (by rw [jn_63]; rfl) (uc_63 (d := d + 1) C hT isF_122 (TXC_f (fun b j a1 a2 => f3 b j (by have := isT_b hT; omega)) H) (SC_f (fun j => f3 _ j (by omega)) (fun j => f3 _ j (by omega)) SCs) G3) (fun v1 h36 R => ?_)
            obtain ⟨rfl, C⟩ := R
            obtain ⟨t4, e4⟩ : ∃ z9_, passC cd 122 t3 = z9_ := ⟨_, rfl⟩
            rw [e4] at C
            have G4 : IG t4 122 := by rw [← e4]; exact passC_IG G3 (by omega)
            have f4 : ∀ (b : Nat) (j : Int), ¬ ((b = 122 ∧ 9 ≤ j ∧ j ≤ 12) ∨ b = 128 ∨ b = 129 ∨ (b = 130 ∧ 9 ≤ j ∧ j ≤ 12) ∨ b = 136 ∨ b = 137 ∨ b = 97) → t4 b j = s b j := fun b j a1 => by { rw [← e4]; by_cases z : b = 122; subst z; rw [passC_0 (by omega) (by omega)]; exact f3 _ j a1; rw [passC_fr z (by omega) (by omega)]; exact f3 b j a1 }
            have h4 : t4 122 10 ≤ 19003 := by rw [← e4, passC_10]; omega
            show wl_R _ _ 120 157 [some (.ref 95), some (.ref T), some (wp_i w), some (wp_i n), some (wp_i 2), some (wp_i left), some (.ref 114), some (.ref 122), some (wp_i ((y : Int) - 1)), some (wp_i 1), some (wp_i 1)] [] h36 _
            refine wl_s (pc' := 159) ji_120_157 rfl rfl rfl ?_
            obtain ⟨q39, hq39⟩ := cs_c C (by decide) sq_122
            refine wl_vc (d := d + 5) (as := [.ref 122]) (rest := []) ji_120_159 jc_120_44 rfl hq39 jk_74.symm (Nat.le_of_ble_eq_true rfl) rfl (by rw [jn_74]; rfl) (uc_74 (d := d + 4) C isF_122 G4.1) (fun v1 h38 R => ?_)
            obtain ⟨rfl, C⟩ := R
            have C : CS h38 (drwC 122 t4) := C
            obtain ⟨t5, e5⟩ : ∃ z9_, drwC 122 t4 = z9_ := ⟨_, rfl⟩
            rw [e5] at C
            have G5 : IG t5 122 := by rw [← e5]; exact drwC_IG G4
            have f5 : ∀ (b : Nat) (j : Int), ¬ ((b = 122 ∧ 9 ≤ j ∧ j ≤ 12) ∨ b = 128 ∨ b = 129 ∨ (b = 130 ∧ 9 ≤ j ∧ j ≤ 12) ∨ b = 136 ∨ b = 137 ∨ b = 97) → t5 b j = s b j := fun b j a1 => by { rw [← e5]; by_cases z : b = 122; subst z; rw [drwC_0 (by omega) (by omega)]; exact f4 _ j a1; rw [drwC_fr z]; exact f4 b j a1 }
            have h5 : t5 122 10 ≤ 19003 := by rw [← e5, drwC_0 (by decide) (by decide)]; exact h4
            show wl_R _ _ 120 162 [some (.ref 95), some (.ref T), some (wp_i w), some (wp_i n), some (wp_i 2), some (wp_i left), some (.ref 114), some (.ref 122), some (wp_i ((y : Int) - 1)), some (wp_i 1), some (wp_i 1)] [] h38 _
            refine wl_s (pc' := 163) ji_120_162 rfl rfl rfl ?_
            refine cs_gr (r := 97) (k := 1) C (by decide) sq_95 rfl ji_120_163 jf_120_17 ?_
            refine wl_s (pc' := 168) ji_120_166 rfl rfl rfl ?_
            refine wl_s (pc' := 170) ji_120_168 rfl rfl rfl ?_
            refine wl_if (t := 178) ji_120_170 rfl (by omega) (fun (hb40 : (1 : Int) = 0) => (by exfalso; omega)) (fun (hb40 : ¬ ((1 : Int) = 0)) => ?_)
            refine wl_s (pc' := 175) ji_120_173 rfl rfl rfl ?_
            refine wl_goto (t := 180) ji_120_175 rfl ?_
            refine cs_s (x := 2) (y := (y : Int) - 1) C (by decide) sq_97 (by omega) (by omega) ji_120_180 (fun h st410 st411 C => ?_)
            obtain ⟨s42, es42⟩ : ∃ z9_, up t5 97 2 ((y : Int) - 1) = z9_ := ⟨_, rfl⟩
            rw [es42] at C
            refine wl_s (pc' := 182) ji_120_181 rfl rfl rfl ?_
            refine wl_s (pc' := 183) ji_120_182 rfl rfl rfl ?_
            refine wl_s (pc' := 184) ji_120_183 rfl rfl rfl ?_
            refine wl_s (pc' := 185) ji_120_184 rfl rfl rfl ?_
            refine wl_s (pc' := 187) ji_120_185 rfl rfl rfl ?_
            refine wl_s (pc' := 188) ji_120_187 rfl rfl rfl ?_
            refine wl_iadd (x := 2) (y := 1) (z := 3) ji_120_188 (by omega) ?_
            refine wl_s (pc' := 191) ji_120_189 rfl rfl rfl ?_
            refine wl_if (t := 201) ji_120_191 rfl (by omega) (fun (hb43 : (1 : Int) = 0) => (by exfalso; omega)) (fun (hb43 : ¬ ((1 : Int) = 0)) => ?_)
            refine wl_s (pc' := 196) ji_120_194 rfl rfl rfl ?_
            refine wl_s (pc' := 197) ji_120_196 rfl rfl rfl ?_
            refine wl_isub (x := left) (y := 1) (z := left - 1) ji_120_197 (by omega) ?_
            refine wl_goto (t := 203) ji_120_198 rfl ?_
            have f6 : ∀ (b : Nat) (j : Int), ¬ ((b = 122 ∧ 9 ≤ j ∧ j ≤ 12) ∨ b = 128 ∨ b = 129 ∨ (b = 130 ∧ 9 ≤ j ∧ j ≤ 12) ∨ b = 136 ∨ b = 137 ∨ b = 97) → s42 b j = s b j := fun b j a1 => by rw [← es42, up_n (by omega)]; exact f5 b j a1
            have G6 : IG s42 122 := by rw [← es42]; exact IG_f (fun b j a1 a2 => up_a (by omega)) G5
            have h6 : s42 122 10 ≤ 19003 := by rw [← es42, up_a (by decide)]; exact h5
            obtain ⟨q45, hq45⟩ := cs_c C (by decide) sq_95
            refine wl_vc (d := d + 5) (as := [.ref 95, .ref T, wp_i w, wp_i n, wp_i 3, wp_i (left - 1)]) (rest := []) ji_120_203 jc_120_60 rfl hq45 jk_120.symm (Nat.le_of_ble_eq_true rfl) rfl (by rw [jn_120]; rfl) (uc_120_3 (d := d) C hT hw hn (left := left - 1) (by omega) (TXC_f (fun b j a1 a2 => f6 b j (by have := isT_b hT; omega)) H) (SC_f (fun j => f6 _ j (by omega)) (fun j => f6 _ j (by omega)) SCs) G6 h6 (fun z => SQF_f (Q3 (by omega)) (fun b j hb => f6 b j (by omega)))) (fun v1 h44 R => ?_)
            obtain ⟨yy, rfl, hy01, t7, C, f7⟩ := R
            have f8 : ∀ (b : Nat) (j : Int), ¬ ((b = 122 ∧ 9 ≤ j ∧ j ≤ 12) ∨ b = 128 ∨ b = 129 ∨ (b = 130 ∧ 9 ≤ j ∧ j ≤ 12) ∨ b = 136 ∨ b = 137 ∨ b = 97) → t7 b j = s b j := fun b j a1 => (f7 b j (by omega)).trans (f6 b j a1)
            show wl_R _ _ 120 206 [some (.ref 95), some (.ref T), some (wp_i w), some (wp_i n), some (wp_i 2), some (wp_i left), some (.ref 114), some (.ref 122), some (wp_i ((y : Int) - 1)), some (wp_i 1), some (wp_i 1)] [wp_i yy] h44 _
            refine wl_if (t := 211) ji_120_206 rfl (by omega) (fun (hb46 : (yy : Int) = 0) => ?_) (fun (hb46 : ¬ ((yy : Int) = 0)) => ?_)
            · refine wl_iinc (x := (y : Int) - 1) (z := (y : Int) - 1 + 1) (lv' := [some (.ref 95), some (.ref T), some (wp_i w), some (wp_i n), some (wp_i 2), some (wp_i left), some (.ref 114), some (.ref 122), some (wp_i ((y : Int) - 1 + 1)), some (wp_i 1), some (wp_i 1)]) ji_120_211 rfl (Nat.le_of_ble_eq_true rfl) (by omega) rfl ?_
              refine wl_goto (t := 55) ji_120_214 rfl ?_
              rw [show (y : Int) - 1 + 1 = ((y + 1 : Nat) : Int) - 1 by omega]
              exact ih (y + 1) _ t7 _ _ C (by omega) f8
            · refine wl_s (pc' := 210) ji_120_209 rfl rfl rfl ?_
              exact wl_ri ji_120_210 jr_120 (pv_nb (by omega)) (⟨1, rfl, by decide, t7, C, f8⟩)
theorem uc_120_2 {nn d : Nat} {h : mj_H} {s : sg_} (C : CS h s) {cd : cds} {w n left : Int} {T : Nat} (hT : isT T) (hw : 0 ≤ w ∧ w < 6) (hn : 0 ≤ n ∧ n ≤ 4) (hl : -10 ≤ left ∧ left ≤ 100) (H : TXC s T cd) (SCs : SC s) (G : IG s 114) (h10 : s 114 10 ≤ 19002) (Q2 : 3 < n + 1 → SQF s 122 114) (Q3 : 4 < n + 1 → SQF s 130 122) : wl_R nn (d + 6) 120 0 [some (.ref 95), some (.ref T), some (wp_i w), some (wp_i n), some (wp_i 2), some (wp_i left), none, none, none, none, none] [] h (fun v1 h1 => ∃ yy : Int, v1 = some (wp_i yy) ∧ (yy = 0 ∨ yy = 1) ∧ ∃ t, CS h1 t ∧ (∀ (b : Nat) (j : Int), ¬ ((b = 122 ∧ 9 ≤ j ∧ j ≤ 12) ∨ b = 128 ∨ b = 129 ∨ (b = 130 ∧ 9 ≤ j ∧ j ≤ 12) ∨ b = 136 ∨ b = 137 ∨ b = 97) → t b j = s b j)) := by
  have i0 := G.1.1
  have g11 := G.1.2.2.2.2.2.2.2.2.1
  refine wl_s (pc' := 1) ji_120_0 rfl rfl rfl ?_
  refine cs_gr (r := 96) (k := 0) C (by decide) sq_95 rfl ji_120_1 jf_120_13 ?_
  refine wl_s (pc' := 6) ji_120_4 rfl rfl rfl ?_
  refine cs_aa (r := 114) (x := 2) C (by decide) sq_96 (by decide) (by decide) (by decide) (by decide) rfl ji_120_6 ?_
  refine wl_s (pc' := 9) (lv' := [some (.ref 95), some (.ref T), some (wp_i w), some (wp_i n), some (wp_i 2), some (wp_i left), some (.ref 114), none, none, none, none]) ji_120_7 rfl rfl rfl ?_
  refine wl_s (pc' := 11) ji_120_9 rfl rfl rfl ?_
  refine wl_s (pc' := 12) ji_120_11 rfl rfl rfl ?_
  refine wl_icmp (t := 21) ji_120_12 rfl (by omega) (by omega) (fun (hb1 : (n : Int) ≤ 2) => ?_) (fun (hb1 : ¬ ((n : Int) ≤ 2)) => ?_)
  · refine wl_s (pc' := 23) ji_120_21 rfl rfl rfl ?_
    refine wl_if (t := 39) ji_120_23 rfl (by omega) (fun (hb2 : ¬ (left : Int) = 0) => ?_) (fun (hb2 : ¬ (¬ (left : Int) = 0)) => ?_)
    · refine wl_s (pc' := 40) ji_120_39 rfl rfl rfl ?_
      exact wl_ri ji_120_40 jr_120 (pv_nb (by omega)) (⟨0, rfl, by decide, s, C, fun _ _ _ => rfl⟩)
    · refine wl_s (pc' := 28) ji_120_26 rfl rfl rfl ?_
      refine cs_gi (k := 11) (kI := 11) C (by decide) (by decide) sq_114 rfl rfl ji_120_28 jf_120_50 ?_
      have bd3 : wp_r (s 114 11) := cs_ri (k := 11) (kI := 11) C (by decide) (by decide) sq_114 rfl rfl (show 11 < 13 by decide)
      refine wl_s (pc' := 32) ji_120_31 rfl rfl rfl ?_
      refine wl_icmp (t := 39) ji_120_32 rfl (by omega) (by omega) (fun (hb4 : ¬ (s 114 11 : Int) = w) => ?_) (fun (hb4 : ¬ (¬ (s 114 11 : Int) = w)) => ?_)
      · refine wl_s (pc' := 40) ji_120_39 rfl rfl rfl ?_
        exact wl_ri ji_120_40 jr_120 (pv_nb (by omega)) (⟨0, rfl, by decide, s, C, fun _ _ _ => rfl⟩)
      · refine wl_s (pc' := 36) ji_120_35 rfl rfl rfl ?_
        refine wl_goto (t := 40) ji_120_36 rfl ?_
        exact wl_ri ji_120_40 jr_120 (pv_nb (by omega)) (⟨1, rfl, by decide, s, C, fun _ _ _ => rfl⟩)
  · refine wl_s (pc' := 17) ji_120_15 rfl rfl rfl ?_
    refine wl_s (pc' := 18) ji_120_17 rfl rfl rfl ?_
    refine wl_icmp (t := 41) ji_120_18 rfl (by omega) (by omega) (fun (hb5 : (2 : Int) < 4) => ?_) (fun (hb5 : ¬ ((2 : Int) < 4)) => (by exfalso; omega))
    refine wl_s (pc' := 42) ji_120_41 rfl rfl rfl ?_
    refine cs_gr (r := 96) (k := 0) C (by decide) sq_95 rfl ji_120_42 jf_120_13 ?_
    refine wl_s (pc' := 47) ji_120_45 rfl rfl rfl ?_
    refine wl_s (pc' := 48) ji_120_47 rfl rfl rfl ?_
    refine wl_iadd (x := 2) (y := 1) (z := 3) ji_120_48 (by omega) ?_
    refine cs_aa (r := 122) (x := 3) C (by decide) sq_96 (by decide) (by decide) (by decide) (by decide) rfl ji_120_49 ?_
    refine wl_s (pc' := 52) (lv' := [some (.ref 95), some (.ref T), some (wp_i w), some (wp_i n), some (wp_i 2), some (wp_i left), some (.ref 114), some (.ref 122), none, none, none]) ji_120_50 rfl rfl rfl ?_
    refine wl_s (pc' := 53) ji_120_52 rfl rfl rfl ?_
    refine wl_s (pc' := 55) (lv' := [some (.ref 95), some (.ref T), some (wp_i w), some (wp_i n), some (wp_i 2), some (wp_i left), some (.ref 114), some (.ref 122), some (wp_i (-1)), none, none]) ji_120_53 rfl rfl rfl ?_
    rw [show (-1 : Int) = ((0 : Nat) : Int) - 1 from rfl]
    exact uc_120_2l hT hw hn hl (by omega) H SCs G h10 Q2 Q3 nn 0 _ s none none C (by decide) (fun _ _ _ => rfl)
theorem uc_120_1l {d : Nat} {s : sg_} {cd : cds} {w n left : Int} {T : Nat} (hT : isT T) (hw : 0 ≤ w ∧ w < 6) (hn : 0 ≤ n ∧ n ≤ 4) (hl : -10 ≤ left ∧ left ≤ 100) (hi : 1 < n) (H : TXC s T cd) (SCs : SC s) (G : IG s 106) (h10 : s 106 10 ≤ 19001) (Q1 : 2 < n + 1 → SQF s 114 106) (Q2 : 3 < n + 1 → SQF s 122 114) (Q3 : 4 < n + 1 → SQF s 130 122) : ∀ (nn y : Nat) (h : mj_H) (t : sg_) (l9 l10 : Option Value), CS h t → y ≤ 9 → (∀ (b : Nat) (j : Int), ¬ ((b = 114 ∧ 9 ≤ j ∧ j ≤ 12) ∨ b = 120 ∨ b = 121 ∨ (b = 122 ∧ 9 ≤ j ∧ j ≤ 12) ∨ b = 128 ∨ b = 129 ∨ (b = 130 ∧ 9 ≤ j ∧ j ≤ 12) ∨ b = 136 ∨ b = 137 ∨ b = 97) → t b j = s b j) → wl_R nn (d + 7) 120 55 [some (.ref 95), some (.ref T), some (wp_i w), some (wp_i n), some (wp_i 1), some (wp_i left), some (.ref 106), some (.ref 114), some (wp_i ((y : Int) - 1)), l9, l10] [] h (fun v1 h1 => ∃ yy : Int, v1 = some (wp_i yy) ∧ (yy = 0 ∨ yy = 1) ∧ ∃ t, CS h1 t ∧ (∀ (b : Nat) (j : Int), ¬ ((b = 114 ∧ 9 ≤ j ∧ j ≤ 12) ∨ b = 120 ∨ b = 121 ∨ (b = 122 ∧ 9 ≤ j ∧ j ≤ 12) ∨ b = 128 ∨ b = 129 ∨ (b = 130 ∧ 9 ≤ j ∧ j ≤ 12) ∨ b = 136 ∨ b = 137 ∨ b = 97) → t b j = s b j)) := by
  intro nn
  induction nn with
  | zero => intros; exact wl_0
  | succ nn ih =>
    intro y h t l9 l10 C hy ft
    have Gt : IG t 106 := IG_f (fun b j a1 a2 => ft b j (by omega)) G
    have i0 := Gt.1.1
    have i1 := Gt.1.2.1
    refine wl_s1 (pc' := 57) ji_120_55 rfl rfl rfl ?_
    refine wl_s (pc' := 59) ji_120_57 rfl rfl rfl ?_
    refine cs_gi (k := 0) (kI := 0) C (by decide) (by decide) sq_106 rfl rfl ji_120_59 jf_120_64 ?_
    have bd1 : wp_r (t 106 0) := cs_ri (k := 0) (kI := 0) C (by decide) (by decide) sq_106 rfl rfl (show 0 < 13 by decide)
    refine wl_icmp (t := 217) ji_120_62 rfl (by omega) (by omega) (fun (hb2 : (t 106 0 : Int) ≤ ((y : Int) - 1)) => ?_) (fun (hb2 : ¬ ((t 106 0 : Int) ≤ ((y : Int) - 1))) => ?_)
    · refine wl_s (pc' := 218) ji_120_217 rfl rfl rfl ?_
      exact wl_ri ji_120_218 jr_120 (pv_nb (by omega)) (⟨0, rfl, by decide, t, C, ft⟩)
    · refine wl_s (pc' := 67) ji_120_65 rfl rfl rfl ?_
      refine wl_s (pc' := 68) ji_120_67 rfl rfl rfl ?_
      refine wl_icmp (t := 75) ji_120_68 rfl (by omega) (by omega) (fun (hb3 : ((y : Int) - 1 : Int) = (-1)) => ?_) (fun (hb3 : ¬ (((y : Int) - 1 : Int) = (-1))) => ?_)
      · refine wl_s (pc' := 76) ji_120_75 rfl rfl rfl ?_
        refine wl_s (pc' := 78) (lv' := [some (.ref 95), some (.ref T), some (wp_i w), some (wp_i n), some (wp_i 1), some (wp_i left), some (.ref 106), some (.ref 114), some (wp_i ((y : Int) - 1)), some (wp_i 0), l10]) ji_120_76 rfl rfl rfl ?_
        refine wl_s (pc' := 80) ji_120_78 rfl rfl rfl ?_
        refine wl_if (t := 107) ji_120_80 rfl (by omega) (fun (hb4 : (0 : Int) = 0) => ?_) (fun (hb4 : ¬ ((0 : Int) = 0)) => (by exfalso; omega))
        refine wl_s (pc' := 109) ji_120_107 rfl rfl rfl ?_
        refine wl_s (pc' := 110) ji_120_109 rfl rfl rfl ?_
        refine wl_s (pc' := 112) ji_120_110 rfl rfl rfl ?_
        refine wl_isub (x := n) (y := 1) (z := n - 1) ji_120_112 (by omega) ?_
        refine wl_icmp (t := 120) ji_120_113 rfl (by omega) (by omega) (fun (hb5 : (n - 1 : Int) ≤ left) => ?_) (fun (hb5 : ¬ ((n - 1 : Int) ≤ left)) => ?_)
        · refine wl_s (pc' := 121) ji_120_120 rfl rfl rfl ?_
          refine wl_s (pc' := 123) (lv' := [some (.ref 95), some (.ref T), some (wp_i w), some (wp_i n), some (wp_i 1), some (wp_i left), some (.ref 106), some (.ref 114), some (wp_i ((y : Int) - 1)), some (wp_i 0), some (wp_i 0)]) ji_120_121 rfl rfl rfl ?_
          refine wl_s (pc' := 125) ji_120_123 rfl rfl rfl ?_
          refine wl_if (t := 131) ji_120_125 rfl (by omega) (fun (hb6 : ¬ (0 : Int) = 0) => (by exfalso; omega)) (fun (hb6 : ¬ (¬ (0 : Int) = 0)) => ?_)
          refine wl_goto (t := 211) ji_120_128 rfl ?_
          refine wl_iinc (x := (y : Int) - 1) (z := (y : Int) - 1 + 1) (lv' := [some (.ref 95), some (.ref T), some (wp_i w), some (wp_i n), some (wp_i 1), some (wp_i left), some (.ref 106), some (.ref 114), some (wp_i ((y : Int) - 1 + 1)), some (wp_i 0), some (wp_i 0)]) ji_120_211 rfl (Nat.le_of_ble_eq_true rfl) (by omega) rfl ?_
          refine wl_goto (t := 55) ji_120_214 rfl ?_
          rw [show (y : Int) - 1 + 1 = ((y + 1 : Nat) : Int) - 1 by omega]
          exact ih (y + 1) _ t _ _ C (by omega) ft
        · refine wl_s (pc' := 117) ji_120_116 rfl rfl rfl ?_
          refine wl_goto (t := 121) ji_120_117 rfl ?_
          refine wl_s (pc' := 123) (lv' := [some (.ref 95), some (.ref T), some (wp_i w), some (wp_i n), some (wp_i 1), some (wp_i left), some (.ref 106), some (.ref 114), some (wp_i ((y : Int) - 1)), some (wp_i 0), some (wp_i 1)]) ji_120_121 rfl rfl rfl ?_
          refine wl_s (pc' := 125) ji_120_123 rfl rfl rfl ?_
          refine wl_if (t := 131) ji_120_125 rfl (by omega) (fun (hb7 : ¬ (1 : Int) = 0) => ?_) (fun (hb7 : ¬ (¬ (1 : Int) = 0)) => (by exfalso; omega))
          refine wl_s (pc' := 133) ji_120_131 rfl rfl rfl ?_
          refine wl_s (pc' := 135) ji_120_133 rfl rfl rfl ?_
          obtain ⟨q9, hq9⟩ := cs_c C (by decide) sq_114
          refine wl_vc (d := d + 6) (as := [.ref 114, .ref 106]) (rest := []) ji_120_135 jc_120_57 rfl hq9 jk_107.symm (Nat.le_of_ble_eq_true rfl) rfl (by rw [jn_107]; rfl) (uc_107 (d := d + 6) C isF_114 isF_106 (by decide)) (fun v1 h8 R => ?_)
          obtain ⟨rfl, t2, C, m6, m7, m9, m10, m11, m12, mf⟩ := R
          have Qt : SQF t 114 106 := SQF_f (Q1 (by omega)) (fun b j hb => ft b j (by omega))
          have FC : FCP t t2 106 114 := ⟨⟨by rw [mf _ _ (by omega) (by omega) (by omega)]; exact Qt.1.1, by rw [mf _ _ (by omega) (by omega) (by omega)]; exact Qt.1.2⟩, fun j a b => by { rw [mf (114 + 1) j (by omega) (by omega) (by omega), mf (114 + 2) j (by omega) (by omega) (by omega), mf (114 + 3) j (by omega) (by omega) (by omega)]; exact Qt.2.1 j a b }, fun j a b => by { rw [mf (114 + 4) j (by omega) (by omega) (by omega), mf (114 + 5) j (by omega) (by omega) (by omega)]; exact Qt.2.2 j a b }, fun j a b => ⟨m6 j a b, m7 j a b⟩, m9, m10, m11, m12⟩
          have G2 := IG_t Gt FC
          have f2 : ∀ (b : Nat) (j : Int), ¬ ((b = 114 ∧ 9 ≤ j ∧ j ≤ 12) ∨ b = 120 ∨ b = 121 ∨ (b = 122 ∧ 9 ≤ j ∧ j ≤ 12) ∨ b = 128 ∨ b = 129 ∨ (b = 130 ∧ 9 ≤ j ∧ j ≤ 12) ∨ b = 136 ∨ b = 137 ∨ b = 97) → t2 b j = s b j := fun b j a1 => (mf b j (by omega) (by omega) (by omega)).trans (ft b j a1)
          have h2 : t2 114 10 ≤ 19001 := by rw [m10, ft 106 10 (by omega)]; exact h10
          show wl_R _ _ 120 138 [some (.ref 95), some (.ref T), some (wp_i w), some (wp_i n), some (wp_i 1), some (wp_i left), some (.ref 106), some (.ref 114), some (wp_i ((y : Int) - 1)), some (wp_i 0), some (wp_i 1)] [] h8 _
          refine wl_s (pc' := 140) ji_120_138 rfl rfl rfl ?_
          refine wl_if (t := 151) ji_120_140 rfl (by omega) (fun (hb10 : (0 : Int) = 0) => ?_) (fun (hb10 : ¬ ((0 : Int) = 0)) => (by exfalso; omega))
          refine wl_s (pc' := 153) ji_120_151 rfl rfl rfl ?_
          refine wl_s (pc' := 154) ji_120_153 rfl rfl rfl ?_
          obtain ⟨q12, hq12⟩ := cs_c C (by decide) sq_114
          refine wl_vc (d := d + 6) (as := [.ref 114, .ref T]) (rest := []) ji_120_154 jc_120_40 rfl hq12 jk_63.symm (Nat.le_of_ble_eq_true rfl) rfl (by rw [jn_63]; rfl) (uc_63 (d := d + 2) C hT isF_114 (TXC_f (fun b j a1 a2 => f2 b j (by have := isT_b hT; omega)) H) (SC_f (fun j => f2 _ j (by omega)) (fun j => f2 _ j (by omega)) SCs) G2) (fun v1 h11 R => ?_)
          obtain ⟨rfl, C⟩ := R
          obtain ⟨t4, e4⟩ : ∃ z9_, passC cd 114 t2 = z9_ := ⟨_, rfl⟩
          rw [e4] at C
          have G4 : IG t4 114 := by rw [← e4]; exact passC_IG G2 (by omega)
          have f4 : ∀ (b : Nat) (j : Int), ¬ ((b = 114 ∧ 9 ≤ j ∧ j ≤ 12) ∨ b = 120 ∨ b = 121 ∨ (b = 122 ∧ 9 ≤ j ∧ j ≤ 12) ∨ b = 128 ∨ b = 129 ∨ (b = 130 ∧ 9 ≤ j ∧ j ≤ 12) ∨ b = 136 ∨ b = 137 ∨ b = 97) → t4 b j = s b j := fun b j a1 => by { rw [← e4]; by_cases z : b = 114; subst z; rw [passC_0 (by omega) (by omega)]; exact f2 _ j a1; rw [passC_fr z (by omega) (by omega)]; exact f2 b j a1 }
          have h4 : t4 114 10 ≤ 19002 := by rw [← e4, passC_10]; omega
          show wl_R _ _ 120 157 [some (.ref 95), some (.ref T), some (wp_i w), some (wp_i n), some (wp_i 1), some (wp_i left), some (.ref 106), some (.ref 114), some (wp_i ((y : Int) - 1)), some (wp_i 0), some (wp_i 1)] [] h11 _
          refine wl_s (pc' := 159) ji_120_157 rfl rfl rfl ?_
          obtain ⟨q14, hq14⟩ := cs_c C (by decide) sq_114
          refine wl_vc (d := d + 6) (as := [.ref 114]) (rest := []) ji_120_159 jc_120_44 rfl hq14 jk_74.symm (Nat.le_of_ble_eq_true rfl) rfl (by rw [jn_74]; rfl) (uc_74 (d := d + 5) C isF_114 G4.1) (fun v1 h13 R => ?_)
          obtain ⟨rfl, C⟩ := R
          have C : CS h13 (drwC 114 t4) := C
          obtain ⟨t5, e5⟩ : ∃ z9_, drwC 114 t4 = z9_ := ⟨_, rfl⟩
          rw [e5] at C
          have G5 : IG t5 114 := by rw [← e5]; exact drwC_IG G4
          have f5 : ∀ (b : Nat) (j : Int), ¬ ((b = 114 ∧ 9 ≤ j ∧ j ≤ 12) ∨ b = 120 ∨ b = 121 ∨ (b = 122 ∧ 9 ≤ j ∧ j ≤ 12) ∨ b = 128 ∨ b = 129 ∨ (b = 130 ∧ 9 ≤ j ∧ j ≤ 12) ∨ b = 136 ∨ b = 137 ∨ b = 97) → t5 b j = s b j := fun b j a1 => by { rw [← e5]; by_cases z : b = 114; subst z; rw [drwC_0 (by omega) (by omega)]; exact f4 _ j a1; rw [drwC_fr z]; exact f4 b j a1 }
          have h5 : t5 114 10 ≤ 19002 := by rw [← e5, drwC_0 (by decide) (by decide)]; exact h4
          show wl_R _ _ 120 162 [some (.ref 95), some (.ref T), some (wp_i w), some (wp_i n), some (wp_i 1), some (wp_i left), some (.ref 106), some (.ref 114), some (wp_i ((y : Int) - 1)), some (wp_i 0), some (wp_i 1)] [] h13 _
          refine wl_s (pc' := 163) ji_120_162 rfl rfl rfl ?_
          refine cs_gr (r := 97) (k := 1) C (by decide) sq_95 rfl ji_120_163 jf_120_17 ?_
          refine wl_s (pc' := 168) ji_120_166 rfl rfl rfl ?_
          refine wl_s (pc' := 170) ji_120_168 rfl rfl rfl ?_
          refine wl_if (t := 178) ji_120_170 rfl (by omega) (fun (hb15 : (0 : Int) = 0) => ?_) (fun (hb15 : ¬ ((0 : Int) = 0)) => (by exfalso; omega))
          refine wl_bp ji_120_178 rfl ?_
          refine cs_s (x := 1) (y := 8) C (by decide) sq_97 (by omega) (by omega) ji_120_180 (fun h st160 st161 C => ?_)
          obtain ⟨s17, es17⟩ : ∃ z9_, up t5 97 1 8 = z9_ := ⟨_, rfl⟩
          rw [es17] at C
          refine wl_s (pc' := 182) ji_120_181 rfl rfl rfl ?_
          refine wl_s (pc' := 183) ji_120_182 rfl rfl rfl ?_
          refine wl_s (pc' := 184) ji_120_183 rfl rfl rfl ?_
          refine wl_s (pc' := 185) ji_120_184 rfl rfl rfl ?_
          refine wl_s (pc' := 187) ji_120_185 rfl rfl rfl ?_
          refine wl_s (pc' := 188) ji_120_187 rfl rfl rfl ?_
          refine wl_iadd (x := 1) (y := 1) (z := 2) ji_120_188 (by omega) ?_
          refine wl_s (pc' := 191) ji_120_189 rfl rfl rfl ?_
          refine wl_if (t := 201) ji_120_191 rfl (by omega) (fun (hb18 : (0 : Int) = 0) => ?_) (fun (hb18 : ¬ ((0 : Int) = 0)) => (by exfalso; omega))
          refine wl_s (pc' := 203) ji_120_201 rfl rfl rfl ?_
          have f6 : ∀ (b : Nat) (j : Int), ¬ ((b = 114 ∧ 9 ≤ j ∧ j ≤ 12) ∨ b = 120 ∨ b = 121 ∨ (b = 122 ∧ 9 ≤ j ∧ j ≤ 12) ∨ b = 128 ∨ b = 129 ∨ (b = 130 ∧ 9 ≤ j ∧ j ≤ 12) ∨ b = 136 ∨ b = 137 ∨ b = 97) → s17 b j = s b j := fun b j a1 => by rw [← es17, up_n (by omega)]; exact f5 b j a1
          have G6 : IG s17 114 := by rw [← es17]; exact IG_f (fun b j a1 a2 => up_a (by omega)) G5
          have h6 : s17 114 10 ≤ 19002 := by rw [← es17, up_a (by decide)]; exact h5
          obtain ⟨q20, hq20⟩ := cs_c C (by decide) sq_95
          refine wl_vc (d := d + 6) (as := [.ref 95, .ref T, wp_i w, wp_i n, wp_i 2, wp_i left]) (rest := []) ji_120_203 jc_120_60 rfl hq20 jk_120.symm (Nat.le_of_ble_eq_true rfl) rfl (by rw [jn_120]; rfl) (uc_120_2 (d := d) C hT hw hn (left := left) (by omega) (TXC_f (fun b j a1 a2 => f6 b j (by have := isT_b hT; omega)) H) (SC_f (fun j => f6 _ j (by omega)) (fun j => f6 _ j (by omega)) SCs) G6 h6 (fun z => SQF_f (Q2 (by omega)) (fun b j hb => f6 b j (by omega))) (fun z => SQF_f (Q3 (by omega)) (fun b j hb => f6 b j (by omega)))) (fun v1 h19 R => ?_)
          obtain ⟨yy, rfl, hy01, t7, C, f7⟩ := R
          have f8 : ∀ (b : Nat) (j : Int), ¬ ((b = 114 ∧ 9 ≤ j ∧ j ≤ 12) ∨ b = 120 ∨ b = 121 ∨ (b = 122 ∧ 9 ≤ j ∧ j ≤ 12) ∨ b = 128 ∨ b = 129 ∨ (b = 130 ∧ 9 ≤ j ∧ j ≤ 12) ∨ b = 136 ∨ b = 137 ∨ b = 97) → t7 b j = s b j := fun b j a1 => (f7 b j (by omega)).trans (f6 b j a1)
          show wl_R _ _ 120 206 [some (.ref 95), some (.ref T), some (wp_i w), some (wp_i n), some (wp_i 1), some (wp_i left), some (.ref 106), some (.ref 114), some (wp_i ((y : Int) - 1)), some (wp_i 0), some (wp_i 1)] [wp_i yy] h19 _
          refine wl_if (t := 211) ji_120_206 rfl (by omega) (fun (hb21 : (yy : Int) = 0) => ?_) (fun (hb21 : ¬ ((yy : Int) = 0)) => ?_)
          · refine wl_iinc (x := (y : Int) - 1) (z := (y : Int) - 1 + 1) (lv' := [some (.ref 95), some (.ref T), some (wp_i w), some (wp_i n), some (wp_i 1), some (wp_i left), some (.ref 106), some (.ref 114), some (wp_i ((y : Int) - 1 + 1)), some (wp_i 0), some (wp_i 1)]) ji_120_211 rfl (Nat.le_of_ble_eq_true rfl) (by omega) rfl ?_
            refine wl_goto (t := 55) ji_120_214 rfl ?_
            rw [show (y : Int) - 1 + 1 = ((y + 1 : Nat) : Int) - 1 by omega]
            exact ih (y + 1) _ t7 _ _ C (by omega) f8
          · refine wl_s (pc' := 210) ji_120_209 rfl rfl rfl ?_
            exact wl_ri ji_120_210 jr_120 (pv_nb (by omega)) (⟨1, rfl, by decide, t7, C, f8⟩)
      · refine wl_s (pc' := 72) ji_120_71 rfl rfl rfl ?_
        refine wl_goto (t := 76) ji_120_72 rfl ?_
        refine wl_s (pc' := 78) (lv' := [some (.ref 95), some (.ref T), some (wp_i w), some (wp_i n), some (wp_i 1), some (wp_i left), some (.ref 106), some (.ref 114), some (wp_i ((y : Int) - 1)), some (wp_i 1), l10]) ji_120_76 rfl rfl rfl ?_
        refine wl_s (pc' := 80) ji_120_78 rfl rfl rfl ?_
        refine wl_if (t := 107) ji_120_80 rfl (by omega) (fun (hb22 : (1 : Int) = 0) => (by exfalso; omega)) (fun (hb22 : ¬ ((1 : Int) = 0)) => ?_)
        refine wl_s (pc' := 85) ji_120_83 rfl rfl rfl ?_
        refine wl_if (t := 103) ji_120_85 rfl (by omega) (fun (hb23 : (left : Int) ≤ 0) => ?_) (fun (hb23 : ¬ ((left : Int) ≤ 0)) => ?_)
        · refine wl_s (pc' := 104) ji_120_103 rfl rfl rfl ?_
          refine wl_goto (t := 121) ji_120_104 rfl ?_
          refine wl_s (pc' := 123) (lv' := [some (.ref 95), some (.ref T), some (wp_i w), some (wp_i n), some (wp_i 1), some (wp_i left), some (.ref 106), some (.ref 114), some (wp_i ((y : Int) - 1)), some (wp_i 1), some (wp_i 0)]) ji_120_121 rfl rfl rfl ?_
          refine wl_s (pc' := 125) ji_120_123 rfl rfl rfl ?_
          refine wl_if (t := 131) ji_120_125 rfl (by omega) (fun (hb24 : ¬ (0 : Int) = 0) => (by exfalso; omega)) (fun (hb24 : ¬ (¬ (0 : Int) = 0)) => ?_)
          refine wl_goto (t := 211) ji_120_128 rfl ?_
          refine wl_iinc (x := (y : Int) - 1) (z := (y : Int) - 1 + 1) (lv' := [some (.ref 95), some (.ref T), some (wp_i w), some (wp_i n), some (wp_i 1), some (wp_i left), some (.ref 106), some (.ref 114), some (wp_i ((y : Int) - 1 + 1)), some (wp_i 1), some (wp_i 0)]) ji_120_211 rfl (Nat.le_of_ble_eq_true rfl) (by omega) rfl ?_
          refine wl_goto (t := 55) ji_120_214 rfl ?_
          rw [show (y : Int) - 1 + 1 = ((y + 1 : Nat) : Int) - 1 by omega]
          exact ih (y + 1) _ t _ _ C (by omega) ft
        · refine wl_s (pc' := 90) ji_120_88 rfl rfl rfl ?_
          refine wl_s (pc' := 91) ji_120_90 rfl rfl rfl ?_
          refine wl_s (pc' := 93) ji_120_91 rfl rfl rfl ?_
          obtain ⟨q26, hq26⟩ := cs_c C (by decide) sq_106
          refine wl_vc (d := d + 6) (as := [.ref 106, wp_i w, wp_i ((y : Int) - 1)]) (rest := []) ji_120_93 jc_120_67 rfl hq26 jk_79.symm (Nat.le_of_ble_eq_true rfl) rfl (by rw [jn_79]; rfl) (uc_79 (d := d + 5) C isF_106 Gt.1 (w := w) (p := (y : Int) - 1) (by omega) (by omega)) (fun v1 h25 R => ?_)
          obtain ⟨ee, y27, rfl, hy27a, hy27b⟩ := R
          rw [ee]
          clear ee
          show wl_R _ _ 120 96 [some (.ref 95), some (.ref T), some (wp_i w), some (wp_i n), some (wp_i 1), some (wp_i left), some (.ref 106), some (.ref 114), some (wp_i ((y : Int) - 1)), some (wp_i 1), l10] [wp_i y27] _ _
          refine wl_if (t := 103) ji_120_96 rfl (by omega) (fun (hb28 : (y27 : Int) = 0) => ?_) (fun (hb28 : ¬ ((y27 : Int) = 0)) => ?_)
          · refine wl_s (pc' := 104) ji_120_103 rfl rfl rfl ?_
            refine wl_goto (t := 121) ji_120_104 rfl ?_
            refine wl_s (pc' := 123) (lv' := [some (.ref 95), some (.ref T), some (wp_i w), some (wp_i n), some (wp_i 1), some (wp_i left), some (.ref 106), some (.ref 114), some (wp_i ((y : Int) - 1)), some (wp_i 1), some (wp_i 0)]) ji_120_121 rfl rfl rfl ?_
            refine wl_s (pc' := 125) ji_120_123 rfl rfl rfl ?_
            refine wl_if (t := 131) ji_120_125 rfl (by omega) (fun (hb29 : ¬ (0 : Int) = 0) => (by exfalso; omega)) (fun (hb29 : ¬ (¬ (0 : Int) = 0)) => ?_)
            refine wl_goto (t := 211) ji_120_128 rfl ?_
            refine wl_iinc (x := (y : Int) - 1) (z := (y : Int) - 1 + 1) (lv' := [some (.ref 95), some (.ref T), some (wp_i w), some (wp_i n), some (wp_i 1), some (wp_i left), some (.ref 106), some (.ref 114), some (wp_i ((y : Int) - 1 + 1)), some (wp_i 1), some (wp_i 0)]) ji_120_211 rfl (Nat.le_of_ble_eq_true rfl) (by omega) rfl ?_
            refine wl_goto (t := 55) ji_120_214 rfl ?_
            rw [show (y : Int) - 1 + 1 = ((y + 1 : Nat) : Int) - 1 by omega]
            exact ih (y + 1) _ t _ _ C (by omega) ft
          · refine wl_s (pc' := 100) ji_120_99 rfl rfl rfl ?_
            refine wl_goto (t := 121) ji_120_100 rfl ?_
            refine wl_s (pc' := 123) (lv' := [some (.ref 95), some (.ref T), some (wp_i w), some (wp_i n), some (wp_i 1), some (wp_i left), some (.ref 106), some (.ref 114), some (wp_i ((y : Int) - 1)), some (wp_i 1), some (wp_i 1)]) ji_120_121 rfl rfl rfl ?_
            refine wl_s (pc' := 125) ji_120_123 rfl rfl rfl ?_
            refine wl_if (t := 131) ji_120_125 rfl (by omega) (fun (hb30 : ¬ (1 : Int) = 0) => ?_) (fun (hb30 : ¬ (¬ (1 : Int) = 0)) => (by exfalso; omega))
            refine wl_s (pc' := 133) ji_120_131 rfl rfl rfl ?_
            refine wl_s (pc' := 135) ji_120_133 rfl rfl rfl ?_
            obtain ⟨q32, hq32⟩ := cs_c C (by decide) sq_114
            refine wl_vc (d := d + 6) (as := [.ref 114, .ref 106]) (rest := []) ji_120_135 jc_120_57 rfl hq32 jk_107.symm (Nat.le_of_ble_eq_true rfl) rfl (by rw [jn_107]; rfl) (uc_107 (d := d + 6) C isF_114 isF_106 (by decide)) (fun v1 h31 R => ?_)
            obtain ⟨rfl, t2, C, m6, m7, m9, m10, m11, m12, mf⟩ := R
            have Qt : SQF t 114 106 := SQF_f (Q1 (by omega)) (fun b j hb => ft b j (by omega))
            have FC : FCP t t2 106 114 := ⟨⟨by rw [mf _ _ (by omega) (by omega) (by omega)]; exact Qt.1.1, by rw [mf _ _ (by omega) (by omega) (by omega)]; exact Qt.1.2⟩, fun j a b => by { rw [mf (114 + 1) j (by omega) (by omega) (by omega), mf (114 + 2) j (by omega) (by omega) (by omega), mf (114 + 3) j (by omega) (by omega) (by omega)]; exact Qt.2.1 j a b }, fun j a b => by { rw [mf (114 + 4) j (by omega) (by omega) (by omega), mf (114 + 5) j (by omega) (by omega) (by omega)]; exact Qt.2.2 j a b }, fun j a b => ⟨m6 j a b, m7 j a b⟩, m9, m10, m11, m12⟩
            have G2 := IG_t Gt FC
            have f2 : ∀ (b : Nat) (j : Int), ¬ ((b = 114 ∧ 9 ≤ j ∧ j ≤ 12) ∨ b = 120 ∨ b = 121 ∨ (b = 122 ∧ 9 ≤ j ∧ j ≤ 12) ∨ b = 128 ∨ b = 129 ∨ (b = 130 ∧ 9 ≤ j ∧ j ≤ 12) ∨ b = 136 ∨ b = 137 ∨ b = 97) → t2 b j = s b j := fun b j a1 => (mf b j (by omega) (by omega) (by omega)).trans (ft b j a1)
            have h2 : t2 114 10 ≤ 19001 := by rw [m10, ft 106 10 (by omega)]; exact h10
            show wl_R _ _ 120 138 [some (.ref 95), some (.ref T), some (wp_i w), some (wp_i n), some (wp_i 1), some (wp_i left), some (.ref 106), some (.ref 114), some (wp_i ((y : Int) - 1)), some (wp_i 1), some (wp_i 1)] [] h31 _
            refine wl_s (pc' := 140) ji_120_138 rfl rfl rfl ?_
            refine wl_if (t := 151) ji_120_140 rfl (by omega) (fun (hb33 : (1 : Int) = 0) => (by exfalso; omega)) (fun (hb33 : ¬ ((1 : Int) = 0)) => ?_)
            refine wl_s (pc' := 145) ji_120_143 rfl rfl rfl ?_
            refine wl_s (pc' := 146) ji_120_145 rfl rfl rfl ?_
            refine wl_s (pc' := 148) ji_120_146 rfl rfl rfl ?_
            obtain ⟨q35, hq35⟩ := cs_c C (by decide) sq_114
            refine wl_vc (d := d + 6) (as := [.ref 114, wp_i w, wp_i ((y : Int) - 1)]) (rest := []) ji_120_148 jc_120_71 rfl hq35 jk_82.symm (Nat.le_of_ble_eq_true rfl) rfl (by rw [jn_82]; rfl) (uc_82 (d := d + 6) C isF_114 (w := w) (p := (y : Int) - 1) hw (by omega)) (fun v1 h34 R => ?_)
            obtain ⟨rfl, C⟩ := R
            obtain ⟨t3, e3⟩ : ∃ z9_, up (up t2 (114 + 6) (((y : Int) - 1) * 6 + w) 0) (114 + 7) (((y : Int) - 1) * 6 + w) 0 = z9_ := ⟨_, rfl⟩
            rw [e3] at C
            have G3 : IG t3 114 := by rw [← e3]; exact IG_raise (F := 114) G2
            have f3 : ∀ (b : Nat) (j : Int), ¬ ((b = 114 ∧ 9 ≤ j ∧ j ≤ 12) ∨ b = 120 ∨ b = 121 ∨ (b = 122 ∧ 9 ≤ j ∧ j ≤ 12) ∨ b = 128 ∨ b = 129 ∨ (b = 130 ∧ 9 ≤ j ∧ j ≤ 12) ∨ b = 136 ∨ b = 137 ∨ b = 97) → t3 b j = s b j := fun b j a1 => by rw [← e3, up_a (by omega), up_a (by omega)]; exact f2 b j a1
            have h3 : t3 114 10 ≤ 19001 := by rw [← e3, up_a (by decide), up_a (by decide)]; exact h2
            show wl_R _ _ 120 151 [some (.ref 95), some (.ref T), some (wp_i w), some (wp_i n), some (wp_i 1), some (wp_i left), some (.ref 106), some (.ref 114), some (wp_i ((y : Int) - 1)), some (wp_i 1), some (wp_i 1)] [] h34 _
            refine wl_s (pc' := 153) ji_120_151 rfl rfl rfl ?_
            refine wl_s (pc' := 154) ji_120_153 rfl rfl rfl ?_
            obtain ⟨q37, hq37⟩ := cs_c C (by decide) sq_114
            refine wl_vc (d := d + 6) (as := [.ref 114, .ref T]) (rest := []) ji_120_154 jc_120_40 rfl hq37 jk_63.symm (Nat.le_of_ble_eq_true rfl) rfl (by rw [jn_63]; rfl) (uc_63 (d := d + 2) C hT isF_114 (TXC_f (fun b j a1 a2 => f3 b j (by have := isT_b hT; omega)) H) (SC_f (fun j => f3 _ j (by omega)) (fun j => f3 _ j (by omega)) SCs) G3) (fun v1 h36 R => ?_)
            obtain ⟨rfl, C⟩ := R
            obtain ⟨t4, e4⟩ : ∃ z9_, passC cd 114 t3 = z9_ := ⟨_, rfl⟩
            rw [e4] at C
            have G4 : IG t4 114 := by rw [← e4]; exact passC_IG G3 (by omega)
            have f4 : ∀ (b : Nat) (j : Int), ¬ ((b = 114 ∧ 9 ≤ j ∧ j ≤ 12) ∨ b = 120 ∨ b = 121 ∨ (b = 122 ∧ 9 ≤ j ∧ j ≤ 12) ∨ b = 128 ∨ b = 129 ∨ (b = 130 ∧ 9 ≤ j ∧ j ≤ 12) ∨ b = 136 ∨ b = 137 ∨ b = 97) → t4 b j = s b j := fun b j a1 => by { rw [← e4]; by_cases z : b = 114; subst z; rw [passC_0 (by omega) (by omega)]; exact f3 _ j a1; rw [passC_fr z (by omega) (by omega)]; exact f3 b j a1 }
            have h4 : t4 114 10 ≤ 19002 := by rw [← e4, passC_10]; omega
            show wl_R _ _ 120 157 [some (.ref 95), some (.ref T), some (wp_i w), some (wp_i n), some (wp_i 1), some (wp_i left), some (.ref 106), some (.ref 114), some (wp_i ((y : Int) - 1)), some (wp_i 1), some (wp_i 1)] [] h36 _
            refine wl_s (pc' := 159) ji_120_157 rfl rfl rfl ?_
            obtain ⟨q39, hq39⟩ := cs_c C (by decide) sq_114
            refine wl_vc (d := d + 6) (as := [.ref 114]) (rest := []) ji_120_159 jc_120_44 rfl hq39 jk_74.symm (Nat.le_of_ble_eq_true rfl) rfl (by rw [jn_74]; rfl) (uc_74 (d := d + 5) C isF_114 G4.1) (fun v1 h38 R => ?_)
            obtain ⟨rfl, C⟩ := R
            have C : CS h38 (drwC 114 t4) := C
            obtain ⟨t5, e5⟩ : ∃ z9_, drwC 114 t4 = z9_ := ⟨_, rfl⟩
            rw [e5] at C
            have G5 : IG t5 114 := by rw [← e5]; exact drwC_IG G4
            have f5 : ∀ (b : Nat) (j : Int), ¬ ((b = 114 ∧ 9 ≤ j ∧ j ≤ 12) ∨ b = 120 ∨ b = 121 ∨ (b = 122 ∧ 9 ≤ j ∧ j ≤ 12) ∨ b = 128 ∨ b = 129 ∨ (b = 130 ∧ 9 ≤ j ∧ j ≤ 12) ∨ b = 136 ∨ b = 137 ∨ b = 97) → t5 b j = s b j := fun b j a1 => by { rw [← e5]; by_cases z : b = 114; subst z; rw [drwC_0 (by omega) (by omega)]; exact f4 _ j a1; rw [drwC_fr z]; exact f4 b j a1 }
            have h5 : t5 114 10 ≤ 19002 := by rw [← e5, drwC_0 (by decide) (by decide)]; exact h4
            show wl_R _ _ 120 162 [some (.ref 95), some (.ref T), some (wp_i w), some (wp_i n), some (wp_i 1), some (wp_i left), some (.ref 106), some (.ref 114), some (wp_i ((y : Int) - 1)), some (wp_i 1), some (wp_i 1)] [] h38 _
            refine wl_s (pc' := 163) ji_120_162 rfl rfl rfl ?_
            refine cs_gr (r := 97) (k := 1) C (by decide) sq_95 rfl ji_120_163 jf_120_17 ?_
            refine wl_s (pc' := 168) ji_120_166 rfl rfl rfl ?_
            refine wl_s (pc' := 170) ji_120_168 rfl rfl rfl ?_
            refine wl_if (t := 178) ji_120_170 rfl (by omega) (fun (hb40 : (1 : Int) = 0) => (by exfalso; omega)) (fun (hb40 : ¬ ((1 : Int) = 0)) => ?_)
            refine wl_s (pc' := 175) ji_120_173 rfl rfl rfl ?_
            refine wl_goto (t := 180) ji_120_175 rfl ?_
            refine cs_s (x := 1) (y := (y : Int) - 1) C (by decide) sq_97 (by omega) (by omega) ji_120_180 (fun h st410 st411 C => ?_)
            obtain ⟨s42, es42⟩ : ∃ z9_, up t5 97 1 ((y : Int) - 1) = z9_ := ⟨_, rfl⟩
            rw [es42] at C
            refine wl_s (pc' := 182) ji_120_181 rfl rfl rfl ?_
            refine wl_s (pc' := 183) ji_120_182 rfl rfl rfl ?_
            refine wl_s (pc' := 184) ji_120_183 rfl rfl rfl ?_
            refine wl_s (pc' := 185) ji_120_184 rfl rfl rfl ?_
            refine wl_s (pc' := 187) ji_120_185 rfl rfl rfl ?_
            refine wl_s (pc' := 188) ji_120_187 rfl rfl rfl ?_
            refine wl_iadd (x := 1) (y := 1) (z := 2) ji_120_188 (by omega) ?_
            refine wl_s (pc' := 191) ji_120_189 rfl rfl rfl ?_
            refine wl_if (t := 201) ji_120_191 rfl (by omega) (fun (hb43 : (1 : Int) = 0) => (by exfalso; omega)) (fun (hb43 : ¬ ((1 : Int) = 0)) => ?_)
            refine wl_s (pc' := 196) ji_120_194 rfl rfl rfl ?_
            refine wl_s (pc' := 197) ji_120_196 rfl rfl rfl ?_
            refine wl_isub (x := left) (y := 1) (z := left - 1) ji_120_197 (by omega) ?_
            refine wl_goto (t := 203) ji_120_198 rfl ?_
            have f6 : ∀ (b : Nat) (j : Int), ¬ ((b = 114 ∧ 9 ≤ j ∧ j ≤ 12) ∨ b = 120 ∨ b = 121 ∨ (b = 122 ∧ 9 ≤ j ∧ j ≤ 12) ∨ b = 128 ∨ b = 129 ∨ (b = 130 ∧ 9 ≤ j ∧ j ≤ 12) ∨ b = 136 ∨ b = 137 ∨ b = 97) → s42 b j = s b j := fun b j a1 => by rw [← es42, up_n (by omega)]; exact f5 b j a1
            have G6 : IG s42 114 := by rw [← es42]; exact IG_f (fun b j a1 a2 => up_a (by omega)) G5
            have h6 : s42 114 10 ≤ 19002 := by rw [← es42, up_a (by decide)]; exact h5
            obtain ⟨q45, hq45⟩ := cs_c C (by decide) sq_95
            refine wl_vc (d := d + 6) (as := [.ref 95, .ref T, wp_i w, wp_i n, wp_i 2, wp_i (left - 1)]) (rest := []) ji_120_203 jc_120_60 rfl hq45 jk_120.symm (Nat.le_of_ble_eq_true rfl) rfl (by rw [jn_120]; rfl) (uc_120_2 (d := d) C hT hw hn (left := left - 1) (by omega) (TXC_f (fun b j a1 a2 => f6 b j (by have := isT_b hT; omega)) H) (SC_f (fun j => f6 _ j (by omega)) (fun j => f6 _ j (by omega)) SCs) G6 h6 (fun z => SQF_f (Q2 (by omega)) (fun b j hb => f6 b j (by omega))) (fun z => SQF_f (Q3 (by omega)) (fun b j hb => f6 b j (by omega)))) (fun v1 h44 R => ?_)
            obtain ⟨yy, rfl, hy01, t7, C, f7⟩ := R
            have f8 : ∀ (b : Nat) (j : Int), ¬ ((b = 114 ∧ 9 ≤ j ∧ j ≤ 12) ∨ b = 120 ∨ b = 121 ∨ (b = 122 ∧ 9 ≤ j ∧ j ≤ 12) ∨ b = 128 ∨ b = 129 ∨ (b = 130 ∧ 9 ≤ j ∧ j ≤ 12) ∨ b = 136 ∨ b = 137 ∨ b = 97) → t7 b j = s b j := fun b j a1 => (f7 b j (by omega)).trans (f6 b j a1)
            show wl_R _ _ 120 206 [some (.ref 95), some (.ref T), some (wp_i w), some (wp_i n), some (wp_i 1), some (wp_i left), some (.ref 106), some (.ref 114), some (wp_i ((y : Int) - 1)), some (wp_i 1), some (wp_i 1)] [wp_i yy] h44 _
            refine wl_if (t := 211) ji_120_206 rfl (by omega) (fun (hb46 : (yy : Int) = 0) => ?_) (fun (hb46 : ¬ ((yy : Int) = 0)) => ?_)
            · refine wl_iinc (x := (y : Int) - 1) (z := (y : Int) - 1 + 1) (lv' := [some (.ref 95), some (.ref T), some (wp_i w), some (wp_i n), some (wp_i 1), some (wp_i left), some (.ref 106), some (.ref 114), some (wp_i ((y : Int) - 1 + 1)), some (wp_i 1), some (wp_i 1)]) ji_120_211 rfl (Nat.le_of_ble_eq_true rfl) (by omega) rfl ?_
              refine wl_goto (t := 55) ji_120_214 rfl ?_
              rw [show (y : Int) - 1 + 1 = ((y + 1 : Nat) : Int) - 1 by omega]
              exact ih (y + 1) _ t7 _ _ C (by omega) f8
            · refine wl_s (pc' := 210) ji_120_209 rfl rfl rfl ?_
              exact wl_ri ji_120_210 jr_120 (pv_nb (by omega)) (⟨1, rfl, by decide, t7, C, f8⟩)
theorem uc_120_1 {nn d : Nat} {h : mj_H} {s : sg_} (C : CS h s) {cd : cds} {w n left : Int} {T : Nat} (hT : isT T) (hw : 0 ≤ w ∧ w < 6) (hn : 0 ≤ n ∧ n ≤ 4) (hl : -10 ≤ left ∧ left ≤ 100) (H : TXC s T cd) (SCs : SC s) (G : IG s 106) (h10 : s 106 10 ≤ 19001) (Q1 : 2 < n + 1 → SQF s 114 106) (Q2 : 3 < n + 1 → SQF s 122 114) (Q3 : 4 < n + 1 → SQF s 130 122) : wl_R nn (d + 7) 120 0 [some (.ref 95), some (.ref T), some (wp_i w), some (wp_i n), some (wp_i 1), some (wp_i left), none, none, none, none, none] [] h (fun v1 h1 => ∃ yy : Int, v1 = some (wp_i yy) ∧ (yy = 0 ∨ yy = 1) ∧ ∃ t, CS h1 t ∧ (∀ (b : Nat) (j : Int), ¬ ((b = 114 ∧ 9 ≤ j ∧ j ≤ 12) ∨ b = 120 ∨ b = 121 ∨ (b = 122 ∧ 9 ≤ j ∧ j ≤ 12) ∨ b = 128 ∨ b = 129 ∨ (b = 130 ∧ 9 ≤ j ∧ j ≤ 12) ∨ b = 136 ∨ b = 137 ∨ b = 97) → t b j = s b j)) := by
  have i0 := G.1.1
  have g11 := G.1.2.2.2.2.2.2.2.2.1
  refine wl_s (pc' := 1) ji_120_0 rfl rfl rfl ?_
  refine cs_gr (r := 96) (k := 0) C (by decide) sq_95 rfl ji_120_1 jf_120_13 ?_
  refine wl_s (pc' := 6) ji_120_4 rfl rfl rfl ?_
  refine cs_aa (r := 106) (x := 1) C (by decide) sq_96 (by decide) (by decide) (by decide) (by decide) rfl ji_120_6 ?_
  refine wl_s (pc' := 9) (lv' := [some (.ref 95), some (.ref T), some (wp_i w), some (wp_i n), some (wp_i 1), some (wp_i left), some (.ref 106), none, none, none, none]) ji_120_7 rfl rfl rfl ?_
  refine wl_s (pc' := 11) ji_120_9 rfl rfl rfl ?_
  refine wl_s (pc' := 12) ji_120_11 rfl rfl rfl ?_
  refine wl_icmp (t := 21) ji_120_12 rfl (by omega) (by omega) (fun (hb1 : (n : Int) ≤ 1) => ?_) (fun (hb1 : ¬ ((n : Int) ≤ 1)) => ?_)
  · refine wl_s (pc' := 23) ji_120_21 rfl rfl rfl ?_
    refine wl_if (t := 39) ji_120_23 rfl (by omega) (fun (hb2 : ¬ (left : Int) = 0) => ?_) (fun (hb2 : ¬ (¬ (left : Int) = 0)) => ?_)
    · refine wl_s (pc' := 40) ji_120_39 rfl rfl rfl ?_
      exact wl_ri ji_120_40 jr_120 (pv_nb (by omega)) (⟨0, rfl, by decide, s, C, fun _ _ _ => rfl⟩)
    · refine wl_s (pc' := 28) ji_120_26 rfl rfl rfl ?_
      refine cs_gi (k := 11) (kI := 11) C (by decide) (by decide) sq_106 rfl rfl ji_120_28 jf_120_50 ?_
      have bd3 : wp_r (s 106 11) := cs_ri (k := 11) (kI := 11) C (by decide) (by decide) sq_106 rfl rfl (show 11 < 13 by decide)
      refine wl_s (pc' := 32) ji_120_31 rfl rfl rfl ?_
      refine wl_icmp (t := 39) ji_120_32 rfl (by omega) (by omega) (fun (hb4 : ¬ (s 106 11 : Int) = w) => ?_) (fun (hb4 : ¬ (¬ (s 106 11 : Int) = w)) => ?_)
      · refine wl_s (pc' := 40) ji_120_39 rfl rfl rfl ?_
        exact wl_ri ji_120_40 jr_120 (pv_nb (by omega)) (⟨0, rfl, by decide, s, C, fun _ _ _ => rfl⟩)
      · refine wl_s (pc' := 36) ji_120_35 rfl rfl rfl ?_
        refine wl_goto (t := 40) ji_120_36 rfl ?_
        exact wl_ri ji_120_40 jr_120 (pv_nb (by omega)) (⟨1, rfl, by decide, s, C, fun _ _ _ => rfl⟩)
  · refine wl_s (pc' := 17) ji_120_15 rfl rfl rfl ?_
    refine wl_s (pc' := 18) ji_120_17 rfl rfl rfl ?_
    refine wl_icmp (t := 41) ji_120_18 rfl (by omega) (by omega) (fun (hb5 : (1 : Int) < 4) => ?_) (fun (hb5 : ¬ ((1 : Int) < 4)) => (by exfalso; omega))
    refine wl_s (pc' := 42) ji_120_41 rfl rfl rfl ?_
    refine cs_gr (r := 96) (k := 0) C (by decide) sq_95 rfl ji_120_42 jf_120_13 ?_
    refine wl_s (pc' := 47) ji_120_45 rfl rfl rfl ?_
    refine wl_s (pc' := 48) ji_120_47 rfl rfl rfl ?_
    refine wl_iadd (x := 1) (y := 1) (z := 2) ji_120_48 (by omega) ?_
    refine cs_aa (r := 114) (x := 2) C (by decide) sq_96 (by decide) (by decide) (by decide) (by decide) rfl ji_120_49 ?_
    refine wl_s (pc' := 52) (lv' := [some (.ref 95), some (.ref T), some (wp_i w), some (wp_i n), some (wp_i 1), some (wp_i left), some (.ref 106), some (.ref 114), none, none, none]) ji_120_50 rfl rfl rfl ?_
    refine wl_s (pc' := 53) ji_120_52 rfl rfl rfl ?_
    refine wl_s (pc' := 55) (lv' := [some (.ref 95), some (.ref T), some (wp_i w), some (wp_i n), some (wp_i 1), some (wp_i left), some (.ref 106), some (.ref 114), some (wp_i (-1)), none, none]) ji_120_53 rfl rfl rfl ?_
    rw [show (-1 : Int) = ((0 : Nat) : Int) - 1 from rfl]
    exact uc_120_1l hT hw hn hl (by omega) H SCs G h10 Q1 Q2 Q3 nn 0 _ s none none C (by decide) (fun _ _ _ => rfl)
theorem uc_120_0l {d : Nat} {s : sg_} {cd : cds} {w n left : Int} {T : Nat} (hT : isT T) (hw : 0 ≤ w ∧ w < 6) (hn : 0 ≤ n ∧ n ≤ 4) (hl : -10 ≤ left ∧ left ≤ 100) (hi : 0 < n) (H : TXC s T cd) (SCs : SC s) (G : IG s 98) (h10 : s 98 10 ≤ 19000) (Q0 : 1 < n + 1 → SQF s 106 98) (Q1 : 2 < n + 1 → SQF s 114 106) (Q2 : 3 < n + 1 → SQF s 122 114) (Q3 : 4 < n + 1 → SQF s 130 122) : ∀ (nn y : Nat) (h : mj_H) (t : sg_) (l9 l10 : Option Value), CS h t → y ≤ 9 → (∀ (b : Nat) (j : Int), ¬ ((b = 106 ∧ 9 ≤ j ∧ j ≤ 12) ∨ b = 112 ∨ b = 113 ∨ (b = 114 ∧ 9 ≤ j ∧ j ≤ 12) ∨ b = 120 ∨ b = 121 ∨ (b = 122 ∧ 9 ≤ j ∧ j ≤ 12) ∨ b = 128 ∨ b = 129 ∨ (b = 130 ∧ 9 ≤ j ∧ j ≤ 12) ∨ b = 136 ∨ b = 137 ∨ b = 97) → t b j = s b j) → wl_R nn (d + 8) 120 55 [some (.ref 95), some (.ref T), some (wp_i w), some (wp_i n), some (wp_i 0), some (wp_i left), some (.ref 98), some (.ref 106), some (wp_i ((y : Int) - 1)), l9, l10] [] h (fun v1 h1 => ∃ yy : Int, v1 = some (wp_i yy) ∧ (yy = 0 ∨ yy = 1) ∧ ∃ t, CS h1 t ∧ (∀ (b : Nat) (j : Int), ¬ ((b = 106 ∧ 9 ≤ j ∧ j ≤ 12) ∨ b = 112 ∨ b = 113 ∨ (b = 114 ∧ 9 ≤ j ∧ j ≤ 12) ∨ b = 120 ∨ b = 121 ∨ (b = 122 ∧ 9 ≤ j ∧ j ≤ 12) ∨ b = 128 ∨ b = 129 ∨ (b = 130 ∧ 9 ≤ j ∧ j ≤ 12) ∨ b = 136 ∨ b = 137 ∨ b = 97) → t b j = s b j)) := by
  intro nn
  induction nn with
  | zero => intros; exact wl_0
  | succ nn ih =>
    intro y h t l9 l10 C hy ft
    have Gt : IG t 98 := IG_f (fun b j a1 a2 => ft b j (by omega)) G
    have i0 := Gt.1.1
    have i1 := Gt.1.2.1
    refine wl_s1 (pc' := 57) ji_120_55 rfl rfl rfl ?_
    refine wl_s (pc' := 59) ji_120_57 rfl rfl rfl ?_
    refine cs_gi (k := 0) (kI := 0) C (by decide) (by decide) sq_98 rfl rfl ji_120_59 jf_120_64 ?_
    have bd1 : wp_r (t 98 0) := cs_ri (k := 0) (kI := 0) C (by decide) (by decide) sq_98 rfl rfl (show 0 < 13 by decide)
    refine wl_icmp (t := 217) ji_120_62 rfl (by omega) (by omega) (fun (hb2 : (t 98 0 : Int) ≤ ((y : Int) - 1)) => ?_) (fun (hb2 : ¬ ((t 98 0 : Int) ≤ ((y : Int) - 1))) => ?_)
    · refine wl_s (pc' := 218) ji_120_217 rfl rfl rfl ?_
      exact wl_ri ji_120_218 jr_120 (pv_nb (by omega)) (⟨0, rfl, by decide, t, C, ft⟩)
    · refine wl_s (pc' := 67) ji_120_65 rfl rfl rfl ?_
      refine wl_s (pc' := 68) ji_120_67 rfl rfl rfl ?_
      refine wl_icmp (t := 75) ji_120_68 rfl (by omega) (by omega) (fun (hb3 : ((y : Int) - 1 : Int) = (-1)) => ?_) (fun (hb3 : ¬ (((y : Int) - 1 : Int) = (-1))) => ?_)
      · refine wl_s (pc' := 76) ji_120_75 rfl rfl rfl ?_
        refine wl_s (pc' := 78) (lv' := [some (.ref 95), some (.ref T), some (wp_i w), some (wp_i n), some (wp_i 0), some (wp_i left), some (.ref 98), some (.ref 106), some (wp_i ((y : Int) - 1)), some (wp_i 0), l10]) ji_120_76 rfl rfl rfl ?_
        refine wl_s (pc' := 80) ji_120_78 rfl rfl rfl ?_
        refine wl_if (t := 107) ji_120_80 rfl (by omega) (fun (hb4 : (0 : Int) = 0) => ?_) (fun (hb4 : ¬ ((0 : Int) = 0)) => (by exfalso; omega))
        refine wl_s (pc' := 109) ji_120_107 rfl rfl rfl ?_
        refine wl_s (pc' := 110) ji_120_109 rfl rfl rfl ?_
        refine wl_s (pc' := 112) ji_120_110 rfl rfl rfl ?_
        refine wl_isub (x := n) (y := 0) (z := n - 0) ji_120_112 (by omega) ?_
        refine wl_icmp (t := 120) ji_120_113 rfl (by omega) (by omega) (fun (hb5 : (n - 0 : Int) ≤ left) => ?_) (fun (hb5 : ¬ ((n - 0 : Int) ≤ left)) => ?_)
        · refine wl_s (pc' := 121) ji_120_120 rfl rfl rfl ?_
          refine wl_s (pc' := 123) (lv' := [some (.ref 95), some (.ref T), some (wp_i w), some (wp_i n), some (wp_i 0), some (wp_i left), some (.ref 98), some (.ref 106), some (wp_i ((y : Int) - 1)), some (wp_i 0), some (wp_i 0)]) ji_120_121 rfl rfl rfl ?_
          refine wl_s (pc' := 125) ji_120_123 rfl rfl rfl ?_
          refine wl_if (t := 131) ji_120_125 rfl (by omega) (fun (hb6 : ¬ (0 : Int) = 0) => (by exfalso; omega)) (fun (hb6 : ¬ (¬ (0 : Int) = 0)) => ?_)
          refine wl_goto (t := 211) ji_120_128 rfl ?_
          refine wl_iinc (x := (y : Int) - 1) (z := (y : Int) - 1 + 1) (lv' := [some (.ref 95), some (.ref T), some (wp_i w), some (wp_i n), some (wp_i 0), some (wp_i left), some (.ref 98), some (.ref 106), some (wp_i ((y : Int) - 1 + 1)), some (wp_i 0), some (wp_i 0)]) ji_120_211 rfl (Nat.le_of_ble_eq_true rfl) (by omega) rfl ?_
          refine wl_goto (t := 55) ji_120_214 rfl ?_
          rw [show (y : Int) - 1 + 1 = ((y + 1 : Nat) : Int) - 1 by omega]
          exact ih (y + 1) _ t _ _ C (by omega) ft
        · refine wl_s (pc' := 117) ji_120_116 rfl rfl rfl ?_
          refine wl_goto (t := 121) ji_120_117 rfl ?_
          refine wl_s (pc' := 123) (lv' := [some (.ref 95), some (.ref T), some (wp_i w), some (wp_i n), some (wp_i 0), some (wp_i left), some (.ref 98), some (.ref 106), some (wp_i ((y : Int) - 1)), some (wp_i 0), some (wp_i 1)]) ji_120_121 rfl rfl rfl ?_
          refine wl_s (pc' := 125) ji_120_123 rfl rfl rfl ?_
          refine wl_if (t := 131) ji_120_125 rfl (by omega) (fun (hb7 : ¬ (1 : Int) = 0) => ?_) (fun (hb7 : ¬ (¬ (1 : Int) = 0)) => (by exfalso; omega))
          refine wl_s (pc' := 133) ji_120_131 rfl rfl rfl ?_
          refine wl_s (pc' := 135) ji_120_133 rfl rfl rfl ?_
          obtain ⟨q9, hq9⟩ := cs_c C (by decide) sq_106
          refine wl_vc (d := d + 7) (as := [.ref 106, .ref 98]) (rest := []) ji_120_135 jc_120_57 rfl hq9 jk_107.symm (Nat.le_of_ble_eq_true rfl) rfl (by rw [jn_107]; rfl) (uc_107 (d := d + 7) C isF_106 isF_98 (by decide)) (fun v1 h8 R => ?_)
          obtain ⟨rfl, t2, C, m6, m7, m9, m10, m11, m12, mf⟩ := R
          have Qt : SQF t 106 98 := SQF_f (Q0 (by omega)) (fun b j hb => ft b j (by omega))
          have FC : FCP t t2 98 106 := ⟨⟨by rw [mf _ _ (by omega) (by omega) (by omega)]; exact Qt.1.1, by rw [mf _ _ (by omega) (by omega) (by omega)]; exact Qt.1.2⟩, fun j a b => by { rw [mf (106 + 1) j (by omega) (by omega) (by omega), mf (106 + 2) j (by omega) (by omega) (by omega), mf (106 + 3) j (by omega) (by omega) (by omega)]; exact Qt.2.1 j a b }, fun j a b => by { rw [mf (106 + 4) j (by omega) (by omega) (by omega), mf (106 + 5) j (by omega) (by omega) (by omega)]; exact Qt.2.2 j a b }, fun j a b => ⟨m6 j a b, m7 j a b⟩, m9, m10, m11, m12⟩
          have G2 := IG_t Gt FC
          have f2 : ∀ (b : Nat) (j : Int), ¬ ((b = 106 ∧ 9 ≤ j ∧ j ≤ 12) ∨ b = 112 ∨ b = 113 ∨ (b = 114 ∧ 9 ≤ j ∧ j ≤ 12) ∨ b = 120 ∨ b = 121 ∨ (b = 122 ∧ 9 ≤ j ∧ j ≤ 12) ∨ b = 128 ∨ b = 129 ∨ (b = 130 ∧ 9 ≤ j ∧ j ≤ 12) ∨ b = 136 ∨ b = 137 ∨ b = 97) → t2 b j = s b j := fun b j a1 => (mf b j (by omega) (by omega) (by omega)).trans (ft b j a1)
          have h2 : t2 106 10 ≤ 19000 := by rw [m10, ft 98 10 (by omega)]; exact h10
          show wl_R _ _ 120 138 [some (.ref 95), some (.ref T), some (wp_i w), some (wp_i n), some (wp_i 0), some (wp_i left), some (.ref 98), some (.ref 106), some (wp_i ((y : Int) - 1)), some (wp_i 0), some (wp_i 1)] [] h8 _
          refine wl_s (pc' := 140) ji_120_138 rfl rfl rfl ?_
          refine wl_if (t := 151) ji_120_140 rfl (by omega) (fun (hb10 : (0 : Int) = 0) => ?_) (fun (hb10 : ¬ ((0 : Int) = 0)) => (by exfalso; omega))
          refine wl_s (pc' := 153) ji_120_151 rfl rfl rfl ?_
          refine wl_s (pc' := 154) ji_120_153 rfl rfl rfl ?_
          obtain ⟨q12, hq12⟩ := cs_c C (by decide) sq_106
          refine wl_vc (d := d + 7) (as := [.ref 106, .ref T]) (rest := []) ji_120_154 jc_120_40 rfl hq12 jk_63.symm (Nat.le_of_ble_eq_true rfl) rfl (by rw [jn_63]; rfl) (uc_63 (d := d + 3) C hT isF_106 (TXC_f (fun b j a1 a2 => f2 b j (by have := isT_b hT; omega)) H) (SC_f (fun j => f2 _ j (by omega)) (fun j => f2 _ j (by omega)) SCs) G2) (fun v1 h11 R => ?_)
          obtain ⟨rfl, C⟩ := R
          obtain ⟨t4, e4⟩ : ∃ z9_, passC cd 106 t2 = z9_ := ⟨_, rfl⟩
          rw [e4] at C
          have G4 : IG t4 106 := by rw [← e4]; exact passC_IG G2 (by omega)
          have f4 : ∀ (b : Nat) (j : Int), ¬ ((b = 106 ∧ 9 ≤ j ∧ j ≤ 12) ∨ b = 112 ∨ b = 113 ∨ (b = 114 ∧ 9 ≤ j ∧ j ≤ 12) ∨ b = 120 ∨ b = 121 ∨ (b = 122 ∧ 9 ≤ j ∧ j ≤ 12) ∨ b = 128 ∨ b = 129 ∨ (b = 130 ∧ 9 ≤ j ∧ j ≤ 12) ∨ b = 136 ∨ b = 137 ∨ b = 97) → t4 b j = s b j := fun b j a1 => by { rw [← e4]; by_cases z : b = 106; subst z; rw [passC_0 (by omega) (by omega)]; exact f2 _ j a1; rw [passC_fr z (by omega) (by omega)]; exact f2 b j a1 }
          have h4 : t4 106 10 ≤ 19001 := by rw [← e4, passC_10]; omega
          show wl_R _ _ 120 157 [some (.ref 95), some (.ref T), some (wp_i w), some (wp_i n), some (wp_i 0), some (wp_i left), some (.ref 98), some (.ref 106), some (wp_i ((y : Int) - 1)), some (wp_i 0), some (wp_i 1)] [] h11 _
          refine wl_s (pc' := 159) ji_120_157 rfl rfl rfl ?_
          obtain ⟨q14, hq14⟩ := cs_c C (by decide) sq_106
          refine wl_vc (d := d + 7) (as := [.ref 106]) (rest := []) ji_120_159 jc_120_44 rfl hq14 jk_74.symm (Nat.le_of_ble_eq_true rfl) rfl (by rw [jn_74]; rfl) (uc_74 (d := d + 6) C isF_106 G4.1) (fun v1 h13 R => ?_)
          obtain ⟨rfl, C⟩ := R
          have C : CS h13 (drwC 106 t4) := C
          obtain ⟨t5, e5⟩ : ∃ z9_, drwC 106 t4 = z9_ := ⟨_, rfl⟩
          rw [e5] at C
          have G5 : IG t5 106 := by rw [← e5]; exact drwC_IG G4
          have f5 : ∀ (b : Nat) (j : Int), ¬ ((b = 106 ∧ 9 ≤ j ∧ j ≤ 12) ∨ b = 112 ∨ b = 113 ∨ (b = 114 ∧ 9 ≤ j ∧ j ≤ 12) ∨ b = 120 ∨ b = 121 ∨ (b = 122 ∧ 9 ≤ j ∧ j ≤ 12) ∨ b = 128 ∨ b = 129 ∨ (b = 130 ∧ 9 ≤ j ∧ j ≤ 12) ∨ b = 136 ∨ b = 137 ∨ b = 97) → t5 b j = s b j := fun b j a1 => by { rw [← e5]; by_cases z : b = 106; subst z; rw [drwC_0 (by omega) (by omega)]; exact f4 _ j a1; rw [drwC_fr z]; exact f4 b j a1 }
          have h5 : t5 106 10 ≤ 19001 := by rw [← e5, drwC_0 (by decide) (by decide)]; exact h4
          show wl_R _ _ 120 162 [some (.ref 95), some (.ref T), some (wp_i w), some (wp_i n), some (wp_i 0), some (wp_i left), some (.ref 98), some (.ref 106), some (wp_i ((y : Int) - 1)), some (wp_i 0), some (wp_i 1)] [] h13 _
          refine wl_s (pc' := 163) ji_120_162 rfl rfl rfl ?_
          refine cs_gr (r := 97) (k := 1) C (by decide) sq_95 rfl ji_120_163 jf_120_17 ?_
          refine wl_s (pc' := 168) ji_120_166 rfl rfl rfl ?_
          refine wl_s (pc' := 170) ji_120_168 rfl rfl rfl ?_
          refine wl_if (t := 178) ji_120_170 rfl (by omega) (fun (hb15 : (0 : Int) = 0) => ?_) (fun (hb15 : ¬ ((0 : Int) = 0)) => (by exfalso; omega))
          refine wl_bp ji_120_178 rfl ?_
          refine cs_s (x := 0) (y := 8) C (by decide) sq_97 (by omega) (by omega) ji_120_180 (fun h st160 st161 C => ?_)
          obtain ⟨s17, es17⟩ : ∃ z9_, up t5 97 0 8 = z9_ := ⟨_, rfl⟩
          rw [es17] at C
          refine wl_s (pc' := 182) ji_120_181 rfl rfl rfl ?_
          refine wl_s (pc' := 183) ji_120_182 rfl rfl rfl ?_
          refine wl_s (pc' := 184) ji_120_183 rfl rfl rfl ?_
          refine wl_s (pc' := 185) ji_120_184 rfl rfl rfl ?_
          refine wl_s (pc' := 187) ji_120_185 rfl rfl rfl ?_
          refine wl_s (pc' := 188) ji_120_187 rfl rfl rfl ?_
          refine wl_iadd (x := 0) (y := 1) (z := 1) ji_120_188 (by omega) ?_
          refine wl_s (pc' := 191) ji_120_189 rfl rfl rfl ?_
          refine wl_if (t := 201) ji_120_191 rfl (by omega) (fun (hb18 : (0 : Int) = 0) => ?_) (fun (hb18 : ¬ ((0 : Int) = 0)) => (by exfalso; omega))
          refine wl_s (pc' := 203) ji_120_201 rfl rfl rfl ?_
          have f6 : ∀ (b : Nat) (j : Int), ¬ ((b = 106 ∧ 9 ≤ j ∧ j ≤ 12) ∨ b = 112 ∨ b = 113 ∨ (b = 114 ∧ 9 ≤ j ∧ j ≤ 12) ∨ b = 120 ∨ b = 121 ∨ (b = 122 ∧ 9 ≤ j ∧ j ≤ 12) ∨ b = 128 ∨ b = 129 ∨ (b = 130 ∧ 9 ≤ j ∧ j ≤ 12) ∨ b = 136 ∨ b = 137 ∨ b = 97) → s17 b j = s b j := fun b j a1 => by rw [← es17, up_n (by omega)]; exact f5 b j a1
          have G6 : IG s17 106 := by rw [← es17]; exact IG_f (fun b j a1 a2 => up_a (by omega)) G5
          have h6 : s17 106 10 ≤ 19001 := by rw [← es17, up_a (by decide)]; exact h5
          obtain ⟨q20, hq20⟩ := cs_c C (by decide) sq_95
          refine wl_vc (d := d + 7) (as := [.ref 95, .ref T, wp_i w, wp_i n, wp_i 1, wp_i left]) (rest := []) ji_120_203 jc_120_60 rfl hq20 jk_120.symm (Nat.le_of_ble_eq_true rfl) rfl (by rw [jn_120]; rfl) (uc_120_1 (d := d) C hT hw hn (left := left) (by omega) (TXC_f (fun b j a1 a2 => f6 b j (by have := isT_b hT; omega)) H) (SC_f (fun j => f6 _ j (by omega)) (fun j => f6 _ j (by omega)) SCs) G6 h6 (fun z => SQF_f (Q1 (by omega)) (fun b j hb => f6 b j (by omega))) (fun z => SQF_f (Q2 (by omega)) (fun b j hb => f6 b j (by omega))) (fun z => SQF_f (Q3 (by omega)) (fun b j hb => f6 b j (by omega)))) (fun v1 h19 R => ?_)
          obtain ⟨yy, rfl, hy01, t7, C, f7⟩ := R
          have f8 : ∀ (b : Nat) (j : Int), ¬ ((b = 106 ∧ 9 ≤ j ∧ j ≤ 12) ∨ b = 112 ∨ b = 113 ∨ (b = 114 ∧ 9 ≤ j ∧ j ≤ 12) ∨ b = 120 ∨ b = 121 ∨ (b = 122 ∧ 9 ≤ j ∧ j ≤ 12) ∨ b = 128 ∨ b = 129 ∨ (b = 130 ∧ 9 ≤ j ∧ j ≤ 12) ∨ b = 136 ∨ b = 137 ∨ b = 97) → t7 b j = s b j := fun b j a1 => (f7 b j (by omega)).trans (f6 b j a1)
          show wl_R _ _ 120 206 [some (.ref 95), some (.ref T), some (wp_i w), some (wp_i n), some (wp_i 0), some (wp_i left), some (.ref 98), some (.ref 106), some (wp_i ((y : Int) - 1)), some (wp_i 0), some (wp_i 1)] [wp_i yy] h19 _
          refine wl_if (t := 211) ji_120_206 rfl (by omega) (fun (hb21 : (yy : Int) = 0) => ?_) (fun (hb21 : ¬ ((yy : Int) = 0)) => ?_)
          · refine wl_iinc (x := (y : Int) - 1) (z := (y : Int) - 1 + 1) (lv' := [some (.ref 95), some (.ref T), some (wp_i w), some (wp_i n), some (wp_i 0), some (wp_i left), some (.ref 98), some (.ref 106), some (wp_i ((y : Int) - 1 + 1)), some (wp_i 0), some (wp_i 1)]) ji_120_211 rfl (Nat.le_of_ble_eq_true rfl) (by omega) rfl ?_
            refine wl_goto (t := 55) ji_120_214 rfl ?_
            rw [show (y : Int) - 1 + 1 = ((y + 1 : Nat) : Int) - 1 by omega]
            exact ih (y + 1) _ t7 _ _ C (by omega) f8
          · refine wl_s (pc' := 210) ji_120_209 rfl rfl rfl ?_
            exact wl_ri ji_120_210 jr_120 (pv_nb (by omega)) (⟨1, rfl, by decide, t7, C, f8⟩)
      · refine wl_s (pc' := 72) ji_120_71 rfl rfl rfl ?_
        refine wl_goto (t := 76) ji_120_72 rfl ?_
        refine wl_s (pc' := 78) (lv' := [some (.ref 95), some (.ref T), some (wp_i w), some (wp_i n), some (wp_i 0), some (wp_i left), some (.ref 98), some (.ref 106), some (wp_i ((y : Int) - 1)), some (wp_i 1), l10]) ji_120_76 rfl rfl rfl ?_
        refine wl_s (pc' := 80) ji_120_78 rfl rfl rfl ?_
        refine wl_if (t := 107) ji_120_80 rfl (by omega) (fun (hb22 : (1 : Int) = 0) => (by exfalso; omega)) (fun (hb22 : ¬ ((1 : Int) = 0)) => ?_)
        refine wl_s (pc' := 85) ji_120_83 rfl rfl rfl ?_
        refine wl_if (t := 103) ji_120_85 rfl (by omega) (fun (hb23 : (left : Int) ≤ 0) => ?_) (fun (hb23 : ¬ ((left : Int) ≤ 0)) => ?_)
        · refine wl_s (pc' := 104) ji_120_103 rfl rfl rfl ?_
          refine wl_goto (t := 121) ji_120_104 rfl ?_
          refine wl_s (pc' := 123) (lv' := [some (.ref 95), some (.ref T), some (wp_i w), some (wp_i n), some (wp_i 0), some (wp_i left), some (.ref 98), some (.ref 106), some (wp_i ((y : Int) - 1)), some (wp_i 1), some (wp_i 0)]) ji_120_121 rfl rfl rfl ?_
          refine wl_s (pc' := 125) ji_120_123 rfl rfl rfl ?_
          refine wl_if (t := 131) ji_120_125 rfl (by omega) (fun (hb24 : ¬ (0 : Int) = 0) => (by exfalso; omega)) (fun (hb24 : ¬ (¬ (0 : Int) = 0)) => ?_)
          refine wl_goto (t := 211) ji_120_128 rfl ?_
          refine wl_iinc (x := (y : Int) - 1) (z := (y : Int) - 1 + 1) (lv' := [some (.ref 95), some (.ref T), some (wp_i w), some (wp_i n), some (wp_i 0), some (wp_i left), some (.ref 98), some (.ref 106), some (wp_i ((y : Int) - 1 + 1)), some (wp_i 1), some (wp_i 0)]) ji_120_211 rfl (Nat.le_of_ble_eq_true rfl) (by omega) rfl ?_
          refine wl_goto (t := 55) ji_120_214 rfl ?_
          rw [show (y : Int) - 1 + 1 = ((y + 1 : Nat) : Int) - 1 by omega]
          exact ih (y + 1) _ t _ _ C (by omega) ft
        · refine wl_s (pc' := 90) ji_120_88 rfl rfl rfl ?_
          refine wl_s (pc' := 91) ji_120_90 rfl rfl rfl ?_
          refine wl_s (pc' := 93) ji_120_91 rfl rfl rfl ?_
          obtain ⟨q26, hq26⟩ := cs_c C (by decide) sq_98
          refine wl_vc (d := d + 7) (as := [.ref 98, wp_i w, wp_i ((y : Int) - 1)]) (rest := []) ji_120_93 jc_120_67 rfl hq26 jk_79.symm (Nat.le_of_ble_eq_true rfl) rfl (by rw [jn_79]; rfl) (uc_79 (d := d + 6) C isF_98 Gt.1 (w := w) (p := (y : Int) - 1) (by omega) (by omega)) (fun v1 h25 R => ?_)
          obtain ⟨ee, y27, rfl, hy27a, hy27b⟩ := R
          rw [ee]
          clear ee
          show wl_R _ _ 120 96 [some (.ref 95), some (.ref T), some (wp_i w), some (wp_i n), some (wp_i 0), some (wp_i left), some (.ref 98), some (.ref 106), some (wp_i ((y : Int) - 1)), some (wp_i 1), l10] [wp_i y27] _ _
          refine wl_if (t := 103) ji_120_96 rfl (by omega) (fun (hb28 : (y27 : Int) = 0) => ?_) (fun (hb28 : ¬ ((y27 : Int) = 0)) => ?_)
          · refine wl_s (pc' := 104) ji_120_103 rfl rfl rfl ?_
            refine wl_goto (t := 121) ji_120_104 rfl ?_
            refine wl_s (pc' := 123) (lv' := [some (.ref 95), some (.ref T), some (wp_i w), some (wp_i n), some (wp_i 0), some (wp_i left), some (.ref 98), some (.ref 106), some (wp_i ((y : Int) - 1)), some (wp_i 1), some (wp_i 0)]) ji_120_121 rfl rfl rfl ?_
            refine wl_s (pc' := 125) ji_120_123 rfl rfl rfl ?_
            refine wl_if (t := 131) ji_120_125 rfl (by omega) (fun (hb29 : ¬ (0 : Int) = 0) => (by exfalso; omega)) (fun (hb29 : ¬ (¬ (0 : Int) = 0)) => ?_)
            refine wl_goto (t := 211) ji_120_128 rfl ?_
            refine wl_iinc (x := (y : Int) - 1) (z := (y : Int) - 1 + 1) (lv' := [some (.ref 95), some (.ref T), some (wp_i w), some (wp_i n), some (wp_i 0), some (wp_i left), some (.ref 98), some (.ref 106), some (wp_i ((y : Int) - 1 + 1)), some (wp_i 1), some (wp_i 0)]) ji_120_211 rfl (Nat.le_of_ble_eq_true rfl) (by omega) rfl ?_
            refine wl_goto (t := 55) ji_120_214 rfl ?_
            rw [show (y : Int) - 1 + 1 = ((y + 1 : Nat) : Int) - 1 by omega]
            exact ih (y + 1) _ t _ _ C (by omega) ft
          · refine wl_s (pc' := 100) ji_120_99 rfl rfl rfl ?_
            refine wl_goto (t := 121) ji_120_100 rfl ?_
            refine wl_s (pc' := 123) (lv' := [some (.ref 95), some (.ref T), some (wp_i w), some (wp_i n), some (wp_i 0), some (wp_i left), some (.ref 98), some (.ref 106), some (wp_i ((y : Int) - 1)), some (wp_i 1), some (wp_i 1)]) ji_120_121 rfl rfl rfl ?_
            refine wl_s (pc' := 125) ji_120_123 rfl rfl rfl ?_
            refine wl_if (t := 131) ji_120_125 rfl (by omega) (fun (hb30 : ¬ (1 : Int) = 0) => ?_) (fun (hb30 : ¬ (¬ (1 : Int) = 0)) => (by exfalso; omega))
            refine wl_s (pc' := 133) ji_120_131 rfl rfl rfl ?_
            refine wl_s (pc' := 135) ji_120_133 rfl rfl rfl ?_
            obtain ⟨q32, hq32⟩ := cs_c C (by decide) sq_106
            refine wl_vc (d := d + 7) (as := [.ref 106, .ref 98]) (rest := []) ji_120_135 jc_120_57 rfl hq32 jk_107.symm (Nat.le_of_ble_eq_true rfl) rfl (by rw [jn_107]; rfl) (uc_107 (d := d + 7) C isF_106 isF_98 (by decide)) (fun v1 h31 R => ?_)
            obtain ⟨rfl, t2, C, m6, m7, m9, m10, m11, m12, mf⟩ := R
            have Qt : SQF t 106 98 := SQF_f (Q0 (by omega)) (fun b j hb => ft b j (by omega))
            have FC : FCP t t2 98 106 := ⟨⟨by rw [mf _ _ (by omega) (by omega) (by omega)]; exact Qt.1.1, by rw [mf _ _ (by omega) (by omega) (by omega)]; exact Qt.1.2⟩, fun j a b => by { rw [mf (106 + 1) j (by omega) (by omega) (by omega), mf (106 + 2) j (by omega) (by omega) (by omega), mf (106 + 3) j (by omega) (by omega) (by omega)]; exact Qt.2.1 j a b }, fun j a b => by { rw [mf (106 + 4) j (by omega) (by omega) (by omega), mf (106 + 5) j (by omega) (by omega) (by omega)]; exact Qt.2.2 j a b }, fun j a b => ⟨m6 j a b, m7 j a b⟩, m9, m10, m11, m12⟩
            have G2 := IG_t Gt FC
            have f2 : ∀ (b : Nat) (j : Int), ¬ ((b = 106 ∧ 9 ≤ j ∧ j ≤ 12) ∨ b = 112 ∨ b = 113 ∨ (b = 114 ∧ 9 ≤ j ∧ j ≤ 12) ∨ b = 120 ∨ b = 121 ∨ (b = 122 ∧ 9 ≤ j ∧ j ≤ 12) ∨ b = 128 ∨ b = 129 ∨ (b = 130 ∧ 9 ≤ j ∧ j ≤ 12) ∨ b = 136 ∨ b = 137 ∨ b = 97) → t2 b j = s b j := fun b j a1 => (mf b j (by omega) (by omega) (by omega)).trans (ft b j a1)
            have h2 : t2 106 10 ≤ 19000 := by rw [m10, ft 98 10 (by omega)]; exact h10
            show wl_R _ _ 120 138 [some (.ref 95), some (.ref T), some (wp_i w), some (wp_i n), some (wp_i 0), some (wp_i left), some (.ref 98), some (.ref 106), some (wp_i ((y : Int) - 1)), some (wp_i 1), some (wp_i 1)] [] h31 _
            refine wl_s (pc' := 140) ji_120_138 rfl rfl rfl ?_
            refine wl_if (t := 151) ji_120_140 rfl (by omega) (fun (hb33 : (1 : Int) = 0) => (by exfalso; omega)) (fun (hb33 : ¬ ((1 : Int) = 0)) => ?_)
            refine wl_s (pc' := 145) ji_120_143 rfl rfl rfl ?_
            refine wl_s (pc' := 146) ji_120_145 rfl rfl rfl ?_
            refine wl_s (pc' := 148) ji_120_146 rfl rfl rfl ?_
            obtain ⟨q35, hq35⟩ := cs_c C (by decide) sq_106
            refine wl_vc (d := d + 7) (as := [.ref 106, wp_i w, wp_i ((y : Int) - 1)]) (rest := []) ji_120_148 jc_120_71 rfl hq35 jk_82.symm (Nat.le_of_ble_eq_true rfl) rfl (by rw [jn_82]; rfl) (uc_82 (d := d + 7) C isF_106 (w := w) (p := (y : Int) - 1) hw (by omega)) (fun v1 h34 R => ?_)
            obtain ⟨rfl, C⟩ := R
            obtain ⟨t3, e3⟩ : ∃ z9_, up (up t2 (106 + 6) (((y : Int) - 1) * 6 + w) 0) (106 + 7) (((y : Int) - 1) * 6 + w) 0 = z9_ := ⟨_, rfl⟩
            rw [e3] at C
            have G3 : IG t3 106 := by rw [← e3]; exact IG_raise (F := 106) G2
            have f3 : ∀ (b : Nat) (j : Int), ¬ ((b = 106 ∧ 9 ≤ j ∧ j ≤ 12) ∨ b = 112 ∨ b = 113 ∨ (b = 114 ∧ 9 ≤ j ∧ j ≤ 12) ∨ b = 120 ∨ b = 121 ∨ (b = 122 ∧ 9 ≤ j ∧ j ≤ 12) ∨ b = 128 ∨ b = 129 ∨ (b = 130 ∧ 9 ≤ j ∧ j ≤ 12) ∨ b = 136 ∨ b = 137 ∨ b = 97) → t3 b j = s b j := fun b j a1 => by rw [← e3, up_a (by omega), up_a (by omega)]; exact f2 b j a1
            have h3 : t3 106 10 ≤ 19000 := by rw [← e3, up_a (by decide), up_a (by decide)]; exact h2
            show wl_R _ _ 120 151 [some (.ref 95), some (.ref T), some (wp_i w), some (wp_i n), some (wp_i 0), some (wp_i left), some (.ref 98), some (.ref 106), some (wp_i ((y : Int) - 1)), some (wp_i 1), some (wp_i 1)] [] h34 _
            refine wl_s (pc' := 153) ji_120_151 rfl rfl rfl ?_
            refine wl_s (pc' := 154) ji_120_153 rfl rfl rfl ?_
            obtain ⟨q37, hq37⟩ := cs_c C (by decide) sq_106
            refine wl_vc (d := d + 7) (as := [.ref 106, .ref T]) (rest := []) ji_120_154 jc_120_40 rfl hq37 jk_63.symm (Nat.le_of_ble_eq_true rfl) rfl (by rw [jn_63]; rfl) (uc_63 (d := d + 3) C hT isF_106 (TXC_f (fun b j a1 a2 => f3 b j (by have := isT_b hT; omega)) H) (SC_f (fun j => f3 _ j (by omega)) (fun j => f3 _ j (by omega)) SCs) G3) (fun v1 h36 R => ?_)
            obtain ⟨rfl, C⟩ := R
            obtain ⟨t4, e4⟩ : ∃ z9_, passC cd 106 t3 = z9_ := ⟨_, rfl⟩
            rw [e4] at C
            have G4 : IG t4 106 := by rw [← e4]; exact passC_IG G3 (by omega)
            have f4 : ∀ (b : Nat) (j : Int), ¬ ((b = 106 ∧ 9 ≤ j ∧ j ≤ 12) ∨ b = 112 ∨ b = 113 ∨ (b = 114 ∧ 9 ≤ j ∧ j ≤ 12) ∨ b = 120 ∨ b = 121 ∨ (b = 122 ∧ 9 ≤ j ∧ j ≤ 12) ∨ b = 128 ∨ b = 129 ∨ (b = 130 ∧ 9 ≤ j ∧ j ≤ 12) ∨ b = 136 ∨ b = 137 ∨ b = 97) → t4 b j = s b j := fun b j a1 => by { rw [← e4]; by_cases z : b = 106; subst z; rw [passC_0 (by omega) (by omega)]; exact f3 _ j a1; rw [passC_fr z (by omega) (by omega)]; exact f3 b j a1 }
            have h4 : t4 106 10 ≤ 19001 := by rw [← e4, passC_10]; omega
            show wl_R _ _ 120 157 [some (.ref 95), some (.ref T), some (wp_i w), some (wp_i n), some (wp_i 0), some (wp_i left), some (.ref 98), some (.ref 106), some (wp_i ((y : Int) - 1)), some (wp_i 1), some (wp_i 1)] [] h36 _
            refine wl_s (pc' := 159) ji_120_157 rfl rfl rfl ?_
            obtain ⟨q39, hq39⟩ := cs_c C (by decide) sq_106
            refine wl_vc (d := d + 7) (as := [.ref 106]) (rest := []) ji_120_159 jc_120_44 rfl hq39 jk_74.symm (Nat.le_of_ble_eq_true rfl) rfl (by rw [jn_74]; rfl) (uc_74 (d := d + 6) C isF_106 G4.1) (fun v1 h38 R => ?_)
            obtain ⟨rfl, C⟩ := R
            have C : CS h38 (drwC 106 t4) := C
            obtain ⟨t5, e5⟩ : ∃ z9_, drwC 106 t4 = z9_ := ⟨_, rfl⟩
            rw [e5] at C
            have G5 : IG t5 106 := by rw [← e5]; exact drwC_IG G4
            have f5 : ∀ (b : Nat) (j : Int), ¬ ((b = 106 ∧ 9 ≤ j ∧ j ≤ 12) ∨ b = 112 ∨ b = 113 ∨ (b = 114 ∧ 9 ≤ j ∧ j ≤ 12) ∨ b = 120 ∨ b = 121 ∨ (b = 122 ∧ 9 ≤ j ∧ j ≤ 12) ∨ b = 128 ∨ b = 129 ∨ (b = 130 ∧ 9 ≤ j ∧ j ≤ 12) ∨ b = 136 ∨ b = 137 ∨ b = 97) → t5 b j = s b j := fun b j a1 => by { rw [← e5]; by_cases z : b = 106; subst z; rw [drwC_0 (by omega) (by omega)]; exact f4 _ j a1; rw [drwC_fr z]; exact f4 b j a1 }
            have h5 : t5 106 10 ≤ 19001 := by rw [← e5, drwC_0 (by decide) (by decide)]; exact h4
            show wl_R _ _ 120 162 [some (.ref 95), some (.ref T), some (wp_i w), some (wp_i n), some (wp_i 0), some (wp_i left), some (.ref 98), some (.ref 106), some (wp_i ((y : Int) - 1)), some (wp_i 1), some (wp_i 1)] [] h38 _
            refine wl_s (pc' := 163) ji_120_162 rfl rfl rfl ?_
            refine cs_gr (r := 97) (k := 1) C (by decide) sq_95 rfl ji_120_163 jf_120_17 ?_
            refine wl_s (pc' := 168) ji_120_166 rfl rfl rfl ?_
            refine wl_s (pc' := 170) ji_120_168 rfl rfl rfl ?_
            refine wl_if (t := 178) ji_120_170 rfl (by omega) (fun (hb40 : (1 : Int) = 0) => (by exfalso; omega)) (fun (hb40 : ¬ ((1 : Int) = 0)) => ?_)
            refine wl_s (pc' := 175) ji_120_173 rfl rfl rfl ?_
            refine wl_goto (t := 180) ji_120_175 rfl ?_
            refine cs_s (x := 0) (y := (y : Int) - 1) C (by decide) sq_97 (by omega) (by omega) ji_120_180 (fun h st410 st411 C => ?_)
            obtain ⟨s42, es42⟩ : ∃ z9_, up t5 97 0 ((y : Int) - 1) = z9_ := ⟨_, rfl⟩
            rw [es42] at C
            refine wl_s (pc' := 182) ji_120_181 rfl rfl rfl ?_
            refine wl_s (pc' := 183) ji_120_182 rfl rfl rfl ?_
            refine wl_s (pc' := 184) ji_120_183 rfl rfl rfl ?_
            refine wl_s (pc' := 185) ji_120_184 rfl rfl rfl ?_
            refine wl_s (pc' := 187) ji_120_185 rfl rfl rfl ?_
            refine wl_s (pc' := 188) ji_120_187 rfl rfl rfl ?_
            refine wl_iadd (x := 0) (y := 1) (z := 1) ji_120_188 (by omega) ?_
            refine wl_s (pc' := 191) ji_120_189 rfl rfl rfl ?_
            refine wl_if (t := 201) ji_120_191 rfl (by omega) (fun (hb43 : (1 : Int) = 0) => (by exfalso; omega)) (fun (hb43 : ¬ ((1 : Int) = 0)) => ?_)
            refine wl_s (pc' := 196) ji_120_194 rfl rfl rfl ?_
            refine wl_s (pc' := 197) ji_120_196 rfl rfl rfl ?_
            refine wl_isub (x := left) (y := 1) (z := left - 1) ji_120_197 (by omega) ?_
            refine wl_goto (t := 203) ji_120_198 rfl ?_
            have f6 : ∀ (b : Nat) (j : Int), ¬ ((b = 106 ∧ 9 ≤ j ∧ j ≤ 12) ∨ b = 112 ∨ b = 113 ∨ (b = 114 ∧ 9 ≤ j ∧ j ≤ 12) ∨ b = 120 ∨ b = 121 ∨ (b = 122 ∧ 9 ≤ j ∧ j ≤ 12) ∨ b = 128 ∨ b = 129 ∨ (b = 130 ∧ 9 ≤ j ∧ j ≤ 12) ∨ b = 136 ∨ b = 137 ∨ b = 97) → s42 b j = s b j := fun b j a1 => by rw [← es42, up_n (by omega)]; exact f5 b j a1
            have G6 : IG s42 106 := by rw [← es42]; exact IG_f (fun b j a1 a2 => up_a (by omega)) G5
            have h6 : s42 106 10 ≤ 19001 := by rw [← es42, up_a (by decide)]; exact h5
            obtain ⟨q45, hq45⟩ := cs_c C (by decide) sq_95
            refine wl_vc (d := d + 7) (as := [.ref 95, .ref T, wp_i w, wp_i n, wp_i 1, wp_i (left - 1)]) (rest := []) ji_120_203 jc_120_60 rfl hq45 jk_120.symm (Nat.le_of_ble_eq_true rfl) rfl (by rw [jn_120]; rfl) (uc_120_1 (d := d) C hT hw hn (left := left - 1) (by omega) (TXC_f (fun b j a1 a2 => f6 b j (by have := isT_b hT; omega)) H) (SC_f (fun j => f6 _ j (by omega)) (fun j => f6 _ j (by omega)) SCs) G6 h6 (fun z => SQF_f (Q1 (by omega)) (fun b j hb => f6 b j (by omega))) (fun z => SQF_f (Q2 (by omega)) (fun b j hb => f6 b j (by omega))) (fun z => SQF_f (Q3 (by omega)) (fun b j hb => f6 b j (by omega)))) (fun v1 h44 R => ?_)
            obtain ⟨yy, rfl, hy01, t7, C, f7⟩ := R
            have f8 : ∀ (b : Nat) (j : Int), ¬ ((b = 106 ∧ 9 ≤ j ∧ j ≤ 12) ∨ b = 112 ∨ b = 113 ∨ (b = 114 ∧ 9 ≤ j ∧ j ≤ 12) ∨ b = 120 ∨ b = 121 ∨ (b = 122 ∧ 9 ≤ j ∧ j ≤ 12) ∨ b = 128 ∨ b = 129 ∨ (b = 130 ∧ 9 ≤ j ∧ j ≤ 12) ∨ b = 136 ∨ b = 137 ∨ b = 97) → t7 b j = s b j := fun b j a1 => (f7 b j (by omega)).trans (f6 b j a1)
            show wl_R _ _ 120 206 [some (.ref 95), some (.ref T), some (wp_i w), some (wp_i n), some (wp_i 0), some (wp_i left), some (.ref 98), some (.ref 106), some (wp_i ((y : Int) - 1)), some (wp_i 1), some (wp_i 1)] [wp_i yy] h44 _
            refine wl_if (t := 211) ji_120_206 rfl (by omega) (fun (hb46 : (yy : Int) = 0) => ?_) (fun (hb46 : ¬ ((yy : Int) = 0)) => ?_)
            · refine wl_iinc (x := (y : Int) - 1) (z := (y : Int) - 1 + 1) (lv' := [some (.ref 95), some (.ref T), some (wp_i w), some (wp_i n), some (wp_i 0), some (wp_i left), some (.ref 98), some (.ref 106), some (wp_i ((y : Int) - 1 + 1)), some (wp_i 1), some (wp_i 1)]) ji_120_211 rfl (Nat.le_of_ble_eq_true rfl) (by omega) rfl ?_
              refine wl_goto (t := 55) ji_120_214 rfl ?_
              rw [show (y : Int) - 1 + 1 = ((y + 1 : Nat) : Int) - 1 by omega]
              exact ih (y + 1) _ t7 _ _ C (by omega) f8
            · refine wl_s (pc' := 210) ji_120_209 rfl rfl rfl ?_
              exact wl_ri ji_120_210 jr_120 (pv_nb (by omega)) (⟨1, rfl, by decide, t7, C, f8⟩)
theorem uc_120_0 {nn d : Nat} {h : mj_H} {s : sg_} (C : CS h s) {cd : cds} {w n left : Int} {T : Nat} (hT : isT T) (hw : 0 ≤ w ∧ w < 6) (hn : 0 ≤ n ∧ n ≤ 4) (hl : -10 ≤ left ∧ left ≤ 100) (H : TXC s T cd) (SCs : SC s) (G : IG s 98) (h10 : s 98 10 ≤ 19000) (Q0 : 1 < n + 1 → SQF s 106 98) (Q1 : 2 < n + 1 → SQF s 114 106) (Q2 : 3 < n + 1 → SQF s 122 114) (Q3 : 4 < n + 1 → SQF s 130 122) : wl_R nn (d + 8) 120 0 [some (.ref 95), some (.ref T), some (wp_i w), some (wp_i n), some (wp_i 0), some (wp_i left), none, none, none, none, none] [] h (fun v1 h1 => ∃ yy : Int, v1 = some (wp_i yy) ∧ (yy = 0 ∨ yy = 1) ∧ ∃ t, CS h1 t ∧ (∀ (b : Nat) (j : Int), ¬ ((b = 106 ∧ 9 ≤ j ∧ j ≤ 12) ∨ b = 112 ∨ b = 113 ∨ (b = 114 ∧ 9 ≤ j ∧ j ≤ 12) ∨ b = 120 ∨ b = 121 ∨ (b = 122 ∧ 9 ≤ j ∧ j ≤ 12) ∨ b = 128 ∨ b = 129 ∨ (b = 130 ∧ 9 ≤ j ∧ j ≤ 12) ∨ b = 136 ∨ b = 137 ∨ b = 97) → t b j = s b j)) := by
  have i0 := G.1.1
  have g11 := G.1.2.2.2.2.2.2.2.2.1
  refine wl_s (pc' := 1) ji_120_0 rfl rfl rfl ?_
  refine cs_gr (r := 96) (k := 0) C (by decide) sq_95 rfl ji_120_1 jf_120_13 ?_
  refine wl_s (pc' := 6) ji_120_4 rfl rfl rfl ?_
  refine cs_aa (r := 98) (x := 0) C (by decide) sq_96 (by decide) (by decide) (by decide) (by decide) rfl ji_120_6 ?_
  refine wl_s (pc' := 9) (lv' := [some (.ref 95), some (.ref T), some (wp_i w), some (wp_i n), some (wp_i 0), some (wp_i left), some (.ref 98), none, none, none, none]) ji_120_7 rfl rfl rfl ?_
  refine wl_s (pc' := 11) ji_120_9 rfl rfl rfl ?_
  refine wl_s (pc' := 12) ji_120_11 rfl rfl rfl ?_
  refine wl_icmp (t := 21) ji_120_12 rfl (by omega) (by omega) (fun (hb1 : (n : Int) ≤ 0) => ?_) (fun (hb1 : ¬ ((n : Int) ≤ 0)) => ?_)
  · refine wl_s (pc' := 23) ji_120_21 rfl rfl rfl ?_
    refine wl_if (t := 39) ji_120_23 rfl (by omega) (fun (hb2 : ¬ (left : Int) = 0) => ?_) (fun (hb2 : ¬ (¬ (left : Int) = 0)) => ?_)
    · refine wl_s (pc' := 40) ji_120_39 rfl rfl rfl ?_
      exact wl_ri ji_120_40 jr_120 (pv_nb (by omega)) (⟨0, rfl, by decide, s, C, fun _ _ _ => rfl⟩)
    · refine wl_s (pc' := 28) ji_120_26 rfl rfl rfl ?_
      refine cs_gi (k := 11) (kI := 11) C (by decide) (by decide) sq_98 rfl rfl ji_120_28 jf_120_50 ?_
      have bd3 : wp_r (s 98 11) := cs_ri (k := 11) (kI := 11) C (by decide) (by decide) sq_98 rfl rfl (show 11 < 13 by decide)
      refine wl_s (pc' := 32) ji_120_31 rfl rfl rfl ?_
      refine wl_icmp (t := 39) ji_120_32 rfl (by omega) (by omega) (fun (hb4 : ¬ (s 98 11 : Int) = w) => ?_) (fun (hb4 : ¬ (¬ (s 98 11 : Int) = w)) => ?_)
      · refine wl_s (pc' := 40) ji_120_39 rfl rfl rfl ?_
        exact wl_ri ji_120_40 jr_120 (pv_nb (by omega)) (⟨0, rfl, by decide, s, C, fun _ _ _ => rfl⟩)
      · refine wl_s (pc' := 36) ji_120_35 rfl rfl rfl ?_
        refine wl_goto (t := 40) ji_120_36 rfl ?_
        exact wl_ri ji_120_40 jr_120 (pv_nb (by omega)) (⟨1, rfl, by decide, s, C, fun _ _ _ => rfl⟩)
  · refine wl_s (pc' := 17) ji_120_15 rfl rfl rfl ?_
    refine wl_s (pc' := 18) ji_120_17 rfl rfl rfl ?_
    refine wl_icmp (t := 41) ji_120_18 rfl (by omega) (by omega) (fun (hb5 : (0 : Int) < 4) => ?_) (fun (hb5 : ¬ ((0 : Int) < 4)) => (by exfalso; omega))
    refine wl_s (pc' := 42) ji_120_41 rfl rfl rfl ?_
    refine cs_gr (r := 96) (k := 0) C (by decide) sq_95 rfl ji_120_42 jf_120_13 ?_
    refine wl_s (pc' := 47) ji_120_45 rfl rfl rfl ?_
    refine wl_s (pc' := 48) ji_120_47 rfl rfl rfl ?_
    refine wl_iadd (x := 0) (y := 1) (z := 1) ji_120_48 (by omega) ?_
    refine cs_aa (r := 106) (x := 1) C (by decide) sq_96 (by decide) (by decide) (by decide) (by decide) rfl ji_120_49 ?_
    refine wl_s (pc' := 52) (lv' := [some (.ref 95), some (.ref T), some (wp_i w), some (wp_i n), some (wp_i 0), some (wp_i left), some (.ref 98), some (.ref 106), none, none, none]) ji_120_50 rfl rfl rfl ?_
    refine wl_s (pc' := 53) ji_120_52 rfl rfl rfl ?_
    refine wl_s (pc' := 55) (lv' := [some (.ref 95), some (.ref T), some (wp_i w), some (wp_i n), some (wp_i 0), some (wp_i left), some (.ref 98), some (.ref 106), some (wp_i (-1)), none, none]) ji_120_53 rfl rfl rfl ?_
    rw [show (-1 : Int) = ((0 : Nat) : Int) - 1 from rfl]
    exact uc_120_0l hT hw hn hl (by omega) H SCs G h10 Q0 Q1 Q2 Q3 nn 0 _ s none none C (by decide) (fun _ _ _ => rfl)
