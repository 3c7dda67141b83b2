/-! -/
set_option maxRecDepth 100000 in
theorem jn_184 : mj_nl 184 = 1 := by decide +kernel
set_option maxRecDepth 100000 in
theorem jn_191 : mj_nl 191 = 2 := by decide +kernel
set_option maxRecDepth 100000 in
theorem ji_183_0 : mj_ins 183 0 = some (.aload_n 0) := by decide +kernel
set_option maxRecDepth 100000 in
theorem ji_183_1 : mj_ins 183 1 = some (.invokevirtual 238) := by decide +kernel
set_option maxRecDepth 100000 in
theorem jc_183_238 : mj_cal 183 238 = some (2, 184, 0) := by decide +kernel
set_option maxRecDepth 100000 in
theorem jk_184 : mj_cls 184 = 11 := by decide +kernel
set_option maxRecDepth 100000 in
theorem ji_183_4 : mj_ins 183 4 = some (.istore_n 1) := by decide +kernel
set_option maxRecDepth 100000 in
theorem ji_183_5 : mj_ins 183 5 = some (.iload_n 1) := by decide +kernel
set_option maxRecDepth 100000 in
theorem ji_183_6 : mj_ins 183 6 = some (.ifCond .ge 5) := by decide +kernel
set_option maxRecDepth 100000 in
theorem ji_183_11 : mj_ins 183 11 = some (.iload_n 1) := by decide +kernel
set_option maxRecDepth 100000 in
theorem ji_183_12 : mj_ins 183 12 = some (.iconst 2) := by decide +kernel
set_option maxRecDepth 100000 in
theorem ji_183_13 : mj_ins 183 13 = some (.if_icmp .gt 16) := by decide +kernel
set_option maxRecDepth 100000 in
theorem ji_183_29 : mj_ins 183 29 = some (.aload_n 0) := by decide +kernel
set_option maxRecDepth 100000 in
theorem ji_183_30 : mj_ins 183 30 = some (.getfield 16) := by decide +kernel
set_option maxRecDepth 100000 in
theorem jf_183_16 : mj_fld 183 16 = some (11, 2, (.array .int), false) := by decide +kernel
set_option maxRecDepth 100000 in
theorem ji_183_33 : mj_ins 183 33 = some (.aload_n 0) := by decide +kernel
set_option maxRecDepth 100000 in
theorem ji_183_34 : mj_ins 183 34 = some (.getfield 134) := by decide +kernel
set_option maxRecDepth 100000 in
theorem jf_183_134 : mj_fld 183 134 = some (11, 12, .int, true) := by decide +kernel
set_option maxRecDepth 100000 in
theorem ji_183_37 : mj_ins 183 37 = some (.iaload) := by decide +kernel
set_option maxRecDepth 100000 in
theorem ji_183_38 : mj_ins 183 38 = some (.istore_n 2) := by decide +kernel
set_option maxRecDepth 100000 in
theorem ji_183_39 : mj_ins 183 39 = some (.iload_n 2) := by decide +kernel
set_option maxRecDepth 100000 in
theorem ji_183_40 : mj_ins 183 40 = some (.bipush 24) := by decide +kernel
set_option maxRecDepth 100000 in
theorem ji_183_42 : mj_ins 183 42 = some (.if_icmp .ne 6) := by decide +kernel
set_option maxRecDepth 100000 in
theorem ji_183_48 : mj_ins 183 48 = some (.iload_n 1) := by decide +kernel
set_option maxRecDepth 100000 in
theorem ji_183_49 : mj_ins 183 49 = some (.iconst 2) := by decide +kernel
set_option maxRecDepth 100000 in
theorem ji_183_50 : mj_ins 183 50 = some (.if_icmp .gt 15) := by decide +kernel
set_option maxRecDepth 100000 in
theorem ji_183_65 : mj_ins 183 65 = some (.aload_n 0) := by decide +kernel
set_option maxRecDepth 100000 in
theorem ji_183_66 : mj_ins 183 66 = some (.iload_n 1) := by decide +kernel
set_option maxRecDepth 100000 in
theorem ji_183_67 : mj_ins 183 67 = some (.putfield 144) := by decide +kernel
set_option maxRecDepth 100000 in
theorem jf_183_144 : mj_fld 183 144 = some (11, 14, .int, true) := by decide +kernel
set_option maxRecDepth 100000 in
theorem pf_14 : sx_fd sx_y63.2.2 14 = some (0, 0, 9) := by decide +kernel
set_option maxRecDepth 100000 in
theorem ji_183_70 : mj_ins 183 70 = some (.aload_n 0) := by decide +kernel
set_option maxRecDepth 100000 in
theorem ji_183_71 : mj_ins 183 71 = some (.invokevirtual 171) := by decide +kernel
set_option maxRecDepth 100000 in
theorem jc_183_171 : mj_cal 183 171 = some (2, 178, 0) := by decide +kernel
set_option maxRecDepth 100000 in
theorem ji_183_74 : mj_ins 183 74 = some (.aload_n 0) := by decide +kernel
set_option maxRecDepth 100000 in
theorem ji_183_75 : mj_ins 183 75 = some (.getfield 134) := by decide +kernel
set_option maxRecDepth 100000 in
theorem ji_183_78 : mj_ins 183 78 = some (.iconst 1) := by decide +kernel
set_option maxRecDepth 100000 in
theorem ji_183_79 : mj_ins 183 79 = some (.iadd) := by decide +kernel
set_option maxRecDepth 100000 in
theorem ji_183_80 : mj_ins 183 80 = some (.iconst 4) := by decide +kernel
set_option maxRecDepth 100000 in
theorem ji_183_81 : mj_ins 183 81 = some (.iload_n 2) := by decide +kernel
set_option maxRecDepth 100000 in
theorem ji_183_82 : mj_ins 183 82 = some (.imul) := by decide +kernel
set_option maxRecDepth 100000 in
theorem ji_183_83 : mj_ins 183 83 = some (.iadd) := by decide +kernel
set_option maxRecDepth 100000 in
theorem ji_183_84 : mj_ins 183 84 = some (.istore_n 3) := by decide +kernel
set_option maxRecDepth 100000 in
theorem ji_183_85 : mj_ins 183 85 = some (.aload_n 0) := by decide +kernel
set_option maxRecDepth 100000 in
theorem ji_183_86 : mj_ins 183 86 = some (.getfield 16) := by decide +kernel
set_option maxRecDepth 100000 in
theorem ji_183_89 : mj_ins 183 89 = some (.iload_n 3) := by decide +kernel
set_option maxRecDepth 100000 in
theorem ji_183_90 : mj_ins 183 90 = some (.iload_n 1) := by decide +kernel
set_option maxRecDepth 100000 in
theorem ji_183_91 : mj_ins 183 91 = some (.iastore) := by decide +kernel
set_option maxRecDepth 100000 in
theorem ji_183_92 : mj_ins 183 92 = some (.aload_n 0) := by decide +kernel
set_option maxRecDepth 100000 in
theorem ji_183_93 : mj_ins 183 93 = some (.iload_n 1) := by decide +kernel
set_option maxRecDepth 100000 in
theorem ji_183_94 : mj_ins 183 94 = some (.iload_n 3) := by decide +kernel
set_option maxRecDepth 100000 in
theorem ji_183_95 : mj_ins 183 95 = some (.invokevirtual 247) := by decide +kernel
set_option maxRecDepth 100000 in
theorem jc_183_247 : mj_cal 183 247 = some (2, 192, 2) := by decide +kernel
set_option maxRecDepth 100000 in
theorem jk_192 : mj_cls 192 = 11 := by decide +kernel
set_option maxRecDepth 100000 in
theorem jn_192 : mj_nl 192 = 3 := by decide +kernel
set_option maxRecDepth 100000 in
theorem ji_183_98 : mj_ins 183 98 = some (.istore 4) := by decide +kernel
set_option maxRecDepth 100000 in
theorem ji_183_100 : mj_ins 183 100 = some (.iload 4) := by decide +kernel
set_option maxRecDepth 100000 in
theorem ji_183_102 : mj_ins 183 102 = some (.ifCond .eq 6) := by decide +kernel
set_option maxRecDepth 100000 in
theorem ji_183_108 : mj_ins 183 108 = some (.aload_n 0) := by decide +kernel
set_option maxRecDepth 100000 in
theorem ji_183_109 : mj_ins 183 109 = some (.getfield 16) := by decide +kernel
set_option maxRecDepth 100000 in
theorem ji_183_112 : mj_ins 183 112 = some (.aload_n 0) := by decide +kernel
set_option maxRecDepth 100000 in
theorem ji_183_113 : mj_ins 183 113 = some (.getfield 134) := by decide +kernel
set_option maxRecDepth 100000 in
theorem ji_183_116 : mj_ins 183 116 = some (.dup2) := by decide +kernel
set_option maxRecDepth 100000 in
theorem ji_183_117 : mj_ins 183 117 = some (.iaload) := by decide +kernel
set_option maxRecDepth 100000 in
theorem ji_183_118 : mj_ins 183 118 = some (.iconst 1) := by decide +kernel
set_option maxRecDepth 100000 in
theorem ji_183_119 : mj_ins 183 119 = some (.iadd) := by decide +kernel
set_option maxRecDepth 100000 in
theorem ji_183_120 : mj_ins 183 120 = some (.iastore) := by decide +kernel
set_option maxRecDepth 100000 in
theorem ji_183_121 : mj_ins 183 121 = some (.aload_n 0) := by decide +kernel
set_option maxRecDepth 100000 in
theorem ji_183_122 : mj_ins 183 122 = some (.getfield 95) := by decide +kernel
set_option maxRecDepth 100000 in
theorem jf_183_95 : mj_fld 183 95 = some (11, 9, .int, true) := by decide +kernel
set_option maxRecDepth 100000 in
theorem ji_183_125 : mj_ins 183 125 = some (.bipush 59) := by decide +kernel
set_option maxRecDepth 100000 in
theorem ji_183_127 : mj_ins 183 127 = some (.if_icmp .eq 5) := by decide +kernel
set_option maxRecDepth 100000 in
theorem ji_183_132 : mj_ins 183 132 = some (.aload_n 0) := by decide +kernel
set_option maxRecDepth 100000 in
theorem ji_183_133 : mj_ins 183 133 = some (.invokevirtual 171) := by decide +kernel
set_option maxRecDepth 100000 in
theorem ji_183_136 : mj_ins 183 136 = some (.iconst 0) := by decide +kernel
set_option maxRecDepth 100000 in
theorem ji_183_137 : mj_ins 183 137 = some (.ireturn) := by decide +kernel
set_option maxRecDepth 100000 in
theorem jr_183 : mj_ret 183 = some .int := by decide +kernel
set_option maxRecDepth 100000 in
theorem ji_183_130 : mj_ins 183 130 = some (.iconst 1) := by decide +kernel
set_option maxRecDepth 100000 in
theorem ji_183_131 : mj_ins 183 131 = some (.ireturn) := by decide +kernel
set_option maxRecDepth 100000 in
theorem ji_183_105 : mj_ins 183 105 = some (.iload 4) := by decide +kernel
set_option maxRecDepth 100000 in
theorem ji_183_107 : mj_ins 183 107 = some (.ireturn) := by decide +kernel
set_option maxRecDepth 100000 in
theorem ji_183_53 : mj_ins 183 53 = some (.aload_n 0) := by decide +kernel
set_option maxRecDepth 100000 in
theorem ji_183_54 : mj_ins 183 54 = some (.dup) := by decide +kernel
set_option maxRecDepth 100000 in
theorem ji_183_55 : mj_ins 183 55 = some (.getfield 241) := by decide +kernel
set_option maxRecDepth 100000 in
theorem jf_183_241 : mj_fld 183 241 = some (11, 21, .int, true) := by decide +kernel
set_option maxRecDepth 100000 in
theorem pf_21 : sx_fd sx_y63.2.2 21 = some (0, 0, 7) := by decide +kernel
set_option maxRecDepth 100000 in
theorem ji_183_58 : mj_ins 183 58 = some (.iconst 1) := by decide +kernel
set_option maxRecDepth 100000 in
theorem ji_183_59 : mj_ins 183 59 = some (.iload_n 1) := by decide +kernel
set_option maxRecDepth 100000 in
theorem ji_183_60 : mj_ins 183 60 = some (.ishl) := by decide +kernel
set_option maxRecDepth 100000 in
theorem ji_183_61 : mj_ins 183 61 = some (.ior) := by decide +kernel
set_option maxRecDepth 100000 in
theorem ji_183_62 : mj_ins 183 62 = some (.putfield 241) := by decide +kernel
set_option maxRecDepth 100000 in
theorem ji_183_45 : mj_ins 183 45 = some (.bipush 6) := by decide +kernel
set_option maxRecDepth 100000 in
theorem ji_183_47 : mj_ins 183 47 = some (.ireturn) := by decide +kernel
set_option maxRecDepth 100000 in
theorem ji_183_16 : mj_ins 183 16 = some (.aload_n 0) := by decide +kernel
set_option maxRecDepth 100000 in
theorem ji_183_17 : mj_ins 183 17 = some (.getfield 241) := by decide +kernel
set_option maxRecDepth 100000 in
theorem ji_183_20 : mj_ins 183 20 = some (.iload_n 1) := by decide +kernel
set_option maxRecDepth 100000 in
theorem ji_183_21 : mj_ins 183 21 = some (.invokestatic 244) := by decide +kernel
set_option maxRecDepth 100000 in
theorem jc_183_244 : mj_cal 183 244 = some (1, 191, 2) := by decide +kernel
set_option maxRecDepth 100000 in
theorem ji_183_24 : mj_ins 183 24 = some (.ifCond .eq 5) := by decide +kernel
set_option maxRecDepth 100000 in
theorem ji_183_27 : mj_ins 183 27 = some (.iconst 4) := by decide +kernel
set_option maxRecDepth 100000 in
theorem ji_183_28 : mj_ins 183 28 = some (.ireturn) := by decide +kernel
set_option maxRecDepth 100000 in
theorem ji_183_9 : mj_ins 183 9 = some (.iconst 1) := by decide +kernel
set_option maxRecDepth 100000 in
theorem ji_183_10 : mj_ins 183 10 = some (.ireturn) := by decide +kernel
set_option maxRecDepth 100000 in
theorem ji_177_43 : mj_ins 177 43 = some (.aload_n 0) := by decide +kernel
set_option maxRecDepth 100000 in
theorem ji_177_44 : mj_ins 177 44 = some (.getfield 95) := by decide +kernel
set_option maxRecDepth 100000 in
theorem jf_177_95 : mj_fld 177 95 = some (11, 9, .int, true) := by decide +kernel
set_option maxRecDepth 100000 in
theorem ji_177_47 : mj_ins 177 47 = some (.ifCond .eq 17) := by decide +kernel
set_option maxRecDepth 100000 in
theorem ji_177_64 : mj_ins 177 64 = some (.iconst 0) := by decide +kernel
set_option maxRecDepth 100000 in
theorem ji_177_65 : mj_ins 177 65 = some (.ireturn) := by decide +kernel
set_option maxRecDepth 100000 in
theorem jr_177 : mj_ret 177 = some .int := by decide +kernel
set_option maxRecDepth 100000 in
theorem ji_177_50 : mj_ins 177 50 = some (.aload_n 0) := by decide +kernel
set_option maxRecDepth 100000 in
theorem ji_177_51 : mj_ins 177 51 = some (.invokevirtual 251) := by decide +kernel
set_option maxRecDepth 100000 in
theorem jc_177_251 : mj_cal 177 251 = some (2, 183, 0) := by decide +kernel
set_option maxRecDepth 100000 in
theorem jk_183 : mj_cls 183 = 11 := by decide +kernel
set_option maxRecDepth 100000 in
theorem jn_183 : mj_nl 183 = 5 := by decide +kernel
set_option maxRecDepth 100000 in
theorem ji_177_54 : mj_ins 177 54 = some (.istore_n 1) := by decide +kernel
set_option maxRecDepth 100000 in
theorem ji_177_55 : mj_ins 177 55 = some (.iload_n 1) := by decide +kernel
set_option maxRecDepth 100000 in
theorem ji_177_56 : mj_ins 177 56 = some (.ifCond .eq 5) := by decide +kernel
set_option maxRecDepth 100000 in
theorem ji_177_61 : mj_ins 177 61 = some (.goto (-18)) := by decide +kernel
set_option maxRecDepth 100000 in
theorem ji_177_59 : mj_ins 177 59 = some (.iload_n 1) := by decide +kernel
set_option maxRecDepth 100000 in
theorem ji_177_60 : mj_ins 177 60 = some (.ireturn) := by decide +kernel
set_option maxRecDepth 100000 in
theorem ji_177_0 : mj_ins 177 0 = some (.aload_n 0) := by decide +kernel
set_option maxRecDepth 100000 in
theorem ji_177_1 : mj_ins 177 1 = some (.sipush 705) := by decide +kernel
set_option maxRecDepth 100000 in
theorem ji_177_4 : mj_ins 177 4 = some (.aload_n 0) := by decide +kernel
set_option maxRecDepth 100000 in
theorem ji_177_5 : mj_ins 177 5 = some (.getfield 7) := by decide +kernel
set_option maxRecDepth 100000 in
theorem jf_177_7 : mj_fld 177 7 = some (11, 0, (.array .int), false) := by decide +kernel
set_option maxRecDepth 100000 in
theorem ji_177_8 : mj_ins 177 8 = some (.iconst 2) := by decide +kernel
set_option maxRecDepth 100000 in
theorem ji_177_9 : mj_ins 177 9 = some (.iaload) := by decide +kernel
set_option maxRecDepth 100000 in
theorem ji_177_10 : mj_ins 177 10 = some (.imul) := by decide +kernel
set_option maxRecDepth 100000 in
theorem ji_177_11 : mj_ins 177 11 = some (.putfield 134) := by decide +kernel
set_option maxRecDepth 100000 in
theorem jf_177_134 : mj_fld 177 134 = some (11, 12, .int, true) := by decide +kernel
set_option maxRecDepth 100000 in
theorem ji_177_14 : mj_ins 177 14 = some (.aload_n 0) := by decide +kernel
set_option maxRecDepth 100000 in
theorem ji_177_15 : mj_ins 177 15 = some (.getfield 16) := by decide +kernel
set_option maxRecDepth 100000 in
theorem jf_177_16 : mj_fld 177 16 = some (11, 2, (.array .int), false) := by decide +kernel
set_option maxRecDepth 100000 in
theorem ji_177_18 : mj_ins 177 18 = some (.aload_n 0) := by decide +kernel
set_option maxRecDepth 100000 in
theorem ji_177_19 : mj_ins 177 19 = some (.getfield 134) := by decide +kernel
set_option maxRecDepth 100000 in
theorem ji_177_22 : mj_ins 177 22 = some (.iconst 0) := by decide +kernel
set_option maxRecDepth 100000 in
theorem ji_177_23 : mj_ins 177 23 = some (.iastore) := by decide +kernel
set_option maxRecDepth 100000 in
theorem ji_177_24 : mj_ins 177 24 = some (.aload_n 0) := by decide +kernel
set_option maxRecDepth 100000 in
theorem ji_177_25 : mj_ins 177 25 = some (.iconst 0) := by decide +kernel
set_option maxRecDepth 100000 in
theorem ji_177_26 : mj_ins 177 26 = some (.putfield 137) := by decide +kernel
set_option maxRecDepth 100000 in
theorem jf_177_137 : mj_fld 177 137 = some (11, 13, .int, true) := by decide +kernel
set_option maxRecDepth 100000 in
theorem ji_177_29 : mj_ins 177 29 = some (.aload_n 0) := by decide +kernel
set_option maxRecDepth 100000 in
theorem ji_177_30 : mj_ins 177 30 = some (.iconst 0) := by decide +kernel
set_option maxRecDepth 100000 in
theorem ji_177_31 : mj_ins 177 31 = some (.putfield 241) := by decide +kernel
set_option maxRecDepth 100000 in
theorem jf_177_241 : mj_fld 177 241 = some (11, 21, .int, true) := by decide +kernel
set_option maxRecDepth 100000 in
theorem ji_177_34 : mj_ins 177 34 = some (.aload_n 0) := by decide +kernel
set_option maxRecDepth 100000 in
theorem ji_177_35 : mj_ins 177 35 = some (.iconst 0) := by decide +kernel
set_option maxRecDepth 100000 in
theorem ji_177_36 : mj_ins 177 36 = some (.putfield 85) := by decide +kernel
set_option maxRecDepth 100000 in
theorem jf_177_85 : mj_fld 177 85 = some (11, 7, .int, true) := by decide +kernel
set_option maxRecDepth 100000 in
theorem ji_177_39 : mj_ins 177 39 = some (.aload_n 0) := by decide +kernel
set_option maxRecDepth 100000 in
theorem ji_177_40 : mj_ins 177 40 = some (.invokevirtual 171) := by decide +kernel
set_option maxRecDepth 100000 in
theorem jc_177_171 : mj_cal 177 171 = some (2, 178, 0) := by decide +kernel
/-! the reference's reader as a whole; laid by program (wp_cls.py) -/
def rq (φ : Nat → Int) (ts : List Value) (s : Nat) : Prop := ∃ w : Nat, φ 12 = ((705 * s : Nat) : Int) ∧ s < 4 ∧ φ 13 = (w : Int) ∧ jw ts s w ∧ φ 13 ≤ φ 7 ∧ (¬ φ 9 = 0 → φ 13 + 1 ≤ φ 7)
theorem pv_tb {h0 h : mj_H} {a P T : Nat} {φ : Nat → Int} {pl ts : List Value} (V : pv h0 h a P T φ pl ts) {j : Nat} {lo hi : Int} (hj : j < 2820) (hd : sx_p20[j % 705]? = some (0, lo, hi)) : lo ≤ sx_el ts j ∧ sx_el ts j ≤ hi := by
  obtain ⟨hH, -, -, -, -, tT, fs, -, -, -, -, -, g6⟩ := V
  obtain ⟨e1, z, e2, e3, e4⟩ := sx_txt hH tT g6 (J := Int32.ofInt (j : Int)) (j := j) (wp_ti (by omega)) hj
  rw [← e3]
  exact e4 lo hi hd
theorem jw_0 {ts : List Value} {s : Nat} (hj : sx_JT ts) (hs : s < 4) (hl : ts.length = 2820) : jw (ts.set (705 * s) (wp_i 0)) s 0 := by
  have ne : ∀ j, j ≠ 705 * s → sx_el (ts.set (705 * s) (wp_i 0)) j = sx_el ts j := fun j hj => by rw [pv_el_set (by omega) (by omega), if_neg hj]
  have eq : sx_el (ts.set (705 * s) (wp_i 0)) (705 * s) = 0 := by rw [pv_el_set (by omega) (by omega), if_pos rfl]
  refine ⟨fun r k hr hk hn hl2 => ?_, fun k hk hn hl2 => ?_⟩
  · by_cases e : r = s
    · subst e
      rw [eq] at hn
      omega
    · rw [ne _ (by omega)] at hn hl2
      obtain ⟨p, q, a1, a2, a3, a4⟩ := hj r k hr hk hn hl2
      refine ⟨p, q, by rw [ne _ (by omega)]; exact a1, by rw [ne _ (by omega)]; exact a2, a3, ?_⟩
      rw [sx_wf_fr (vs := ts) (fun i i1 i2 => ⟨ne _ (by omega), ne _ (by omega)⟩)]
      exact a4
  · rw [eq] at hn
    omega
theorem ws_sort {d : Nat} {h0 h : mj_H} {a P T : Nat} {φ : Nat → Int} {pl ts : List Value} (IH : sx_IH sx_PP (d + 1)) (hd : 5 ≤ d) (V : pv h0 h a P T φ pl ts) : wp_R d 184 0 [some (.ref a)] [] h (fun v h1 => pv h0 h1 a P T φ pl ts ∧ ∃ y : Int, v = some (wp_i y) ∧ -1 ≤ y ∧ y ≤ 9) := by
  refine wp_mono (pv_K0 V (IH d (Nat.lt_succ_self d) 184 sx_K184 rfl) (vs := [.ref a]) ⟨⟨a, rfl, V.2.2.2.1⟩, trivial⟩ (show (5 : Int) + 0 ≤ d by omega) (by rw [jn_184]; rfl) rfl) ?_
  rintro v h1 ⟨⟨w, rfl, z, rfl, z1, z2⟩, V1⟩
  exact ⟨V1, z.toInt, by rw [wp_iz], z1, z2⟩
theorem ws_hasb {d : Nat} {h0 h : mj_H} {a P T : Nat} {φ : Nat → Int} {pl ts : List Value} (IH : sx_IH sx_PP (d + 1)) (V : pv h0 h a P T φ pl ts) {x y : Int} (hx : 0 ≤ x ∧ x ≤ 7) (hy : 0 ≤ y ∧ y ≤ 2) : wp_R d 191 0 [some (wp_i x), some (wp_i y)] [] h (fun v h1 => pv h0 h1 a P T φ pl ts ∧ ∃ y : Int, v = some (wp_i y) ∧ (y = 0 ∨ y = 1)) := by
  refine wp_mono (pv_K0 V (IH d (Nat.lt_succ_self d) 191 sx_K191 rfl) (vs := [wp_i x, wp_i y]) ⟨⟨_, rfl, by rw [wp_ti (by omega)]; omega, by rw [wp_ti (by omega)]; omega⟩, ⟨_, rfl, by rw [wp_ti (by omega)]; omega, by rw [wp_ti (by omega)]; omega⟩, trivial⟩ (show (0 : Int) + 0 ≤ d by omega) (by rw [jn_191]; rfl) rfl) ?_
  rintro v h1 ⟨⟨w, rfl, z, rfl, z1, z2⟩, V1⟩
  have z1 : (0 : Int) ≤ z.toInt := z1
  have z2 : z.toInt ≤ 1 := z2
  exact ⟨V1, z.toInt, by rw [wp_iz], by omega⟩
theorem ws_clause {d : Nat} {h0 h : mj_H} {a P T : Nat} {φ : Nat → Int} {pl ts : List Value} {s : Nat} (IH : sx_IH sx_PP (d + 1 + 1 + 1 + 1)) (IH8 : sx_IH sx_PP (d + 1 + 1 + 1 + 1 + 1 + 1 + 1 + 1)) (hd : 2 ≤ d) (V : pv h0 h a P T φ pl ts) (hrq : rq φ ts s) : wp_R (d + 1 + 1 + 1 + 1 + 1 + 1 + 1 + 1) 183 0 [some (.ref a), none, none, none, none] [] h (fun v h1 => ∃ y : Int, v = some (wp_i y) ∧ 0 ≤ y ∧ y ≤ 7 ∧ ∃ φ' pl' ts', pv h0 h1 a P T φ' pl' ts' ∧ rq φ' ts' s ∧ φ' 4 = φ 4 ∧ (y = 0 → adv φ φ')) := by
  obtain ⟨w, h12, hs, hw, hj, hbA, hbB⟩ := hrq
  have htl := (pv_aP V).2.2.2.2.1
  have hn24 := pv_tb V (j := 705 * s) (by omega) hd_0
  obtain ⟨k, hkk⟩ : ∃ k : Nat, sx_el ts (705 * s) = (k : Int) := ⟨(sx_el ts (705 * s)).toNat, by omega⟩
  have b7 := pv_b V (k := 7) (lo := 0) (hi := 300) (by decide) (by decide)
  have b13 := pv_b V (k := 13) (lo := 0) (hi := 303) (by decide) (by decide)
  have b16 := pv_b V (k := 16) (lo := 0) (hi := 160) (by decide) (by decide)
  have b17 := pv_b V (k := 17) (lo := 0) (hi := 8) (by decide) (by decide)
  have b18 := pv_b V (k := 18) (lo := 0) (hi := 6) (by decide) (by decide)
  refine wp_s (pc' := 1) ji_183_0 rfl rfl rfl ?_
  refine pv_vc V ji_183_1 jc_183_238 jk_184 (rest := []) rfl (Nat.le_of_ble_eq_true rfl) rfl (by rw [jn_184]; rfl) (ws_sort (fun d1 hd1 => IH8 d1 (by omega)) (by omega) V) (fun v h R => ?_)
  obtain ⟨V, so, rfl, so1, so2⟩ := R
  show wp_R (d + 1 + 1 + 1 + 1 + 1 + 1 + 1 + 1) 183 4 [some (.ref a), none, none, none, none] [wp_i so] h _
  refine wp_s (pc' := 5) (lv' := [some (.ref a), some (wp_i so), none, none, none]) ji_183_4 rfl rfl rfl ?_
  refine wp_s (pc' := 6) ji_183_5 rfl rfl rfl ?_
  refine wp_if (t := 11) ji_183_6 rfl (by omega) (fun (hb1 : (0 : Int) ≤ so) => ?_) (fun (hb1 : ¬ ((0 : Int) ≤ so)) => ?_)
  · refine wp_s (pc' := 12) ji_183_11 rfl rfl rfl ?_
    refine wp_s (pc' := 13) ji_183_12 rfl rfl rfl ?_
    refine wp_icmp (t := 29) ji_183_13 rfl (by omega) (by omega) (fun (hb2 : (2 : Int) < so) => ?_) (fun (hb2 : ¬ ((2 : Int) < so)) => ?_)
    · refine wp_s (pc' := 30) ji_183_29 rfl rfl rfl ?_
      refine pv_gt V ji_183_30 jf_183_16 ?_
      refine wp_s (pc' := 34) ji_183_33 rfl rfl rfl ?_
      refine pv_gi V ji_183_34 jf_183_134 (by decide) pf_12 (y := ((705 * s : Nat) : Int)) (by omega) (fun l3 u4 => ?_)
      refine pv_lt V (x := ((705 * s : Nat) : Int)) (y := (k : Int)) ji_183_37 (by omega) (by omega) hkk (fun l5 => ?_)
      refine wp_s (pc' := 39) (lv' := [some (.ref a), some (wp_i so), some (wp_i ((k : Int))), none, none]) ji_183_38 rfl rfl rfl ?_
      refine wp_s (pc' := 40) ji_183_39 rfl rfl rfl ?_
      refine wp_bp ji_183_40 rfl ?_
      refine wp_icmp (t := 48) ji_183_42 rfl (by omega) (by omega) (fun (hb7 : ¬ ((k : Int) : Int) = 24) => ?_) (fun (hb7 : ¬ (¬ ((k : Int) : Int) = 24)) => ?_)
      · have hk : k < 24 := by omega
        refine wp_s (pc' := 49) ji_183_48 rfl rfl rfl ?_
        refine wp_s (pc' := 50) ji_183_49 rfl rfl rfl ?_
        refine wp_icmp (t := 65) ji_183_50 rfl (by omega) (by omega) (fun (hb8 : (2 : Int) < so) => ?_) (fun (hb8 : ¬ ((2 : Int) < so)) => ?_)
        · refine wp_s (pc' := 66) ji_183_65 rfl rfl rfl ?_
          refine wp_s (pc' := 67) ji_183_66 rfl rfl rfl ?_
          refine pv_pi V ji_183_67 jf_183_144 (by decide) pf_14 (by decide) (by decide) (by decide) (by omega) (by omega) (by omega) rfl rfl (fun h V => ?_)
          refine wp_s (pc' := 71) ji_183_70 rfl rfl rfl ?_
          refine pv_vc V ji_183_71 jc_183_171 jk_178 (rest := []) rfl (Nat.le_of_ble_eq_true rfl) rfl (by rw [jn_178]; rfl) (ws_next (by omega) V) (fun v h R => ?_)
          obtain ⟨rfl, φ9, V, hf9, ha9, hb9⟩ := R
          have e9_4 : φ9 4 = φ 4 := hf9 4 (by decide) (by decide) (by decide) (by decide)
          have e9_12 : φ9 12 = φ 12 := hf9 12 (by decide) (by decide) (by decide) (by decide)
          have e9_13 : φ9 13 = φ 13 := hf9 13 (by decide) (by decide) (by decide) (by decide)
          have e9_14 : φ9 14 = so := hf9 14 (by decide) (by decide) (by decide) (by decide)
          have e9_16 : φ9 16 = φ 16 := hf9 16 (by decide) (by decide) (by decide) (by decide)
          have e9_17 : φ9 17 = φ 17 := hf9 17 (by decide) (by decide) (by decide) (by decide)
          have e9_18 : φ9 18 = φ 18 := hf9 18 (by decide) (by decide) (by decide) (by decide)
          have e9_19 : φ9 19 = φ 19 := hf9 19 (by decide) (by decide) (by decide) (by decide)
          have e9_20 : φ9 20 = φ 20 := hf9 20 (by decide) (by decide) (by decide) (by decide)
          have e9_21 : φ9 21 = φ 21 := hf9 21 (by decide) (by decide) (by decide) (by decide)
          have a9 : φ 7 ≤ φ9 7 := ha9
          have b9 : ¬ φ9 9 = 0 → φ 7 + 1 ≤ φ9 7 := hb9
          show wp_R (d + 1 + 1 + 1 + 1 + 1 + 1 + 1 + 1) 183 74 [some (.ref a), some (wp_i so), some (wp_i ((k : Int))), none, none] [] h _
          refine wp_s (pc' := 75) ji_183_74 rfl rfl rfl ?_
          refine pv_gi V ji_183_75 jf_183_134 (by decide) pf_12 (y := ((705 * s : Nat) : Int)) (by omega) (fun l10 u11 => ?_)
          refine wp_s (pc' := 79) ji_183_78 rfl rfl rfl ?_
          refine wp_iadd (x := ((705 * s : Nat) : Int)) (y := 1) (z := ((705 * s : Nat) : Int) + 1) ji_183_79 (by omega) ?_
          refine wp_s (pc' := 81) ji_183_80 rfl rfl rfl ?_
          refine wp_s (pc' := 82) ji_183_81 rfl rfl rfl ?_
          refine wp_imul (x := 4) (y := (k : Int)) (z := 4 * ((k : Int))) ji_183_82 (by omega) ?_
          refine wp_iadd (x := ((705 * s : Nat) : Int) + 1) (y := 4 * ((k : Int))) (z := ((705 * s + 1 + 4 * k : Nat) : Int)) ji_183_83 (by omega) ?_
          refine wp_s (pc' := 85) (lv' := [some (.ref a), some (wp_i so), some (wp_i ((k : Int))), some (wp_i (((705 * s + 1 + 4 * k : Nat) : Int))), none]) ji_183_84 rfl rfl rfl ?_
          refine wp_s (pc' := 86) ji_183_85 rfl rfl rfl ?_
          refine pv_gt V ji_183_86 jf_183_16 ?_
          refine wp_s (pc' := 90) ji_183_89 rfl rfl rfl ?_
          refine wp_s (pc' := 91) ji_183_90 rfl rfl rfl ?_
          refine pv_st V (x := ((705 * s + 1 + 4 * k : Nat) : Int)) (y := so) ji_183_91 (by omega) (by omega) (hd_p hk).1 (by omega) (by omega) (by omega) (jw_hdr (i := 0) hj hs hk (by omega) (by omega) htl (by omega)).1 (fun h V => ?_)
          have V : pv h0 h a P T _ _ (ts.set (705 * s + 1 + 4 * k) (wp_i so)) := V
          refine wp_s (pc' := 93) ji_183_92 rfl rfl rfl ?_
          refine wp_s (pc' := 94) ji_183_93 rfl rfl rfl ?_
          refine wp_s (pc' := 95) ji_183_94 rfl rfl rfl ?_
          have hel1 : ∀ j, sx_el (ts.set (705 * s + 1 + 4 * k) (wp_i so)) j = if j = 705 * s + 1 + 4 * k then so else sx_el ts j := fun j => pv_el_set (by omega) (by omega)
          have hj1 : jw (ts.set (705 * s + 1 + 4 * k) (wp_i so)) s w := jw_hdr (i := 0) hj hs hk (by omega) (by omega) htl (by omega)
          have hcq : cq (ts.set (705 * s + 1 + 4 * k) (wp_i so)) φ9 (ts.set (705 * s + 1 + 4 * k) (wp_i so)) s (705 * s + 1 + 4 * k) := ⟨w, by omega, hs, by omega, hj1, by omega, fun q => by have := b9 q; omega, fun _ _ _ _ => rfl⟩
          refine pv_vc V ji_183_95 jc_183_247 jk_192 (rest := []) rfl (Nat.le_of_ble_eq_true rfl) rfl (by rw [jn_192]; rfl) (ws_body (d := d) (sort := so) (x := 705 * s + 1 + 4 * k) IH hd (by omega) V hcq rfl hk (by rw [hel1, if_neg (by omega)]; omega)) (fun v h R => ?_)
          obtain ⟨y, rfl, y0, y7, φ9, pl9, ts9, V, hcq9, ⟨k4, k12, k14, k21, k7⟩, hlaw⟩ := R
          obtain ⟨w9, q12, -, qw, hj9, qb1, qb2, hfr9⟩ := hcq9
          have htl9 := (pv_aP V).2.2.2.2.1
          have b139 := pv_b V (k := 13) (lo := 0) (hi := 303) (by decide) (by decide)
          have hk9 : sx_el ts9 (705 * s) = (k : Int) := by rw [hfr9 _ (by omega) (by omega) (by omega), hel1, if_neg (by omega)]; exact hkk
          have hs9 : sx_el ts9 (705 * s + 1 + 4 * k) = so := by rw [hfr9 _ (by omega) (by omega) (by omega), hel1, if_pos rfl]
          show wp_R (d + 1 + 1 + 1 + 1 + 1 + 1 + 1 + 1) 183 98 [some (.ref a), some (wp_i so), some (wp_i ((k : Int))), some (wp_i (((705 * s + 1 + 4 * k : Nat) : Int))), none] [wp_i y] h _
          refine wp_s (pc' := 100) (lv' := [some (.ref a), some (wp_i so), some (wp_i ((k : Int))), some (wp_i (((705 * s + 1 + 4 * k : Nat) : Int))), some (wp_i y)]) ji_183_98 rfl rfl rfl ?_
          refine wp_s (pc' := 102) ji_183_100 rfl rfl rfl ?_
          refine wp_if (t := 108) ji_183_102 rfl (by omega) (fun (hb12 : (y : Int) = 0) => ?_) (fun (hb12 : ¬ ((y : Int) = 0)) => ?_)
          · refine wp_s (pc' := 109) ji_183_108 rfl rfl rfl ?_
            refine pv_gt V ji_183_109 jf_183_16 ?_
            refine wp_s (pc' := 113) ji_183_112 rfl rfl rfl ?_
            refine pv_gi V ji_183_113 jf_183_134 (by decide) pf_12 (y := ((705 * s : Nat) : Int)) (by omega) (fun l13 u14 => ?_)
            refine wp_s (pc' := 117) ji_183_116 rfl rfl rfl ?_
            refine pv_lt V (x := ((705 * s : Nat) : Int)) (y := (k : Int)) ji_183_117 (by omega) (by omega) hk9 (fun l15 => ?_)
            refine wp_s (pc' := 119) ji_183_118 rfl rfl rfl ?_
            refine wp_iadd (x := (k : Int)) (y := 1) (z := (k : Int) + 1) ji_183_119 (by omega) ?_
            refine pv_st V (x := ((705 * s : Nat) : Int)) (y := (k : Int) + 1) ji_183_120 (by omega) (by omega) hd_0 (by omega) (by omega) (by omega) (jw_cnt (sort := so) hj9 hs hk hk9 htl9 (by omega) hs9 (fun q => by obtain ⟨c0, w2, q2, l1, l2, l3, l4, l5⟩ := hlaw (by omega) q; exact ⟨c0, w2, q2, l1, l2, l3, by omega, l5⟩)).1 (fun h V => ?_)
            have V : pv h0 h a P T _ _ (ts9.set (705 * s) (wp_i ((k : Int) + 1))) := V
            refine wp_s (pc' := 122) ji_183_121 rfl rfl rfl ?_
            refine pv_gi V ji_183_122 jf_183_95 (by decide) pf_9 (y := φ9 9) rfl (fun l17 u18 => ?_)
            refine wp_bp ji_183_125 rfl ?_
            refine wp_icmp (t := 132) ji_183_127 rfl (by omega) (by omega) (fun (hb19 : (φ9 9 : Int) = 59) => ?_) (fun (hb19 : ¬ ((φ9 9 : Int) = 59)) => ?_)
            · refine wp_s (pc' := 133) ji_183_132 rfl rfl rfl ?_
              refine pv_vc V ji_183_133 jc_183_171 jk_178 (rest := []) rfl (Nat.le_of_ble_eq_true rfl) rfl (by rw [jn_178]; rfl) (ws_next (by omega) V) (fun v h R => ?_)
              obtain ⟨rfl, φ20, V, hf20, ha20, hb20⟩ := R
              have e20_4 : φ20 4 = φ9 4 := hf20 4 (by decide) (by decide) (by decide) (by decide)
              have e20_12 : φ20 12 = φ9 12 := hf20 12 (by decide) (by decide) (by decide) (by decide)
              have e20_13 : φ20 13 = φ9 13 := hf20 13 (by decide) (by decide) (by decide) (by decide)
              have e20_14 : φ20 14 = φ9 14 := hf20 14 (by decide) (by decide) (by decide) (by decide)
              have e20_16 : φ20 16 = φ9 16 := hf20 16 (by decide) (by decide) (by decide) (by decide)
              have e20_17 : φ20 17 = φ9 17 := hf20 17 (by decide) (by decide) (by decide) (by decide)
              have e20_18 : φ20 18 = φ9 18 := hf20 18 (by decide) (by decide) (by decide) (by decide)
              have e20_19 : φ20 19 = φ9 19 := hf20 19 (by decide) (by decide) (by decide) (by decide)
              have e20_20 : φ20 20 = φ9 20 := hf20 20 (by decide) (by decide) (by decide) (by decide)
              have e20_21 : φ20 21 = φ9 21 := hf20 21 (by decide) (by decide) (by decide) (by decide)
              have a20 : φ9 7 ≤ φ20 7 := ha20
              have b20 : ¬ φ20 9 = 0 → φ9 7 + 1 ≤ φ20 7 := hb20
              show wp_R (d + 1 + 1 + 1 + 1 + 1 + 1 + 1 + 1) 183 136 [some (.ref a), some (wp_i so), some (wp_i ((k : Int))), some (wp_i (((705 * s + 1 + 4 * k : Nat) : Int))), some (wp_i y)] [] h _
              refine wp_s (pc' := 137) ji_183_136 rfl rfl rfl ?_
              exact wp_ri ji_183_137 jr_183 rfl ⟨0, rfl, by omega, by omega, φ20, pl9, _, V, ⟨w9, by omega, hs, by omega, (jw_cnt (sort := so) hj9 hs hk hk9 htl9 (by omega) hs9 (fun q => by obtain ⟨c0, w2, q2, l1, l2, l3, l4, l5⟩ := hlaw (by omega) q; exact ⟨c0, w2, q2, l1, l2, l3, by omega, l5⟩)), by omega, fun q => by have := b20 q; omega⟩, by omega, fun _ => ⟨by omega, fun q => by have := b20 q; omega⟩⟩
            · refine wp_s (pc' := 131) ji_183_130 rfl rfl rfl ?_
              exact wp_ri ji_183_131 jr_183 rfl ⟨1, rfl, by omega, by omega, φ9, pl9, _, V, ⟨w9, q12, hs, qw, (jw_cnt (sort := so) hj9 hs hk hk9 htl9 (by omega) hs9 (fun q => by obtain ⟨c0, w2, q2, l1, l2, l3, l4, l5⟩ := hlaw (by omega) q; exact ⟨c0, w2, q2, l1, l2, l3, by omega, l5⟩)), qb1, qb2⟩, by omega, fun q => by omega⟩
          · refine wp_s (pc' := 107) ji_183_105 rfl rfl rfl ?_
            exact wp_ri ji_183_107 jr_183 rfl ⟨y, rfl, y0, y7, φ9, pl9, ts9, V, ⟨w9, q12, hs, qw, hj9, qb1, qb2⟩, by omega, fun q => by omega⟩
        · refine wp_s (pc' := 54) ji_183_53 rfl rfl rfl ?_
          refine wp_s (pc' := 55) ji_183_54 rfl rfl rfl ?_
          refine pv_gi V ji_183_55 jf_183_241 (by decide) pf_21 (y := φ 21) rfl (fun l21 u22 => ?_)
          refine wp_s (pc' := 59) ji_183_58 rfl rfl rfl ?_
          refine wp_s (pc' := 60) ji_183_59 rfl rfl rfl ?_
          refine wp_s (pc' := 61) ji_183_60 rfl rfl rfl ?_
          refine wp_s (pc' := 62) ji_183_61 rfl rfl rfl ?_
          show wp_R (d + 1 + 1 + 1 + 1 + 1 + 1 + 1 + 1) 183 62 [some (.ref a), some (wp_i so), some (wp_i ((k : Int))), none, none] [.int (Int32.ofInt (φ 21) ||| (Int32.ofInt 1 <<< (Int32.ofInt so &&& 31))), .ref a] h _
          obtain ⟨rr, hr1, hr2⟩ := or_sh (o := φ 21) (s := so) (by omega) (by omega)
          rw [hr2]
          refine pv_pi V ji_183_62 jf_183_241 (by decide) pf_21 (by decide) (by decide) (by decide) (by omega) (by omega) (by omega) rfl rfl (fun h V => ?_)
          refine wp_s (pc' := 66) ji_183_65 rfl rfl rfl ?_
          refine wp_s (pc' := 67) ji_183_66 rfl rfl rfl ?_
          refine pv_pi V ji_183_67 jf_183_144 (by decide) pf_14 (by decide) (by decide) (by decide) (by omega) (by omega) (by omega) rfl rfl (fun h V => ?_)
          refine wp_s (pc' := 71) ji_183_70 rfl rfl rfl ?_
          refine pv_vc V ji_183_71 jc_183_171 jk_178 (rest := []) rfl (Nat.le_of_ble_eq_true rfl) rfl (by rw [jn_178]; rfl) (ws_next (by omega) V) (fun v h R => ?_)
          obtain ⟨rfl, φ23, V, hf23, ha23, hb23⟩ := R
          have e23_4 : φ23 4 = φ 4 := hf23 4 (by decide) (by decide) (by decide) (by decide)
          have e23_12 : φ23 12 = φ 12 := hf23 12 (by decide) (by decide) (by decide) (by decide)
          have e23_13 : φ23 13 = φ 13 := hf23 13 (by decide) (by decide) (by decide) (by decide)
          have e23_14 : φ23 14 = so := hf23 14 (by decide) (by decide) (by decide) (by decide)
          have e23_16 : φ23 16 = φ 16 := hf23 16 (by decide) (by decide) (by decide) (by decide)
          have e23_17 : φ23 17 = φ 17 := hf23 17 (by decide) (by decide) (by decide) (by decide)
          have e23_18 : φ23 18 = φ 18 := hf23 18 (by decide) (by decide) (by decide) (by decide)
          have e23_19 : φ23 19 = φ 19 := hf23 19 (by decide) (by decide) (by decide) (by decide)
          have e23_20 : φ23 20 = φ 20 := hf23 20 (by decide) (by decide) (by decide) (by decide)
          have e23_21 : φ23 21 = rr := hf23 21 (by decide) (by decide) (by decide) (by decide)
          have a23 : φ 7 ≤ φ23 7 := ha23
          have b23 : ¬ φ23 9 = 0 → φ 7 + 1 ≤ φ23 7 := hb23
          show wp_R (d + 1 + 1 + 1 + 1 + 1 + 1 + 1 + 1) 183 74 [some (.ref a), some (wp_i so), some (wp_i ((k : Int))), none, none] [] h _
          refine wp_s (pc' := 75) ji_183_74 rfl rfl rfl ?_
          refine pv_gi V ji_183_75 jf_183_134 (by decide) pf_12 (y := ((705 * s : Nat) : Int)) (by omega) (fun l24 u25 => ?_)
          refine wp_s (pc' := 79) ji_183_78 rfl rfl rfl ?_
          refine wp_iadd (x := ((705 * s : Nat) : Int)) (y := 1) (z := ((705 * s : Nat) : Int) + 1) ji_183_79 (by omega) ?_
          refine wp_s (pc' := 81) ji_183_80 rfl rfl rfl ?_
          refine wp_s (pc' := 82) ji_183_81 rfl rfl rfl ?_
          refine wp_imul (x := 4) (y := (k : Int)) (z := 4 * ((k : Int))) ji_183_82 (by omega) ?_
          refine wp_iadd (x := ((705 * s : Nat) : Int) + 1) (y := 4 * ((k : Int))) (z := ((705 * s + 1 + 4 * k : Nat) : Int)) ji_183_83 (by omega) ?_
          refine wp_s (pc' := 85) (lv' := [some (.ref a), some (wp_i so), some (wp_i ((k : Int))), some (wp_i (((705 * s + 1 + 4 * k : Nat) : Int))), none]) ji_183_84 rfl rfl rfl ?_
          refine wp_s (pc' := 86) ji_183_85 rfl rfl rfl ?_
          refine pv_gt V ji_183_86 jf_183_16 ?_
          refine wp_s (pc' := 90) ji_183_89 rfl rfl rfl ?_
          refine wp_s (pc' := 91) ji_183_90 rfl rfl rfl ?_
          refine pv_st V (x := ((705 * s + 1 + 4 * k : Nat) : Int)) (y := so) ji_183_91 (by omega) (by omega) (hd_p hk).1 (by omega) (by omega) (by omega) (jw_hdr (i := 0) hj hs hk (by omega) (by omega) htl (by omega)).1 (fun h V => ?_)
          have V : pv h0 h a P T _ _ (ts.set (705 * s + 1 + 4 * k) (wp_i so)) := V
          refine wp_s (pc' := 93) ji_183_92 rfl rfl rfl ?_
          refine wp_s (pc' := 94) ji_183_93 rfl rfl rfl ?_
          refine wp_s (pc' := 95) ji_183_94 rfl rfl rfl ?_
          have hel1 : ∀ j, sx_el (ts.set (705 * s + 1 + 4 * k) (wp_i so)) j = if j = 705 * s + 1 + 4 * k then so else sx_el ts j := fun j => pv_el_set (by omega) (by omega)
          have hj1 : jw (ts.set (705 * s + 1 + 4 * k) (wp_i so)) s w := jw_hdr (i := 0) hj hs hk (by omega) (by omega) htl (by omega)
          have hcq : cq (ts.set (705 * s + 1 + 4 * k) (wp_i so)) φ23 (ts.set (705 * s + 1 + 4 * k) (wp_i so)) s (705 * s + 1 + 4 * k) := ⟨w, by omega, hs, by omega, hj1, by omega, fun q => by have := b23 q; omega, fun _ _ _ _ => rfl⟩
          refine pv_vc V ji_183_95 jc_183_247 jk_192 (rest := []) rfl (Nat.le_of_ble_eq_true rfl) rfl (by rw [jn_192]; rfl) (ws_body (d := d) (sort := so) (x := 705 * s + 1 + 4 * k) IH hd (by omega) V hcq rfl hk (by rw [hel1, if_neg (by omega)]; omega)) (fun v h R => ?_)
          obtain ⟨y, rfl, y0, y7, φ9, pl9, ts9, V, hcq9, ⟨k4, k12, k14, k21, k7⟩, hlaw⟩ := R
          obtain ⟨w9, q12, -, qw, hj9, qb1, qb2, hfr9⟩ := hcq9
          have htl9 := (pv_aP V).2.2.2.2.1
          have b139 := pv_b V (k := 13) (lo := 0) (hi := 303) (by decide) (by decide)
          have hk9 : sx_el ts9 (705 * s) = (k : Int) := by rw [hfr9 _ (by omega) (by omega) (by omega), hel1, if_neg (by omega)]; exact hkk
          have hs9 : sx_el ts9 (705 * s + 1 + 4 * k) = so := by rw [hfr9 _ (by omega) (by omega) (by omega), hel1, if_pos rfl]
          show wp_R (d + 1 + 1 + 1 + 1 + 1 + 1 + 1 + 1) 183 98 [some (.ref a), some (wp_i so), some (wp_i ((k : Int))), some (wp_i (((705 * s + 1 + 4 * k : Nat) : Int))), none] [wp_i y] h _
          refine wp_s (pc' := 100) (lv' := [some (.ref a), some (wp_i so), some (wp_i ((k : Int))), some (wp_i (((705 * s + 1 + 4 * k : Nat) : Int))), some (wp_i y)]) ji_183_98 rfl rfl rfl ?_
          refine wp_s (pc' := 102) ji_183_100 rfl rfl rfl ?_
          refine wp_if (t := 108) ji_183_102 rfl (by omega) (fun (hb26 : (y : Int) = 0) => ?_) (fun (hb26 : ¬ ((y : Int) = 0)) => ?_)
          · refine wp_s (pc' := 109) ji_183_108 rfl rfl rfl ?_
            refine pv_gt V ji_183_109 jf_183_16 ?_
            refine wp_s (pc' := 113) ji_183_112 rfl rfl rfl ?_
            refine pv_gi V ji_183_113 jf_183_134 (by decide) pf_12 (y := ((705 * s : Nat) : Int)) (by omega) (fun l27 u28 => ?_)
            refine wp_s (pc' := 117) ji_183_116 rfl rfl rfl ?_
            refine pv_lt V (x := ((705 * s : Nat) : Int)) (y := (k : Int)) ji_183_117 (by omega) (by omega) hk9 (fun l29 => ?_)
            refine wp_s (pc' := 119) ji_183_118 rfl rfl rfl ?_
            refine wp_iadd (x := (k : Int)) (y := 1) (z := (k : Int) + 1) ji_183_119 (by omega) ?_
            refine pv_st V (x := ((705 * s : Nat) : Int)) (y := (k : Int) + 1) ji_183_120 (by omega) (by omega) hd_0 (by omega) (by omega) (by omega) (jw_cnt (sort := so) hj9 hs hk hk9 htl9 (by omega) hs9 (fun q => by obtain ⟨c0, w2, q2, l1, l2, l3, l4, l5⟩ := hlaw (by omega) q; exact ⟨c0, w2, q2, l1, l2, l3, by omega, l5⟩)).1 (fun h V => ?_)
            have V : pv h0 h a P T _ _ (ts9.set (705 * s) (wp_i ((k : Int) + 1))) := V
            refine wp_s (pc' := 122) ji_183_121 rfl rfl rfl ?_
            refine pv_gi V ji_183_122 jf_183_95 (by decide) pf_9 (y := φ9 9) rfl (fun l31 u32 => ?_)
            refine wp_bp ji_183_125 rfl ?_
            refine wp_icmp (t := 132) ji_183_127 rfl (by omega) (by omega) (fun (hb33 : (φ9 9 : Int) = 59) => ?_) (fun (hb33 : ¬ ((φ9 9 : Int) = 59)) => ?_)
            · refine wp_s (pc' := 133) ji_183_132 rfl rfl rfl ?_
              refine pv_vc V ji_183_133 jc_183_171 jk_178 (rest := []) rfl (Nat.le_of_ble_eq_true rfl) rfl (by rw [jn_178]; rfl) (ws_next (by omega) V) (fun v h R => ?_)
              obtain ⟨rfl, φ34, V, hf34, ha34, hb34⟩ := R
              have e34_4 : φ34 4 = φ9 4 := hf34 4 (by decide) (by decide) (by decide) (by decide)
              have e34_12 : φ34 12 = φ9 12 := hf34 12 (by decide) (by decide) (by decide) (by decide)
              have e34_13 : φ34 13 = φ9 13 := hf34 13 (by decide) (by decide) (by decide) (by decide)
              have e34_14 : φ34 14 = φ9 14 := hf34 14 (by decide) (by decide) (by decide) (by decide)
              have e34_16 : φ34 16 = φ9 16 := hf34 16 (by decide) (by decide) (by decide) (by decide)
              have e34_17 : φ34 17 = φ9 17 := hf34 17 (by decide) (by decide) (by decide) (by decide)
              have e34_18 : φ34 18 = φ9 18 := hf34 18 (by decide) (by decide) (by decide) (by decide)
              have e34_19 : φ34 19 = φ9 19 := hf34 19 (by decide) (by decide) (by decide) (by decide)
              have e34_20 : φ34 20 = φ9 20 := hf34 20 (by decide) (by decide) (by decide) (by decide)
              have e34_21 : φ34 21 = φ9 21 := hf34 21 (by decide) (by decide) (by decide) (by decide)
              have a34 : φ9 7 ≤ φ34 7 := ha34
              have b34 : ¬ φ34 9 = 0 → φ9 7 + 1 ≤ φ34 7 := hb34
              show wp_R (d + 1 + 1 + 1 + 1 + 1 + 1 + 1 + 1) 183 136 [some (.ref a), some (wp_i so), some (wp_i ((k : Int))), some (wp_i (((705 * s + 1 + 4 * k : Nat) : Int))), some (wp_i y)] [] h _
              refine wp_s (pc' := 137) ji_183_136 rfl rfl rfl ?_
              exact wp_ri ji_183_137 jr_183 rfl ⟨0, rfl, by omega, by omega, φ34, pl9, _, V, ⟨w9, by omega, hs, by omega, (jw_cnt (sort := so) hj9 hs hk hk9 htl9 (by omega) hs9 (fun q => by obtain ⟨c0, w2, q2, l1, l2, l3, l4, l5⟩ := hlaw (by omega) q; exact ⟨c0, w2, q2, l1, l2, l3, by omega, l5⟩)), by omega, fun q => by have := b34 q; omega⟩, by omega, fun _ => ⟨by omega, fun q => by have := b34 q; omega⟩⟩
            · refine wp_s (pc' := 131) ji_183_130 rfl rfl rfl ?_
              exact wp_ri ji_183_131 jr_183 rfl ⟨1, rfl, by omega, by omega, φ9, pl9, _, V, ⟨w9, q12, hs, qw, (jw_cnt (sort := so) hj9 hs hk hk9 htl9 (by omega) hs9 (fun q => by obtain ⟨c0, w2, q2, l1, l2, l3, l4, l5⟩ := hlaw (by omega) q; exact ⟨c0, w2, q2, l1, l2, l3, by omega, l5⟩)), qb1, qb2⟩, by omega, fun q => by omega⟩
          · refine wp_s (pc' := 107) ji_183_105 rfl rfl rfl ?_
            exact wp_ri ji_183_107 jr_183 rfl ⟨y, rfl, y0, y7, φ9, pl9, ts9, V, ⟨w9, q12, hs, qw, hj9, qb1, qb2⟩, by omega, fun q => by omega⟩
      · refine wp_bp ji_183_45 rfl ?_
        exact wp_ri ji_183_47 jr_183 rfl ⟨6, rfl, by omega, by omega, φ, pl, ts, V, ⟨w, h12, hs, hw, hj, hbA, hbB⟩, rfl, fun q => by omega⟩
    · refine wp_s (pc' := 17) ji_183_16 rfl rfl rfl ?_
      refine pv_gi V ji_183_17 jf_183_241 (by decide) pf_21 (y := φ 21) rfl (fun l35 u36 => ?_)
      refine wp_s (pc' := 21) ji_183_20 rfl rfl rfl ?_
      refine wp_sc (as := [wp_i (φ 21), wp_i so]) (rest := []) ji_183_21 jc_183_244 (Nat.le_of_ble_eq_true rfl) rfl (Nat.le_of_ble_eq_true rfl) rfl (by rw [jn_191]; rfl) (ws_hasb (fun d1 hd1 => IH8 d1 (by omega)) V (by omega) (by omega)) (fun v h R => ?_)
      obtain ⟨V, y37, rfl, q38⟩ := R
      show wp_R (d + 1 + 1 + 1 + 1 + 1 + 1 + 1 + 1) 183 24 [some (.ref a), some (wp_i so), none, none, none] [wp_i y37] h _
      refine wp_if (t := 29) ji_183_24 rfl (by omega) (fun (hb39 : (y37 : Int) = 0) => ?_) (fun (hb39 : ¬ ((y37 : Int) = 0)) => ?_)
      · refine wp_s (pc' := 30) ji_183_29 rfl rfl rfl ?_
        refine pv_gt V ji_183_30 jf_183_16 ?_
        refine wp_s (pc' := 34) ji_183_33 rfl rfl rfl ?_
        refine pv_gi V ji_183_34 jf_183_134 (by decide) pf_12 (y := ((705 * s : Nat) : Int)) (by omega) (fun l40 u41 => ?_)
        refine pv_lt V (x := ((705 * s : Nat) : Int)) (y := (k : Int)) ji_183_37 (by omega) (by omega) hkk (fun l42 => ?_)
        refine wp_s (pc' := 39) (lv' := [some (.ref a), some (wp_i so), some (wp_i ((k : Int))), none, none]) ji_183_38 rfl rfl rfl ?_
        refine wp_s (pc' := 40) ji_183_39 rfl rfl rfl ?_
        refine wp_bp ji_183_40 rfl ?_
        refine wp_icmp (t := 48) ji_183_42 rfl (by omega) (by omega) (fun (hb44 : ¬ ((k : Int) : Int) = 24) => ?_) (fun (hb44 : ¬ (¬ ((k : Int) : Int) = 24)) => ?_)
        · have hk : k < 24 := by omega
          refine wp_s (pc' := 49) ji_183_48 rfl rfl rfl ?_
          refine wp_s (pc' := 50) ji_183_49 rfl rfl rfl ?_
          refine wp_icmp (t := 65) ji_183_50 rfl (by omega) (by omega) (fun (hb45 : (2 : Int) < so) => ?_) (fun (hb45 : ¬ ((2 : Int) < so)) => ?_)
          · refine wp_s (pc' := 66) ji_183_65 rfl rfl rfl ?_
            refine wp_s (pc' := 67) ji_183_66 rfl rfl rfl ?_
            refine pv_pi V ji_183_67 jf_183_144 (by decide) pf_14 (by decide) (by decide) (by decide) (by omega) (by omega) (by omega) rfl rfl (fun h V => ?_)
            refine wp_s (pc' := 71) ji_183_70 rfl rfl rfl ?_
            refine pv_vc V ji_183_71 jc_183_171 jk_178 (rest := []) rfl (Nat.le_of_ble_eq_true rfl) rfl (by rw [jn_178]; rfl) (ws_next (by omega) V) (fun v h R => ?_)
            obtain ⟨rfl, φ46, V, hf46, ha46, hb46⟩ := R
            have e46_4 : φ46 4 = φ 4 := hf46 4 (by decide) (by decide) (by decide) (by decide)
            have e46_12 : φ46 12 = φ 12 := hf46 12 (by decide) (by decide) (by decide) (by decide)
            have e46_13 : φ46 13 = φ 13 := hf46 13 (by decide) (by decide) (by decide) (by decide)
            have e46_14 : φ46 14 = so := hf46 14 (by decide) (by decide) (by decide) (by decide)
            have e46_16 : φ46 16 = φ 16 := hf46 16 (by decide) (by decide) (by decide) (by decide)
            have e46_17 : φ46 17 = φ 17 := hf46 17 (by decide) (by decide) (by decide) (by decide)
            have e46_18 : φ46 18 = φ 18 := hf46 18 (by decide) (by decide) (by decide) (by decide)
            have e46_19 : φ46 19 = φ 19 := hf46 19 (by decide) (by decide) (by decide) (by decide)
            have e46_20 : φ46 20 = φ 20 := hf46 20 (by decide) (by decide) (by decide) (by decide)
            have e46_21 : φ46 21 = φ 21 := hf46 21 (by decide) (by decide) (by decide) (by decide)
            have a46 : φ 7 ≤ φ46 7 := ha46
            have b46 : ¬ φ46 9 = 0 → φ 7 + 1 ≤ φ46 7 := hb46
            show wp_R (d + 1 + 1 + 1 + 1 + 1 + 1 + 1 + 1) 183 74 [some (.ref a), some (wp_i so), some (wp_i ((k : Int))), none, none] [] h _
            refine wp_s (pc' := 75) ji_183_74 rfl rfl rfl ?_
            refine pv_gi V ji_183_75 jf_183_134 (by decide) pf_12 (y := ((705 * s : Nat) : Int)) (by omega) (fun l47 u48 => ?_)
            refine wp_s (pc' := 79) ji_183_78 rfl rfl rfl ?_
            refine wp_iadd (x := ((705 * s : Nat) : Int)) (y := 1) (z := ((705 * s : Nat) : Int) + 1) ji_183_79 (by omega) ?_
            refine wp_s (pc' := 81) ji_183_80 rfl rfl rfl ?_
            refine wp_s (pc' := 82) ji_183_81 rfl rfl rfl ?_
            refine wp_imul (x := 4) (y := (k : Int)) (z := 4 * ((k : Int))) ji_183_82 (by omega) ?_
            refine wp_iadd (x := ((705 * s : Nat) : Int) + 1) (y := 4 * ((k : Int))) (z := ((705 * s + 1 + 4 * k : Nat) : Int)) ji_183_83 (by omega) ?_
            refine wp_s (pc' := 85) (lv' := [some (.ref a), some (wp_i so), some (wp_i ((k : Int))), some (wp_i (((705 * s + 1 + 4 * k : Nat) : Int))), none]) ji_183_84 rfl rfl rfl ?_
            refine wp_s (pc' := 86) ji_183_85 rfl rfl rfl ?_
            refine pv_gt V ji_183_86 jf_183_16 ?_
            refine wp_s (pc' := 90) ji_183_89 rfl rfl rfl ?_
            refine wp_s (pc' := 91) ji_183_90 rfl rfl rfl ?_
            refine pv_st V (x := ((705 * s + 1 + 4 * k : Nat) : Int)) (y := so) ji_183_91 (by omega) (by omega) (hd_p hk).1 (by omega) (by omega) (by omega) (jw_hdr (i := 0) hj hs hk (by omega) (by omega) htl (by omega)).1 (fun h V => ?_)
            have V : pv h0 h a P T _ _ (ts.set (705 * s + 1 + 4 * k) (wp_i so)) := V
            refine wp_s (pc' := 93) ji_183_92 rfl rfl rfl ?_
            refine wp_s (pc' := 94) ji_183_93 rfl rfl rfl ?_
            refine wp_s (pc' := 95) ji_183_94 rfl rfl rfl ?_
            have hel1 : ∀ j, sx_el (ts.set (705 * s + 1 + 4 * k) (wp_i so)) j = if j = 705 * s + 1 + 4 * k then so else sx_el ts j := fun j => pv_el_set (by omega) (by omega)
            have hj1 : jw (ts.set (705 * s + 1 + 4 * k) (wp_i so)) s w := jw_hdr (i := 0) hj hs hk (by omega) (by omega) htl (by omega)
            have hcq : cq (ts.set (705 * s + 1 + 4 * k) (wp_i so)) φ46 (ts.set (705 * s + 1 + 4 * k) (wp_i so)) s (705 * s + 1 + 4 * k) := ⟨w, by omega, hs, by omega, hj1, by omega, fun q => by have := b46 q; omega, fun _ _ _ _ => rfl⟩
            refine pv_vc V ji_183_95 jc_183_247 jk_192 (rest := []) rfl (Nat.le_of_ble_eq_true rfl) rfl (by rw [jn_192]; rfl) (ws_body (d := d) (sort := so) (x := 705 * s + 1 + 4 * k) IH hd (by omega) V hcq rfl hk (by rw [hel1, if_neg (by omega)]; omega)) (fun v h R => ?_)
            obtain ⟨y, rfl, y0, y7, φ9, pl9, ts9, V, hcq9, ⟨k4, k12, k14, k21, k7⟩, hlaw⟩ := R
            obtain ⟨w9, q12, -, qw, hj9, qb1, qb2, hfr9⟩ := hcq9
            have htl9 := (pv_aP V).2.2.2.2.1
            have b139 := pv_b V (k := 13) (lo := 0) (hi := 303) (by decide) (by decide)
            have hk9 : sx_el ts9 (705 * s) = (k : Int) := by rw [hfr9 _ (by omega) (by omega) (by omega), hel1, if_neg (by omega)]; exact hkk
            have hs9 : sx_el ts9 (705 * s + 1 + 4 * k) = so := by rw [hfr9 _ (by omega) (by omega) (by omega), hel1, if_pos rfl]
            show wp_R (d + 1 + 1 + 1 + 1 + 1 + 1 + 1 + 1) 183 98 [some (.ref a), some (wp_i so), some (wp_i ((k : Int))), some (wp_i (((705 * s + 1 + 4 * k : Nat) : Int))), none] [wp_i y] h _
            refine wp_s (pc' := 100) (lv' := [some (.ref a), some (wp_i so), some (wp_i ((k : Int))), some (wp_i (((705 * s + 1 + 4 * k : Nat) : Int))), some (wp_i y)]) ji_183_98 rfl rfl rfl ?_
            refine wp_s (pc' := 102) ji_183_100 rfl rfl rfl ?_
            refine wp_if (t := 108) ji_183_102 rfl (by omega) (fun (hb49 : (y : Int) = 0) => ?_) (fun (hb49 : ¬ ((y : Int) = 0)) => ?_)
            · refine wp_s (pc' := 109) ji_183_108 rfl rfl rfl ?_
              refine pv_gt V ji_183_109 jf_183_16 ?_
              refine wp_s (pc' := 113) ji_183_112 rfl rfl rfl ?_
              refine pv_gi V ji_183_113 jf_183_134 (by decide) pf_12 (y := ((705 * s : Nat) : Int)) (by omega) (fun l50 u51 => ?_)
              refine wp_s (pc' := 117) ji_183_116 rfl rfl rfl ?_
              refine pv_lt V (x := ((705 * s : Nat) : Int)) (y := (k : Int)) ji_183_117 (by omega) (by omega) hk9 (fun l52 => ?_)
              refine wp_s (pc' := 119) ji_183_118 rfl rfl rfl ?_
              refine wp_iadd (x := (k : Int)) (y := 1) (z := (k : Int) + 1) ji_183_119 (by omega) ?_
              refine pv_st V (x := ((705 * s : Nat) : Int)) (y := (k : Int) + 1) ji_183_120 (by omega) (by omega) hd_0 (by omega) (by omega) (by omega) (jw_cnt (sort := so) hj9 hs hk hk9 htl9 (by omega) hs9 (fun q => by obtain ⟨c0, w2, q2, l1, l2, l3, l4, l5⟩ := hlaw (by omega) q; exact ⟨c0, w2, q2, l1, l2, l3, by omega, l5⟩)).1 (fun h V => ?_)
              have V : pv h0 h a P T _ _ (ts9.set (705 * s) (wp_i ((k : Int) + 1))) := V
              refine wp_s (pc' := 122) ji_183_121 rfl rfl rfl ?_
              refine pv_gi V ji_183_122 jf_183_95 (by decide) pf_9 (y := φ9 9) rfl (fun l54 u55 => ?_)
              refine wp_bp ji_183_125 rfl ?_
              refine wp_icmp (t := 132) ji_183_127 rfl (by omega) (by omega) (fun (hb56 : (φ9 9 : Int) = 59) => ?_) (fun (hb56 : ¬ ((φ9 9 : Int) = 59)) => ?_)
              · refine wp_s (pc' := 133) ji_183_132 rfl rfl rfl ?_
                refine pv_vc V ji_183_133 jc_183_171 jk_178 (rest := []) rfl (Nat.le_of_ble_eq_true rfl) rfl (by rw [jn_178]; rfl) (ws_next (by omega) V) (fun v h R => ?_)
                obtain ⟨rfl, φ57, V, hf57, ha57, hb57⟩ := R
                have e57_4 : φ57 4 = φ9 4 := hf57 4 (by decide) (by decide) (by decide) (by decide)
                have e57_12 : φ57 12 = φ9 12 := hf57 12 (by decide) (by decide) (by decide) (by decide)
                have e57_13 : φ57 13 = φ9 13 := hf57 13 (by decide) (by decide) (by decide) (by decide)
                have e57_14 : φ57 14 = φ9 14 := hf57 14 (by decide) (by decide) (by decide) (by decide)
                have e57_16 : φ57 16 = φ9 16 := hf57 16 (by decide) (by decide) (by decide) (by decide)
                have e57_17 : φ57 17 = φ9 17 := hf57 17 (by decide) (by decide) (by decide) (by decide)
                have e57_18 : φ57 18 = φ9 18 := hf57 18 (by decide) (by decide) (by decide) (by decide)
                have e57_19 : φ57 19 = φ9 19 := hf57 19 (by decide) (by decide) (by decide) (by decide)
                have e57_20 : φ57 20 = φ9 20 := hf57 20 (by decide) (by decide) (by decide) (by decide)
                have e57_21 : φ57 21 = φ9 21 := hf57 21 (by decide) (by decide) (by decide) (by decide)
                have a57 : φ9 7 ≤ φ57 7 := ha57
                have b57 : ¬ φ57 9 = 0 → φ9 7 + 1 ≤ φ57 7 := hb57
                show wp_R (d + 1 + 1 + 1 + 1 + 1 + 1 + 1 + 1) 183 136 [some (.ref a), some (wp_i so), some (wp_i ((k : Int))), some (wp_i (((705 * s + 1 + 4 * k : Nat) : Int))), some (wp_i y)] [] h _
                refine wp_s (pc' := 137) ji_183_136 rfl rfl rfl ?_
                exact wp_ri ji_183_137 jr_183 rfl ⟨0, rfl, by omega, by omega, φ57, pl9, _, V, ⟨w9, by omega, hs, by omega, (jw_cnt (sort := so) hj9 hs hk hk9 htl9 (by omega) hs9 (fun q => by obtain ⟨c0, w2, q2, l1, l2, l3, l4, l5⟩ := hlaw (by omega) q; exact ⟨c0, w2, q2, l1, l2, l3, by omega, l5⟩)), by omega, fun q => by have := b57 q; omega⟩, by omega, fun _ => ⟨by omega, fun q => by have := b57 q; omega⟩⟩
              · refine wp_s (pc' := 131) ji_183_130 rfl rfl rfl ?_
                exact wp_ri ji_183_131 jr_183 rfl ⟨1, rfl, by omega, by omega, φ9, pl9, _, V, ⟨w9, q12, hs, qw, (jw_cnt (sort := so) hj9 hs hk hk9 htl9 (by omega) hs9 (fun q => by obtain ⟨c0, w2, q2, l1, l2, l3, l4, l5⟩ := hlaw (by omega) q; exact ⟨c0, w2, q2, l1, l2, l3, by omega, l5⟩)), qb1, qb2⟩, by omega, fun q => by omega⟩
            · refine wp_s (pc' := 107) ji_183_105 rfl rfl rfl ?_
              exact wp_ri ji_183_107 jr_183 rfl ⟨y, rfl, y0, y7, φ9, pl9, ts9, V, ⟨w9, q12, hs, qw, hj9, qb1, qb2⟩, by omega, fun q => by omega⟩
          · refine wp_s (pc' := 54) ji_183_53 rfl rfl rfl ?_
            refine wp_s (pc' := 55) ji_183_54 rfl rfl rfl ?_
            refine pv_gi V ji_183_55 jf_183_241 (by decide) pf_21 (y := φ 21) rfl (fun l58 u59 => ?_)
            refine wp_s (pc' := 59) ji_183_58 rfl rfl rfl ?_
            refine wp_s (pc' := 60) ji_183_59 rfl rfl rfl ?_
            refine wp_s (pc' := 61) ji_183_60 rfl rfl rfl ?_
            refine wp_s (pc' := 62) ji_183_61 rfl rfl rfl ?_
            show wp_R (d + 1 + 1 + 1 + 1 + 1 + 1 + 1 + 1) 183 62 [some (.ref a), some (wp_i so), some (wp_i ((k : Int))), none, none] [.int (Int32.ofInt (φ 21) ||| (Int32.ofInt 1 <<< (Int32.ofInt so &&& 31))), .ref a] h _
            obtain ⟨rr, hr1, hr2⟩ := or_sh (o := φ 21) (s := so) (by omega) (by omega)
            rw [hr2]
            refine pv_pi V ji_183_62 jf_183_241 (by decide) pf_21 (by decide) (by decide) (by decide) (by omega) (by omega) (by omega) rfl rfl (fun h V => ?_)
            refine wp_s (pc' := 66) ji_183_65 rfl rfl rfl ?_
            refine wp_s (pc' := 67) ji_183_66 rfl rfl rfl ?_
            refine pv_pi V ji_183_67 jf_183_144 (by decide) pf_14 (by decide) (by decide) (by decide) (by omega) (by omega) (by omega) rfl rfl (fun h V => ?_)
            refine wp_s (pc' := 71) ji_183_70 rfl rfl rfl ?_
            refine pv_vc V ji_183_71 jc_183_171 jk_178 (rest := []) rfl (Nat.le_of_ble_eq_true rfl) rfl (by rw [jn_178]; rfl) (ws_next (by omega) V) (fun v h R => ?_)
            obtain ⟨rfl, φ60, V, hf60, ha60, hb60⟩ := R
            have e60_4 : φ60 4 = φ 4 := hf60 4 (by decide) (by decide) (by decide) (by decide)
            have e60_12 : φ60 12 = φ 12 := hf60 12 (by decide) (by decide) (by decide) (by decide)
            have e60_13 : φ60 13 = φ 13 := hf60 13 (by decide) (by decide) (by decide) (by decide)
            have e60_14 : φ60 14 = so := hf60 14 (by decide) (by decide) (by decide) (by decide)
            have e60_16 : φ60 16 = φ 16 := hf60 16 (by decide) (by decide) (by decide) (by decide)
            have e60_17 : φ60 17 = φ 17 := hf60 17 (by decide) (by decide) (by decide) (by decide)
            have e60_18 : φ60 18 = φ 18 := hf60 18 (by decide) (by decide) (by decide) (by decide)
            have e60_19 : φ60 19 = φ 19 := hf60 19 (by decide) (by decide) (by decide) (by decide)
            have e60_20 : φ60 20 = φ 20 := hf60 20 (by decide) (by decide) (by decide) (by decide)
            have e60_21 : φ60 21 = rr := hf60 21 (by decide) (by decide) (by decide) (by decide)
            have a60 : φ 7 ≤ φ60 7 := ha60
            have b60 : ¬ φ60 9 = 0 → φ 7 + 1 ≤ φ60 7 := hb60
            show wp_R (d + 1 + 1 + 1 + 1 + 1 + 1 + 1 + 1) 183 74 [some (.ref a), some (wp_i so), some (wp_i ((k : Int))), none, none] [] h _
            refine wp_s (pc' := 75) ji_183_74 rfl rfl rfl ?_
            refine pv_gi V ji_183_75 jf_183_134 (by decide) pf_12 (y := ((705 * s : Nat) : Int)) (by omega) (fun l61 u62 => ?_)
            refine wp_s (pc' := 79) ji_183_78 rfl rfl rfl ?_
            refine wp_iadd (x := ((705 * s : Nat) : Int)) (y := 1) (z := ((705 * s : Nat) : Int) + 1) ji_183_79 (by omega) ?_
            refine wp_s (pc' := 81) ji_183_80 rfl rfl rfl ?_
            refine wp_s (pc' := 82) ji_183_81 rfl rfl rfl ?_
            refine wp_imul (x := 4) (y := (k : Int)) (z := 4 * ((k : Int))) ji_183_82 (by omega) ?_
            refine wp_iadd (x := ((705 * s : Nat) : Int) + 1) (y := 4 * ((k : Int))) (z := ((705 * s + 1 + 4 * k : Nat) : Int)) ji_183_83 (by omega) ?_
            refine wp_s (pc' := 85) (lv' := [some (.ref a), some (wp_i so), some (wp_i ((k : Int))), some (wp_i (((705 * s + 1 + 4 * k : Nat) : Int))), none]) ji_183_84 rfl rfl rfl ?_
            refine wp_s (pc' := 86) ji_183_85 rfl rfl rfl ?_
            refine pv_gt V ji_183_86 jf_183_16 ?_
            refine wp_s (pc' := 90) ji_183_89 rfl rfl rfl ?_
            refine wp_s (pc' := 91) ji_183_90 rfl rfl rfl ?_
            refine pv_st V (x := ((705 * s + 1 + 4 * k : Nat) : Int)) (y := so) ji_183_91 (by omega) (by omega) (hd_p hk).1 (by omega) (by omega) (by omega) (jw_hdr (i := 0) hj hs hk (by omega) (by omega) htl (by omega)).1 (fun h V => ?_)
            have V : pv h0 h a P T _ _ (ts.set (705 * s + 1 + 4 * k) (wp_i so)) := V
            refine wp_s (pc' := 93) ji_183_92 rfl rfl rfl ?_
            refine wp_s (pc' := 94) ji_183_93 rfl rfl rfl ?_
            refine wp_s (pc' := 95) ji_183_94 rfl rfl rfl ?_
            have hel1 : ∀ j, sx_el (ts.set (705 * s + 1 + 4 * k) (wp_i so)) j = if j = 705 * s + 1 + 4 * k then so else sx_el ts j := fun j => pv_el_set (by omega) (by omega)
            have hj1 : jw (ts.set (705 * s + 1 + 4 * k) (wp_i so)) s w := jw_hdr (i := 0) hj hs hk (by omega) (by omega) htl (by omega)
            have hcq : cq (ts.set (705 * s + 1 + 4 * k) (wp_i so)) φ60 (ts.set (705 * s + 1 + 4 * k) (wp_i so)) s (705 * s + 1 + 4 * k) := ⟨w, by omega, hs, by omega, hj1, by omega, fun q => by have := b60 q; omega, fun _ _ _ _ => rfl⟩
            refine pv_vc V ji_183_95 jc_183_247 jk_192 (rest := []) rfl (Nat.le_of_ble_eq_true rfl) rfl (by rw [jn_192]; rfl) (ws_body (d := d) (sort := so) (x := 705 * s + 1 + 4 * k) IH hd (by omega) V hcq rfl hk (by rw [hel1, if_neg (by omega)]; omega)) (fun v h R => ?_)
            obtain ⟨y, rfl, y0, y7, φ9, pl9, ts9, V, hcq9, ⟨k4, k12, k14, k21, k7⟩, hlaw⟩ := R
            obtain ⟨w9, q12, -, qw, hj9, qb1, qb2, hfr9⟩ := hcq9
            have htl9 := (pv_aP V).2.2.2.2.1
            have b139 := pv_b V (k := 13) (lo := 0) (hi := 303) (by decide) (by decide)
            have hk9 : sx_el ts9 (705 * s) = (k : Int) := by rw [hfr9 _ (by omega) (by omega) (by omega), hel1, if_neg (by omega)]; exact hkk
            have hs9 : sx_el ts9 (705 * s + 1 + 4 * k) = so := by rw [hfr9 _ (by omega) (by omega) (by omega), hel1, if_pos rfl]
            show wp_R (d + 1 + 1 + 1 + 1 + 1 + 1 + 1 + 1) 183 98 [some (.ref a), some (wp_i so), some (wp_i ((k : Int))), some (wp_i (((705 * s + 1 + 4 * k : Nat) : Int))), none] [wp_i y] h _
            refine wp_s (pc' := 100) (lv' := [some (.ref a), some (wp_i so), some (wp_i ((k : Int))), some (wp_i (((705 * s + 1 + 4 * k : Nat) : Int))), some (wp_i y)]) ji_183_98 rfl rfl rfl ?_
            refine wp_s (pc' := 102) ji_183_100 rfl rfl rfl ?_
            refine wp_if (t := 108) ji_183_102 rfl (by omega) (fun (hb63 : (y : Int) = 0) => ?_) (fun (hb63 : ¬ ((y : Int) = 0)) => ?_)
            · refine wp_s (pc' := 109) ji_183_108 rfl rfl rfl ?_
              refine pv_gt V ji_183_109 jf_183_16 ?_
              refine wp_s (pc' := 113) ji_183_112 rfl rfl rfl ?_
              refine pv_gi V ji_183_113 jf_183_134 (by decide) pf_12 (y := ((705 * s : Nat) : Int)) (by omega) (fun l64 u65 => ?_)
              refine wp_s (pc' := 117) ji_183_116 rfl rfl rfl ?_
              refine pv_lt V (x := ((705 * s : Nat) : Int)) (y := (k : Int)) ji_183_117 (by omega) (by omega) hk9 (fun l66 => ?_)
              refine wp_s (pc' := 119) ji_183_118 rfl rfl rfl ?_
              refine wp_iadd (x := (k : Int)) (y := 1) (z := (k : Int) + 1) ji_183_119 (by omega) ?_
              refine pv_st V (x := ((705 * s : Nat) : Int)) (y := (k : Int) + 1) ji_183_120 (by omega) (by omega) hd_0 (by omega) (by omega) (by omega) (jw_cnt (sort := so) hj9 hs hk hk9 htl9 (by omega) hs9 (fun q => by obtain ⟨c0, w2, q2, l1, l2, l3, l4, l5⟩ := hlaw (by omega) q; exact ⟨c0, w2, q2, l1, l2, l3, by omega, l5⟩)).1 (fun h V => ?_)
              have V : pv h0 h a P T _ _ (ts9.set (705 * s) (wp_i ((k : Int) + 1))) := V
              refine wp_s (pc' := 122) ji_183_121 rfl rfl rfl ?_
              refine pv_gi V ji_183_122 jf_183_95 (by decide) pf_9 (y := φ9 9) rfl (fun l68 u69 => ?_)
              refine wp_bp ji_183_125 rfl ?_
              refine wp_icmp (t := 132) ji_183_127 rfl (by omega) (by omega) (fun (hb70 : (φ9 9 : Int) = 59) => ?_) (fun (hb70 : ¬ ((φ9 9 : Int) = 59)) => ?_)
              · refine wp_s (pc' := 133) ji_183_132 rfl rfl rfl ?_
                refine pv_vc V ji_183_133 jc_183_171 jk_178 (rest := []) rfl (Nat.le_of_ble_eq_true rfl) rfl (by rw [jn_178]; rfl) (ws_next (by omega) V) (fun v h R => ?_)
                obtain ⟨rfl, φ71, V, hf71, ha71, hb71⟩ := R
                have e71_4 : φ71 4 = φ9 4 := hf71 4 (by decide) (by decide) (by decide) (by decide)
                have e71_12 : φ71 12 = φ9 12 := hf71 12 (by decide) (by decide) (by decide) (by decide)
                have e71_13 : φ71 13 = φ9 13 := hf71 13 (by decide) (by decide) (by decide) (by decide)
                have e71_14 : φ71 14 = φ9 14 := hf71 14 (by decide) (by decide) (by decide) (by decide)
                have e71_16 : φ71 16 = φ9 16 := hf71 16 (by decide) (by decide) (by decide) (by decide)
                have e71_17 : φ71 17 = φ9 17 := hf71 17 (by decide) (by decide) (by decide) (by decide)
                have e71_18 : φ71 18 = φ9 18 := hf71 18 (by decide) (by decide) (by decide) (by decide)
                have e71_19 : φ71 19 = φ9 19 := hf71 19 (by decide) (by decide) (by decide) (by decide)
                have e71_20 : φ71 20 = φ9 20 := hf71 20 (by decide) (by decide) (by decide) (by decide)
                have e71_21 : φ71 21 = φ9 21 := hf71 21 (by decide) (by decide) (by decide) (by decide)
                have a71 : φ9 7 ≤ φ71 7 := ha71
                have b71 : ¬ φ71 9 = 0 → φ9 7 + 1 ≤ φ71 7 := hb71
                show wp_R (d + 1 + 1 + 1 + 1 + 1 + 1 + 1 + 1) 183 136 [some (.ref a), some (wp_i so), some (wp_i ((k : Int))), some (wp_i (((705 * s + 1 + 4 * k : Nat) : Int))), some (wp_i y)] [] h _
                refine wp_s (pc' := 137) ji_183_136 rfl rfl rfl ?_
                exact wp_ri ji_183_137 jr_183 rfl ⟨0, rfl, by omega, by omega, φ71, pl9, _, V, ⟨w9, by omega, hs, by omega, (jw_cnt (sort := so) hj9 hs hk hk9 htl9 (by omega) hs9 (fun q => by obtain ⟨c0, w2, q2, l1, l2, l3, l4, l5⟩ := hlaw (by omega) q; exact ⟨c0, w2, q2, l1, l2, l3, by omega, l5⟩)), by omega, fun q => by have := b71 q; omega⟩, by omega, fun _ => ⟨by omega, fun q => by have := b71 q; omega⟩⟩
              · refine wp_s (pc' := 131) ji_183_130 rfl rfl rfl ?_
                exact wp_ri ji_183_131 jr_183 rfl ⟨1, rfl, by omega, by omega, φ9, pl9, _, V, ⟨w9, q12, hs, qw, (jw_cnt (sort := so) hj9 hs hk hk9 htl9 (by omega) hs9 (fun q => by obtain ⟨c0, w2, q2, l1, l2, l3, l4, l5⟩ := hlaw (by omega) q; exact ⟨c0, w2, q2, l1, l2, l3, by omega, l5⟩)), qb1, qb2⟩, by omega, fun q => by omega⟩
            · refine wp_s (pc' := 107) ji_183_105 rfl rfl rfl ?_
              exact wp_ri ji_183_107 jr_183 rfl ⟨y, rfl, y0, y7, φ9, pl9, ts9, V, ⟨w9, q12, hs, qw, hj9, qb1, qb2⟩, by omega, fun q => by omega⟩
        · refine wp_bp ji_183_45 rfl ?_
          exact wp_ri ji_183_47 jr_183 rfl ⟨6, rfl, by omega, by omega, φ, pl, ts, V, ⟨w, h12, hs, hw, hj, hbA, hbB⟩, rfl, fun q => by omega⟩
      · refine wp_s (pc' := 28) ji_183_27 rfl rfl rfl ?_
        exact wp_ri ji_183_28 jr_183 rfl ⟨4, rfl, by omega, by omega, φ, pl, ts, V, ⟨w, h12, hs, hw, hj, hbA, hbB⟩, rfl, fun q => by omega⟩
  · refine wp_s (pc' := 10) ji_183_9 rfl rfl rfl ?_
    exact wp_ri ji_183_10 jr_183 rfl ⟨1, rfl, by omega, by omega, φ, pl, ts, V, ⟨w, h12, hs, hw, hj, hbA, hbB⟩, rfl, fun q => by omega⟩
theorem ws_rloop {d : Nat} {h0 : mj_H} {a P T s : Nat} (IH : sx_IH sx_PP (d + 1 + 1 + 1 + 1)) (IH8 : sx_IH sx_PP (d + 1 + 1 + 1 + 1 + 1 + 1 + 1 + 1)) (hd : 2 ≤ d) : ∀ (N : Nat) (lx : Option Value) (h : mj_H) (φ : Nat → Int) (pl ts : List Value), pv h0 h a P T φ pl ts → rq φ ts s → (2 * (300 - φ 7) < N ∧ (¬ φ 9 = 0 → 2 * (300 - φ 7) + 1 < N)) → wp_R (d + 1 + 1 + 1 + 1 + 1 + 1 + 1 + 1 + 1) 177 43 [some (.ref a), lx] [] h (fun v h1 => ∃ y : Int, v = some (wp_i y) ∧ 0 ≤ y ∧ y ≤ 7 ∧ ∃ φ' pl' ts', pv h0 h1 a P T φ' pl' ts') := by
  intro N
  induction N with
  | zero =>
    intro lx h φ pl ts V _ hN
    have b7 := pv_b V (k := 7) (lo := 0) (hi := 300) (by decide) (by decide)
    omega
  | succ N ih =>
    intro lx h φ pl ts V hrq hN
    have b7 := pv_b V (k := 7) (lo := 0) (hi := 300) (by decide) (by decide)
    refine wp_s (pc' := 44) ji_177_43 rfl rfl rfl ?_
    refine pv_gi V ji_177_44 jf_177_95 (by decide) pf_9 (y := φ 9) rfl (fun l1 u2 => ?_)
    refine wp_if (t := 64) ji_177_47 rfl (by omega) (fun (hb3 : (φ 9 : Int) = 0) => ?_) (fun (hb3 : ¬ ((φ 9 : Int) = 0)) => ?_)
    · refine wp_s (pc' := 65) ji_177_64 rfl rfl rfl ?_
      exact wp_ri ji_177_65 jr_177 rfl ⟨0, rfl, by omega, by omega, _, _, _, V⟩
    · refine wp_s (pc' := 51) ji_177_50 rfl rfl rfl ?_
      refine pv_vc V ji_177_51 jc_177_251 jk_183 (rest := []) rfl (Nat.le_of_ble_eq_true rfl) rfl (by rw [jn_183]; rfl) (ws_clause (d := d) IH IH8 hd V hrq) (fun v h R => ?_)
      obtain ⟨y, rfl, y0, y7, φ1, pl1, ts1, V, hrq1, h41, hadv⟩ := R
      show wp_R (d + 1 + 1 + 1 + 1 + 1 + 1 + 1 + 1 + 1) 177 54 [some (.ref a), lx] [wp_i y] h _
      refine wp_s (pc' := 55) (lv' := [some (.ref a), some (wp_i y)]) ji_177_54 rfl rfl rfl ?_
      refine wp_s (pc' := 56) ji_177_55 rfl rfl rfl ?_
      refine wp_if (t := 61) ji_177_56 rfl (by omega) (fun (hb4 : (y : Int) = 0) => ?_) (fun (hb4 : ¬ ((y : Int) = 0)) => ?_)
      · refine wp_goto (t := 43) ji_177_61 rfl ?_
        have ha := hadv (by omega)
        have ha1 : φ 7 ≤ φ1 7 := ha.1
        have ha2 : ¬ φ1 9 = 0 → φ 7 + 1 ≤ φ1 7 := ha.2
        exact ih _ h φ1 pl1 ts1 V hrq1 ⟨by omega, fun q => by have := ha2 q; omega⟩
      · refine wp_s (pc' := 60) ji_177_59 rfl rfl rfl ?_
        exact wp_ri ji_177_60 jr_177 rfl ⟨y, rfl, by omega, by omega, _, _, _, V⟩
theorem ws_readText {d : Nat} {h0 h : mj_H} {a P T : Nat} {φ : Nat → Int} {pl ts : List Value} {s : Nat} (IH : sx_IH sx_PP (d + 1 + 1 + 1 + 1)) (IH8 : sx_IH sx_PP (d + 1 + 1 + 1 + 1 + 1 + 1 + 1 + 1)) (hd : 2 ≤ d) (V : pv h0 h a P T φ pl ts) (hs : s < 4) (hs2 : a2v h0 a = (s : Int)) : wp_R (d + 1 + 1 + 1 + 1 + 1 + 1 + 1 + 1 + 1) 177 0 [some (.ref a), none] [] h (fun v h1 => ∃ y : Int, v = some (wp_i y) ∧ 0 ≤ y ∧ y ≤ 7 ∧ ∃ φ' pl' ts', pv h0 h1 a P T φ' pl' ts') := by
  have htl := (pv_aP V).2.2.2.2.1
  have hj0 : jw (ts.set (705 * s) (wp_i 0)) s 0 := by
    obtain ⟨hH, -, -, -, -, tT, fs, -, -, -, -, -, g6⟩ := V
    obtain ⟨-, us, c1, -, -, c4⟩ := hH T 20 sx_y20 tT rfl
    have c1 : h[T]? = some (1000, us) := c1
    rw [g6] at c1
    cases c1
    exact jw_0 (c4 rfl) hs htl
  refine wp_s (pc' := 1) ji_177_0 rfl rfl rfl ?_
  refine wp_sp ji_177_1 rfl ?_
  refine wp_s (pc' := 5) ji_177_4 rfl rfl rfl ?_
  obtain ⟨A1, fsA1, asA1, tA1, g1A1, g2A1, g3A1, g4A1, g5A1, g6A1, g7A1⟩ := pv_a2 V
  refine wp_gf ji_177_5 jf_177_7 g1A1 g2A1 ?_
  refine wp_s (pc' := 9) ji_177_8 rfl rfl rfl ?_
  refine wp_ial (x := 2) ji_177_9 g3A1 (by omega) (by omega) (by omega) g5A1 ?_
  refine wp_imul (x := 705) (y := a2v h0 a) (z := ((705 * s : Nat) : Int)) ji_177_10 (by omega) ?_
  refine pv_pi V ji_177_11 jf_177_134 (by decide) pf_12 (by decide) (by decide) (by decide) (by omega) (by omega) (by omega) rfl rfl (fun h V => ?_)
  refine wp_s (pc' := 15) ji_177_14 rfl rfl rfl ?_
  refine pv_gt V ji_177_15 jf_177_16 ?_
  refine wp_s (pc' := 19) ji_177_18 rfl rfl rfl ?_
  refine pv_gi V ji_177_19 jf_177_134 (by decide) pf_12 (y := ((705 * s : Nat) : Int)) rfl (fun l4 u5 => ?_)
  refine wp_s (pc' := 23) ji_177_22 rfl rfl rfl ?_
  refine pv_st V (x := ((705 * s : Nat) : Int)) (y := 0) ji_177_23 (by omega) (by omega) hd_0 (by omega) (by omega) (by omega) hj0.1 (fun h V => ?_)
  have V : pv h0 h a P T _ _ (ts.set (705 * s) (wp_i 0)) := V
  refine wp_s (pc' := 25) ji_177_24 rfl rfl rfl ?_
  refine wp_s (pc' := 26) ji_177_25 rfl rfl rfl ?_
  refine pv_pi V ji_177_26 jf_177_137 (by decide) pf_13 (by decide) (by decide) (by decide) (by omega) (by omega) (by omega) rfl rfl (fun h V => ?_)
  refine wp_s (pc' := 30) ji_177_29 rfl rfl rfl ?_
  refine wp_s (pc' := 31) ji_177_30 rfl rfl rfl ?_
  refine pv_pi V ji_177_31 jf_177_241 (by decide) pf_21 (by decide) (by decide) (by decide) (by omega) (by omega) (by omega) rfl rfl (fun h V => ?_)
  refine wp_s (pc' := 35) ji_177_34 rfl rfl rfl ?_
  refine wp_s (pc' := 36) ji_177_35 rfl rfl rfl ?_
  refine pv_pi V ji_177_36 jf_177_85 (by decide) pf_7 (by decide) (by decide) (by decide) (by omega) (by omega) (by omega) rfl rfl (fun h V => ?_)
  refine wp_s (pc' := 40) ji_177_39 rfl rfl rfl ?_
  refine pv_vc V ji_177_40 jc_177_171 jk_178 (rest := []) rfl (Nat.le_of_ble_eq_true rfl) rfl (by rw [jn_178]; rfl) (ws_next (by omega) V) (fun v h R => ?_)
  obtain ⟨rfl, φ6, V, hf6, ha6, hb6⟩ := R
  have e6_4 : φ6 4 = φ 4 := hf6 4 (by decide) (by decide) (by decide) (by decide)
  have e6_12 : φ6 12 = ((705 * s : Nat) : Int) := hf6 12 (by decide) (by decide) (by decide) (by decide)
  have e6_13 : φ6 13 = 0 := hf6 13 (by decide) (by decide) (by decide) (by decide)
  have e6_14 : φ6 14 = φ 14 := hf6 14 (by decide) (by decide) (by decide) (by decide)
  have e6_16 : φ6 16 = φ 16 := hf6 16 (by decide) (by decide) (by decide) (by decide)
  have e6_17 : φ6 17 = φ 17 := hf6 17 (by decide) (by decide) (by decide) (by decide)
  have e6_18 : φ6 18 = φ 18 := hf6 18 (by decide) (by decide) (by decide) (by decide)
  have e6_19 : φ6 19 = φ 19 := hf6 19 (by decide) (by decide) (by decide) (by decide)
  have e6_20 : φ6 20 = φ 20 := hf6 20 (by decide) (by decide) (by decide) (by decide)
  have e6_21 : φ6 21 = 0 := hf6 21 (by decide) (by decide) (by decide) (by decide)
  have a6 : 0 ≤ φ6 7 := ha6
  have b6 : ¬ φ6 9 = 0 → 0 + 1 ≤ φ6 7 := hb6
  show wp_R (d + 1 + 1 + 1 + 1 + 1 + 1 + 1 + 1 + 1) 177 43 [some (.ref a), none] [] h _
  have b79 := pv_b V (k := 7) (lo := 0) (hi := 300) (by decide) (by decide)
  exact ws_rloop IH IH8 hd 602 none h φ6 pl _ V ⟨0, by omega, hs, by omega, hj0, by omega, fun q => by have := b6 q; omega⟩ ⟨show 2 * (300 - φ6 7) < ((602 : Nat) : Int) by omega, fun _ => (show 2 * (300 - φ6 7) + 1 < ((602 : Nat) : Int) by omega)⟩
