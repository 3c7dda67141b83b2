/-! -/
set_option maxRecDepth 100000 in
theorem ji_257_61 : mj_ins 257 61 = some (.iload_n 3) := by decide +kernel
set_option maxRecDepth 100000 in
theorem ji_257_62 : mj_ins 257 62 = some (.iload_n 2) := by decide +kernel
set_option maxRecDepth 100000 in
theorem ji_257_63 : mj_ins 257 63 = some (.if_icmp .ge 28) := by decide +kernel
set_option maxRecDepth 100000 in
theorem ji_257_91 : mj_ins 257 91 = some (.aload_n 0) := by decide +kernel
set_option maxRecDepth 100000 in
theorem ji_257_92 : mj_ins 257 92 = some (.getfield 7) := by decide +kernel
set_option maxRecDepth 100000 in
theorem jf_257_7 : mj_fld 257 7 = some (11, 0, (.array .int), false) := by decide +kernel
set_option maxRecDepth 100000 in
theorem ji_257_95 : mj_ins 257 95 = some (.bipush 10) := by decide +kernel
set_option maxRecDepth 100000 in
theorem ji_257_97 : mj_ins 257 97 = some (.iaload) := by decide +kernel
set_option maxRecDepth 100000 in
theorem ji_257_98 : mj_ins 257 98 = some (.ireturn) := by decide +kernel
set_option maxRecDepth 100000 in
theorem jr_257 : mj_ret 257 = some .int := by decide +kernel
set_option maxRecDepth 100000 in
theorem ji_257_66 : mj_ins 257 66 = some (.aload_n 0) := by decide +kernel
set_option maxRecDepth 100000 in
theorem ji_257_67 : mj_ins 257 67 = some (.getfield 7) := by decide +kernel
set_option maxRecDepth 100000 in
theorem ji_257_70 : mj_ins 257 70 = some (.bipush 11) := by decide +kernel
set_option maxRecDepth 100000 in
theorem ji_257_72 : mj_ins 257 72 = some (.iaload) := by decide +kernel
set_option maxRecDepth 100000 in
theorem ji_257_73 : mj_ins 257 73 = some (.istore 4) := by decide +kernel
set_option maxRecDepth 100000 in
theorem ji_257_75 : mj_ins 257 75 = some (.aload_n 0) := by decide +kernel
set_option maxRecDepth 100000 in
theorem ji_257_76 : mj_ins 257 76 = some (.invokevirtual 333) := by decide +kernel
set_option maxRecDepth 100000 in
theorem jc_257_333 : mj_cal 257 333 = some (2, 245, 0) := by decide +kernel
set_option maxRecDepth 100000 in
theorem ji_257_79 : mj_ins 257 79 = some (.aload_n 0) := by decide +kernel
set_option maxRecDepth 100000 in
theorem ji_257_80 : mj_ins 257 80 = some (.iload 4) := by decide +kernel
set_option maxRecDepth 100000 in
theorem ji_257_82 : mj_ins 257 82 = some (.invokevirtual 381) := by decide +kernel
set_option maxRecDepth 100000 in
theorem jc_257_381 : mj_cal 257 381 = some (2, 258, 1) := by decide +kernel
set_option maxRecDepth 100000 in
theorem jn_258 : mj_nl 258 = 4 := by decide +kernel
set_option maxRecDepth 100000 in
theorem jk_258 : mj_cls 258 = 11 := by decide +kernel
set_option maxRecDepth 100000 in
theorem ji_257_85 : mj_ins 257 85 = some (.iinc 3 1) := by decide +kernel
set_option maxRecDepth 100000 in
theorem ji_257_88 : mj_ins 257 88 = some (.goto (-27)) := by decide +kernel
set_option maxRecDepth 100000 in
theorem ji_257_0 : mj_ins 257 0 = some (.iload_n 1) := by decide +kernel
set_option maxRecDepth 100000 in
theorem ji_257_1 : mj_ins 257 1 = some (.iconst 0) := by decide +kernel
set_option maxRecDepth 100000 in
theorem ji_257_2 : mj_ins 257 2 = some (.sipush 9999) := by decide +kernel
set_option maxRecDepth 100000 in
theorem ji_257_5 : mj_ins 257 5 = some (.invokestatic 66) := by decide +kernel
set_option maxRecDepth 100000 in
theorem jc_257_66 : mj_cal 257 66 = some (1, 171, 3) := by decide +kernel
set_option maxRecDepth 100000 in
theorem ji_257_8 : mj_ins 257 8 = some (.ifCond .eq 31) := by decide +kernel
set_option maxRecDepth 100000 in
theorem ji_257_39 : mj_ins 257 39 = some (.bipush (-2)) := by decide +kernel
set_option maxRecDepth 100000 in
theorem ji_257_41 : mj_ins 257 41 = some (.ireturn) := by decide +kernel
set_option maxRecDepth 100000 in
theorem ji_257_11 : mj_ins 257 11 = some (.iload_n 2) := by decide +kernel
set_option maxRecDepth 100000 in
theorem ji_257_12 : mj_ins 257 12 = some (.iconst 1) := by decide +kernel
set_option maxRecDepth 100000 in
theorem ji_257_13 : mj_ins 257 13 = some (.bipush 40) := by decide +kernel
set_option maxRecDepth 100000 in
theorem ji_257_15 : mj_ins 257 15 = some (.invokestatic 66) := by decide +kernel
set_option maxRecDepth 100000 in
theorem ji_257_18 : mj_ins 257 18 = some (.ifCond .eq 21) := by decide +kernel
set_option maxRecDepth 100000 in
theorem ji_257_21 : mj_ins 257 21 = some (.aload_n 0) := by decide +kernel
set_option maxRecDepth 100000 in
theorem ji_257_22 : mj_ins 257 22 = some (.getfield 7) := by decide +kernel
set_option maxRecDepth 100000 in
theorem ji_257_25 : mj_ins 257 25 = some (.iconst 0) := by decide +kernel
set_option maxRecDepth 100000 in
theorem ji_257_26 : mj_ins 257 26 = some (.iaload) := by decide +kernel
set_option maxRecDepth 100000 in
theorem ji_257_27 : mj_ins 257 27 = some (.ifCond .eq 12) := by decide +kernel
set_option maxRecDepth 100000 in
theorem ji_257_30 : mj_ins 257 30 = some (.aload_n 0) := by decide +kernel
set_option maxRecDepth 100000 in
theorem ji_257_31 : mj_ins 257 31 = some (.getfield 7) := by decide +kernel
set_option maxRecDepth 100000 in
theorem ji_257_34 : mj_ins 257 34 = some (.iconst 1) := by decide +kernel
set_option maxRecDepth 100000 in
theorem ji_257_35 : mj_ins 257 35 = some (.iaload) := by decide +kernel
set_option maxRecDepth 100000 in
theorem ji_257_36 : mj_ins 257 36 = some (.ifCond .ne 6) := by decide +kernel
set_option maxRecDepth 100000 in
theorem ji_257_42 : mj_ins 257 42 = some (.aload_n 0) := by decide +kernel
set_option maxRecDepth 100000 in
theorem ji_257_43 : mj_ins 257 43 = some (.invokevirtual 336) := by decide +kernel
set_option maxRecDepth 100000 in
theorem jc_257_336 : mj_cal 257 336 = some (2, 219, 0) := by decide +kernel
set_option maxRecDepth 100000 in
theorem ji_257_46 : mj_ins 257 46 = some (.aload_n 0) := by decide +kernel
set_option maxRecDepth 100000 in
theorem ji_257_47 : mj_ins 257 47 = some (.getfield 7) := by decide +kernel
set_option maxRecDepth 100000 in
theorem ji_257_50 : mj_ins 257 50 = some (.bipush 11) := by decide +kernel
set_option maxRecDepth 100000 in
theorem ji_257_52 : mj_ins 257 52 = some (.iload_n 1) := by decide +kernel
set_option maxRecDepth 100000 in
theorem ji_257_53 : mj_ins 257 53 = some (.iconst 2) := by decide +kernel
set_option maxRecDepth 100000 in
theorem ji_257_54 : mj_ins 257 54 = some (.imul) := by decide +kernel
set_option maxRecDepth 100000 in
theorem ji_257_55 : mj_ins 257 55 = some (.bipush 79) := by decide +kernel
set_option maxRecDepth 100000 in
theorem ji_257_57 : mj_ins 257 57 = some (.iadd) := by decide +kernel
set_option maxRecDepth 100000 in
theorem ji_257_58 : mj_ins 257 58 = some (.iastore) := by decide +kernel
set_option maxRecDepth 100000 in
theorem ji_257_59 : mj_ins 257 59 = some (.iconst 0) := by decide +kernel
set_option maxRecDepth 100000 in
theorem ji_257_60 : mj_ins 257 60 = some (.istore_n 3) := by decide +kernel
set_option maxRecDepth 100000 in
theorem ji_216_37 : mj_ins 216 37 = some (.iload_n 2) := by decide +kernel
set_option maxRecDepth 100000 in
theorem ji_216_38 : mj_ins 216 38 = some (.iconst 5) := by decide +kernel
set_option maxRecDepth 100000 in
theorem ji_216_39 : mj_ins 216 39 = some (.if_icmp .ge 28) := by decide +kernel
set_option maxRecDepth 100000 in
theorem ji_216_42 : mj_ins 216 42 = some (.aload_n 0) := by decide +kernel
set_option maxRecDepth 100000 in
theorem ji_216_43 : mj_ins 216 43 = some (.getfield 7) := by decide +kernel
set_option maxRecDepth 100000 in
theorem jf_216_7 : mj_fld 216 7 = some (11, 0, (.array .int), false) := by decide +kernel
set_option maxRecDepth 100000 in
theorem ji_216_46 : mj_ins 216 46 = some (.bipush 8) := by decide +kernel
set_option maxRecDepth 100000 in
theorem ji_216_48 : mj_ins 216 48 = some (.iload_n 2) := by decide +kernel
set_option maxRecDepth 100000 in
theorem ji_216_49 : mj_ins 216 49 = some (.iadd) := by decide +kernel
set_option maxRecDepth 100000 in
theorem ji_216_50 : mj_ins 216 50 = some (.aload_n 0) := by decide +kernel
set_option maxRecDepth 100000 in
theorem ji_216_51 : mj_ins 216 51 = some (.getfield 7) := by decide +kernel
set_option maxRecDepth 100000 in
theorem ji_216_54 : mj_ins 216 54 = some (.iload_n 1) := by decide +kernel
set_option maxRecDepth 100000 in
theorem ji_216_55 : mj_ins 216 55 = some (.iconst 1) := by decide +kernel
set_option maxRecDepth 100000 in
theorem ji_216_56 : mj_ins 216 56 = some (.iadd) := by decide +kernel
set_option maxRecDepth 100000 in
theorem ji_216_57 : mj_ins 216 57 = some (.iload_n 2) := by decide +kernel
set_option maxRecDepth 100000 in
theorem ji_216_58 : mj_ins 216 58 = some (.iadd) := by decide +kernel
set_option maxRecDepth 100000 in
theorem ji_216_59 : mj_ins 216 59 = some (.iaload) := by decide +kernel
set_option maxRecDepth 100000 in
theorem ji_216_60 : mj_ins 216 60 = some (.iastore) := by decide +kernel
set_option maxRecDepth 100000 in
theorem ji_216_61 : mj_ins 216 61 = some (.iinc 2 1) := by decide +kernel
set_option maxRecDepth 100000 in
theorem ji_216_64 : mj_ins 216 64 = some (.goto (-27)) := by decide +kernel
set_option maxRecDepth 100000 in
theorem ji_216_69 : mj_ins 216 69 = some (.iload_n 2) := by decide +kernel
set_option maxRecDepth 100000 in
theorem ji_216_70 : mj_ins 216 70 = some (.aload_n 0) := by decide +kernel
set_option maxRecDepth 100000 in
theorem ji_216_71 : mj_ins 216 71 = some (.getfield 7) := by decide +kernel
set_option maxRecDepth 100000 in
theorem ji_216_74 : mj_ins 216 74 = some (.iconst 0) := by decide +kernel
set_option maxRecDepth 100000 in
theorem ji_216_75 : mj_ins 216 75 = some (.iaload) := by decide +kernel
set_option maxRecDepth 100000 in
theorem ji_216_76 : mj_ins 216 76 = some (.if_icmp .ge 57) := by decide +kernel
set_option maxRecDepth 100000 in
theorem ji_216_79 : mj_ins 216 79 = some (.aload_n 0) := by decide +kernel
set_option maxRecDepth 100000 in
theorem ji_216_80 : mj_ins 216 80 = some (.getfield 7) := by decide +kernel
set_option maxRecDepth 100000 in
theorem ji_216_83 : mj_ins 216 83 = some (.bipush 16) := by decide +kernel
set_option maxRecDepth 100000 in
theorem ji_216_85 : mj_ins 216 85 = some (.iconst 3) := by decide +kernel
set_option maxRecDepth 100000 in
theorem ji_216_86 : mj_ins 216 86 = some (.iload_n 2) := by decide +kernel
set_option maxRecDepth 100000 in
theorem ji_216_87 : mj_ins 216 87 = some (.imul) := by decide +kernel
set_option maxRecDepth 100000 in
theorem ji_216_88 : mj_ins 216 88 = some (.iadd) := by decide +kernel
set_option maxRecDepth 100000 in
theorem ji_216_89 : mj_ins 216 89 = some (.iload_n 2) := by decide +kernel
set_option maxRecDepth 100000 in
theorem ji_216_90 : mj_ins 216 90 = some (.aload_n 0) := by decide +kernel
set_option maxRecDepth 100000 in
theorem ji_216_91 : mj_ins 216 91 = some (.getfield 7) := by decide +kernel
set_option maxRecDepth 100000 in
theorem ji_216_94 : mj_ins 216 94 = some (.iload_n 1) := by decide +kernel
set_option maxRecDepth 100000 in
theorem ji_216_95 : mj_ins 216 95 = some (.iaload) := by decide +kernel
set_option maxRecDepth 100000 in
theorem ji_216_96 : mj_ins 216 96 = some (.if_icmp .ge 17) := by decide +kernel
set_option maxRecDepth 100000 in
theorem ji_216_113 : mj_ins 216 113 = some (.aload_n 0) := by decide +kernel
set_option maxRecDepth 100000 in
theorem ji_216_114 : mj_ins 216 114 = some (.getfield 7) := by decide +kernel
set_option maxRecDepth 100000 in
theorem ji_216_117 : mj_ins 216 117 = some (.bipush 16) := by decide +kernel
set_option maxRecDepth 100000 in
theorem ji_216_119 : mj_ins 216 119 = some (.iconst 3) := by decide +kernel
set_option maxRecDepth 100000 in
theorem ji_216_120 : mj_ins 216 120 = some (.iload_n 2) := by decide +kernel
set_option maxRecDepth 100000 in
theorem ji_216_121 : mj_ins 216 121 = some (.imul) := by decide +kernel
set_option maxRecDepth 100000 in
theorem ji_216_122 : mj_ins 216 122 = some (.iadd) := by decide +kernel
set_option maxRecDepth 100000 in
theorem ji_216_123 : mj_ins 216 123 = some (.iconst 2) := by decide +kernel
set_option maxRecDepth 100000 in
theorem ji_216_124 : mj_ins 216 124 = some (.iadd) := by decide +kernel
set_option maxRecDepth 100000 in
theorem ji_216_125 : mj_ins 216 125 = some (.iaload) := by decide +kernel
set_option maxRecDepth 100000 in
theorem ji_216_126 : mj_ins 216 126 = some (.iastore) := by decide +kernel
set_option maxRecDepth 100000 in
theorem ji_216_127 : mj_ins 216 127 = some (.iinc 2 1) := by decide +kernel
set_option maxRecDepth 100000 in
theorem ji_216_130 : mj_ins 216 130 = some (.goto (-61)) := by decide +kernel
set_option maxRecDepth 100000 in
theorem ji_216_99 : mj_ins 216 99 = some (.aload_n 0) := by decide +kernel
set_option maxRecDepth 100000 in
theorem ji_216_100 : mj_ins 216 100 = some (.getfield 7) := by decide +kernel
set_option maxRecDepth 100000 in
theorem ji_216_103 : mj_ins 216 103 = some (.iload_n 1) := by decide +kernel
set_option maxRecDepth 100000 in
theorem ji_216_104 : mj_ins 216 104 = some (.bipush 6) := by decide +kernel
set_option maxRecDepth 100000 in
theorem ji_216_106 : mj_ins 216 106 = some (.iadd) := by decide +kernel
set_option maxRecDepth 100000 in
theorem ji_216_107 : mj_ins 216 107 = some (.iload_n 2) := by decide +kernel
set_option maxRecDepth 100000 in
theorem ji_216_108 : mj_ins 216 108 = some (.iadd) := by decide +kernel
set_option maxRecDepth 100000 in
theorem ji_216_109 : mj_ins 216 109 = some (.iaload) := by decide +kernel
set_option maxRecDepth 100000 in
theorem ji_216_110 : mj_ins 216 110 = some (.goto 16) := by decide +kernel
set_option maxRecDepth 100000 in
theorem ji_216_135 : mj_ins 216 135 = some (.iload_n 2) := by decide +kernel
set_option maxRecDepth 100000 in
theorem ji_216_136 : mj_ins 216 136 = some (.bipush 96) := by decide +kernel
set_option maxRecDepth 100000 in
theorem ji_216_138 : mj_ins 216 138 = some (.if_icmp .ge 29) := by decide +kernel
set_option maxRecDepth 100000 in
theorem ji_216_141 : mj_ins 216 141 = some (.aload_n 0) := by decide +kernel
set_option maxRecDepth 100000 in
theorem ji_216_142 : mj_ins 216 142 = some (.getfield 7) := by decide +kernel
set_option maxRecDepth 100000 in
theorem ji_216_145 : mj_ins 216 145 = some (.bipush 52) := by decide +kernel
set_option maxRecDepth 100000 in
theorem ji_216_147 : mj_ins 216 147 = some (.iload_n 2) := by decide +kernel
set_option maxRecDepth 100000 in
theorem ji_216_148 : mj_ins 216 148 = some (.iadd) := by decide +kernel
set_option maxRecDepth 100000 in
theorem ji_216_149 : mj_ins 216 149 = some (.aload_n 0) := by decide +kernel
set_option maxRecDepth 100000 in
theorem ji_216_150 : mj_ins 216 150 = some (.getfield 7) := by decide +kernel
set_option maxRecDepth 100000 in
theorem ji_216_153 : mj_ins 216 153 = some (.iload_n 1) := by decide +kernel
set_option maxRecDepth 100000 in
theorem ji_216_154 : mj_ins 216 154 = some (.bipush 14) := by decide +kernel
set_option maxRecDepth 100000 in
theorem ji_216_156 : mj_ins 216 156 = some (.iadd) := by decide +kernel
set_option maxRecDepth 100000 in
theorem ji_216_157 : mj_ins 216 157 = some (.iload_n 2) := by decide +kernel
set_option maxRecDepth 100000 in
theorem ji_216_158 : mj_ins 216 158 = some (.iadd) := by decide +kernel
set_option maxRecDepth 100000 in
theorem ji_216_159 : mj_ins 216 159 = some (.iaload) := by decide +kernel
set_option maxRecDepth 100000 in
theorem ji_216_160 : mj_ins 216 160 = some (.iastore) := by decide +kernel
set_option maxRecDepth 100000 in
theorem ji_216_161 : mj_ins 216 161 = some (.iinc 2 1) := by decide +kernel
set_option maxRecDepth 100000 in
theorem ji_216_164 : mj_ins 216 164 = some (.goto (-29)) := by decide +kernel
set_option maxRecDepth 100000 in
theorem ji_216_0 : mj_ins 216 0 = some (.aload_n 0) := by decide +kernel
set_option maxRecDepth 100000 in
theorem ji_216_1 : mj_ins 216 1 = some (.getfield 7) := by decide +kernel
set_option maxRecDepth 100000 in
theorem ji_216_4 : mj_ins 216 4 = some (.iconst 4) := by decide +kernel
set_option maxRecDepth 100000 in
theorem ji_216_5 : mj_ins 216 5 = some (.iaload) := by decide +kernel
set_option maxRecDepth 100000 in
theorem ji_216_6 : mj_ins 216 6 = some (.ifCond .ne 5) := by decide +kernel
set_option maxRecDepth 100000 in
theorem ji_216_11 : mj_ins 216 11 = some (.aload_n 0) := by decide +kernel
set_option maxRecDepth 100000 in
theorem ji_216_12 : mj_ins 216 12 = some (.getfield 7) := by decide +kernel
set_option maxRecDepth 100000 in
theorem ji_216_15 : mj_ins 216 15 = some (.iconst 4) := by decide +kernel
set_option maxRecDepth 100000 in
theorem ji_216_16 : mj_ins 216 16 = some (.dup2) := by decide +kernel
set_option maxRecDepth 100000 in
theorem ji_216_17 : mj_ins 216 17 = some (.iaload) := by decide +kernel
set_option maxRecDepth 100000 in
theorem ji_216_18 : mj_ins 216 18 = some (.iconst 1) := by decide +kernel
set_option maxRecDepth 100000 in
theorem ji_216_19 : mj_ins 216 19 = some (.isub) := by decide +kernel
set_option maxRecDepth 100000 in
theorem ji_216_20 : mj_ins 216 20 = some (.iastore) := by decide +kernel
set_option maxRecDepth 100000 in
theorem ji_216_21 : mj_ins 216 21 = some (.sipush 184) := by decide +kernel
set_option maxRecDepth 100000 in
theorem ji_216_24 : mj_ins 216 24 = some (.bipush 110) := by decide +kernel
set_option maxRecDepth 100000 in
theorem ji_216_26 : mj_ins 216 26 = some (.aload_n 0) := by decide +kernel
set_option maxRecDepth 100000 in
theorem ji_216_27 : mj_ins 216 27 = some (.getfield 7) := by decide +kernel
set_option maxRecDepth 100000 in
theorem ji_216_30 : mj_ins 216 30 = some (.iconst 4) := by decide +kernel
set_option maxRecDepth 100000 in
theorem ji_216_31 : mj_ins 216 31 = some (.iaload) := by decide +kernel
set_option maxRecDepth 100000 in
theorem ji_216_32 : mj_ins 216 32 = some (.imul) := by decide +kernel
set_option maxRecDepth 100000 in
theorem ji_216_33 : mj_ins 216 33 = some (.iadd) := by decide +kernel
set_option maxRecDepth 100000 in
theorem ji_216_34 : mj_ins 216 34 = some (.istore_n 1) := by decide +kernel
set_option maxRecDepth 100000 in
theorem ji_216_35 : mj_ins 216 35 = some (.iconst 0) := by decide +kernel
set_option maxRecDepth 100000 in
theorem ji_216_36 : mj_ins 216 36 = some (.istore_n 2) := by decide +kernel
set_option maxRecDepth 100000 in
theorem ji_216_167 : mj_ins 216 167 = some (.aload_n 0) := by decide +kernel
set_option maxRecDepth 100000 in
theorem ji_216_168 : mj_ins 216 168 = some (.getfield 7) := by decide +kernel
set_option maxRecDepth 100000 in
theorem ji_216_171 : mj_ins 216 171 = some (.iconst 4) := by decide +kernel
set_option maxRecDepth 100000 in
theorem ji_216_172 : mj_ins 216 172 = some (.iaload) := by decide +kernel
set_option maxRecDepth 100000 in
theorem ji_216_173 : mj_ins 216 173 = some (.ireturn) := by decide +kernel
set_option maxRecDepth 100000 in
theorem jr_216 : mj_ret 216 = some .int := by decide +kernel
set_option maxRecDepth 100000 in
theorem ji_216_67 : mj_ins 216 67 = some (.iconst 0) := by decide +kernel
set_option maxRecDepth 100000 in
theorem ji_216_68 : mj_ins 216 68 = some (.istore_n 2) := by decide +kernel
set_option maxRecDepth 100000 in
theorem ji_216_133 : mj_ins 216 133 = some (.iconst 0) := by decide +kernel
set_option maxRecDepth 100000 in
theorem ji_216_134 : mj_ins 216 134 = some (.istore_n 2) := by decide +kernel
set_option maxRecDepth 100000 in
theorem ji_216_9 : mj_ins 216 9 = some (.iconst (-1)) := by decide +kernel
set_option maxRecDepth 100000 in
theorem ji_216_10 : mj_ins 216 10 = some (.ireturn) := by decide +kernel
/-! centuries, a step taken back, in the reference; laid by program (wp_u53.py) -/
theorem uc_257l {d : Nat} {u : sg_} {cr : crs} {M sd n : Int} (hM : M ≤ 1000000000) (hn : 1 ≤ n ∧ n ≤ 40) (T : RT u cr M) (h0 : ¬ u 139 0 = 0) (h1 : ¬ u 139 1 = 0) : ∀ (nn i : Nat) (l4 : Option Value) (h : mj_H), CS h (ctsR cr u i) → (i : Int) ≤ n → wl_R nn (d + 10) 257 61 [some (.ref 138), some (wp_i sd), some (wp_i n), some (wp_i ((i : Int))), l4] [] h (fun v1 h1 => v1 = some (wp_i (ctsR cr u n.toNat 139 10)) ∧ CS h1 (ctsR cr u n.toNat)) := by
  intro nn
  induction nn with
  | zero => intros; exact wl_0
  | succ nn ih =>
    intro i l4 h C hi
    have G := ctsR_RT T h0 h1 i
    obtain ⟨t, et⟩ : ∃ t, ctsR cr u i = t := ⟨_, rfl⟩
    rw [et] at C G
    have G1 := G.1
    have g0 := G.2 0 (by decide)
    have g1 := G.2 1 (by decide)
    have ix := G1.rs.g.x
    refine wl_s1 (pc' := 62) ji_257_61 rfl rfl rfl ?_
    refine wl_s (pc' := 63) ji_257_62 rfl rfl rfl ?_
    refine wl_icmp (t := 91) ji_257_63 rfl (by omega) (by omega) (fun (hb1 : (n : Int) ≤ ((i : Int))) => ?_) (fun (hb1 : ¬ ((n : Int) ≤ ((i : Int)))) => ?_)
    · refine wl_s (pc' := 92) ji_257_91 rfl rfl rfl ?_
      refine cs_gr (r := 139) (k := 0) C (by decide) sq_138 rfl ji_257_92 jf_257_7 ?_
      refine wl_bp ji_257_95 rfl ?_
      refine cs_l (x := 10) C (by decide) (by decide) sq_139 (by omega) ji_257_97 (fun ld20 ld21 ld22 => ?_)
      exact wl_ri ji_257_98 jr_257 rfl (⟨congrArg (fun z => some (wp_i z)) (by rw [← et, show i = n.toNat by omega]), cs_mono C (by rw [← et, show i = n.toNat by omega])⟩)
    · refine wl_s (pc' := 67) ji_257_66 rfl rfl rfl ?_
      refine cs_gr (r := 139) (k := 0) C (by decide) sq_138 rfl ji_257_67 jf_257_7 ?_
      refine wl_bp ji_257_70 rfl ?_
      refine cs_l (x := 11) C (by decide) (by decide) sq_139 (by omega) ji_257_72 (fun ld30 ld31 ld32 => ?_)
      refine wl_s (pc' := 75) (lv' := [some (.ref 138), some (wp_i sd), some (wp_i n), some (wp_i ((i : Int))), some (wp_i (t 139 11))]) ji_257_73 rfl rfl rfl ?_
      refine wl_s (pc' := 76) ji_257_75 rfl rfl rfl ?_
      obtain ⟨q5, hq5⟩ := cs_c C (by decide) sq_138
      refine wl_vc (d := d + 9) (as := [.ref 138]) (rest := []) ji_257_76 jc_257_333 rfl hq5 jk_245.symm (Nat.le_of_ble_eq_true rfl) rfl (by rw [jn_245]; rfl) (uc_245 (d := d + 9) C ix) (fun v1 h4 R => ?_)
      obtain ⟨rfl, C⟩ := R
      obtain ⟨t1, et1⟩ : ∃ z9_, up t 139 11 ((t 139 11 * 283 + 181) % 30307) = z9_ := ⟨_, rfl⟩
      rw [et1] at C
      have T1 : RT t1 cr (M + (i : Int)) := et1 ▸ RT_11 G1 (by omega)
      have u0 : t1 139 0 = t 139 0 := by rw [← et1, up_k (by decide)]
      have u1 : t1 139 1 = t 139 1 := by rw [← et1, up_k (by decide)]
      show wl_R _ _ 257 79 [some (.ref 138), some (wp_i sd), some (wp_i n), some (wp_i ((i : Int))), some (wp_i (t 139 11))] [] h4 _
      refine wl_s (pc' := 80) ji_257_79 rfl rfl rfl ?_
      refine wl_s (pc' := 82) ji_257_80 rfl rfl rfl ?_
      obtain ⟨q7, hq7⟩ := cs_c C (by decide) sq_138
      refine wl_vc (d := d + 9) (as := [.ref 138, wp_i (t 139 11)]) (rest := []) ji_257_82 jc_257_381 rfl hq7 jk_258.symm (Nat.le_of_ble_eq_true rfl) rfl (by rw [jn_258]; rfl) (uc_258 (d := d) C (M := M + (i : Int)) (by omega) T1 (by omega) (by omega) (x := t 139 11) (by omega)) (fun v1 h6 R => ?_)
      obtain ⟨rfl, C⟩ := R
      show wl_R _ _ 257 85 [some (.ref 138), some (wp_i sd), some (wp_i n), some (wp_i ((i : Int))), some (wp_i (t 139 11))] [] h6 _
      refine wl_iinc (x := (i : Int)) (z := (i : Int) + 1) (lv' := [some (.ref 138), some (wp_i sd), some (wp_i n), some (wp_i ((i : Int) + 1)), some (wp_i (t 139 11))]) ji_257_85 rfl (Nat.le_of_ble_eq_true rfl) (by omega) rfl ?_
      refine wl_goto (t := 61) ji_257_88 rfl ?_
      rw [show (i : Int) + 1 = ((i + 1 : Nat) : Int) by omega]
      exact ih (i + 1) _ _ (cs_mono C (show hapR cr t1 (t 139 11) = ctsR cr u (i + 1) by rw [← et1, ← et]; rfl)) (by omega)
def ctwR (cr : crs) (s : sg_) (sd n : Int) : sg_ := ctsR cr (up (keepR s) 139 11 (sd * 2 + 79)) n.toNat
abbrev ctOk (sd n a b : Int) : Prop := (0 ≤ sd ∧ sd ≤ 9999) ∧ (1 ≤ n ∧ n ≤ 40) ∧ ¬ a = 0 ∧ ¬ b = 0
theorem uc_257 {nn d : Nat} {h : mj_H} {s : sg_} (C : CS h s) {cr : crs} {M sd n : Int} (hM : M ≤ 1000000000) (T : RT s cr M) (hs : wp_r sd) (hn : wp_r n) : wl_R nn (d + 10) 257 0 [some (.ref 138), some (wp_i sd), some (wp_i n), none, none] [] h (fun v1 h1 => (ctOk sd n (s 139 0) (s 139 1) ∧ v1 = some (wp_i (ctwR cr s sd n 139 10)) ∧ CS h1 (ctwR cr s sd n)) ∨ (¬ ctOk sd n (s 139 0) (s 139 1) ∧ v1 = some (wp_i (-2)) ∧ CS h1 s)) := by
  have i0 := T.rs.g.p0
  have i1 := T.rs.g.w0
  unfold ctOk
  refine wl_s (pc' := 1) ji_257_0 rfl rfl rfl ?_
  refine wl_s (pc' := 2) ji_257_1 rfl rfl rfl ?_
  refine wl_sp ji_257_2 rfl ?_
  refine wl_sc (d := d + 9) (as := [wp_i sd, wp_i 0, wp_i 9999]) (rest := []) ji_257_5 jc_257_66 (Nat.le_of_ble_eq_true rfl) rfl (Nat.le_of_ble_eq_true rfl) rfl (by rw [jn_171]; rfl) (uc_171 (d := d + 9) (x := sd) (a := 0) (b := 9999) (by omega) (by omega) (by omega)) (fun v1 h1 R => ?_)
  obtain ⟨ee, y2, rfl, hy2a, hy2b⟩ := R
  rw [ee]
  clear ee
  show wl_R _ _ 257 8 [some (.ref 138), some (wp_i sd), some (wp_i n), none, none] [wp_i y2] _ _
  refine wl_if (t := 39) ji_257_8 rfl (by omega) (fun (hb3 : (y2 : Int) = 0) => ?_) (fun (hb3 : ¬ ((y2 : Int) = 0)) => ?_)
  · refine wl_bp ji_257_39 rfl ?_
    exact wl_ri ji_257_41 jr_257 rfl (Or.inr ⟨by omega, rfl, C⟩)
  · refine wl_s (pc' := 12) ji_257_11 rfl rfl rfl ?_
    refine wl_s (pc' := 13) ji_257_12 rfl rfl rfl ?_
    refine wl_bp ji_257_13 rfl ?_
    refine wl_sc (d := d + 9) (as := [wp_i n, wp_i 1, wp_i 40]) (rest := []) ji_257_15 jc_257_66 (Nat.le_of_ble_eq_true rfl) rfl (Nat.le_of_ble_eq_true rfl) rfl (by rw [jn_171]; rfl) (uc_171 (d := d + 9) (x := n) (a := 1) (b := 40) (by omega) (by omega) (by omega)) (fun v1 h4 R => ?_)
    obtain ⟨ee, y5, rfl, hy5a, hy5b⟩ := R
    rw [ee]
    clear ee
    show wl_R _ _ 257 18 [some (.ref 138), some (wp_i sd), some (wp_i n), none, none] [wp_i y5] _ _
    refine wl_if (t := 39) ji_257_18 rfl (by omega) (fun (hb6 : (y5 : Int) = 0) => ?_) (fun (hb6 : ¬ ((y5 : Int) = 0)) => ?_)
    · refine wl_bp ji_257_39 rfl ?_
      exact wl_ri ji_257_41 jr_257 rfl (Or.inr ⟨by omega, rfl, C⟩)
    · refine wl_s (pc' := 22) ji_257_21 rfl rfl rfl ?_
      refine cs_gr (r := 139) (k := 0) C (by decide) sq_138 rfl ji_257_22 jf_257_7 ?_
      refine wl_s (pc' := 26) ji_257_25 rfl rfl rfl ?_
      refine cs_l (x := 0) C (by decide) (by decide) sq_139 (by omega) ji_257_26 (fun ld70 ld71 ld72 => ?_)
      refine wl_if (t := 39) ji_257_27 rfl (by omega) (fun (hb8 : (s 139 0 : Int) = 0) => ?_) (fun (hb8 : ¬ ((s 139 0 : Int) = 0)) => ?_)
      · refine wl_bp ji_257_39 rfl ?_
        exact wl_ri ji_257_41 jr_257 rfl (Or.inr ⟨by omega, rfl, C⟩)
      · refine wl_s (pc' := 31) ji_257_30 rfl rfl rfl ?_
        refine cs_gr (r := 139) (k := 0) C (by decide) sq_138 rfl ji_257_31 jf_257_7 ?_
        refine wl_s (pc' := 35) ji_257_34 rfl rfl rfl ?_
        refine cs_l (x := 1) C (by decide) (by decide) sq_139 (by omega) ji_257_35 (fun ld90 ld91 ld92 => ?_)
        refine wl_if (t := 42) ji_257_36 rfl (by omega) (fun (hb10 : ¬ (s 139 1 : Int) = 0) => ?_) (fun (hb10 : ¬ (¬ (s 139 1 : Int) = 0)) => ?_)
        · refine wl_s (pc' := 43) ji_257_42 rfl rfl rfl ?_
          obtain ⟨q12, hq12⟩ := cs_c C (by decide) sq_138
          refine wl_vc (d := d + 9) (as := [.ref 138]) (rest := []) ji_257_43 jc_257_336 rfl hq12 jk_219.symm (Nat.le_of_ble_eq_true rfl) rfl (by rw [jn_219]; rfl) (uc_219 (d := d + 8) T.k C) (fun v1 h11 R => ?_)
          obtain ⟨rfl, C⟩ := R
          obtain ⟨t, et⟩ : ∃ z9_, keepR s = z9_ := ⟨_, rfl⟩
          rw [et] at C
          show wl_R _ _ 257 46 [some (.ref 138), some (wp_i sd), some (wp_i n), none, none] [] h11 _
          refine wl_s (pc' := 47) ji_257_46 rfl rfl rfl ?_
          refine cs_gr (r := 139) (k := 0) C (by decide) sq_138 rfl ji_257_47 jf_257_7 ?_
          refine wl_bp ji_257_50 rfl ?_
          refine wl_s (pc' := 53) ji_257_52 rfl rfl rfl ?_
          refine wl_s (pc' := 54) ji_257_53 rfl rfl rfl ?_
          refine wl_imul (x := sd) (y := 2) (z := sd * 2) ji_257_54 (by omega) ?_
          refine wl_bp ji_257_55 rfl ?_
          refine wl_iadd (x := sd * 2) (y := 79) (z := sd * 2 + 79) ji_257_57 (by omega) ?_
          refine cs_s (x := 11) (y := sd * 2 + 79) C (by decide) sq_139 (by omega) (by omega) ji_257_58 (fun h st130 st131 C => ?_)
          obtain ⟨s14, es14⟩ : ∃ z9_, up t 139 11 (sd * 2 + 79) = z9_ := ⟨_, rfl⟩
          rw [es14] at C
          refine wl_s (pc' := 60) ji_257_59 rfl rfl rfl ?_
          refine wl_s (pc' := 61) (lv' := [some (.ref 138), some (wp_i sd), some (wp_i n), some (wp_i 0), none]) ji_257_60 rfl rfl rfl ?_
          have eu : up (keepR s) 139 11 (sd * 2 + 79) = s14 := by rw [et, es14]
          have T2 : RT s14 cr M := eu ▸ RT_11 (keepR_RT T) (by omega)
          have q : ∀ j, j < 3 → s14 139 j = s 139 j := fun j hj => by rw [← eu, up_k (by omega), keepR_fr T.k.1 (Or.inr ⟨by omega, by omega⟩)]
          refine wl_mono (uc_257l (u := s14) hM (by omega) T2 (by rw [q 0 (by decide)]; omega) (by rw [q 1 (by decide)]; omega) nn 0 _ _ C (by omega)) (fun v1 h1 R => Or.inl ⟨by omega, ?_⟩)
          unfold ctwR; rw [eu]; exact R
        · refine wl_bp ji_257_39 rfl ?_
          exact wl_ri ji_257_41 jr_257 rfl (Or.inr ⟨by omega, rfl, C⟩)
def ud1 (s : sg_) (a m : Int) : sg_ := fun b j => if b = 139 ∧ 8 ≤ j ∧ j < 8 + m then s 139 (j - 7 + a) else s b j
theorem ud1_s {s : sg_} {a m : Int} (hm : 0 ≤ m) : up (ud1 s a m) 139 (8 + m) (s 139 (a + 1 + m)) = ud1 s a (m + 1) := by
  funext b j
  unfold up ud1
  by_cases h1 : b = 139 ∧ j = 8 + m
  · obtain ⟨rfl, rfl⟩ := h1
    rw [if_pos ⟨rfl, rfl⟩, if_pos ⟨rfl, by omega, by omega⟩, show 8 + m - 7 + a = a + 1 + m by omega]
  · rw [if_neg h1]
    by_cases h2 : b = 139 ∧ 8 ≤ j ∧ j < 8 + m
    · rw [if_pos h2, if_pos ⟨h2.1, h2.2.1, by omega⟩]
    · rw [if_neg h2, if_neg (fun z => h2 ⟨z.1, z.2.1, by by_cases e : j = 8 + m; exact absurd ⟨z.1, e⟩ h1; omega⟩)]
theorem ud1_0 {s : sg_} {a : Int} : ud1 s a 0 = s := by
  funext b j
  exact if_neg (by omega)
theorem ud1_fr {s : sg_} {a m : Int} {b : Nat} {j : Int} (h : ¬ b = 139 ∨ j < 8 ∨ 8 + m ≤ j) : ud1 s a m b j = s b j := if_neg (by omega)
def ud2 (s : sg_) (a m : Int) : sg_ := fun b j => if b = 139 ∧ 16 ≤ j ∧ j < 16 + 3 * m ∧ (j - 16) % 3 = 0 then (if (j - 16) / 3 < s 139 a then s 139 (a + 6 + (j - 16) / 3) else s 139 (j + 2)) else s b j
theorem ud2_s {s : sg_} {a m : Int} (hm : 0 ≤ m) : up (ud2 s a m) 139 (16 + 3 * m) (if m < s 139 a then s 139 (a + 6 + m) else s 139 (16 + 3 * m + 2)) = ud2 s a (m + 1) := by
  funext b j
  unfold up ud2
  by_cases h1 : b = 139 ∧ j = 16 + 3 * m
  · obtain ⟨rfl, rfl⟩ := h1
    rw [if_pos ⟨rfl, rfl⟩]
    refine Eq.trans ?_ (if_pos ⟨rfl, by omega, by omega, by omega⟩).symm
    rw [show (16 + 3 * m - 16) / 3 = m by omega]
  · rw [if_neg h1]
    by_cases h2 : b = 139 ∧ 16 ≤ j ∧ j < 16 + 3 * m ∧ (j - 16) % 3 = 0
    · rw [if_pos h2]
      exact (if_pos ⟨h2.1, h2.2.1, by omega, h2.2.2.2⟩).symm
    · rw [if_neg h2, if_neg (fun z => h2 ⟨z.1, z.2.1, by by_cases e : j = 16 + 3 * m; exact absurd ⟨z.1, e⟩ h1; omega, z.2.2.2⟩)]
theorem ud2_0 {s : sg_} {a : Int} : ud2 s a 0 = s := by
  funext b j
  exact if_neg (by omega)
theorem ud2_fr {s : sg_} {a m : Int} {b : Nat} {j : Int} (h : ¬ b = 139 ∨ j < 16 ∨ 16 + 3 * m ≤ j ∨ ¬ (j - 16) % 3 = 0) : ud2 s a m b j = s b j := if_neg (by omega)
def ud3 (s : sg_) (a m : Int) : sg_ := fun b j => if b = 139 ∧ 52 ≤ j ∧ j < 52 + m then s 139 (j - 38 + a) else s b j
theorem ud3_s {s : sg_} {a m : Int} (hm : 0 ≤ m) : up (ud3 s a m) 139 (52 + m) (s 139 (a + 14 + m)) = ud3 s a (m + 1) := by
  funext b j
  unfold up ud3
  by_cases h1 : b = 139 ∧ j = 52 + m
  · obtain ⟨rfl, rfl⟩ := h1
    rw [if_pos ⟨rfl, rfl⟩, if_pos ⟨rfl, by omega, by omega⟩, show 52 + m - 38 + a = a + 14 + m by omega]
  · rw [if_neg h1]
    by_cases h2 : b = 139 ∧ 52 ≤ j ∧ j < 52 + m
    · rw [if_pos h2, if_pos ⟨h2.1, h2.2.1, by omega⟩]
    · rw [if_neg h2, if_neg (fun z => h2 ⟨z.1, z.2.1, by by_cases e : j = 52 + m; exact absurd ⟨z.1, e⟩ h1; omega⟩)]
theorem ud3_0 {s : sg_} {a : Int} : ud3 s a 0 = s := by
  funext b j
  exact if_neg (by omega)
theorem ud3_fr {s : sg_} {a m : Int} {b : Nat} {j : Int} (h : ¬ b = 139 ∨ j < 52 ∨ 52 + m ≤ j) : ud3 s a m b j = s b j := if_neg (by omega)
theorem uc_2161 {d : Nat} {s : sg_} {Q : Option Value → mj_H → Prop} {a : Int} (ha : 184 ≤ a ∧ a ≤ 3374) : ∀ (nn : Nat) (i : Int) (h : mj_H), (0 ≤ i ∧ i ≤ 5) → CS h (ud1 s a i) → (∀ (nn : Nat) (h : mj_H), CS h (ud1 s a (5)) → ∀ i : Int, wl_R nn d 216 67 [some (.ref 138), some (wp_i a), some (wp_i i)] [] h Q) → wl_R nn d 216 37 [some (.ref 138), some (wp_i a), some (wp_i i)] [] h Q := by
  intro nn
  induction nn with
  | zero => intros; exact wl_0
  | succ nn ih =>
    intro i h hi C hk
    obtain ⟨t, et⟩ : ∃ t, ud1 s a i = t := ⟨_, rfl⟩
    rw [et] at C
    have ta : t 139 (a + 1 + i) = s 139 (a + 1 + i) := by rw [← et, ud1_fr (by omega)]
    refine wl_s1 (pc' := 38) ji_216_37 rfl rfl rfl ?_
    refine wl_s (pc' := 39) ji_216_38 rfl rfl rfl ?_
    refine wl_icmp (t := 67) ji_216_39 rfl (by omega) (by omega) (fun (hb1 : (5 : Int) ≤ i) => ?_) (fun (hb1 : ¬ ((5 : Int) ≤ i)) => ?_)
    · exact hk _ _ (cs_mono C (by rw [← et, show i = 5 by omega])) i
    · refine wl_s (pc' := 43) ji_216_42 rfl rfl rfl ?_
      refine cs_gr (r := 139) (k := 0) C (by decide) sq_138 rfl ji_216_43 jf_216_7 ?_
      refine wl_bp ji_216_46 rfl ?_
      refine wl_s (pc' := 49) ji_216_48 rfl rfl rfl ?_
      refine wl_iadd (x := 8) (y := i) (z := 8 + i) ji_216_49 (by omega) ?_
      refine wl_s (pc' := 51) ji_216_50 rfl rfl rfl ?_
      refine cs_gr (r := 139) (k := 0) C (by decide) sq_138 rfl ji_216_51 jf_216_7 ?_
      refine wl_s (pc' := 55) ji_216_54 rfl rfl rfl ?_
      refine wl_s (pc' := 56) ji_216_55 rfl rfl rfl ?_
      refine wl_iadd (x := a) (y := 1) (z := a + 1) ji_216_56 (by omega) ?_
      refine wl_s (pc' := 58) ji_216_57 rfl rfl rfl ?_
      refine wl_iadd (x := a + 1) (y := i) (z := a + 1 + i) ji_216_58 (by omega) ?_
      refine cs_l (x := a + 1 + i) C (by decide) (by decide) sq_139 (by omega) ji_216_59 (fun ld20 ld21 ld22 => ?_)
      rw [ta] at ld22 ⊢
      refine cs_s (x := 8 + i) (y := s 139 (a + 1 + i)) C (by decide) sq_139 (by omega) (by omega) ji_216_60 (fun h st30 st31 C => ?_)
      obtain ⟨s4, es4⟩ : ∃ z9_, up t 139 (8 + i) (s 139 (a + 1 + i)) = z9_ := ⟨_, rfl⟩
      rw [es4] at C
      refine wl_iinc (x := i) (z := i + 1) (lv' := [some (.ref 138), some (wp_i a), some (wp_i (i + 1))]) ji_216_61 rfl (Nat.le_of_ble_eq_true rfl) (by omega) rfl ?_
      refine wl_goto (t := 37) ji_216_64 rfl ?_
      exact ih (i + 1) _ (by omega) (cs_mono C (by rw [← es4, ← et, ← ud1_s (by omega)])) hk
theorem uc_2162 {d : Nat} {s : sg_} {Q : Option Value → mj_H → Prop} {a : Int} (ha : 184 ≤ a ∧ a ≤ 3374) (i0 : 0 ≤ s 139 0 ∧ s 139 0 ≤ 8) : ∀ (nn : Nat) (i : Int) (h : mj_H), (0 ≤ i ∧ i ≤ s 139 0) → CS h (ud2 s a i) → (∀ (nn : Nat) (h : mj_H), CS h (ud2 s a (s 139 0)) → ∀ i : Int, wl_R nn d 216 133 [some (.ref 138), some (wp_i a), some (wp_i i)] [] h Q) → wl_R nn d 216 69 [some (.ref 138), some (wp_i a), some (wp_i i)] [] h Q := by
  intro nn
  induction nn with
  | zero => intros; exact wl_0
  | succ nn ih =>
    intro i h hi C hk
    obtain ⟨t, et⟩ : ∃ t, ud2 s a i = t := ⟨_, rfl⟩
    rw [et] at C
    have t0 : t 139 (0) = s 139 (0) := by rw [← et, ud2_fr (by omega)]
    have ta : t 139 (a) = s 139 (a) := by rw [← et, ud2_fr (by omega)]
    have tb : t 139 (a + 6 + i) = s 139 (a + 6 + i) := by rw [← et, ud2_fr (by omega)]
    have tc : t 139 (16 + (3 * i) + 2) = s 139 (16 + (3 * i) + 2) := by rw [← et, ud2_fr (by omega)]
    refine wl_s1 (pc' := 70) ji_216_69 rfl rfl rfl ?_
    refine wl_s (pc' := 71) ji_216_70 rfl rfl rfl ?_
    refine cs_gr (r := 139) (k := 0) C (by decide) sq_138 rfl ji_216_71 jf_216_7 ?_
    refine wl_s (pc' := 75) ji_216_74 rfl rfl rfl ?_
    refine cs_l (x := 0) C (by decide) (by decide) sq_139 (by omega) ji_216_75 (fun ld10 ld11 ld12 => ?_)
    rw [t0] at ld12 ⊢
    refine wl_icmp (t := 133) ji_216_76 rfl (by omega) (by omega) (fun (hb2 : (s 139 0 : Int) ≤ i) => ?_) (fun (hb2 : ¬ ((s 139 0 : Int) ≤ i)) => ?_)
    · exact hk _ _ (cs_mono C (by rw [← et, show i = s 139 0 by omega])) i
    · refine wl_s (pc' := 80) ji_216_79 rfl rfl rfl ?_
      refine cs_gr (r := 139) (k := 0) C (by decide) sq_138 rfl ji_216_80 jf_216_7 ?_
      refine wl_bp ji_216_83 rfl ?_
      refine wl_s (pc' := 86) ji_216_85 rfl rfl rfl ?_
      refine wl_s (pc' := 87) ji_216_86 rfl rfl rfl ?_
      refine wl_imul (x := 3) (y := i) (z := 3 * i) ji_216_87 (by omega) ?_
      refine wl_iadd (x := 16) (y := 3 * i) (z := 16 + (3 * i)) ji_216_88 (by omega) ?_
      refine wl_s (pc' := 90) ji_216_89 rfl rfl rfl ?_
      refine wl_s (pc' := 91) ji_216_90 rfl rfl rfl ?_
      refine cs_gr (r := 139) (k := 0) C (by decide) sq_138 rfl ji_216_91 jf_216_7 ?_
      refine wl_s (pc' := 95) ji_216_94 rfl rfl rfl ?_
      refine cs_l (x := a) C (by decide) (by decide) sq_139 (by omega) ji_216_95 (fun ld30 ld31 ld32 => ?_)
      rw [ta] at ld32 ⊢
      refine wl_icmp (t := 113) ji_216_96 rfl (by omega) (by omega) (fun (hb4 : (s 139 a : Int) ≤ i) => ?_) (fun (hb4 : ¬ ((s 139 a : Int) ≤ i)) => ?_)
      · refine wl_s (pc' := 114) ji_216_113 rfl rfl rfl ?_
        refine cs_gr (r := 139) (k := 0) C (by decide) sq_138 rfl ji_216_114 jf_216_7 ?_
        refine wl_bp ji_216_117 rfl ?_
        refine wl_s (pc' := 120) ji_216_119 rfl rfl rfl ?_
        refine wl_s (pc' := 121) ji_216_120 rfl rfl rfl ?_
        refine wl_imul (x := 3) (y := i) (z := 3 * i) ji_216_121 (by omega) ?_
        refine wl_iadd (x := 16) (y := 3 * i) (z := 16 + (3 * i)) ji_216_122 (by omega) ?_
        refine wl_s (pc' := 124) ji_216_123 rfl rfl rfl ?_
        refine wl_iadd (x := 16 + (3 * i)) (y := 2) (z := 16 + (3 * i) + 2) ji_216_124 (by omega) ?_
        refine cs_l (x := 16 + (3 * i) + 2) C (by decide) (by decide) sq_139 (by omega) ji_216_125 (fun ld50 ld51 ld52 => ?_)
        rw [tc] at ld52 ⊢
        refine cs_s (x := 16 + (3 * i)) (y := s 139 (16 + 3 * i + 2)) C (by decide) sq_139 (by omega) (by omega) ji_216_126 (fun h st60 st61 C => ?_)
        obtain ⟨s7, es7⟩ : ∃ z9_, up t 139 (16 + (3 * i)) (s 139 (16 + 3 * i + 2)) = z9_ := ⟨_, rfl⟩
        rw [es7] at C
        refine wl_iinc (x := i) (z := i + 1) (lv' := [some (.ref 138), some (wp_i a), some (wp_i (i + 1))]) ji_216_127 rfl (Nat.le_of_ble_eq_true rfl) (by omega) rfl ?_
        refine wl_goto (t := 69) ji_216_130 rfl ?_
        exact ih (i + 1) _ (by omega) (cs_mono C (by rw [← es7, ← et, ← ud2_s (by omega), if_neg (by omega)])) hk
      · refine wl_s (pc' := 100) ji_216_99 rfl rfl rfl ?_
        refine cs_gr (r := 139) (k := 0) C (by decide) sq_138 rfl ji_216_100 jf_216_7 ?_
        refine wl_s (pc' := 104) ji_216_103 rfl rfl rfl ?_
        refine wl_bp ji_216_104 rfl ?_
        refine wl_iadd (x := a) (y := 6) (z := a + 6) ji_216_106 (by omega) ?_
        refine wl_s (pc' := 108) ji_216_107 rfl rfl rfl ?_
        refine wl_iadd (x := a + 6) (y := i) (z := a + 6 + i) ji_216_108 (by omega) ?_
        refine cs_l (x := a + 6 + i) C (by decide) (by decide) sq_139 (by omega) ji_216_109 (fun ld80 ld81 ld82 => ?_)
        rw [tb] at ld82 ⊢
        refine wl_goto (t := 126) ji_216_110 rfl ?_
        refine cs_s (x := 16 + (3 * i)) (y := s 139 (a + 6 + i)) C (by decide) sq_139 (by omega) (by omega) ji_216_126 (fun h st90 st91 C => ?_)
        obtain ⟨s10, es10⟩ : ∃ z9_, up t 139 (16 + (3 * i)) (s 139 (a + 6 + i)) = z9_ := ⟨_, rfl⟩
        rw [es10] at C
        refine wl_iinc (x := i) (z := i + 1) (lv' := [some (.ref 138), some (wp_i a), some (wp_i (i + 1))]) ji_216_127 rfl (Nat.le_of_ble_eq_true rfl) (by omega) rfl ?_
        refine wl_goto (t := 69) ji_216_130 rfl ?_
        exact ih (i + 1) _ (by omega) (cs_mono C (by rw [← es10, ← et, ← ud2_s (by omega), if_pos (by omega)])) hk
theorem uc_2163 {d : Nat} {s : sg_} {Q : Option Value → mj_H → Prop} {a : Int} (ha : 184 ≤ a ∧ a ≤ 3374) : ∀ (nn : Nat) (i : Int) (h : mj_H), (0 ≤ i ∧ i ≤ 96) → CS h (ud3 s a i) → (∀ (nn : Nat) (h : mj_H), CS h (ud3 s a (96)) → ∀ i : Int, wl_R nn d 216 167 [some (.ref 138), some (wp_i a), some (wp_i i)] [] h Q) → wl_R nn d 216 135 [some (.ref 138), some (wp_i a), some (wp_i i)] [] h Q := by
  intro nn
  induction nn with
  | zero => intros; exact wl_0
  | succ nn ih =>
    intro i h hi C hk
    obtain ⟨t, et⟩ : ∃ t, ud3 s a i = t := ⟨_, rfl⟩
    rw [et] at C
    have ta : t 139 (a + 14 + i) = s 139 (a + 14 + i) := by rw [← et, ud3_fr (by omega)]
    refine wl_s1 (pc' := 136) ji_216_135 rfl rfl rfl ?_
    refine wl_bp ji_216_136 rfl ?_
    refine wl_icmp (t := 167) ji_216_138 rfl (by omega) (by omega) (fun (hb1 : (96 : Int) ≤ i) => ?_) (fun (hb1 : ¬ ((96 : Int) ≤ i)) => ?_)
    · exact hk _ _ (cs_mono C (by rw [← et, show i = 96 by omega])) i
    · refine wl_s (pc' := 142) ji_216_141 rfl rfl rfl ?_
      refine cs_gr (r := 139) (k := 0) C (by decide) sq_138 rfl ji_216_142 jf_216_7 ?_
      refine wl_bp ji_216_145 rfl ?_
      refine wl_s (pc' := 148) ji_216_147 rfl rfl rfl ?_
      refine wl_iadd (x := 52) (y := i) (z := 52 + i) ji_216_148 (by omega) ?_
      refine wl_s (pc' := 150) ji_216_149 rfl rfl rfl ?_
      refine cs_gr (r := 139) (k := 0) C (by decide) sq_138 rfl ji_216_150 jf_216_7 ?_
      refine wl_s (pc' := 154) ji_216_153 rfl rfl rfl ?_
      refine wl_bp ji_216_154 rfl ?_
      refine wl_iadd (x := a) (y := 14) (z := a + 14) ji_216_156 (by omega) ?_
      refine wl_s (pc' := 158) ji_216_157 rfl rfl rfl ?_
      refine wl_iadd (x := a + 14) (y := i) (z := a + 14 + i) ji_216_158 (by omega) ?_
      refine cs_l (x := a + 14 + i) C (by decide) (by decide) sq_139 (by omega) ji_216_159 (fun ld20 ld21 ld22 => ?_)
      rw [ta] at ld22 ⊢
      refine cs_s (x := 52 + i) (y := s 139 (a + 14 + i)) C (by decide) sq_139 (by omega) (by omega) ji_216_160 (fun h st30 st31 C => ?_)
      obtain ⟨s4, es4⟩ : ∃ z9_, up t 139 (52 + i) (s 139 (a + 14 + i)) = z9_ := ⟨_, rfl⟩
      rw [es4] at C
      refine wl_iinc (x := i) (z := i + 1) (lv' := [some (.ref 138), some (wp_i a), some (wp_i (i + 1))]) ji_216_161 rfl (Nat.le_of_ble_eq_true rfl) (by omega) rfl ?_
      refine wl_goto (t := 135) ji_216_164 rfl ?_
      exact ih (i + 1) _ (by omega) (cs_mono C (by rw [← es4, ← et, ← ud3_s (by omega)])) hk
def udA (s : sg_) : Int := 184 + 110 * (s 139 4 - 1)
def udR (s : sg_) : sg_ := ud3 (ud2 (ud1 (up s 139 4 (s 139 4 - 1)) (udA s) 5) (udA s) (s 139 0)) (udA s) 96
theorem uc_216 {nn d : Nat} {h : mj_H} {s : sg_} (C : CS h s) (i0 : 0 ≤ s 139 0 ∧ s 139 0 ≤ 8) (i4 : 0 ≤ s 139 4 ∧ s 139 4 ≤ 30) : wl_R nn d 216 0 [some (.ref 138), none, none] [] h (fun v1 h1 => (s 139 4 = 0 ∧ v1 = some (wp_i (-1)) ∧ CS h1 s) ∨ (¬ s 139 4 = 0 ∧ v1 = some (wp_i (s 139 4 - 1)) ∧ CS h1 (udR s))) := by
  obtain ⟨a, ha⟩ : ∃ a, 184 + 110 * (s 139 4 - 1) = a := ⟨_, rfl⟩
  refine wl_s (pc' := 1) ji_216_0 rfl rfl rfl ?_
  refine cs_gr (r := 139) (k := 0) C (by decide) sq_138 rfl ji_216_1 jf_216_7 ?_
  refine wl_s (pc' := 5) ji_216_4 rfl rfl rfl ?_
  refine cs_l (x := 4) C (by decide) (by decide) sq_139 (by omega) ji_216_5 (fun ld10 ld11 ld12 => ?_)
  refine wl_if (t := 11) ji_216_6 rfl (by omega) (fun (hb2 : ¬ (s 139 4 : Int) = 0) => ?_) (fun (hb2 : ¬ (¬ (s 139 4 : Int) = 0)) => ?_)
  · refine wl_s (pc' := 12) ji_216_11 rfl rfl rfl ?_
    refine cs_gr (r := 139) (k := 0) C (by decide) sq_138 rfl ji_216_12 jf_216_7 ?_
    refine wl_s (pc' := 16) ji_216_15 rfl rfl rfl ?_
    refine wl_s (pc' := 17) ji_216_16 rfl rfl rfl ?_
    refine cs_l (x := 4) C (by decide) (by decide) sq_139 (by omega) ji_216_17 (fun ld30 ld31 ld32 => ?_)
    refine wl_s (pc' := 19) ji_216_18 rfl rfl rfl ?_
    refine wl_isub (x := s 139 4) (y := 1) (z := s 139 4 - 1) ji_216_19 (by omega) ?_
    refine cs_s (x := 4) (y := s 139 4 - 1) C (by decide) sq_139 (by omega) (by omega) ji_216_20 (fun h st40 st41 C => ?_)
    obtain ⟨s5, es5⟩ : ∃ z9_, up s 139 4 (s 139 4 - 1) = z9_ := ⟨_, rfl⟩
    rw [es5] at C
    refine wl_sp ji_216_21 rfl ?_
    refine wl_bp ji_216_24 rfl ?_
    refine wl_s (pc' := 27) ji_216_26 rfl rfl rfl ?_
    refine cs_gr (r := 139) (k := 0) C (by decide) sq_138 rfl ji_216_27 jf_216_7 ?_
    refine wl_s (pc' := 31) ji_216_30 rfl rfl rfl ?_
    refine cs_l (x := 4) C (by decide) (by decide) sq_139 (by omega) ji_216_31 (fun ld60 ld61 ld62 => ?_)
    have rd7 : s5 139 4 = s 139 4 - 1 := by rw [← es5, up_e]
    rw [rd7] at ld62 ⊢
    refine wl_imul (x := 110) (y := s 139 4 - 1) (z := 110 * (s 139 4 - 1)) ji_216_32 (by omega) ?_
    refine wl_iadd (x := 184) (y := 110 * (s 139 4 - 1)) (z := a) ji_216_33 (by omega) ?_
    refine wl_s (pc' := 35) (lv' := [some (.ref 138), some (wp_i a), none]) ji_216_34 rfl rfl rfl ?_
    refine wl_s (pc' := 36) ji_216_35 rfl rfl rfl ?_
    refine wl_s (pc' := 37) (lv' := [some (.ref 138), some (wp_i a), some (wp_i 0)]) ji_216_36 rfl rfl rfl ?_
    have v0 : s5 139 0 = s 139 0 := by rw [← es5, up_k (by decide)]
    have v4 : s5 139 4 = s 139 4 - 1 := by rw [← es5, up_e]
    refine uc_2161 (s := s5) (by omega) nn 0 _ (by omega) (cs_mono C ud1_0.symm) (fun nn h C i1 => ?_)
    refine wl_s (pc' := 68) ji_216_67 rfl rfl rfl ?_
    refine wl_s (pc' := 69) (lv' := [some (.ref 138), some (wp_i a), some (wp_i 0)]) ji_216_68 rfl rfl rfl ?_
    obtain ⟨x1, ex1⟩ : ∃ z9_, ud1 s5 a 5 = z9_ := ⟨_, rfl⟩
    rw [ex1] at C
    have x0 : x1 139 0 = s 139 0 := by rw [← ex1, ud1_fr (by omega), v0]
    refine uc_2162 (s := x1) (by omega) (by omega) _ 0 _ (by omega) (cs_mono C ud2_0.symm) (fun nn h C i2 => ?_)
    refine wl_s (pc' := 134) ji_216_133 rfl rfl rfl ?_
    refine wl_s (pc' := 135) (lv' := [some (.ref 138), some (wp_i a), some (wp_i 0)]) ji_216_134 rfl rfl rfl ?_
    obtain ⟨x2, ex2⟩ : ∃ z9_, ud2 x1 a (x1 139 0) = z9_ := ⟨_, rfl⟩
    rw [ex2] at C
    refine uc_2163 (s := x2) (by omega) _ 0 _ (by omega) (cs_mono C ud3_0.symm) (fun nn h C i3 => ?_)
    have ew : udR s = ud3 x2 a 96 := by unfold udR udA; rw [ha, es5, ex1, ← x0, ex2]
    rw [← ew] at C
    have w4 : udR s 139 4 = s 139 4 - 1 := by rw [ew, ud3_fr (by omega), ← ex2, ud2_fr (by omega), ← ex1, ud1_fr (by omega), v4]
    obtain ⟨w, eww⟩ : ∃ z9_, udR s = z9_ := ⟨_, rfl⟩
    rw [eww] at C w4
    refine wl_s (pc' := 168) ji_216_167 rfl rfl rfl ?_
    refine cs_gr (r := 139) (k := 0) C (by decide) sq_138 rfl ji_216_168 jf_216_7 ?_
    refine wl_s (pc' := 172) ji_216_171 rfl rfl rfl ?_
    refine cs_l (x := 4) C (by decide) (by decide) sq_139 (by omega) ji_216_172 (fun ld10 ld11 ld12 => ?_)
    rw [w4] at ld12 ⊢
    exact wl_ri ji_216_173 jr_216 rfl (Or.inr ⟨by omega, rfl, by rw [eww]; exact C⟩)
  · refine wl_s (pc' := 10) ji_216_9 rfl rfl rfl ?_
    exact wl_ri ji_216_10 jr_216 rfl (Or.inl ⟨by omega, rfl, C⟩)
