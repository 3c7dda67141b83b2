/-! -/
set_option maxRecDepth 100000 in
theorem jcon_26_57 : mj_con 26 57 = some (.ref 8) := by decide +kernel
set_option maxRecDepth 100000 in
theorem ji_26_12 : mj_ins 26 12 = some (.iload 4) := by decide +kernel
set_option maxRecDepth 100000 in
theorem ji_26_14 : mj_ins 26 14 = some (.ldc 57) := by decide +kernel
set_option maxRecDepth 100000 in
theorem ji_26_16 : mj_ins 26 16 = some (.invokevirtual 59) := by decide +kernel
set_option maxRecDepth 100000 in
theorem jc_26_59 : mj_cal 26 59 = some (30, 0, 0) := by decide +kernel
set_option maxRecDepth 100000 in
theorem ji_26_19 : mj_ins 26 19 = some (.if_icmp .ge 84) := by decide +kernel
set_option maxRecDepth 100000 in
theorem ji_26_103 : mj_ins 26 103 = some (.iconst (-1)) := by decide +kernel
set_option maxRecDepth 100000 in
theorem ji_26_104 : mj_ins 26 104 = some (.ireturn) := by decide +kernel
set_option maxRecDepth 100000 in
theorem jr_26 : mj_ret 26 = some .int := by decide +kernel
set_option maxRecDepth 100000 in
theorem ji_26_22 : mj_ins 26 22 = some (.ldc 57) := by decide +kernel
set_option maxRecDepth 100000 in
theorem ji_26_24 : mj_ins 26 24 = some (.iload 4) := by decide +kernel
set_option maxRecDepth 100000 in
theorem ji_26_26 : mj_ins 26 26 = some (.invokevirtual 63) := by decide +kernel
set_option maxRecDepth 100000 in
theorem jc_26_63 : mj_cal 26 63 = some (31, 0, 0) := by decide +kernel
set_option maxRecDepth 100000 in
theorem ji_26_29 : mj_ins 26 29 = some (.istore 5) := by decide +kernel
set_option maxRecDepth 100000 in
theorem ji_26_31 : mj_ins 26 31 = some (.iload 5) := by decide +kernel
set_option maxRecDepth 100000 in
theorem ji_26_33 : mj_ins 26 33 = some (.bipush 32) := by decide +kernel
set_option maxRecDepth 100000 in
theorem ji_26_35 : mj_ins 26 35 = some (.if_icmp .eq 38) := by decide +kernel
set_option maxRecDepth 100000 in
theorem ji_26_73 : mj_ins 26 73 = some (.iload_n 3) := by decide +kernel
set_option maxRecDepth 100000 in
theorem ji_26_74 : mj_ins 26 74 = some (.ifCond .eq 13) := by decide +kernel
set_option maxRecDepth 100000 in
theorem ji_26_87 : mj_ins 26 87 = some (.iinc 1 1) := by decide +kernel
set_option maxRecDepth 100000 in
theorem ji_26_90 : mj_ins 26 90 = some (.aload_n 0) := by decide +kernel
set_option maxRecDepth 100000 in
theorem ji_26_91 : mj_ins 26 91 = some (.getfield 25) := by decide +kernel
set_option maxRecDepth 100000 in
theorem jf_26_25 : mj_fld 26 25 = some (8, 4, .int, true) := by decide +kernel
set_option maxRecDepth 100000 in
theorem ji_26_94 : mj_ins 26 94 = some (.istore_n 2) := by decide +kernel
set_option maxRecDepth 100000 in
theorem ji_26_95 : mj_ins 26 95 = some (.iconst 1) := by decide +kernel
set_option maxRecDepth 100000 in
theorem ji_26_96 : mj_ins 26 96 = some (.istore_n 3) := by decide +kernel
set_option maxRecDepth 100000 in
theorem ji_26_97 : mj_ins 26 97 = some (.iinc 4 1) := by decide +kernel
set_option maxRecDepth 100000 in
theorem ji_26_100 : mj_ins 26 100 = some (.goto (-88)) := by decide +kernel
set_option maxRecDepth 100000 in
theorem ji_26_77 : mj_ins 26 77 = some (.iload_n 2) := by decide +kernel
set_option maxRecDepth 100000 in
theorem ji_26_78 : mj_ins 26 78 = some (.aload_n 0) := by decide +kernel
set_option maxRecDepth 100000 in
theorem ji_26_79 : mj_ins 26 79 = some (.getfield 28) := by decide +kernel
set_option maxRecDepth 100000 in
theorem jf_26_28 : mj_fld 26 28 = some (8, 5, .int, true) := by decide +kernel
set_option maxRecDepth 100000 in
theorem ji_26_82 : mj_ins 26 82 = some (.if_icmp .ne 5) := by decide +kernel
set_option maxRecDepth 100000 in
theorem ji_26_85 : mj_ins 26 85 = some (.iload_n 1) := by decide +kernel
set_option maxRecDepth 100000 in
theorem ji_26_86 : mj_ins 26 86 = some (.ireturn) := by decide +kernel
set_option maxRecDepth 100000 in
theorem ji_26_38 : mj_ins 26 38 = some (.iload_n 3) := by decide +kernel
set_option maxRecDepth 100000 in
theorem ji_26_39 : mj_ins 26 39 = some (.ifCond .eq 26) := by decide +kernel
set_option maxRecDepth 100000 in
theorem ji_26_65 : mj_ins 26 65 = some (.iconst 0) := by decide +kernel
set_option maxRecDepth 100000 in
theorem ji_26_66 : mj_ins 26 66 = some (.istore_n 3) := by decide +kernel
set_option maxRecDepth 100000 in
theorem ji_26_67 : mj_ins 26 67 = some (.iinc 2 1) := by decide +kernel
set_option maxRecDepth 100000 in
theorem ji_26_70 : mj_ins 26 70 = some (.goto 27) := by decide +kernel
set_option maxRecDepth 100000 in
theorem ji_26_42 : mj_ins 26 42 = some (.iload_n 2) := by decide +kernel
set_option maxRecDepth 100000 in
theorem ji_26_43 : mj_ins 26 43 = some (.aload_n 0) := by decide +kernel
set_option maxRecDepth 100000 in
theorem ji_26_44 : mj_ins 26 44 = some (.getfield 28) := by decide +kernel
set_option maxRecDepth 100000 in
theorem ji_26_47 : mj_ins 26 47 = some (.if_icmp .ge 18) := by decide +kernel
set_option maxRecDepth 100000 in
theorem ji_26_50 : mj_ins 26 50 = some (.aload_n 0) := by decide +kernel
set_option maxRecDepth 100000 in
theorem ji_26_51 : mj_ins 26 51 = some (.getfield 11) := by decide +kernel
set_option maxRecDepth 100000 in
theorem jf_26_11 : mj_fld 26 11 = some (8, 0, (.array .int), false) := by decide +kernel
set_option maxRecDepth 100000 in
theorem ji_26_54 : mj_ins 26 54 = some (.iload_n 2) := by decide +kernel
set_option maxRecDepth 100000 in
theorem ji_26_55 : mj_ins 26 55 = some (.iaload) := by decide +kernel
set_option maxRecDepth 100000 in
theorem ji_26_56 : mj_ins 26 56 = some (.iload 5) := by decide +kernel
set_option maxRecDepth 100000 in
theorem ji_26_58 : mj_ins 26 58 = some (.if_icmp .ne 7) := by decide +kernel
set_option maxRecDepth 100000 in
theorem ji_26_61 : mj_ins 26 61 = some (.iconst 1) := by decide +kernel
set_option maxRecDepth 100000 in
theorem ji_26_62 : mj_ins 26 62 = some (.goto 4) := by decide +kernel
set_option maxRecDepth 100000 in
theorem ji_26_0 : mj_ins 26 0 = some (.iconst 0) := by decide +kernel
set_option maxRecDepth 100000 in
theorem ji_26_1 : mj_ins 26 1 = some (.istore_n 1) := by decide +kernel
set_option maxRecDepth 100000 in
theorem ji_26_2 : mj_ins 26 2 = some (.aload_n 0) := by decide +kernel
set_option maxRecDepth 100000 in
theorem ji_26_3 : mj_ins 26 3 = some (.getfield 25) := by decide +kernel
set_option maxRecDepth 100000 in
theorem ji_26_6 : mj_ins 26 6 = some (.istore_n 2) := by decide +kernel
set_option maxRecDepth 100000 in
theorem ji_26_7 : mj_ins 26 7 = some (.iconst 1) := by decide +kernel
set_option maxRecDepth 100000 in
theorem ji_26_8 : mj_ins 26 8 = some (.istore_n 3) := by decide +kernel
set_option maxRecDepth 100000 in
theorem ji_26_9 : mj_ins 26 9 = some (.iconst 0) := by decide +kernel
set_option maxRecDepth 100000 in
theorem ji_26_10 : mj_ins 26 10 = some (.istore 4) := by decide +kernel
set_option maxRecDepth 100000 in
theorem ji_29_148 : mj_ins 29 148 = some (.aload_n 0) := by decide +kernel
set_option maxRecDepth 100000 in
theorem ji_29_149 : mj_ins 29 149 = some (.iconst 2) := by decide +kernel
set_option maxRecDepth 100000 in
theorem ji_29_150 : mj_ins 29 150 = some (.putfield 19) := by decide +kernel
set_option maxRecDepth 100000 in
theorem jf_29_19 : mj_fld 29 19 = some (8, 2, .int, true) := by decide +kernel
set_option maxRecDepth 100000 in
theorem ji_29_153 : mj_ins 29 153 = some (.aload_n 0) := by decide +kernel
set_option maxRecDepth 100000 in
theorem ji_29_154 : mj_ins 29 154 = some (.iload_n 1) := by decide +kernel
set_option maxRecDepth 100000 in
theorem ji_29_155 : mj_ins 29 155 = some (.putfield 22) := by decide +kernel
set_option maxRecDepth 100000 in
theorem jf_29_22 : mj_fld 29 22 = some (8, 3, .int, true) := by decide +kernel
set_option maxRecDepth 100000 in
theorem ji_29_158 : mj_ins 29 158 = some (.aload_n 0) := by decide +kernel
set_option maxRecDepth 100000 in
theorem ji_29_159 : mj_ins 29 159 = some (.getfield 28) := by decide +kernel
set_option maxRecDepth 100000 in
theorem jf_29_28 : mj_fld 29 28 = some (8, 5, .int, true) := by decide +kernel
set_option maxRecDepth 100000 in
theorem ji_29_162 : mj_ins 29 162 = some (.aload_n 0) := by decide +kernel
set_option maxRecDepth 100000 in
theorem ji_29_163 : mj_ins 29 163 = some (.getfield 15) := by decide +kernel
set_option maxRecDepth 100000 in
theorem jf_29_15 : mj_fld 29 15 = some (8, 1, .int, true) := by decide +kernel
set_option maxRecDepth 100000 in
theorem ji_29_166 : mj_ins 29 166 = some (.if_icmp .ge 65) := by decide +kernel
set_option maxRecDepth 100000 in
theorem ji_29_231 : mj_ins 29 231 = some (.return_) := by decide +kernel
set_option maxRecDepth 100000 in
theorem jr_29 : mj_ret 29 = none := by decide +kernel
set_option maxRecDepth 100000 in
theorem ji_29_169 : mj_ins 29 169 = some (.aload_n 0) := by decide +kernel
set_option maxRecDepth 100000 in
theorem ji_29_170 : mj_ins 29 170 = some (.getfield 11) := by decide +kernel
set_option maxRecDepth 100000 in
theorem jf_29_11 : mj_fld 29 11 = some (8, 0, (.array .int), false) := by decide +kernel
set_option maxRecDepth 100000 in
theorem ji_29_173 : mj_ins 29 173 = some (.aload_n 0) := by decide +kernel
set_option maxRecDepth 100000 in
theorem ji_29_174 : mj_ins 29 174 = some (.getfield 28) := by decide +kernel
set_option maxRecDepth 100000 in
theorem ji_29_177 : mj_ins 29 177 = some (.iaload) := by decide +kernel
set_option maxRecDepth 100000 in
theorem ji_29_178 : mj_ins 29 178 = some (.bipush 61) := by decide +kernel
set_option maxRecDepth 100000 in
theorem ji_29_180 : mj_ins 29 180 = some (.if_icmp .ne 51) := by decide +kernel
set_option maxRecDepth 100000 in
theorem ji_29_183 : mj_ins 29 183 = some (.aload_n 0) := by decide +kernel
set_option maxRecDepth 100000 in
theorem ji_29_184 : mj_ins 29 184 = some (.dup) := by decide +kernel
set_option maxRecDepth 100000 in
theorem ji_29_185 : mj_ins 29 185 = some (.getfield 28) := by decide +kernel
set_option maxRecDepth 100000 in
theorem ji_29_188 : mj_ins 29 188 = some (.iconst 1) := by decide +kernel
set_option maxRecDepth 100000 in
theorem ji_29_189 : mj_ins 29 189 = some (.iadd) := by decide +kernel
set_option maxRecDepth 100000 in
theorem ji_29_190 : mj_ins 29 190 = some (.putfield 28) := by decide +kernel
set_option maxRecDepth 100000 in
theorem ji_29_193 : mj_ins 29 193 = some (.aload_n 0) := by decide +kernel
set_option maxRecDepth 100000 in
theorem ji_29_194 : mj_ins 29 194 = some (.iload_n 1) := by decide +kernel
set_option maxRecDepth 100000 in
theorem ji_29_195 : mj_ins 29 195 = some (.bipush 60) := by decide +kernel
set_option maxRecDepth 100000 in
theorem ji_29_197 : mj_ins 29 197 = some (.if_icmp .ne 8) := by decide +kernel
set_option maxRecDepth 100000 in
theorem ji_29_205 : mj_ins 29 205 = some (.bipush 103) := by decide +kernel
set_option maxRecDepth 100000 in
theorem ji_29_207 : mj_ins 29 207 = some (.putfield 22) := by decide +kernel
set_option maxRecDepth 100000 in
theorem ji_29_210 : mj_ins 29 210 = some (.goto 21) := by decide +kernel
set_option maxRecDepth 100000 in
theorem ji_29_200 : mj_ins 29 200 = some (.bipush 108) := by decide +kernel
set_option maxRecDepth 100000 in
theorem ji_29_202 : mj_ins 29 202 = some (.goto 5) := by decide +kernel
set_option maxRecDepth 100000 in
theorem ji_29_213 : mj_ins 29 213 = some (.aload_n 0) := by decide +kernel
set_option maxRecDepth 100000 in
theorem ji_29_214 : mj_ins 29 214 = some (.iconst 2) := by decide +kernel
set_option maxRecDepth 100000 in
theorem ji_29_215 : mj_ins 29 215 = some (.putfield 19) := by decide +kernel
set_option maxRecDepth 100000 in
theorem ji_29_218 : mj_ins 29 218 = some (.aload_n 0) := by decide +kernel
set_option maxRecDepth 100000 in
theorem ji_29_219 : mj_ins 29 219 = some (.iload_n 1) := by decide +kernel
set_option maxRecDepth 100000 in
theorem ji_29_220 : mj_ins 29 220 = some (.putfield 22) := by decide +kernel
set_option maxRecDepth 100000 in
theorem ji_29_223 : mj_ins 29 223 = some (.goto 8) := by decide +kernel
set_option maxRecDepth 100000 in
theorem ji_29_226 : mj_ins 29 226 = some (.aload_n 0) := by decide +kernel
set_option maxRecDepth 100000 in
theorem ji_29_227 : mj_ins 29 227 = some (.iconst 4) := by decide +kernel
set_option maxRecDepth 100000 in
theorem ji_29_228 : mj_ins 29 228 = some (.putfield 19) := by decide +kernel
set_option maxRecDepth 100000 in
theorem ji_29_21 : mj_ins 29 21 = some (.tableswitch 205 35 62 #[192, 205, 205, 205, 205, 192, 192, 192, 192, 192, 192, 205, 192, 205, 205, 205, 205, 205, 205, 205, 205, 205, 205, 205, 192, 127, 192, 127]) := by decide +kernel
set_option maxRecDepth 100000 in
theorem ji_29_0 : mj_ins 29 0 = some (.aload_n 0) := by decide +kernel
set_option maxRecDepth 100000 in
theorem ji_29_1 : mj_ins 29 1 = some (.getfield 11) := by decide +kernel
set_option maxRecDepth 100000 in
theorem ji_29_4 : mj_ins 29 4 = some (.aload_n 0) := by decide +kernel
set_option maxRecDepth 100000 in
theorem ji_29_5 : mj_ins 29 5 = some (.getfield 28) := by decide +kernel
set_option maxRecDepth 100000 in
theorem ji_29_8 : mj_ins 29 8 = some (.iaload) := by decide +kernel
set_option maxRecDepth 100000 in
theorem ji_29_9 : mj_ins 29 9 = some (.istore_n 1) := by decide +kernel
set_option maxRecDepth 100000 in
theorem ji_29_10 : mj_ins 29 10 = some (.aload_n 0) := by decide +kernel
set_option maxRecDepth 100000 in
theorem ji_29_11 : mj_ins 29 11 = some (.dup) := by decide +kernel
set_option maxRecDepth 100000 in
theorem ji_29_12 : mj_ins 29 12 = some (.getfield 28) := by decide +kernel
set_option maxRecDepth 100000 in
theorem ji_29_15 : mj_ins 29 15 = some (.iconst 1) := by decide +kernel
set_option maxRecDepth 100000 in
theorem ji_29_16 : mj_ins 29 16 = some (.iadd) := by decide +kernel
set_option maxRecDepth 100000 in
theorem ji_29_17 : mj_ins 29 17 = some (.putfield 28) := by decide +kernel
set_option maxRecDepth 100000 in
theorem ji_29_20 : mj_ins 29 20 = some (.iload_n 1) := by decide +kernel
set_option maxRecDepth 100000 in
theorem jn_25 : mj_nl 25 = 1 := by decide +kernel
set_option maxRecDepth 100000 in
theorem jk_25 : mj_cls 25 = 8 := by decide +kernel
set_option maxRecDepth 100000 in
theorem jn_26 : mj_nl 26 = 6 := by decide +kernel
set_option maxRecDepth 100000 in
theorem jk_26 : mj_cls 26 = 8 := by decide +kernel
set_option maxRecDepth 100000 in
theorem jn_28 : mj_nl 28 = 2 := by decide +kernel
set_option maxRecDepth 100000 in
theorem jk_28 : mj_cls 28 = 8 := by decide +kernel
set_option maxRecDepth 100000 in
theorem jn_29 : mj_nl 29 = 2 := by decide +kernel
set_option maxRecDepth 100000 in
theorem jk_29 : mj_cls 29 = 8 := by decide +kernel
set_option maxRecDepth 100000 in
theorem ji_23_52 : mj_ins 23 52 = some (.aload_n 0) := by decide +kernel
set_option maxRecDepth 100000 in
theorem ji_23_53 : mj_ins 23 53 = some (.aload_n 0) := by decide +kernel
set_option maxRecDepth 100000 in
theorem ji_23_54 : mj_ins 23 54 = some (.getfield 28) := by decide +kernel
set_option maxRecDepth 100000 in
theorem jf_23_28 : mj_fld 23 28 = some (8, 5, .int, true) := by decide +kernel
set_option maxRecDepth 100000 in
theorem ji_23_57 : mj_ins 23 57 = some (.putfield 25) := by decide +kernel
set_option maxRecDepth 100000 in
theorem jf_23_25 : mj_fld 23 25 = some (8, 4, .int, true) := by decide +kernel
set_option maxRecDepth 100000 in
theorem ji_23_60 : mj_ins 23 60 = some (.aload_n 0) := by decide +kernel
set_option maxRecDepth 100000 in
theorem ji_23_61 : mj_ins 23 61 = some (.iconst (-1)) := by decide +kernel
set_option maxRecDepth 100000 in
theorem ji_23_62 : mj_ins 23 62 = some (.putfield 22) := by decide +kernel
set_option maxRecDepth 100000 in
theorem jf_23_22 : mj_fld 23 22 = some (8, 3, .int, true) := by decide +kernel
set_option maxRecDepth 100000 in
theorem ji_23_65 : mj_ins 23 65 = some (.aload_n 0) := by decide +kernel
set_option maxRecDepth 100000 in
theorem ji_23_66 : mj_ins 23 66 = some (.getfield 28) := by decide +kernel
set_option maxRecDepth 100000 in
theorem ji_23_69 : mj_ins 23 69 = some (.aload_n 0) := by decide +kernel
set_option maxRecDepth 100000 in
theorem ji_23_70 : mj_ins 23 70 = some (.getfield 15) := by decide +kernel
set_option maxRecDepth 100000 in
theorem jf_23_15 : mj_fld 23 15 = some (8, 1, .int, true) := by decide +kernel
set_option maxRecDepth 100000 in
theorem ji_23_73 : mj_ins 23 73 = some (.if_icmp .lt 11) := by decide +kernel
set_option maxRecDepth 100000 in
theorem ji_23_84 : mj_ins 23 84 = some (.aload_n 0) := by decide +kernel
set_option maxRecDepth 100000 in
theorem ji_23_85 : mj_ins 23 85 = some (.getfield 11) := by decide +kernel
set_option maxRecDepth 100000 in
theorem jf_23_11 : mj_fld 23 11 = some (8, 0, (.array .int), false) := by decide +kernel
set_option maxRecDepth 100000 in
theorem ji_23_88 : mj_ins 23 88 = some (.aload_n 0) := by decide +kernel
set_option maxRecDepth 100000 in
theorem ji_23_89 : mj_ins 23 89 = some (.getfield 28) := by decide +kernel
set_option maxRecDepth 100000 in
theorem ji_23_92 : mj_ins 23 92 = some (.iaload) := by decide +kernel
set_option maxRecDepth 100000 in
theorem ji_23_93 : mj_ins 23 93 = some (.invokestatic 31) := by decide +kernel
set_option maxRecDepth 100000 in
theorem jc_23_31 : mj_cal 23 31 = some (1, 24, 1) := by decide +kernel
set_option maxRecDepth 100000 in
theorem ji_23_96 : mj_ins 23 96 = some (.ifCond .eq 23) := by decide +kernel
set_option maxRecDepth 100000 in
theorem ji_23_119 : mj_ins 23 119 = some (.aload_n 0) := by decide +kernel
set_option maxRecDepth 100000 in
theorem ji_23_120 : mj_ins 23 120 = some (.getfield 11) := by decide +kernel
set_option maxRecDepth 100000 in
theorem ji_23_123 : mj_ins 23 123 = some (.aload_n 0) := by decide +kernel
set_option maxRecDepth 100000 in
theorem ji_23_124 : mj_ins 23 124 = some (.getfield 28) := by decide +kernel
set_option maxRecDepth 100000 in
theorem ji_23_127 : mj_ins 23 127 = some (.iaload) := by decide +kernel
set_option maxRecDepth 100000 in
theorem ji_23_128 : mj_ins 23 128 = some (.invokestatic 42) := by decide +kernel
set_option maxRecDepth 100000 in
theorem jc_23_42 : mj_cal 23 42 = some (1, 27, 1) := by decide +kernel
set_option maxRecDepth 100000 in
theorem ji_23_131 : mj_ins 23 131 = some (.ifCond .eq 10) := by decide +kernel
set_option maxRecDepth 100000 in
theorem ji_23_141 : mj_ins 23 141 = some (.aload_n 0) := by decide +kernel
set_option maxRecDepth 100000 in
theorem ji_23_142 : mj_ins 23 142 = some (.invokevirtual 48) := by decide +kernel
set_option maxRecDepth 100000 in
theorem jc_23_48 : mj_cal 23 48 = some (2, 29, 0) := by decide +kernel
set_option maxRecDepth 100000 in
theorem ji_23_145 : mj_ins 23 145 = some (.return_) := by decide +kernel
set_option maxRecDepth 100000 in
theorem jr_23 : mj_ret 23 = none := by decide +kernel
set_option maxRecDepth 100000 in
theorem ji_23_134 : mj_ins 23 134 = some (.aload_n 0) := by decide +kernel
set_option maxRecDepth 100000 in
theorem ji_23_135 : mj_ins 23 135 = some (.invokevirtual 45) := by decide +kernel
set_option maxRecDepth 100000 in
theorem jc_23_45 : mj_cal 23 45 = some (2, 28, 0) := by decide +kernel
set_option maxRecDepth 100000 in
theorem ji_23_138 : mj_ins 23 138 = some (.goto 7) := by decide +kernel
set_option maxRecDepth 100000 in
theorem ji_23_99 : mj_ins 23 99 = some (.aload_n 0) := by decide +kernel
set_option maxRecDepth 100000 in
theorem ji_23_100 : mj_ins 23 100 = some (.iconst 0) := by decide +kernel
set_option maxRecDepth 100000 in
theorem ji_23_101 : mj_ins 23 101 = some (.putfield 19) := by decide +kernel
set_option maxRecDepth 100000 in
theorem jf_23_19 : mj_fld 23 19 = some (8, 2, .int, true) := by decide +kernel
set_option maxRecDepth 100000 in
theorem ji_23_104 : mj_ins 23 104 = some (.aload_n 0) := by decide +kernel
set_option maxRecDepth 100000 in
theorem ji_23_105 : mj_ins 23 105 = some (.invokevirtual 35) := by decide +kernel
set_option maxRecDepth 100000 in
theorem jc_23_35 : mj_cal 23 35 = some (2, 25, 0) := by decide +kernel
set_option maxRecDepth 100000 in
theorem ji_23_108 : mj_ins 23 108 = some (.aload_n 0) := by decide +kernel
set_option maxRecDepth 100000 in
theorem ji_23_109 : mj_ins 23 109 = some (.aload_n 0) := by decide +kernel
set_option maxRecDepth 100000 in
theorem ji_23_110 : mj_ins 23 110 = some (.invokevirtual 38) := by decide +kernel
set_option maxRecDepth 100000 in
theorem jc_23_38 : mj_cal 23 38 = some (2, 26, 0) := by decide +kernel
set_option maxRecDepth 100000 in
theorem ji_23_113 : mj_ins 23 113 = some (.putfield 22) := by decide +kernel
set_option maxRecDepth 100000 in
theorem ji_23_116 : mj_ins 23 116 = some (.goto 29) := by decide +kernel
set_option maxRecDepth 100000 in
theorem ji_23_76 : mj_ins 23 76 = some (.aload_n 0) := by decide +kernel
set_option maxRecDepth 100000 in
theorem ji_23_77 : mj_ins 23 77 = some (.iconst 3) := by decide +kernel
set_option maxRecDepth 100000 in
theorem ji_23_78 : mj_ins 23 78 = some (.putfield 19) := by decide +kernel
set_option maxRecDepth 100000 in
theorem ji_23_81 : mj_ins 23 81 = some (.goto 64) := by decide +kernel
set_option maxRecDepth 100000 in
theorem ji_23_0 : mj_ins 23 0 = some (.aload_n 0) := by decide +kernel
set_option maxRecDepth 100000 in
theorem ji_23_1 : mj_ins 23 1 = some (.getfield 28) := by decide +kernel
set_option maxRecDepth 100000 in
theorem ji_23_4 : mj_ins 23 4 = some (.aload_n 0) := by decide +kernel
set_option maxRecDepth 100000 in
theorem ji_23_5 : mj_ins 23 5 = some (.getfield 15) := by decide +kernel
set_option maxRecDepth 100000 in
theorem ji_23_8 : mj_ins 23 8 = some (.if_icmp .ge 44) := by decide +kernel
set_option maxRecDepth 100000 in
theorem ji_23_11 : mj_ins 23 11 = some (.aload_n 0) := by decide +kernel
set_option maxRecDepth 100000 in
theorem ji_23_12 : mj_ins 23 12 = some (.getfield 11) := by decide +kernel
set_option maxRecDepth 100000 in
theorem ji_23_15 : mj_ins 23 15 = some (.aload_n 0) := by decide +kernel
set_option maxRecDepth 100000 in
theorem ji_23_16 : mj_ins 23 16 = some (.getfield 28) := by decide +kernel
set_option maxRecDepth 100000 in
theorem ji_23_19 : mj_ins 23 19 = some (.iaload) := by decide +kernel
set_option maxRecDepth 100000 in
theorem ji_23_20 : mj_ins 23 20 = some (.bipush 32) := by decide +kernel
set_option maxRecDepth 100000 in
theorem ji_23_22 : mj_ins 23 22 = some (.if_icmp .eq 17) := by decide +kernel
set_option maxRecDepth 100000 in
theorem ji_23_39 : mj_ins 23 39 = some (.aload_n 0) := by decide +kernel
set_option maxRecDepth 100000 in
theorem ji_23_40 : mj_ins 23 40 = some (.dup) := by decide +kernel
set_option maxRecDepth 100000 in
theorem ji_23_41 : mj_ins 23 41 = some (.getfield 28) := by decide +kernel
set_option maxRecDepth 100000 in
theorem ji_23_44 : mj_ins 23 44 = some (.iconst 1) := by decide +kernel
set_option maxRecDepth 100000 in
theorem ji_23_45 : mj_ins 23 45 = some (.iadd) := by decide +kernel
set_option maxRecDepth 100000 in
theorem ji_23_46 : mj_ins 23 46 = some (.putfield 28) := by decide +kernel
set_option maxRecDepth 100000 in
theorem ji_23_49 : mj_ins 23 49 = some (.goto (-49)) := by decide +kernel
set_option maxRecDepth 100000 in
theorem ji_23_25 : mj_ins 23 25 = some (.aload_n 0) := by decide +kernel
set_option maxRecDepth 100000 in
theorem ji_23_26 : mj_ins 23 26 = some (.getfield 11) := by decide +kernel
set_option maxRecDepth 100000 in
theorem ji_23_29 : mj_ins 23 29 = some (.aload_n 0) := by decide +kernel
set_option maxRecDepth 100000 in
theorem ji_23_30 : mj_ins 23 30 = some (.getfield 28) := by decide +kernel
set_option maxRecDepth 100000 in
theorem ji_23_33 : mj_ins 23 33 = some (.iaload) := by decide +kernel
set_option maxRecDepth 100000 in
theorem ji_23_34 : mj_ins 23 34 = some (.bipush 10) := by decide +kernel
set_option maxRecDepth 100000 in
theorem ji_23_36 : mj_ins 23 36 = some (.if_icmp .ne 16) := by decide +kernel
/-! the class's tape: words, signs, the next token; laid by program (wp_ctok2.py) -/
def tk_C : List Int := tk_W.flatMap (fun K => K ++ [32])
def tk_V : List Value := tk_C.map (fun c => wp_i c)
theorem tk_Cl : tk_C.length = 127 := by decide +kernel
theorem tk_Vl : tk_V.length = 127 := by
  unfold tk_V
  rw [List.length_map, tk_Cl]
theorem tk_Cb : (tk_C.all fun c => decide (0 ≤ c ∧ c ≤ 255)) = true := by decide +kernel
theorem tk_W32 : ∀ K ∈ tk_W, ∀ c ∈ K, ¬ c = 32 := by
  have h : (tk_W.all fun K => K.all fun c => decide (¬ c = 32)) = true := by decide +kernel
  exact fun K hK c hc => of_decide_eq_true (List.all_eq_true.mp (List.all_eq_true.mp h K hK) c hc)
def bi : Bool → Int
  | true => 1
  | false => 0
theorem bi_g {x : Bool} {g : Int} (h : bi x = g) : (g = 1 ∧ x = true) ∨ (g = 0 ∧ x = false) := by
  cases x with
  | true => exact Or.inl ⟨h.symm, rfl⟩
  | false => exact Or.inr ⟨h.symm, rfl⟩
section NW
variable {B : Int → Int} {s q c k a : Int} {cs : List Int} {e : Bool}
theorem nw_1 (h : ¬ c = 32) : nw B s q (c :: cs) k a e = nw B s q cs k (a + 1) (e && decide (a < q ∧ B a = c)) := if_neg h
theorem nw_2 (h : c = 32) (h2 : e = true ∧ a = q) : nw B s q (c :: cs) k a e = k := (if_pos h).trans (if_pos h2)
theorem nw_3 (h : c = 32) (h2 : ¬ (e = true ∧ a = q)) : nw B s q (c :: cs) k a e = nw B s q cs (k + 1) s true := (if_pos h).trans (if_neg h2)
end NW
section WST
variable {nn d m pc : Nat} {lv : mj_L} {st : List Value} {h : mj_H} {Q : Option Value → mj_H → Prop}
theorem wl_ldr {x v : Nat} (hi : mj_ins m pc = some (.ldc x)) (hc : mj_con m x = some (.ref v)) (hr : wl_R nn d m (pc + 2) lv (.ref v :: st) h Q) : wl_R nn d m pc lv st h Q := by
  refine wl_s (pc' := pc + 2) (lv' := lv) (st' := .ref v :: st) (h' := h) hi rfl rfl ?_ hr
  simp only [mj_st, hc]
  rfl
theorem wl_len {x c0 n0 a : Nat} {vs : List Value} {z : Int} (hi : mj_ins m pc = some (.invokevirtual x)) (hc : mj_cal m x = some (30, c0, n0)) (ha : h[a]? = some (900, vs)) (hq : mj_cat st ≤ 8) (hl : vs.length < 1000) (hz : (vs.length : Int) = z) (hr : wl_R nn d m (pc + 3) lv (wp_i z :: st) h Q) : wl_R nn d m pc lv (.ref a :: st) h Q := by
  have hcall : mj_call m (.invokevirtual x) (.ref a :: st) h = none := by simp only [mj_call, hc]
  refine wl_s (pc' := pc + 3) (lv' := lv) (st' := wp_i z :: st) (h' := h) hi rfl hcall ?_ hr
  simp only [mj_st, hc, ha]
  rw [if_pos ⟨hq, hl⟩, ← hz]
  show _ = some (pc + 3, lv, Value.int (Int32.ofInt (vs.length : Int)) :: st, h)
  rw [Int32.ofInt_eq_ofNat]
theorem wl_chr {x c0 n0 a i : Nat} {vs : List Value} {v : Value} (hi : mj_ins m pc = some (.invokevirtual x)) (hc : mj_cal m x = some (31, c0, n0)) (ha : h[a]? = some (900, vs)) (hq : mj_cat st ≤ 8) (hl : vs.length < 1000) (hv : vs[i]? = some v) (hr : wl_R nn d m (pc + 3) lv (v :: st) h Q) : wl_R nn d m pc lv (wp_i (i : Int) :: .ref a :: st) h Q := by
  have hcall : mj_call m (.invokevirtual x) (wp_i (i : Int) :: .ref a :: st) h = none := by simp only [mj_call, hc]
  refine wl_s (pc' := pc + 3) (lv' := lv) (st' := v :: st) (h' := h) hi rfl hcall ?_ hr
  have hlt := (List.getElem?_eq_some_iff.mp hv).1
  have e : mj_el h a 900 (Int32.ofInt (i : Int)) = some v := by
    unfold mj_el
    rw [ha]
    dsimp only
    rw [if_pos rfl, wp_ix (by omega) (by omega) (by omega), show (i : Int).toNat = i by omega]
    exact hv
  simp only [mj_st, hc, e]
  rw [if_pos ⟨hq, fun c hc => by rw [ha] at hc; cases hc; exact hl⟩]
end WST
theorem wc_wl {d : Nat} {h0 h : mj_H} {bl : List Value} {L kk v s q : Int} (D : tB bl) (hL : 0 ≤ L ∧ L ≤ 300) (H8 : h0[8]? = some (900, tk_V)) (V : cT h0 h bl L kk v s q) (hs : 0 ≤ s ∧ s ≤ q ∧ q ≤ L) : ∀ (n i : Nat) (k a : Int) (e : Bool) (o : Option Value), i ≤ 127 → (s ≤ a ∧ a ≤ 300 + (i : Int)) → wl_R n d 26 12 [some (.ref 91), some (wp_i k), some (wp_i a), some (wp_i (bi e)), some (wp_i (i : Int)), o] [] h (fun w h1 => w = some (wp_i (nw (bt bl L) s q (tk_C.drop i) k a e)) ∧ h1 = h) := by
  obtain ⟨hL0, hL⟩ := hL
  intro n
  induction n with
  | zero => intro i k a e o hi ha; exact wl_0
  | succ n ih =>
    intro i k a e o hi ha
    obtain ⟨g, hg0⟩ : ∃ g, bi e = g := ⟨_, rfl⟩
    have hg := bi_g hg0
    rw [hg0]
    refine wl_s1 (pc' := 14) ji_26_12 rfl rfl rfl ?_
    refine wl_ldr ji_26_14 jcon_26_57 ?_
    refine wl_len (z := 127) ji_26_16 jc_26_59 (V.2.2 8 (by decide) |>.trans H8) (Nat.le_of_ble_eq_true rfl) (by rw [tk_Vl]; decide) (by rw [tk_Vl]; rfl) ?_
    refine wl_icmp (t := 103) ji_26_19 rfl (by omega) (by omega) (fun (hb1 : (127 : Int) ≤ ((i : Int))) => ?_) (fun (hb1 : ¬ ((127 : Int) ≤ ((i : Int)))) => ?_)
    · refine wl_s (pc' := 104) ji_26_103 rfl rfl rfl ?_
      rw [show tk_C.drop i = [] from List.drop_eq_nil_of_le (by rw [tk_Cl]; omega)]
      exact wl_ri ji_26_104 jr_26 rfl ⟨rfl, rfl⟩
    · have hil : i < tk_C.length := by rw [tk_Cl]; omega
      obtain ⟨c, hc⟩ : ∃ c, tk_C[i] = c := ⟨_, rfl⟩
      have hcv : tk_V[i]? = some (wp_i c) := by
        unfold tk_V
        rw [List.getElem?_map, List.getElem?_eq_getElem hil, hc]
        rfl
      have hcb := of_decide_eq_true (List.all_eq_true.mp tk_Cb c (by rw [← hc]; exact List.getElem_mem hil))
      have hdr : tk_C.drop i = c :: tk_C.drop (i + 1) := by rw [List.drop_eq_getElem_cons hil, hc]
      rw [hdr]
      refine wl_ldr ji_26_22 jcon_26_57 ?_
      refine wl_s (pc' := 26) ji_26_24 rfl rfl rfl ?_
      refine wl_chr (i := i) ji_26_26 jc_26_63 (V.2.2 8 (by decide) |>.trans H8) (Nat.le_of_ble_eq_true rfl) (by rw [tk_Vl]; decide) hcv ?_
      refine wl_s (pc' := 31) (lv' := [some (.ref 91), some (wp_i k), some (wp_i a), some (wp_i g), some (wp_i ((i : Int))), some (wp_i c)]) ji_26_29 rfl rfl rfl ?_
      refine wl_s (pc' := 33) ji_26_31 rfl rfl rfl ?_
      refine wl_bp ji_26_33 rfl ?_
      refine wl_icmp (t := 73) ji_26_35 rfl (by omega) (by omega) (fun (hb2 : (c : Int) = 32) => ?_) (fun (hb2 : ¬ ((c : Int) = 32)) => ?_)
      · refine wl_s (pc' := 74) ji_26_73 rfl rfl rfl ?_
        refine wl_if (t := 87) ji_26_74 rfl (by omega) (fun (hb3 : (g : Int) = 0) => ?_) (fun (hb3 : ¬ ((g : Int) = 0)) => ?_)
        · refine wl_iinc (x := k) (z := k + 1) (lv' := [some (.ref 91), some (wp_i (k + 1)), some (wp_i a), some (wp_i g), some (wp_i ((i : Int))), some (wp_i c)]) ji_26_87 rfl (Nat.le_of_ble_eq_true rfl) (by omega) rfl ?_
          refine wl_s (pc' := 91) ji_26_90 rfl rfl rfl ?_
          refine ct_g V ji_26_91 jf_26_25 rfl ?_
          refine wl_s (pc' := 95) (lv' := [some (.ref 91), some (wp_i (k + 1)), some (wp_i s), some (wp_i g), some (wp_i ((i : Int))), some (wp_i c)]) ji_26_94 rfl rfl rfl ?_
          refine wl_s (pc' := 96) ji_26_95 rfl rfl rfl ?_
          refine wl_s (pc' := 97) (lv' := [some (.ref 91), some (wp_i (k + 1)), some (wp_i s), some (wp_i 1), some (wp_i ((i : Int))), some (wp_i c)]) ji_26_96 rfl rfl rfl ?_
          refine wl_iinc (x := (i : Int)) (z := ((i + 1 : Nat) : Int)) (lv' := [some (.ref 91), some (wp_i (k + 1)), some (wp_i s), some (wp_i 1), some (wp_i (((i + 1 : Nat) : Int))), some (wp_i c)]) ji_26_97 rfl (Nat.le_of_ble_eq_true rfl) (by omega) rfl ?_
          refine wl_goto (t := 12) ji_26_100 rfl ?_
          rw [nw_3 (by omega) (fun x => hg.elim (fun y => (by exfalso; omega)) (fun y => by rw [y.2] at x; cases x.1))]
          exact ih (i + 1) (k + 1) s true (some (wp_i c)) (by omega) (by omega)
        · refine wl_s (pc' := 78) ji_26_77 rfl rfl rfl ?_
          refine wl_s (pc' := 79) ji_26_78 rfl rfl rfl ?_
          refine ct_g V ji_26_79 jf_26_28 rfl ?_
          refine wl_icmp (t := 87) ji_26_82 rfl (by omega) (by omega) (fun (hb4 : ¬ (a : Int) = q) => ?_) (fun (hb4 : ¬ (¬ (a : Int) = q)) => ?_)
          · refine wl_iinc (x := k) (z := k + 1) (lv' := [some (.ref 91), some (wp_i (k + 1)), some (wp_i a), some (wp_i g), some (wp_i ((i : Int))), some (wp_i c)]) ji_26_87 rfl (Nat.le_of_ble_eq_true rfl) (by omega) rfl ?_
            refine wl_s (pc' := 91) ji_26_90 rfl rfl rfl ?_
            refine ct_g V ji_26_91 jf_26_25 rfl ?_
            refine wl_s (pc' := 95) (lv' := [some (.ref 91), some (wp_i (k + 1)), some (wp_i s), some (wp_i g), some (wp_i ((i : Int))), some (wp_i c)]) ji_26_94 rfl rfl rfl ?_
            refine wl_s (pc' := 96) ji_26_95 rfl rfl rfl ?_
            refine wl_s (pc' := 97) (lv' := [some (.ref 91), some (wp_i (k + 1)), some (wp_i s), some (wp_i 1), some (wp_i ((i : Int))), some (wp_i c)]) ji_26_96 rfl rfl rfl ?_
            refine wl_iinc (x := (i : Int)) (z := ((i + 1 : Nat) : Int)) (lv' := [some (.ref 91), some (wp_i (k + 1)), some (wp_i s), some (wp_i 1), some (wp_i (((i + 1 : Nat) : Int))), some (wp_i c)]) ji_26_97 rfl (Nat.le_of_ble_eq_true rfl) (by omega) rfl ?_
            refine wl_goto (t := 12) ji_26_100 rfl ?_
            rw [nw_3 (by omega) (fun x => (by have := x.2; omega))]
            exact ih (i + 1) (k + 1) s true (some (wp_i c)) (by omega) (by omega)
          · refine wl_s (pc' := 86) ji_26_85 rfl rfl rfl ?_
            rw [nw_2 (by omega) ⟨hg.elim (fun x => x.2) (fun x => (by exfalso; omega)), by omega⟩]
            exact wl_ri ji_26_86 jr_26 rfl ⟨rfl, rfl⟩
      · refine wl_s (pc' := 39) ji_26_38 rfl rfl rfl ?_
        refine wl_if (t := 65) ji_26_39 rfl (by omega) (fun (hb5 : (g : Int) = 0) => ?_) (fun (hb5 : ¬ ((g : Int) = 0)) => ?_)
        · refine wl_s (pc' := 66) ji_26_65 rfl rfl rfl ?_
          refine wl_s (pc' := 67) (lv' := [some (.ref 91), some (wp_i k), some (wp_i a), some (wp_i 0), some (wp_i ((i : Int))), some (wp_i c)]) ji_26_66 rfl rfl rfl ?_
          refine wl_iinc (x := a) (z := a + 1) (lv' := [some (.ref 91), some (wp_i k), some (wp_i (a + 1)), some (wp_i 0), some (wp_i ((i : Int))), some (wp_i c)]) ji_26_67 rfl (Nat.le_of_ble_eq_true rfl) (by omega) rfl ?_
          refine wl_goto (t := 97) ji_26_70 rfl ?_
          refine wl_iinc (x := (i : Int)) (z := ((i + 1 : Nat) : Int)) (lv' := [some (.ref 91), some (wp_i k), some (wp_i (a + 1)), some (wp_i 0), some (wp_i (((i + 1 : Nat) : Int))), some (wp_i c)]) ji_26_97 rfl (Nat.le_of_ble_eq_true rfl) (by omega) rfl ?_
          refine wl_goto (t := 12) ji_26_100 rfl ?_
          rw [nw_1 (by omega), show (e && decide (a < q ∧ bt bl L a = c)) = false from (by rw [hg.elim (fun x => (by exfalso; omega)) (fun x => x.2)]; rfl)]
          exact ih (i + 1) k (a + 1) false (some (wp_i c)) (by omega) (by omega)
        · refine wl_s (pc' := 43) ji_26_42 rfl rfl rfl ?_
          refine wl_s (pc' := 44) ji_26_43 rfl rfl rfl ?_
          refine ct_g V ji_26_44 jf_26_28 rfl ?_
          refine wl_icmp (t := 65) ji_26_47 rfl (by omega) (by omega) (fun (hb6 : (q : Int) ≤ a) => ?_) (fun (hb6 : ¬ ((q : Int) ≤ a)) => ?_)
          · refine wl_s (pc' := 66) ji_26_65 rfl rfl rfl ?_
            refine wl_s (pc' := 67) (lv' := [some (.ref 91), some (wp_i k), some (wp_i a), some (wp_i 0), some (wp_i ((i : Int))), some (wp_i c)]) ji_26_66 rfl rfl rfl ?_
            refine wl_iinc (x := a) (z := a + 1) (lv' := [some (.ref 91), some (wp_i k), some (wp_i (a + 1)), some (wp_i 0), some (wp_i ((i : Int))), some (wp_i c)]) ji_26_67 rfl (Nat.le_of_ble_eq_true rfl) (by omega) rfl ?_
            refine wl_goto (t := 97) ji_26_70 rfl ?_
            refine wl_iinc (x := (i : Int)) (z := ((i + 1 : Nat) : Int)) (lv' := [some (.ref 91), some (wp_i k), some (wp_i (a + 1)), some (wp_i 0), some (wp_i (((i + 1 : Nat) : Int))), some (wp_i c)]) ji_26_97 rfl (Nat.le_of_ble_eq_true rfl) (by omega) rfl ?_
            refine wl_goto (t := 12) ji_26_100 rfl ?_
            rw [nw_1 (by omega), show (e && decide (a < q ∧ bt bl L a = c)) = false from (by rw [decide_eq_false (show ¬ (a < q ∧ bt bl L a = c) by omega), Bool.and_false])]
            exact ih (i + 1) k (a + 1) false (some (wp_i c)) (by omega) (by omega)
          · refine wl_s (pc' := 51) ji_26_50 rfl rfl rfl ?_
            refine ct_g V ji_26_51 jf_26_11 rfl ?_
            refine wl_s (pc' := 55) ji_26_54 rfl rfl rfl ?_
            refine ct_l (x := a) V D hL (by omega) ji_26_55 ?_
            have hb_7 := bt_r D hL (k := a) (by omega)
            have hb_8 := bt_i D hL (k := a) (by omega) (by omega)
            refine wl_s (pc' := 58) ji_26_56 rfl rfl rfl ?_
            refine wl_icmp (t := 65) ji_26_58 rfl (by omega) (by omega) (fun (hb9 : ¬ (bt bl L a : Int) = c) => ?_) (fun (hb9 : ¬ (¬ (bt bl L a : Int) = c)) => ?_)
            · refine wl_s (pc' := 66) ji_26_65 rfl rfl rfl ?_
              refine wl_s (pc' := 67) (lv' := [some (.ref 91), some (wp_i k), some (wp_i a), some (wp_i 0), some (wp_i ((i : Int))), some (wp_i c)]) ji_26_66 rfl rfl rfl ?_
              refine wl_iinc (x := a) (z := a + 1) (lv' := [some (.ref 91), some (wp_i k), some (wp_i (a + 1)), some (wp_i 0), some (wp_i ((i : Int))), some (wp_i c)]) ji_26_67 rfl (Nat.le_of_ble_eq_true rfl) (by omega) rfl ?_
              refine wl_goto (t := 97) ji_26_70 rfl ?_
              refine wl_iinc (x := (i : Int)) (z := ((i + 1 : Nat) : Int)) (lv' := [some (.ref 91), some (wp_i k), some (wp_i (a + 1)), some (wp_i 0), some (wp_i (((i + 1 : Nat) : Int))), some (wp_i c)]) ji_26_97 rfl (Nat.le_of_ble_eq_true rfl) (by omega) rfl ?_
              refine wl_goto (t := 12) ji_26_100 rfl ?_
              rw [nw_1 (by omega), show (e && decide (a < q ∧ bt bl L a = c)) = false from (by rw [decide_eq_false (show ¬ (a < q ∧ bt bl L a = c) by omega), Bool.and_false])]
              exact ih (i + 1) k (a + 1) false (some (wp_i c)) (by omega) (by omega)
            · refine wl_s (pc' := 62) ji_26_61 rfl rfl rfl ?_
              refine wl_goto (t := 66) ji_26_62 rfl ?_
              refine wl_s (pc' := 67) (lv' := [some (.ref 91), some (wp_i k), some (wp_i a), some (wp_i 1), some (wp_i ((i : Int))), some (wp_i c)]) ji_26_66 rfl rfl rfl ?_
              refine wl_iinc (x := a) (z := a + 1) (lv' := [some (.ref 91), some (wp_i k), some (wp_i (a + 1)), some (wp_i 1), some (wp_i ((i : Int))), some (wp_i c)]) ji_26_67 rfl (Nat.le_of_ble_eq_true rfl) (by omega) rfl ?_
              refine wl_goto (t := 97) ji_26_70 rfl ?_
              refine wl_iinc (x := (i : Int)) (z := ((i + 1 : Nat) : Int)) (lv' := [some (.ref 91), some (wp_i k), some (wp_i (a + 1)), some (wp_i 1), some (wp_i (((i + 1 : Nat) : Int))), some (wp_i c)]) ji_26_97 rfl (Nat.le_of_ble_eq_true rfl) (by omega) rfl ?_
              refine wl_goto (t := 12) ji_26_100 rfl ?_
              rw [nw_1 (by omega), show (e && decide (a < q ∧ bt bl L a = c)) = true from (by rw [hg.elim (fun x => x.2) (fun x => (by exfalso; omega)), decide_eq_true (show a < q ∧ bt bl L a = c by omega)]; rfl)]
              exact ih (i + 1) k (a + 1) true (some (wp_i c)) (by omega) (by omega)
theorem wc_word {d : Nat} {h0 h : mj_H} {bl : List Value} {L kk v s q : Int} (D : tB bl) (hL : 0 ≤ L ∧ L ≤ 300) (H8 : h0[8]? = some (900, tk_V)) (V : cT h0 h bl L kk v s q) (hs : 0 ≤ s ∧ s ≤ q ∧ q ≤ L) (n : Nat) : wl_R n d 26 0 [some (.ref 91), none, none, none, none, none] [] h (fun w h1 => w = some (wp_i (wix (tk_ls (bt bl L) s q) tk_W 0)) ∧ h1 = h) := by
  rw [← nw_all hs.2.1 tk_W32]
  refine wl_s (pc' := 1) ji_26_0 rfl rfl rfl ?_
  refine wl_s (pc' := 2) (lv' := [some (.ref 91), some (wp_i 0), none, none, none, none]) ji_26_1 rfl rfl rfl ?_
  refine wl_s (pc' := 3) ji_26_2 rfl rfl rfl ?_
  refine ct_g V ji_26_3 jf_26_25 rfl ?_
  refine wl_s (pc' := 7) (lv' := [some (.ref 91), some (wp_i 0), some (wp_i s), none, none, none]) ji_26_6 rfl rfl rfl ?_
  refine wl_s (pc' := 8) ji_26_7 rfl rfl rfl ?_
  refine wl_s (pc' := 9) (lv' := [some (.ref 91), some (wp_i 0), some (wp_i s), some (wp_i 1), none, none]) ji_26_8 rfl rfl rfl ?_
  refine wl_s (pc' := 10) ji_26_9 rfl rfl rfl ?_
  refine wl_s (pc' := 12) (lv' := [some (.ref 91), some (wp_i 0), some (wp_i s), some (wp_i 1), some (wp_i ((0 : Nat) : Int)), none]) ji_26_10 rfl rfl rfl ?_
  exact wc_wl D hL H8 V hs n 0 0 s true none (by omega) (by omega)
theorem wc_sign {d : Nat} {h0 h : mj_H} {bl : List Value} {L k s p : Int} (D : tB bl) (hL : 0 ≤ L ∧ L ≤ 300) (V : cT h0 h bl L k (-1) s p) (hp : 0 ≤ p ∧ p < L) (n : Nat) : wl_R n d 29 0 [some (.ref 91), none] [] h (fun w h1 => w = none ∧ cT h0 h1 bl L (tk_s (bt bl L p) (bt bl L (p + 1))).1 (tk_s (bt bl L p) (bt bl L (p + 1))).2.1 s (p + (tk_s (bt bl L p) (bt bl L (p + 1))).2.2) ∧ p + (tk_s (bt bl L p) (bt bl L (p + 1))).2.2 ≤ L) := by
  obtain ⟨hL0, hL⟩ := hL
  have hb1 := bt_r D hL (k := p) (by omega)
  obtain ⟨c, hc⟩ : ∃ c, bt bl L p = c := ⟨_, rfl⟩
  rw [hc] at hb1
  refine wl_s (pc' := 1) ji_29_0 rfl rfl rfl ?_
  refine ct_g V ji_29_1 jf_29_11 rfl ?_
  refine wl_s (pc' := 5) ji_29_4 rfl rfl rfl ?_
  refine ct_g V ji_29_5 jf_29_28 rfl ?_
  refine ct_l (x := p) V D hL (by omega) ji_29_8 ?_
  rw [hc]
  refine wl_s (pc' := 10) (lv' := [some (.ref 91), some (wp_i c)]) ji_29_9 rfl rfl rfl ?_
  refine wl_s (pc' := 11) ji_29_10 rfl rfl rfl ?_
  refine wl_s (pc' := 12) ji_29_11 rfl rfl rfl ?_
  refine ct_g V ji_29_12 jf_29_28 rfl ?_
  refine wl_s (pc' := 16) ji_29_15 rfl rfl rfl ?_
  refine wl_iadd (x := p) (y := 1) (z := p + 1) ji_29_16 rfl ?_
  refine ct_p (y := p + 1) (L' := L) (k' := k) (v' := -1) (s' := s) (p' := p + 1) V ji_29_17 jf_29_28 (by decide) rfl (fun h V => ?_)
  refine wl_s (pc' := 21) ji_29_20 rfl rfl rfl ?_
  have K148 : (c = 60 ∨ c = 62) → wl_R n d 29 148 [some (.ref 91), some (wp_i c)] [] h (fun w h1 => w = none ∧ cT h0 h1 bl L (tk_s c (bt bl L (p + 1))).1 (tk_s c (bt bl L (p + 1))).2.1 s (p + (tk_s c (bt bl L (p + 1))).2.2) ∧ p + (tk_s c (bt bl L (p + 1))).2.2 ≤ L) := by
    intro hc
    refine wl_s (pc' := 149) ji_29_148 rfl rfl rfl ?_
    refine wl_s (pc' := 150) ji_29_149 rfl rfl rfl ?_
    refine ct_p (y := 2) (L' := L) (k' := 2) (v' := -1) (s' := s) (p' := p + 1) V ji_29_150 jf_29_19 (by decide) rfl (fun h V => ?_)
    refine wl_s (pc' := 154) ji_29_153 rfl rfl rfl ?_
    refine wl_s (pc' := 155) ji_29_154 rfl rfl rfl ?_
    refine ct_p (y := c) (L' := L) (k' := 2) (v' := c) (s' := s) (p' := p + 1) V ji_29_155 jf_29_22 (by decide) rfl (fun h V => ?_)
    refine wl_s (pc' := 159) ji_29_158 rfl rfl rfl ?_
    refine ct_g V ji_29_159 jf_29_28 rfl ?_
    refine wl_s (pc' := 163) ji_29_162 rfl rfl rfl ?_
    refine ct_g V ji_29_163 jf_29_15 rfl ?_
    refine wl_icmp (t := 231) ji_29_166 rfl (by omega) (by omega) (fun (hb1 : (L : Int) ≤ (p + 1)) => ?_) (fun (hb1 : ¬ ((L : Int) ≤ (p + 1))) => ?_)
    · have e : tk_s c (bt bl L (p + 1)) = (2, c, 1) := by unfold tk_s; rw [if_pos hc, if_neg (by rw [bt_e (by omega)]; decide)]
      rw [e]
      exact wl_rv ji_29_231 jr_29 ⟨rfl, V, by show p + 1 ≤ L; omega⟩
    · refine wl_s (pc' := 170) ji_29_169 rfl rfl rfl ?_
      refine ct_g V ji_29_170 jf_29_11 rfl ?_
      refine wl_s (pc' := 174) ji_29_173 rfl rfl rfl ?_
      refine ct_g V ji_29_174 jf_29_28 rfl ?_
      refine ct_l (x := p + 1) V D hL (by omega) ji_29_177 ?_
      have hb_2 := bt_r D hL (k := p + 1) (by omega)
      have hb_3 := bt_i D hL (k := p + 1) (by omega) (by omega)
      refine wl_bp ji_29_178 rfl ?_
      refine wl_icmp (t := 231) ji_29_180 rfl (by omega) (by omega) (fun (hb4 : ¬ (bt bl L (p + 1) : Int) = 61) => ?_) (fun (hb4 : ¬ (¬ (bt bl L (p + 1) : Int) = 61)) => ?_)
      · have e : tk_s c (bt bl L (p + 1)) = (2, c, 1) := by unfold tk_s; rw [if_pos hc, if_neg (by omega)]
        rw [e]
        exact wl_rv ji_29_231 jr_29 ⟨rfl, V, by show p + 1 ≤ L; omega⟩
      · refine wl_s (pc' := 184) ji_29_183 rfl rfl rfl ?_
        refine wl_s (pc' := 185) ji_29_184 rfl rfl rfl ?_
        refine ct_g V ji_29_185 jf_29_28 rfl ?_
        refine wl_s (pc' := 189) ji_29_188 rfl rfl rfl ?_
        refine wl_iadd (x := p + 1) (y := 1) (z := p + 1 + 1) ji_29_189 (by omega) ?_
        refine ct_p (y := p + 1 + 1) (L' := L) (k' := 2) (v' := c) (s' := s) (p' := p + 1 + 1) V ji_29_190 jf_29_28 (by decide) rfl (fun h V => ?_)
        refine wl_s (pc' := 194) ji_29_193 rfl rfl rfl ?_
        refine wl_s (pc' := 195) ji_29_194 rfl rfl rfl ?_
        refine wl_bp ji_29_195 rfl ?_
        refine wl_icmp (t := 205) ji_29_197 rfl (by omega) (by omega) (fun (hb5 : ¬ (c : Int) = 60) => ?_) (fun (hb5 : ¬ (¬ (c : Int) = 60)) => ?_)
        · refine wl_bp ji_29_205 rfl ?_
          refine ct_p (y := 103) (L' := L) (k' := 2) (v' := 103) (s' := s) (p' := p + 1 + 1) V ji_29_207 jf_29_22 (by decide) rfl (fun h V => ?_)
          refine wl_goto (t := 231) ji_29_210 rfl ?_
          rw [show p + 1 + 1 = p + 2 by omega] at V
          have e : tk_s c (bt bl L (p + 1)) = (2, 103, 2) := by unfold tk_s; rw [if_pos hc, if_pos (by omega), if_neg (by omega)]
          rw [e]
          exact wl_rv ji_29_231 jr_29 ⟨rfl, V, by show p + 2 ≤ L; omega⟩
        · refine wl_bp ji_29_200 rfl ?_
          refine wl_goto (t := 207) ji_29_202 rfl ?_
          refine ct_p (y := 108) (L' := L) (k' := 2) (v' := 108) (s' := s) (p' := p + 1 + 1) V ji_29_207 jf_29_22 (by decide) rfl (fun h V => ?_)
          refine wl_goto (t := 231) ji_29_210 rfl ?_
          rw [show p + 1 + 1 = p + 2 by omega] at V
          have e : tk_s c (bt bl L (p + 1)) = (2, 108, 2) := by unfold tk_s; rw [if_pos hc, if_pos (by omega), if_pos (by omega)]
          rw [e]
          exact wl_rv ji_29_231 jr_29 ⟨rfl, V, by show p + 2 ≤ L; omega⟩
  have K213 : (c = 61 ∨ c = 35 ∨ c = 43 ∨ c = 45 ∨ c = 42 ∨ c = 47 ∨ c = 40 ∨ c = 41 ∨ c = 44 ∨ c = 59) → wl_R n d 29 213 [some (.ref 91), some (wp_i c)] [] h (fun w h1 => w = none ∧ cT h0 h1 bl L (tk_s c (bt bl L (p + 1))).1 (tk_s c (bt bl L (p + 1))).2.1 s (p + (tk_s c (bt bl L (p + 1))).2.2) ∧ p + (tk_s c (bt bl L (p + 1))).2.2 ≤ L) := by
    intro hc
    refine wl_s (pc' := 214) ji_29_213 rfl rfl rfl ?_
    refine wl_s (pc' := 215) ji_29_214 rfl rfl rfl ?_
    refine ct_p (y := 2) (L' := L) (k' := 2) (v' := -1) (s' := s) (p' := p + 1) V ji_29_215 jf_29_19 (by decide) rfl (fun h V => ?_)
    refine wl_s (pc' := 219) ji_29_218 rfl rfl rfl ?_
    refine wl_s (pc' := 220) ji_29_219 rfl rfl rfl ?_
    refine ct_p (y := c) (L' := L) (k' := 2) (v' := c) (s' := s) (p' := p + 1) V ji_29_220 jf_29_22 (by decide) rfl (fun h V => ?_)
    refine wl_goto (t := 231) ji_29_223 rfl ?_
    have e : tk_s c (bt bl L (p + 1)) = (2, c, 1) := by unfold tk_s; rw [if_neg (by omega), if_pos hc]
    rw [e]
    exact wl_rv ji_29_231 jr_29 ⟨rfl, V, by show p + 1 ≤ L; omega⟩
  have K226 : ((c < 35 ∨ 62 < c) ∨ (¬ (c = 60 ∨ c = 62) ∧ ¬ (c = 61 ∨ c = 35 ∨ c = 43 ∨ c = 45 ∨ c = 42 ∨ c = 47 ∨ c = 40 ∨ c = 41 ∨ c = 44 ∨ c = 59))) → wl_R n d 29 226 [some (.ref 91), some (wp_i c)] [] h (fun w h1 => w = none ∧ cT h0 h1 bl L (tk_s c (bt bl L (p + 1))).1 (tk_s c (bt bl L (p + 1))).2.1 s (p + (tk_s c (bt bl L (p + 1))).2.2) ∧ p + (tk_s c (bt bl L (p + 1))).2.2 ≤ L) := by
    intro hc
    refine wl_s (pc' := 227) ji_29_226 rfl rfl rfl ?_
    refine wl_s (pc' := 228) ji_29_227 rfl rfl rfl ?_
    refine ct_p (y := 4) (L' := L) (k' := 4) (v' := -1) (s' := s) (p' := p + 1) V ji_29_228 jf_29_19 (by decide) rfl (fun h V => ?_)
    have e : tk_s c (bt bl L (p + 1)) = (4, -1, 1) := by unfold tk_s; rw [if_neg (by omega), if_neg (by omega)]
    rw [e]
    exact wl_rv ji_29_231 jr_29 ⟨rfl, V, by show p + 1 ≤ L; omega⟩
  by_cases hr : c < 35 ∨ 62 < c
  · refine wl_s (pc' := 226) (lv' := [some (.ref 91), some (wp_i c)]) (st' := []) (h' := h) ji_29_21 rfl rfl ?_ (K226 (Or.inl hr))
    simp only [mj_st, wp_ti (show wp_r c by omega)]
    rw [if_pos hr]
    rfl
  · have hc2 : c = 35 ∨ c = 36 ∨ c = 37 ∨ c = 38 ∨ c = 39 ∨ c = 40 ∨ c = 41 ∨ c = 42 ∨ c = 43 ∨ c = 44 ∨ c = 45 ∨ c = 46 ∨ c = 47 ∨ c = 48 ∨ c = 49 ∨ c = 50 ∨ c = 51 ∨ c = 52 ∨ c = 53 ∨ c = 54 ∨ c = 55 ∨ c = 56 ∨ c = 57 ∨ c = 58 ∨ c = 59 ∨ c = 60 ∨ c = 61 ∨ c = 62 := by omega
    rcases hc2 with e | e | e | e | e | e | e | e | e | e | e | e | e | e | e | e | e | e | e | e | e | e | e | e | e | e | e | e
    · exact wl_s (pc' := 213) (lv' := [some (.ref 91), some (wp_i c)]) (st' := []) (h' := h) ji_29_21 rfl rfl (by subst e; simp only [mj_st, wp_ti (show wp_r 35 by omega)]; rfl) (K213 (by omega))
    · exact wl_s (pc' := 226) (lv' := [some (.ref 91), some (wp_i c)]) (st' := []) (h' := h) ji_29_21 rfl rfl (by subst e; simp only [mj_st, wp_ti (show wp_r 36 by omega)]; rfl) (K226 (by omega))
    · exact wl_s (pc' := 226) (lv' := [some (.ref 91), some (wp_i c)]) (st' := []) (h' := h) ji_29_21 rfl rfl (by subst e; simp only [mj_st, wp_ti (show wp_r 37 by omega)]; rfl) (K226 (by omega))
    · exact wl_s (pc' := 226) (lv' := [some (.ref 91), some (wp_i c)]) (st' := []) (h' := h) ji_29_21 rfl rfl (by subst e; simp only [mj_st, wp_ti (show wp_r 38 by omega)]; rfl) (K226 (by omega))
    · exact wl_s (pc' := 226) (lv' := [some (.ref 91), some (wp_i c)]) (st' := []) (h' := h) ji_29_21 rfl rfl (by subst e; simp only [mj_st, wp_ti (show wp_r 39 by omega)]; rfl) (K226 (by omega))
    · exact wl_s (pc' := 213) (lv' := [some (.ref 91), some (wp_i c)]) (st' := []) (h' := h) ji_29_21 rfl rfl (by subst e; simp only [mj_st, wp_ti (show wp_r 40 by omega)]; rfl) (K213 (by omega))
    · exact wl_s (pc' := 213) (lv' := [some (.ref 91), some (wp_i c)]) (st' := []) (h' := h) ji_29_21 rfl rfl (by subst e; simp only [mj_st, wp_ti (show wp_r 41 by omega)]; rfl) (K213 (by omega))
    · exact wl_s (pc' := 213) (lv' := [some (.ref 91), some (wp_i c)]) (st' := []) (h' := h) ji_29_21 rfl rfl (by subst e; simp only [mj_st, wp_ti (show wp_r 42 by omega)]; rfl) (K213 (by omega))
    · exact wl_s (pc' := 213) (lv' := [some (.ref 91), some (wp_i c)]) (st' := []) (h' := h) ji_29_21 rfl rfl (by subst e; simp only [mj_st, wp_ti (show wp_r 43 by omega)]; rfl) (K213 (by omega))
    · exact wl_s (pc' := 213) (lv' := [some (.ref 91), some (wp_i c)]) (st' := []) (h' := h) ji_29_21 rfl rfl (by subst e; simp only [mj_st, wp_ti (show wp_r 44 by omega)]; rfl) (K213 (by omega))
    · exact wl_s (pc' := 213) (lv' := [some (.ref 91), some (wp_i c)]) (st' := []) (h' := h) ji_29_21 rfl rfl (by subst e; simp only [mj_st, wp_ti (show wp_r 45 by omega)]; rfl) (K213 (by omega))
    · exact wl_s (pc' := 226) (lv' := [some (.ref 91), some (wp_i c)]) (st' := []) (h' := h) ji_29_21 rfl rfl (by subst e; simp only [mj_st, wp_ti (show wp_r 46 by omega)]; rfl) (K226 (by omega))
    · exact wl_s (pc' := 213) (lv' := [some (.ref 91), some (wp_i c)]) (st' := []) (h' := h) ji_29_21 rfl rfl (by subst e; simp only [mj_st, wp_ti (show wp_r 47 by omega)]; rfl) (K213 (by omega))
    · exact wl_s (pc' := 226) (lv' := [some (.ref 91), some (wp_i c)]) (st' := []) (h' := h) ji_29_21 rfl rfl (by subst e; simp only [mj_st, wp_ti (show wp_r 48 by omega)]; rfl) (K226 (by omega))
    · exact wl_s (pc' := 226) (lv' := [some (.ref 91), some (wp_i c)]) (st' := []) (h' := h) ji_29_21 rfl rfl (by subst e; simp only [mj_st, wp_ti (show wp_r 49 by omega)]; rfl) (K226 (by omega))
    · exact wl_s (pc' := 226) (lv' := [some (.ref 91), some (wp_i c)]) (st' := []) (h' := h) ji_29_21 rfl rfl (by subst e; simp only [mj_st, wp_ti (show wp_r 50 by omega)]; rfl) (K226 (by omega))
    · exact wl_s (pc' := 226) (lv' := [some (.ref 91), some (wp_i c)]) (st' := []) (h' := h) ji_29_21 rfl rfl (by subst e; simp only [mj_st, wp_ti (show wp_r 51 by omega)]; rfl) (K226 (by omega))
    · exact wl_s (pc' := 226) (lv' := [some (.ref 91), some (wp_i c)]) (st' := []) (h' := h) ji_29_21 rfl rfl (by subst e; simp only [mj_st, wp_ti (show wp_r 52 by omega)]; rfl) (K226 (by omega))
    · exact wl_s (pc' := 226) (lv' := [some (.ref 91), some (wp_i c)]) (st' := []) (h' := h) ji_29_21 rfl rfl (by subst e; simp only [mj_st, wp_ti (show wp_r 53 by omega)]; rfl) (K226 (by omega))
    · exact wl_s (pc' := 226) (lv' := [some (.ref 91), some (wp_i c)]) (st' := []) (h' := h) ji_29_21 rfl rfl (by subst e; simp only [mj_st, wp_ti (show wp_r 54 by omega)]; rfl) (K226 (by omega))
    · exact wl_s (pc' := 226) (lv' := [some (.ref 91), some (wp_i c)]) (st' := []) (h' := h) ji_29_21 rfl rfl (by subst e; simp only [mj_st, wp_ti (show wp_r 55 by omega)]; rfl) (K226 (by omega))
    · exact wl_s (pc' := 226) (lv' := [some (.ref 91), some (wp_i c)]) (st' := []) (h' := h) ji_29_21 rfl rfl (by subst e; simp only [mj_st, wp_ti (show wp_r 56 by omega)]; rfl) (K226 (by omega))
    · exact wl_s (pc' := 226) (lv' := [some (.ref 91), some (wp_i c)]) (st' := []) (h' := h) ji_29_21 rfl rfl (by subst e; simp only [mj_st, wp_ti (show wp_r 57 by omega)]; rfl) (K226 (by omega))
    · exact wl_s (pc' := 226) (lv' := [some (.ref 91), some (wp_i c)]) (st' := []) (h' := h) ji_29_21 rfl rfl (by subst e; simp only [mj_st, wp_ti (show wp_r 58 by omega)]; rfl) (K226 (by omega))
    · exact wl_s (pc' := 213) (lv' := [some (.ref 91), some (wp_i c)]) (st' := []) (h' := h) ji_29_21 rfl rfl (by subst e; simp only [mj_st, wp_ti (show wp_r 59 by omega)]; rfl) (K213 (by omega))
    · exact wl_s (pc' := 148) (lv' := [some (.ref 91), some (wp_i c)]) (st' := []) (h' := h) ji_29_21 rfl rfl (by subst e; simp only [mj_st, wp_ti (show wp_r 60 by omega)]; rfl) (K148 (by omega))
    · exact wl_s (pc' := 213) (lv' := [some (.ref 91), some (wp_i c)]) (st' := []) (h' := h) ji_29_21 rfl rfl (by subst e; simp only [mj_st, wp_ti (show wp_r 61 by omega)]; rfl) (K213 (by omega))
    · exact wl_s (pc' := 148) (lv' := [some (.ref 91), some (wp_i c)]) (st' := []) (h' := h) ji_29_21 rfl rfl (by subst e; simp only [mj_st, wp_ti (show wp_r 62 by omega)]; rfl) (K148 (by omega))
theorem wc_52 {n d : Nat} {h0 h : mj_H} {bl : List Value} {L k v s q p0 : Int} (D : tB bl) (hL : 0 ≤ L ∧ L ≤ 300) (H8 : h0[8]? = some (900, tk_V)) (V : cT h0 h bl L k v s q) (hp0 : 0 ≤ p0) (hwh : wh tk_b (bt bl L) p0 q) (hqL : q ≤ L) : wl_R n (d + 2) 23 52 [some (.ref 91)] [] h (fun w h1 => w = none ∧ ∃ k' v' q r, cT h0 h1 bl L k' v' q r ∧ tok (bt bl L) p0 k' v' q r ∧ (0 ≤ q ∧ r ≤ L)) := by
  obtain ⟨hL0, hL⟩ := hL
  have hpq := hwh.1
  refine wl_s (pc' := 53) ji_23_52 rfl rfl rfl ?_
  refine wl_s (pc' := 54) ji_23_53 rfl rfl rfl ?_
  refine ct_g V ji_23_54 jf_23_28 rfl ?_
  refine ct_p (y := q) (L' := L) (k' := k) (v' := v) (s' := q) (p' := q) V ji_23_57 jf_23_25 (by decide) rfl (fun h V => ?_)
  refine wl_s (pc' := 61) ji_23_60 rfl rfl rfl ?_
  refine wl_s (pc' := 62) ji_23_61 rfl rfl rfl ?_
  refine ct_p (y := -1) (L' := L) (k' := k) (v' := -1) (s' := q) (p' := q) V ji_23_62 jf_23_22 (by decide) rfl (fun h V => ?_)
  refine wl_s (pc' := 66) ji_23_65 rfl rfl rfl ?_
  refine ct_g V ji_23_66 jf_23_28 rfl ?_
  refine wl_s (pc' := 70) ji_23_69 rfl rfl rfl ?_
  refine ct_g V ji_23_70 jf_23_15 rfl ?_
  refine wl_icmp (t := 84) ji_23_73 rfl (by omega) (by omega) (fun (hb1 : (q : Int) < L) => ?_) (fun (hb1 : ¬ ((q : Int) < L)) => ?_)
  · refine wl_s (pc' := 85) ji_23_84 rfl rfl rfl ?_
    refine ct_g V ji_23_85 jf_23_11 rfl ?_
    refine wl_s (pc' := 89) ji_23_88 rfl rfl rfl ?_
    refine ct_g V ji_23_89 jf_23_28 rfl ?_
    refine ct_l (x := q) V D hL (by omega) ji_23_92 ?_
    have hb_2 := bt_r D hL (k := q) (by omega)
    have hb_3 := bt_i D hL (k := q) (by omega) (by omega)
    refine wl_sc (d := d + 1) (as := [wp_i (bt bl L q)]) (rest := []) ji_23_93 jc_23_31 (Nat.le_of_ble_eq_true rfl) rfl (Nat.le_of_ble_eq_true rfl) rfl (by rw [jn_24]; rfl) (wc_let (c := bt bl L q) (by omega)) (fun w h1 R => ?_)
    obtain ⟨e1, y, rfl, hya, hyb⟩ := R
    subst e1
    show wl_R _ (d + 2) 23 96 [some (.ref 91)] [wp_i y] h1 _
    refine wl_if (t := 119) ji_23_96 rfl (by omega) (fun (hb4 : (y : Int) = 0) => ?_) (fun (hb4 : ¬ ((y : Int) = 0)) => ?_)
    · refine wl_s (pc' := 120) ji_23_119 rfl rfl rfl ?_
      refine ct_g V ji_23_120 jf_23_11 rfl ?_
      refine wl_s (pc' := 124) ji_23_123 rfl rfl rfl ?_
      refine ct_g V ji_23_124 jf_23_28 rfl ?_
      refine ct_l (x := q) V D hL (by omega) ji_23_127 ?_
      have hb_5 := bt_r D hL (k := q) (by omega)
      have hb_6 := bt_i D hL (k := q) (by omega) (by omega)
      refine wl_sc (d := d + 1) (as := [wp_i (bt bl L q)]) (rest := []) ji_23_128 jc_23_42 (Nat.le_of_ble_eq_true rfl) rfl (Nat.le_of_ble_eq_true rfl) rfl (by rw [jn_27]; rfl) (wc_dig (c := bt bl L q) (by omega)) (fun w h1 R => ?_)
      obtain ⟨e1, z, rfl, hza, hzb⟩ := R
      subst e1
      show wl_R _ (d + 2) 23 131 [some (.ref 91)] [wp_i z] h1 _
      refine wl_if (t := 141) ji_23_131 rfl (by omega) (fun (hb7 : (z : Int) = 0) => ?_) (fun (hb7 : ¬ ((z : Int) = 0)) => ?_)
      · refine wl_s (pc' := 142) ji_23_141 rfl rfl rfl ?_
        refine wl_vc (d := d + 1) (as := [.ref 91]) (rest := []) ji_23_142 jc_23_48 rfl V.1 jk_29.symm (Nat.le_of_ble_eq_true rfl) rfl (by rw [jn_29]; rfl) (wc_sign (d := d + 1) D ⟨hL0, hL⟩ V ⟨by omega, by omega⟩ n) (fun w h2 R => ?_)
        obtain ⟨rfl, V, hrL⟩ := R
        show wl_R _ (d + 2) 23 145 [some (.ref 91)] [] h2 _
        exact wl_rv ji_23_145 jr_23 ⟨rfl, _, _, q, _, V, ⟨hwh, Or.inr (Or.inr (Or.inr ⟨by have := bt_i D hL (k := q) (by omega) (by omega); omega, fun e => by have := hyb.mpr e; omega, fun e => by have := hzb.mpr e; omega, rfl, rfl, rfl⟩))⟩, ⟨by omega, hrL⟩⟩
      · refine wl_s (pc' := 135) ji_23_134 rfl rfl rfl ?_
        refine wl_vc (d := d + 1) (as := [.ref 91]) (rest := []) ji_23_135 jc_23_45 rfl V.1 jk_28.symm (Nat.le_of_ble_eq_true rfl) rfl (by rw [jn_28]; rfl) (wc_num (d := d) D ⟨hL0, hL⟩ V ⟨by omega, by omega⟩ n) (fun w h2 R => ?_)
        obtain ⟨rfl, r, V, hw, hrL⟩ := R
        show wl_R _ (d + 2) 23 138 [some (.ref 91)] [] h2 _
        refine wl_goto (t := 145) ji_23_138 rfl ?_
        exact wl_rv ji_23_145 jr_23 ⟨rfl, _, _, q, r, V, ⟨hwh, Or.inr (Or.inr (Or.inl ⟨hzb.mp (by omega), rfl, hw, rfl⟩))⟩, by omega⟩
    · refine wl_s (pc' := 100) ji_23_99 rfl rfl rfl ?_
      refine wl_s (pc' := 101) ji_23_100 rfl rfl rfl ?_
      refine ct_p (y := 0) (L' := L) (k' := 0) (v' := -1) (s' := q) (p' := q) V ji_23_101 jf_23_19 (by decide) rfl (fun h V => ?_)
      refine wl_s (pc' := 105) ji_23_104 rfl rfl rfl ?_
      refine wl_vc (d := d + 1) (as := [.ref 91]) (rest := []) ji_23_105 jc_23_35 rfl V.1 jk_25.symm (Nat.le_of_ble_eq_true rfl) rfl (by rw [jn_25]; rfl) (wc_pl (d := d) D ⟨hL0, hL⟩ (by omega) n _ q V ⟨Int.le_refl _, by omega⟩ (fun j a b => (by omega))) (fun w h1 R => ?_)
      obtain ⟨rfl, r, V, hw, hrL⟩ := R
      show wl_R _ (d + 2) 23 108 [some (.ref 91)] [] h1 _
      refine wl_s (pc' := 109) ji_23_108 rfl rfl rfl ?_
      refine wl_s (pc' := 110) ji_23_109 rfl rfl rfl ?_
      refine wl_vc (d := d + 1) (as := [.ref 91]) (rest := [.ref 91]) ji_23_110 jc_23_38 rfl V.1 jk_26.symm (Nat.le_of_ble_eq_true rfl) rfl (by rw [jn_26]; rfl) (wc_word (d := d + 1) D ⟨hL0, hL⟩ H8 V ⟨by omega, hw.1, hrL⟩ n) (fun w h2 R => ?_)
      obtain ⟨rfl, e1⟩ := R
      subst e1
      show wl_R _ (d + 2) 23 113 [some (.ref 91)] [wp_i (wix (tk_ls (bt bl L) q r) tk_W 0), .ref 91] h2 _
      refine ct_p (y := wix (tk_ls (bt bl L) q r) tk_W 0) (L' := L) (k' := 0) (v' := wix (tk_ls (bt bl L) q r) tk_W 0) (s' := q) (p' := r) V ji_23_113 jf_23_22 (by decide) rfl (fun h V => ?_)
      refine wl_goto (t := 145) ji_23_116 rfl ?_
      exact wl_rv ji_23_145 jr_23 ⟨rfl, _, _, q, r, V, ⟨hwh, Or.inr (Or.inl ⟨hyb.mp (by omega), rfl, hw, rfl⟩)⟩, by omega⟩
  · refine wl_s (pc' := 77) ji_23_76 rfl rfl rfl ?_
    refine wl_s (pc' := 78) ji_23_77 rfl rfl rfl ?_
    refine ct_p (y := 3) (L' := L) (k' := 3) (v' := -1) (s' := q) (p' := q) V ji_23_78 jf_23_19 (by decide) rfl (fun h V => ?_)
    refine wl_goto (t := 145) ji_23_81 rfl ?_
    exact wl_rv ji_23_145 jr_23 ⟨rfl, _, _, q, q, V, ⟨hwh, Or.inl ⟨bt_e (by omega), rfl, rfl, rfl⟩⟩, by omega⟩
theorem wc_adl {d : Nat} {h0 : mj_H} {bl : List Value} {L k v s p0 : Int} (D : tB bl) (hL : 0 ≤ L ∧ L ≤ 300) (H8 : h0[8]? = some (900, tk_V)) (hp0 : 0 ≤ p0) : ∀ (n : Nat) (h : mj_H) (p : Int), cT h0 h bl L k v s p → (p0 ≤ p ∧ p ≤ L) → (∀ j, p0 ≤ j → j < p → tk_b (bt bl L j)) → wl_R n (d + 2) 23 0 [some (.ref 91)] [] h (fun w h1 => w = none ∧ ∃ k' v' q r, cT h0 h1 bl L k' v' q r ∧ tok (bt bl L) p0 k' v' q r ∧ (0 ≤ q ∧ r ≤ L)) := by
  obtain ⟨hL0, hL⟩ := hL
  intro n
  induction n with
  | zero => intro h p V hp hj; exact wl_0
  | succ n ih =>
    intro h p V hp hj
    refine wl_s1 (pc' := 1) ji_23_0 rfl rfl rfl ?_
    refine ct_g V ji_23_1 jf_23_28 rfl ?_
    refine wl_s (pc' := 5) ji_23_4 rfl rfl rfl ?_
    refine ct_g V ji_23_5 jf_23_15 rfl ?_
    refine wl_icmp (t := 52) ji_23_8 rfl (by omega) (by omega) (fun (hb1 : (L : Int) ≤ p) => ?_) (fun (hb1 : ¬ ((L : Int) ≤ p)) => ?_)
    · exact wc_52 D ⟨hL0, hL⟩ H8 V hp0 ⟨by omega, hj, by rw [bt_e (by omega)]; unfold tk_b; omega⟩ (by omega)
    · refine wl_s (pc' := 12) ji_23_11 rfl rfl rfl ?_
      refine ct_g V ji_23_12 jf_23_11 rfl ?_
      refine wl_s (pc' := 16) ji_23_15 rfl rfl rfl ?_
      refine ct_g V ji_23_16 jf_23_28 rfl ?_
      refine ct_l (x := p) V D hL (by omega) ji_23_19 ?_
      have hb_2 := bt_r D hL (k := p) (by omega)
      have hb_3 := bt_i D hL (k := p) (by omega) (by omega)
      refine wl_bp ji_23_20 rfl ?_
      refine wl_icmp (t := 39) ji_23_22 rfl (by omega) (by omega) (fun (hb4 : (bt bl L p : Int) = 32) => ?_) (fun (hb4 : ¬ ((bt bl L p : Int) = 32)) => ?_)
      · refine wl_s (pc' := 40) ji_23_39 rfl rfl rfl ?_
        refine wl_s (pc' := 41) ji_23_40 rfl rfl rfl ?_
        refine ct_g V ji_23_41 jf_23_28 rfl ?_
        refine wl_s (pc' := 45) ji_23_44 rfl rfl rfl ?_
        refine wl_iadd (x := p) (y := 1) (z := p + 1) ji_23_45 (by omega) ?_
        refine ct_p (y := p + 1) (L' := L) (k' := k) (v' := v) (s' := s) (p' := p + 1) V ji_23_46 jf_23_28 (by decide) rfl (fun h V => ?_)
        refine wl_goto (t := 0) ji_23_49 rfl ?_
        refine ih h (p + 1) V (by omega) (fun j h1 h2 => (Classical.em (j = p)).elim (fun e => by subst e; unfold tk_b; omega) (fun e => hj j h1 (by omega)))
      · refine wl_s (pc' := 26) ji_23_25 rfl rfl rfl ?_
        refine ct_g V ji_23_26 jf_23_11 rfl ?_
        refine wl_s (pc' := 30) ji_23_29 rfl rfl rfl ?_
        refine ct_g V ji_23_30 jf_23_28 rfl ?_
        refine ct_l (x := p) V D hL (by omega) ji_23_33 ?_
        have hb_5 := bt_r D hL (k := p) (by omega)
        have hb_6 := bt_i D hL (k := p) (by omega) (by omega)
        refine wl_bp ji_23_34 rfl ?_
        refine wl_icmp (t := 52) ji_23_36 rfl (by omega) (by omega) (fun (hb7 : ¬ (bt bl L p : Int) = 10) => ?_) (fun (hb7 : ¬ (¬ (bt bl L p : Int) = 10)) => ?_)
        · exact wc_52 D ⟨hL0, hL⟩ H8 V hp0 ⟨by omega, hj, by unfold tk_b; omega⟩ (by omega)
        · refine wl_s (pc' := 40) ji_23_39 rfl rfl rfl ?_
          refine wl_s (pc' := 41) ji_23_40 rfl rfl rfl ?_
          refine ct_g V ji_23_41 jf_23_28 rfl ?_
          refine wl_s (pc' := 45) ji_23_44 rfl rfl rfl ?_
          refine wl_iadd (x := p) (y := 1) (z := p + 1) ji_23_45 (by omega) ?_
          refine ct_p (y := p + 1) (L' := L) (k' := k) (v' := v) (s' := s) (p' := p + 1) V ji_23_46 jf_23_28 (by decide) rfl (fun h V => ?_)
          refine wl_goto (t := 0) ji_23_49 rfl ?_
          refine ih h (p + 1) V (by omega) (fun j h1 h2 => (Classical.em (j = p)).elim (fun e => by subst e; unfold tk_b; omega) (fun e => hj j h1 (by omega)))
/-- the class's next token -/
theorem wc_adv {n d : Nat} {h0 h : mj_H} {bl : List Value} {L k v s p : Int} (D : tB bl) (hL : 0 ≤ L ∧ L ≤ 300) (H8 : h0[8]? = some (900, tk_V)) (V : cT h0 h bl L k v s p) (hp : 0 ≤ p ∧ p ≤ L) : wl_R n (d + 2) 23 0 [some (.ref 91)] [] h (fun w h1 => w = none ∧ ∃ k' v' q r, cT h0 h1 bl L k' v' q r ∧ tok (bt bl L) p k' v' q r ∧ (0 ≤ q ∧ r ≤ L)) := wc_adl D hL H8 hp.1 n h p V ⟨Int.le_refl _, hp.2⟩ (fun j a b => (by omega))
