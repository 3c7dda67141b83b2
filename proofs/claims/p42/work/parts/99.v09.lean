/-! -/
set_option maxRecDepth 100000 in
theorem ji_283_8 : mj_ins 283 8 = some (.iload 5) := by decide +kernel
set_option maxRecDepth 100000 in
theorem ji_283_10 : mj_ins 283 10 = some (.iload_n 3) := by decide +kernel
set_option maxRecDepth 100000 in
theorem ji_283_11 : mj_ins 283 11 = some (.if_icmp .le 15) := by decide +kernel
set_option maxRecDepth 100000 in
theorem ji_283_26 : mj_ins 283 26 = some (.iload 4) := by decide +kernel
set_option maxRecDepth 100000 in
theorem ji_283_28 : mj_ins 283 28 = some (.iload_n 1) := by decide +kernel
set_option maxRecDepth 100000 in
theorem ji_283_29 : mj_ins 283 29 = some (.irem) := by decide +kernel
set_option maxRecDepth 100000 in
theorem ji_283_30 : mj_ins 283 30 = some (.ireturn) := by decide +kernel
set_option maxRecDepth 100000 in
theorem jr_283 : mj_ret 283 = some .int := by decide +kernel
set_option maxRecDepth 100000 in
theorem ji_283_14 : mj_ins 283 14 = some (.iload 4) := by decide +kernel
set_option maxRecDepth 100000 in
theorem ji_283_16 : mj_ins 283 16 = some (.iload_n 1) := by decide +kernel
set_option maxRecDepth 100000 in
theorem ji_283_17 : mj_ins 283 17 = some (.idiv) := by decide +kernel
set_option maxRecDepth 100000 in
theorem ji_283_18 : mj_ins 283 18 = some (.istore 4) := by decide +kernel
set_option maxRecDepth 100000 in
theorem ji_283_20 : mj_ins 283 20 = some (.iinc 5 (-1)) := by decide +kernel
set_option maxRecDepth 100000 in
theorem ji_283_23 : mj_ins 283 23 = some (.goto (-15)) := by decide +kernel
set_option maxRecDepth 100000 in
theorem ji_283_0 : mj_ins 283 0 = some (.iload_n 0) := by decide +kernel
set_option maxRecDepth 100000 in
theorem ji_283_1 : mj_ins 283 1 = some (.istore 4) := by decide +kernel
set_option maxRecDepth 100000 in
theorem ji_283_3 : mj_ins 283 3 = some (.iload_n 2) := by decide +kernel
set_option maxRecDepth 100000 in
theorem ji_283_4 : mj_ins 283 4 = some (.iconst 1) := by decide +kernel
set_option maxRecDepth 100000 in
theorem ji_283_5 : mj_ins 283 5 = some (.isub) := by decide +kernel
set_option maxRecDepth 100000 in
theorem ji_283_6 : mj_ins 283 6 = some (.istore 5) := by decide +kernel
set_option maxRecDepth 100000 in
theorem ji_282_5 : mj_ins 282 5 = some (.iload 4) := by decide +kernel
set_option maxRecDepth 100000 in
theorem ji_282_7 : mj_ins 282 7 = some (.iload_n 2) := by decide +kernel
set_option maxRecDepth 100000 in
theorem ji_282_8 : mj_ins 282 8 = some (.if_icmp .ge 35) := by decide +kernel
set_option maxRecDepth 100000 in
theorem ji_282_43 : mj_ins 282 43 = some (.iload_n 3) := by decide +kernel
set_option maxRecDepth 100000 in
theorem ji_282_44 : mj_ins 282 44 = some (.ireturn) := by decide +kernel
set_option maxRecDepth 100000 in
theorem jr_282 : mj_ret 282 = some .int := by decide +kernel
set_option maxRecDepth 100000 in
theorem ji_282_11 : mj_ins 282 11 = some (.iload_n 3) := by decide +kernel
set_option maxRecDepth 100000 in
theorem ji_282_12 : mj_ins 282 12 = some (.iload_n 1) := by decide +kernel
set_option maxRecDepth 100000 in
theorem ji_282_13 : mj_ins 282 13 = some (.aload_n 0) := by decide +kernel
set_option maxRecDepth 100000 in
theorem ji_282_14 : mj_ins 282 14 = some (.getfield 7) := by decide +kernel
set_option maxRecDepth 100000 in
theorem jf_282_7 : mj_fld 282 7 = some (11, 0, (.array .int), false) := by decide +kernel
set_option maxRecDepth 100000 in
theorem ji_282_17 : mj_ins 282 17 = some (.iconst 0) := by decide +kernel
set_option maxRecDepth 100000 in
theorem ji_282_18 : mj_ins 282 18 = some (.iaload) := by decide +kernel
set_option maxRecDepth 100000 in
theorem ji_282_19 : mj_ins 282 19 = some (.iconst 1) := by decide +kernel
set_option maxRecDepth 100000 in
theorem ji_282_20 : mj_ins 282 20 = some (.iadd) := by decide +kernel
set_option maxRecDepth 100000 in
theorem ji_282_21 : mj_ins 282 21 = some (.iload_n 2) := by decide +kernel
set_option maxRecDepth 100000 in
theorem ji_282_22 : mj_ins 282 22 = some (.iload 4) := by decide +kernel
set_option maxRecDepth 100000 in
theorem ji_282_24 : mj_ins 282 24 = some (.invokestatic 422) := by decide +kernel
set_option maxRecDepth 100000 in
theorem jc_282_422 : mj_cal 282 422 = some (1, 283, 4) := by decide +kernel
set_option maxRecDepth 100000 in
theorem jn_283 : mj_nl 283 = 6 := by decide +kernel
set_option maxRecDepth 100000 in
theorem ji_282_27 : mj_ins 282 27 = some (.ifCond .le 7) := by decide +kernel
set_option maxRecDepth 100000 in
theorem ji_282_34 : mj_ins 282 34 = some (.iconst 0) := by decide +kernel
set_option maxRecDepth 100000 in
theorem ji_282_35 : mj_ins 282 35 = some (.iadd) := by decide +kernel
set_option maxRecDepth 100000 in
theorem ji_282_36 : mj_ins 282 36 = some (.istore_n 3) := by decide +kernel
set_option maxRecDepth 100000 in
theorem ji_282_37 : mj_ins 282 37 = some (.iinc 4 1) := by decide +kernel
set_option maxRecDepth 100000 in
theorem ji_282_40 : mj_ins 282 40 = some (.goto (-35)) := by decide +kernel
set_option maxRecDepth 100000 in
theorem ji_282_30 : mj_ins 282 30 = some (.iconst 1) := by decide +kernel
set_option maxRecDepth 100000 in
theorem ji_282_31 : mj_ins 282 31 = some (.goto 4) := by decide +kernel
set_option maxRecDepth 100000 in
theorem ji_282_0 : mj_ins 282 0 = some (.iconst 0) := by decide +kernel
set_option maxRecDepth 100000 in
theorem ji_282_1 : mj_ins 282 1 = some (.istore_n 3) := by decide +kernel
set_option maxRecDepth 100000 in
theorem ji_282_2 : mj_ins 282 2 = some (.iconst 0) := by decide +kernel
set_option maxRecDepth 100000 in
theorem ji_282_3 : mj_ins 282 3 = some (.istore 4) := by decide +kernel
set_option maxRecDepth 100000 in
theorem ji_284_7 : mj_ins 284 7 = some (.iload 4) := by decide +kernel
set_option maxRecDepth 100000 in
theorem ji_284_9 : mj_ins 284 9 = some (.iload_n 2) := by decide +kernel
set_option maxRecDepth 100000 in
theorem ji_284_10 : mj_ins 284 10 = some (.if_icmp .ge 54) := by decide +kernel
set_option maxRecDepth 100000 in
theorem ji_284_64 : mj_ins 284 64 = some (.aload_n 0) := by decide +kernel
set_option maxRecDepth 100000 in
theorem ji_284_65 : mj_ins 284 65 = some (.getfield 7) := by decide +kernel
set_option maxRecDepth 100000 in
theorem jf_284_7 : mj_fld 284 7 = some (11, 0, (.array .int), false) := by decide +kernel
set_option maxRecDepth 100000 in
theorem ji_284_68 : mj_ins 284 68 = some (.bipush 10) := by decide +kernel
set_option maxRecDepth 100000 in
theorem ji_284_70 : mj_ins 284 70 = some (.iaload) := by decide +kernel
set_option maxRecDepth 100000 in
theorem ji_284_71 : mj_ins 284 71 = some (.iload_n 1) := by decide +kernel
set_option maxRecDepth 100000 in
theorem ji_284_72 : mj_ins 284 72 = some (.if_icmp .ne 7) := by decide +kernel
set_option maxRecDepth 100000 in
theorem ji_284_79 : mj_ins 284 79 = some (.iconst 0) := by decide +kernel
set_option maxRecDepth 100000 in
theorem ji_284_80 : mj_ins 284 80 = some (.istore 4) := by decide +kernel
set_option maxRecDepth 100000 in
theorem ji_284_82 : mj_ins 284 82 = some (.aload_n 0) := by decide +kernel
set_option maxRecDepth 100000 in
theorem ji_284_83 : mj_ins 284 83 = some (.invokevirtual 403) := by decide +kernel
set_option maxRecDepth 100000 in
theorem jc_284_403 : mj_cal 284 403 = some (2, 274, 0) := by decide +kernel
set_option maxRecDepth 100000 in
theorem ji_284_86 : mj_ins 284 86 = some (.iload 4) := by decide +kernel
set_option maxRecDepth 100000 in
theorem ji_284_88 : mj_ins 284 88 = some (.ireturn) := by decide +kernel
set_option maxRecDepth 100000 in
theorem jr_284 : mj_ret 284 = some .boolean := by decide +kernel
set_option maxRecDepth 100000 in
theorem ji_284_75 : mj_ins 284 75 = some (.iconst 1) := by decide +kernel
set_option maxRecDepth 100000 in
theorem ji_284_76 : mj_ins 284 76 = some (.goto 4) := by decide +kernel
set_option maxRecDepth 100000 in
theorem ji_284_13 : mj_ins 284 13 = some (.iload_n 3) := by decide +kernel
set_option maxRecDepth 100000 in
theorem ji_284_14 : mj_ins 284 14 = some (.aload_n 0) := by decide +kernel
set_option maxRecDepth 100000 in
theorem ji_284_15 : mj_ins 284 15 = some (.getfield 7) := by decide +kernel
set_option maxRecDepth 100000 in
theorem ji_284_18 : mj_ins 284 18 = some (.iconst 0) := by decide +kernel
set_option maxRecDepth 100000 in
theorem ji_284_19 : mj_ins 284 19 = some (.iaload) := by decide +kernel
set_option maxRecDepth 100000 in
theorem ji_284_20 : mj_ins 284 20 = some (.iconst 1) := by decide +kernel
set_option maxRecDepth 100000 in
theorem ji_284_21 : mj_ins 284 21 = some (.iadd) := by decide +kernel
set_option maxRecDepth 100000 in
theorem ji_284_22 : mj_ins 284 22 = some (.iload_n 2) := by decide +kernel
set_option maxRecDepth 100000 in
theorem ji_284_23 : mj_ins 284 23 = some (.iload 4) := by decide +kernel
set_option maxRecDepth 100000 in
theorem ji_284_25 : mj_ins 284 25 = some (.invokestatic 422) := by decide +kernel
set_option maxRecDepth 100000 in
theorem jc_284_422 : mj_cal 284 422 = some (1, 283, 4) := by decide +kernel
set_option maxRecDepth 100000 in
theorem ji_284_28 : mj_ins 284 28 = some (.iconst 1) := by decide +kernel
set_option maxRecDepth 100000 in
theorem ji_284_29 : mj_ins 284 29 = some (.isub) := by decide +kernel
set_option maxRecDepth 100000 in
theorem ji_284_30 : mj_ins 284 30 = some (.istore 5) := by decide +kernel
set_option maxRecDepth 100000 in
theorem ji_284_32 : mj_ins 284 32 = some (.iload 5) := by decide +kernel
set_option maxRecDepth 100000 in
theorem ji_284_34 : mj_ins 284 34 = some (.ifCond .lt 20) := by decide +kernel
set_option maxRecDepth 100000 in
theorem ji_284_54 : mj_ins 284 54 = some (.aload_n 0) := by decide +kernel
set_option maxRecDepth 100000 in
theorem ji_284_55 : mj_ins 284 55 = some (.invokevirtual 339) := by decide +kernel
set_option maxRecDepth 100000 in
theorem jc_284_339 : mj_cal 284 339 = some (2, 221, 0) := by decide +kernel
set_option maxRecDepth 100000 in
theorem ji_284_58 : mj_ins 284 58 = some (.iinc 4 1) := by decide +kernel
set_option maxRecDepth 100000 in
theorem ji_284_61 : mj_ins 284 61 = some (.goto (-54)) := by decide +kernel
set_option maxRecDepth 100000 in
theorem ji_284_37 : mj_ins 284 37 = some (.aload_n 0) := by decide +kernel
set_option maxRecDepth 100000 in
theorem ji_284_38 : mj_ins 284 38 = some (.iload_n 1) := by decide +kernel
set_option maxRecDepth 100000 in
theorem ji_284_39 : mj_ins 284 39 = some (.iload 5) := by decide +kernel
set_option maxRecDepth 100000 in
theorem ji_284_41 : mj_ins 284 41 = some (.invokevirtual 351) := by decide +kernel
set_option maxRecDepth 100000 in
theorem jc_284_351 : mj_cal 284 351 = some (2, 249, 2) := by decide +kernel
set_option maxRecDepth 100000 in
theorem ji_284_44 : mj_ins 284 44 = some (.ifCond .eq 10) := by decide +kernel
set_option maxRecDepth 100000 in
theorem ji_284_47 : mj_ins 284 47 = some (.aload_n 0) := by decide +kernel
set_option maxRecDepth 100000 in
theorem ji_284_48 : mj_ins 284 48 = some (.iload_n 1) := by decide +kernel
set_option maxRecDepth 100000 in
theorem ji_284_49 : mj_ins 284 49 = some (.iload 5) := by decide +kernel
set_option maxRecDepth 100000 in
theorem ji_284_51 : mj_ins 284 51 = some (.invokevirtual 354) := by decide +kernel
set_option maxRecDepth 100000 in
theorem jc_284_354 : mj_cal 284 354 = some (2, 250, 2) := by decide +kernel
set_option maxRecDepth 100000 in
theorem ji_284_0 : mj_ins 284 0 = some (.aload_n 0) := by decide +kernel
set_option maxRecDepth 100000 in
theorem ji_284_1 : mj_ins 284 1 = some (.invokevirtual 400) := by decide +kernel
set_option maxRecDepth 100000 in
theorem jc_284_400 : mj_cal 284 400 = some (2, 273, 0) := by decide +kernel
set_option maxRecDepth 100000 in
theorem ji_284_4 : mj_ins 284 4 = some (.iconst 0) := by decide +kernel
set_option maxRecDepth 100000 in
theorem ji_284_5 : mj_ins 284 5 = some (.istore 4) := by decide +kernel
set_option maxRecDepth 100000 in
theorem ji_281_124 : mj_ins 281 124 = some (.iload 5) := by decide +kernel
set_option maxRecDepth 100000 in
theorem ji_281_126 : mj_ins 281 126 = some (.iconst (-1)) := by decide +kernel
set_option maxRecDepth 100000 in
theorem ji_281_127 : mj_ins 281 127 = some (.if_icmp .ne 5) := by decide +kernel
set_option maxRecDepth 100000 in
theorem ji_281_132 : mj_ins 281 132 = some (.iload_n 3) := by decide +kernel
set_option maxRecDepth 100000 in
theorem ji_281_133 : mj_ins 281 133 = some (.iconst (-1)) := by decide +kernel
set_option maxRecDepth 100000 in
theorem ji_281_134 : mj_ins 281 134 = some (.if_icmp .ne 6) := by decide +kernel
set_option maxRecDepth 100000 in
theorem ji_281_140 : mj_ins 281 140 = some (.iload 5) := by decide +kernel
set_option maxRecDepth 100000 in
theorem ji_281_142 : mj_ins 281 142 = some (.aload_n 0) := by decide +kernel
set_option maxRecDepth 100000 in
theorem ji_281_143 : mj_ins 281 143 = some (.getfield 7) := by decide +kernel
set_option maxRecDepth 100000 in
theorem jf_281_7 : mj_fld 281 7 = some (11, 0, (.array .int), false) := by decide +kernel
set_option maxRecDepth 100000 in
theorem ji_281_146 : mj_ins 281 146 = some (.iconst 0) := by decide +kernel
set_option maxRecDepth 100000 in
theorem ji_281_147 : mj_ins 281 147 = some (.iaload) := by decide +kernel
set_option maxRecDepth 100000 in
theorem ji_281_148 : mj_ins 281 148 = some (.iconst 1) := by decide +kernel
set_option maxRecDepth 100000 in
theorem ji_281_149 : mj_ins 281 149 = some (.iadd) := by decide +kernel
set_option maxRecDepth 100000 in
theorem ji_281_150 : mj_ins 281 150 = some (.iload_n 2) := by decide +kernel
set_option maxRecDepth 100000 in
theorem ji_281_151 : mj_ins 281 151 = some (.iload_n 3) := by decide +kernel
set_option maxRecDepth 100000 in
theorem ji_281_152 : mj_ins 281 152 = some (.invokestatic 422) := by decide +kernel
set_option maxRecDepth 100000 in
theorem jc_281_422 : mj_cal 281 422 = some (1, 283, 4) := by decide +kernel
set_option maxRecDepth 100000 in
theorem ji_281_155 : mj_ins 281 155 = some (.istore 7) := by decide +kernel
set_option maxRecDepth 100000 in
theorem ji_281_157 : mj_ins 281 157 = some (.iload 7) := by decide +kernel
set_option maxRecDepth 100000 in
theorem ji_281_159 : mj_ins 281 159 = some (.ifCond .ne 8) := by decide +kernel
set_option maxRecDepth 100000 in
theorem ji_281_167 : mj_ins 281 167 = some (.iload 7) := by decide +kernel
set_option maxRecDepth 100000 in
theorem ji_281_169 : mj_ins 281 169 = some (.iconst 1) := by decide +kernel
set_option maxRecDepth 100000 in
theorem ji_281_170 : mj_ins 281 170 = some (.isub) := by decide +kernel
set_option maxRecDepth 100000 in
theorem ji_281_171 : mj_ins 281 171 = some (.ireturn) := by decide +kernel
set_option maxRecDepth 100000 in
theorem jr_281 : mj_ret 281 = some .int := by decide +kernel
set_option maxRecDepth 100000 in
theorem ji_281_162 : mj_ins 281 162 = some (.bipush 8) := by decide +kernel
set_option maxRecDepth 100000 in
theorem ji_281_164 : mj_ins 281 164 = some (.goto 7) := by decide +kernel
set_option maxRecDepth 100000 in
theorem ji_281_137 : mj_ins 281 137 = some (.iload 6) := by decide +kernel
set_option maxRecDepth 100000 in
theorem ji_281_139 : mj_ins 281 139 = some (.ireturn) := by decide +kernel
set_option maxRecDepth 100000 in
theorem ji_281_130 : mj_ins 281 130 = some (.iconst (-1)) := by decide +kernel
set_option maxRecDepth 100000 in
theorem ji_281_131 : mj_ins 281 131 = some (.ireturn) := by decide +kernel
set_option maxRecDepth 100000 in
theorem ji_281_72 : mj_ins 281 72 = some (.iload 7) := by decide +kernel
set_option maxRecDepth 100000 in
theorem ji_281_74 : mj_ins 281 74 = some (.iload 4) := by decide +kernel
set_option maxRecDepth 100000 in
theorem ji_281_76 : mj_ins 281 76 = some (.if_icmp .ge 48) := by decide +kernel
set_option maxRecDepth 100000 in
theorem ji_281_79 : mj_ins 281 79 = some (.aload_n 0) := by decide +kernel
set_option maxRecDepth 100000 in
theorem ji_281_80 : mj_ins 281 80 = some (.iload 7) := by decide +kernel
set_option maxRecDepth 100000 in
theorem ji_281_82 : mj_ins 281 82 = some (.iload_n 2) := by decide +kernel
set_option maxRecDepth 100000 in
theorem ji_281_83 : mj_ins 281 83 = some (.invokevirtual 425) := by decide +kernel
set_option maxRecDepth 100000 in
theorem jc_281_425 : mj_cal 281 425 = some (2, 282, 2) := by decide +kernel
set_option maxRecDepth 100000 in
theorem jn_282 : mj_nl 282 = 5 := by decide +kernel
set_option maxRecDepth 100000 in
theorem jk_282 : mj_cls 282 = 11 := by decide +kernel
set_option maxRecDepth 100000 in
theorem ji_281_86 : mj_ins 281 86 = some (.iload 6) := by decide +kernel
set_option maxRecDepth 100000 in
theorem ji_281_88 : mj_ins 281 88 = some (.if_icmp .ge 30) := by decide +kernel
set_option maxRecDepth 100000 in
theorem ji_281_118 : mj_ins 281 118 = some (.iinc 7 1) := by decide +kernel
set_option maxRecDepth 100000 in
theorem ji_281_121 : mj_ins 281 121 = some (.goto (-49)) := by decide +kernel
set_option maxRecDepth 100000 in
theorem ji_281_91 : mj_ins 281 91 = some (.aload_n 0) := by decide +kernel
set_option maxRecDepth 100000 in
theorem ji_281_92 : mj_ins 281 92 = some (.iload_n 1) := by decide +kernel
set_option maxRecDepth 100000 in
theorem ji_281_93 : mj_ins 281 93 = some (.iload_n 2) := by decide +kernel
set_option maxRecDepth 100000 in
theorem ji_281_94 : mj_ins 281 94 = some (.iload 7) := by decide +kernel
set_option maxRecDepth 100000 in
theorem ji_281_96 : mj_ins 281 96 = some (.invokevirtual 428) := by decide +kernel
set_option maxRecDepth 100000 in
theorem jc_281_428 : mj_cal 281 428 = some (2, 284, 3) := by decide +kernel
set_option maxRecDepth 100000 in
theorem jn_284 : mj_nl 284 = 6 := by decide +kernel
set_option maxRecDepth 100000 in
theorem jk_284 : mj_cls 284 = 11 := by decide +kernel
set_option maxRecDepth 100000 in
theorem ji_281_99 : mj_ins 281 99 = some (.ifCond .ne 6) := by decide +kernel
set_option maxRecDepth 100000 in
theorem ji_281_105 : mj_ins 281 105 = some (.aload_n 0) := by decide +kernel
set_option maxRecDepth 100000 in
theorem ji_281_106 : mj_ins 281 106 = some (.iload 7) := by decide +kernel
set_option maxRecDepth 100000 in
theorem ji_281_108 : mj_ins 281 108 = some (.iload_n 2) := by decide +kernel
set_option maxRecDepth 100000 in
theorem ji_281_109 : mj_ins 281 109 = some (.invokevirtual 425) := by decide +kernel
set_option maxRecDepth 100000 in
theorem ji_281_112 : mj_ins 281 112 = some (.istore 6) := by decide +kernel
set_option maxRecDepth 100000 in
theorem ji_281_114 : mj_ins 281 114 = some (.iload 7) := by decide +kernel
set_option maxRecDepth 100000 in
theorem ji_281_116 : mj_ins 281 116 = some (.istore 5) := by decide +kernel
set_option maxRecDepth 100000 in
theorem ji_281_102 : mj_ins 281 102 = some (.goto 16) := by decide +kernel
set_option maxRecDepth 100000 in
theorem ji_281_36 : mj_ins 281 36 = some (.iload 5) := by decide +kernel
set_option maxRecDepth 100000 in
theorem ji_281_38 : mj_ins 281 38 = some (.iload_n 2) := by decide +kernel
set_option maxRecDepth 100000 in
theorem ji_281_39 : mj_ins 281 39 = some (.if_icmp .ge 22) := by decide +kernel
set_option maxRecDepth 100000 in
theorem ji_281_61 : mj_ins 281 61 = some (.iconst (-1)) := by decide +kernel
set_option maxRecDepth 100000 in
theorem ji_281_62 : mj_ins 281 62 = some (.istore 5) := by decide +kernel
set_option maxRecDepth 100000 in
theorem ji_281_64 : mj_ins 281 64 = some (.ldc_w 399) := by decide +kernel
set_option maxRecDepth 100000 in
theorem jcn_281_399 : mj_con 281 399 = some (.int 1000000000) := by decide +kernel
set_option maxRecDepth 100000 in
theorem ji_281_67 : mj_ins 281 67 = some (.istore 6) := by decide +kernel
set_option maxRecDepth 100000 in
theorem ji_281_69 : mj_ins 281 69 = some (.iconst 0) := by decide +kernel
set_option maxRecDepth 100000 in
theorem ji_281_70 : mj_ins 281 70 = some (.istore 7) := by decide +kernel
set_option maxRecDepth 100000 in
theorem ji_281_42 : mj_ins 281 42 = some (.iload 4) := by decide +kernel
set_option maxRecDepth 100000 in
theorem ji_281_44 : mj_ins 281 44 = some (.aload_n 0) := by decide +kernel
set_option maxRecDepth 100000 in
theorem ji_281_45 : mj_ins 281 45 = some (.getfield 7) := by decide +kernel
set_option maxRecDepth 100000 in
theorem ji_281_48 : mj_ins 281 48 = some (.iconst 0) := by decide +kernel
set_option maxRecDepth 100000 in
theorem ji_281_49 : mj_ins 281 49 = some (.iaload) := by decide +kernel
set_option maxRecDepth 100000 in
theorem ji_281_50 : mj_ins 281 50 = some (.iconst 1) := by decide +kernel
set_option maxRecDepth 100000 in
theorem ji_281_51 : mj_ins 281 51 = some (.iadd) := by decide +kernel
set_option maxRecDepth 100000 in
theorem ji_281_52 : mj_ins 281 52 = some (.imul) := by decide +kernel
set_option maxRecDepth 100000 in
theorem ji_281_53 : mj_ins 281 53 = some (.istore 4) := by decide +kernel
set_option maxRecDepth 100000 in
theorem ji_281_55 : mj_ins 281 55 = some (.iinc 5 1) := by decide +kernel
set_option maxRecDepth 100000 in
theorem ji_281_58 : mj_ins 281 58 = some (.goto (-22)) := by decide +kernel
set_option maxRecDepth 100000 in
theorem ji_281_0 : mj_ins 281 0 = some (.aload_n 0) := by decide +kernel
set_option maxRecDepth 100000 in
theorem ji_281_1 : mj_ins 281 1 = some (.iload_n 1) := by decide +kernel
set_option maxRecDepth 100000 in
theorem ji_281_2 : mj_ins 281 2 = some (.invokevirtual 345) := by decide +kernel
set_option maxRecDepth 100000 in
theorem jc_281_345 : mj_cal 281 345 = some (2, 247, 1) := by decide +kernel
set_option maxRecDepth 100000 in
theorem ji_281_5 : mj_ins 281 5 = some (.ifCond .eq 23) := by decide +kernel
set_option maxRecDepth 100000 in
theorem ji_281_28 : mj_ins 281 28 = some (.iconst (-1)) := by decide +kernel
set_option maxRecDepth 100000 in
theorem ji_281_29 : mj_ins 281 29 = some (.ireturn) := by decide +kernel
set_option maxRecDepth 100000 in
theorem ji_281_8 : mj_ins 281 8 = some (.iload_n 2) := by decide +kernel
set_option maxRecDepth 100000 in
theorem ji_281_9 : mj_ins 281 9 = some (.iconst 1) := by decide +kernel
set_option maxRecDepth 100000 in
theorem ji_281_10 : mj_ins 281 10 = some (.iconst 4) := by decide +kernel
set_option maxRecDepth 100000 in
theorem ji_281_11 : mj_ins 281 11 = some (.invokestatic 66) := by decide +kernel
set_option maxRecDepth 100000 in
theorem jc_281_66 : mj_cal 281 66 = some (1, 171, 3) := by decide +kernel
set_option maxRecDepth 100000 in
theorem ji_281_14 : mj_ins 281 14 = some (.ifCond .eq 14) := by decide +kernel
set_option maxRecDepth 100000 in
theorem ji_281_17 : mj_ins 281 17 = some (.iload_n 3) := by decide +kernel
set_option maxRecDepth 100000 in
theorem ji_281_18 : mj_ins 281 18 = some (.iconst (-1)) := by decide +kernel
set_option maxRecDepth 100000 in
theorem ji_281_19 : mj_ins 281 19 = some (.iload_n 2) := by decide +kernel
set_option maxRecDepth 100000 in
theorem ji_281_20 : mj_ins 281 20 = some (.iconst 1) := by decide +kernel
set_option maxRecDepth 100000 in
theorem ji_281_21 : mj_ins 281 21 = some (.isub) := by decide +kernel
set_option maxRecDepth 100000 in
theorem ji_281_22 : mj_ins 281 22 = some (.invokestatic 66) := by decide +kernel
set_option maxRecDepth 100000 in
theorem ji_281_25 : mj_ins 281 25 = some (.ifCond .ne 5) := by decide +kernel
set_option maxRecDepth 100000 in
theorem ji_281_30 : mj_ins 281 30 = some (.iconst 1) := by decide +kernel
set_option maxRecDepth 100000 in
theorem ji_281_31 : mj_ins 281 31 = some (.istore 4) := by decide +kernel
set_option maxRecDepth 100000 in
theorem ji_281_33 : mj_ins 281 33 = some (.iconst 0) := by decide +kernel
set_option maxRecDepth 100000 in
theorem ji_281_34 : mj_ins 281 34 = some (.istore 5) := by decide +kernel
/-! the reference's hoists; laid by program (wp_v09.py) -/
/-- a digit of a plan -/
def dgR : Nat → Int → Int → Int
  | 0, y, b => y % b
  | k + 1, y, b => dgR k (y / b) b
theorem dgR_b {b : Int} (hb : 0 < b) : ∀ (k : Nat) (y : Int), 0 ≤ dgR k y b ∧ dgR k y b < b
  | 0, y => ⟨Int.emod_nonneg y (by omega), Int.emod_lt_of_pos y hb⟩
  | k + 1, y => dgR_b hb k (y / b)
/-- how many of its first i hours hoist -/
def hoI (c b n : Int) : Nat → Int
  | 0 => 0
  | i + 1 => hoI c b n i + (if 0 < dgR (n - 1 - (i : Int)).toNat c b then 1 else 0)
theorem hoI_b {c b n : Int} : ∀ i : Nat, 0 ≤ hoI c b n i ∧ hoI c b n i ≤ i
  | 0 => ⟨Int.le_refl _, Int.le_refl _⟩
  | i + 1 => by
    have a := hoI_b (c := c) (b := b) (n := n) i
    show 0 ≤ hoI c b n i + (if 0 < dgR (n - 1 - (i : Int)).toNat c b then 1 else 0) ∧ hoI c b n i + (if 0 < dgR (n - 1 - (i : Int)).toNat c b then 1 else 0) ≤ ((i + 1 : Nat) : Int)
    by_cases q : 0 < dgR (n - 1 - (i : Int)).toNat c b
    · rw [if_pos q]; omega
    · rw [if_neg q]; omega
/-- so many plans -/
def pwI (b : Int) : Nat → Int
  | 0 => 1
  | i + 1 => pwI b i * b
theorem pwI_b {b : Int} (hb : 1 ≤ b ∧ b ≤ 9) {i : Nat} (hi : i ≤ 4) : 1 ≤ pwI b i ∧ pwI b i ≤ 6561 := by
  have h1 : b = 1 ∨ b = 2 ∨ b = 3 ∨ b = 4 ∨ b = 5 ∨ b = 6 ∨ b = 7 ∨ b = 8 ∨ b = 9 := by omega
  have h2 : i = 0 ∨ i = 1 ∨ i = 2 ∨ i = 3 ∨ i = 4 := by omega
  rcases h1 with rfl | rfl | rfl | rfl | rfl | rfl | rfl | rfl | rfl <;> rcases h2 with rfl | rfl | rfl | rfl | rfl <;> decide
/-- an hour of a plan: a hoist, where it can be -/
def hoS (w d : Int) (u : sg_) : sg_ := if 0 ≤ d ∧ mrR u w d then rsR u w d else u
def ihS (cr : crs) (w c b n : Int) (u : sg_) : Nat → sg_
  | 0 => u
  | i + 1 => hourR cr (hoS w (dgR (n - 1 - (i : Int)).toNat c b - 1) (ihS cr w c b n u i))
theorem AS_h {cr : crs} {s u : sg_} {k : Int} (A : AS cr s u k) (hk : k < 10000) (h0 : 0 ≤ s 139 12) : AS cr s (hourR cr u) (k + 1) := by
  have h25 := AS_25 A
  obtain ⟨R, f, o, e12⟩ := A
  exact ⟨hourR_RS R (by omega) (by omega), fun b j hb => (hour_z R.g h25 hb).trans (f b j hb), by rw [hourR_8]; omega, (hour_12z h25).trans e12⟩
theorem AS_r {cr : crs} {s u : sg_} {k w d : Int} (A : AS cr s u k) (hw : 0 ≤ w ∧ w < 6) (hd : d < 8) : AS cr s (hoS w d u) k := by
  unfold hoS
  by_cases q : 0 ≤ d ∧ mrR u w d
  · rw [if_pos q]
    obtain ⟨R, f, o, e12⟩ := A
    have z := fun (b : Nat) (j : Int) (hb : ¬ b = 139 ∨ j < 52 ∨ 148 ≤ j) => rsR_j (s := u) hw (p := d) (by omega) hb
    exact ⟨RS_f R (rsR_RG R.g hw (by omega)) (z _ _ (by omega)) (fun j => z _ _ (by omega)), fun b j hb => (z b j (by omega)).trans (f b j hb), by rw [z 139 8 (by omega)]; exact o, (z 139 12 (by omega)).trans e12⟩
  · rw [if_neg q]
    exact A
theorem uc_283l {d : Nat} {h : mj_H} {c b n i : Int} (hb : 1 ≤ b ∧ b ≤ 9) (hi : 0 ≤ i ∧ i ≤ 4) : ∀ (nn k : Nat) (y : Int), (0 ≤ y ∧ y ≤ 100000) → k ≤ 4 → wl_R nn d 283 8 [some (wp_i c), some (wp_i b), some (wp_i n), some (wp_i i), some (wp_i y), some (wp_i (i + (k : Int)))] [] h (fun v1 h1 => h1 = h ∧ v1 = some (wp_i (dgR k y b))) := by
  intro nn
  induction nn with
  | zero => intros; exact wl_0
  | succ nn ih =>
    intro k y hy hk
    refine wl_s1 (pc' := 10) ji_283_8 rfl rfl rfl ?_
    refine wl_s (pc' := 11) ji_283_10 rfl rfl rfl ?_
    refine wl_icmp (t := 26) ji_283_11 rfl (by omega) (by omega) (fun (hb1 : (i + (k : Int) : Int) ≤ i) => ?_) (fun (hb1 : ¬ ((i + (k : Int) : Int) ≤ i)) => ?_)
    · refine wl_s (pc' := 28) ji_283_26 rfl rfl rfl ?_
      refine wl_s (pc' := 29) ji_283_28 rfl rfl rfl ?_
      refine wl_irem (x := y) (y := b) ji_283_29 (by omega) (by omega) ?_
      exact wl_ri ji_283_30 jr_283 rfl (⟨rfl, by rw [show k = 0 by omega]; rfl⟩)
    · refine wl_s (pc' := 16) ji_283_14 rfl rfl rfl ?_
      refine wl_s (pc' := 17) ji_283_16 rfl rfl rfl ?_
      refine wl_idiv (x := y) (y := b) ji_283_17 (by omega) (by omega) ?_
      refine wl_s (pc' := 20) (lv' := [some (wp_i c), some (wp_i b), some (wp_i n), some (wp_i i), some (wp_i (y / b)), some (wp_i (i + (k : Int)))]) ji_283_18 rfl rfl rfl ?_
      refine wl_iinc (x := i + (k : Int)) (z := i + (k : Int) - 1) (lv' := [some (wp_i c), some (wp_i b), some (wp_i n), some (wp_i i), some (wp_i (y / b)), some (wp_i (i + (k : Int) - 1))]) ji_283_20 rfl (Nat.le_of_ble_eq_true rfl) (by omega) rfl ?_
      refine wl_goto (t := 8) ji_283_23 rfl ?_
      obtain ⟨k2, rfl⟩ : ∃ k2, k = k2 + 1 := ⟨k - 1, by omega⟩
      have dv : 0 ≤ y / b ∧ y / b ≤ y := ⟨Int.ediv_nonneg (by omega) (by omega), Int.ediv_le_self b (by omega)⟩
      rw [show i + ((k2 + 1 : Nat) : Int) - 1 = i + (k2 : Int) by omega]
      exact ih k2 (y / b) (by omega) (by omega)
theorem uc_283 {nn d : Nat} {h : mj_H} {c b n i : Int} (hb : 1 ≤ b ∧ b ≤ 9) (hi : 0 ≤ i ∧ i < n) (hn : n ≤ 4) (hc : 0 ≤ c ∧ c ≤ 100000) : wl_R nn d 283 0 [some (wp_i c), some (wp_i b), some (wp_i n), some (wp_i i), none, none] [] h (fun v1 h1 => h1 = h ∧ v1 = some (wp_i (dgR (n - 1 - i).toNat c b))) := by
  refine wl_s (pc' := 1) ji_283_0 rfl rfl rfl ?_
  refine wl_s (pc' := 3) (lv' := [some (wp_i c), some (wp_i b), some (wp_i n), some (wp_i i), some (wp_i c), none]) ji_283_1 rfl rfl rfl ?_
  refine wl_s (pc' := 4) ji_283_3 rfl rfl rfl ?_
  refine wl_s (pc' := 5) ji_283_4 rfl rfl rfl ?_
  refine wl_isub (x := n) (y := 1) (z := n - 1) ji_283_5 (by omega) ?_
  refine wl_s (pc' := 8) (lv' := [some (wp_i c), some (wp_i b), some (wp_i n), some (wp_i i), some (wp_i c), some (wp_i (n - 1))]) ji_283_6 rfl rfl rfl ?_
  obtain ⟨k, ek⟩ : ∃ k, (n - 1 - i).toNat = k := ⟨_, rfl⟩
  rw [ek, show n - 1 = i + (k : Int) by omega]
  exact uc_283l hb (by omega) nn k c hc (by omega)
theorem uc_282l {d : Nat} {h : mj_H} {s : sg_} (C : CS h s) {B c n : Int} (eB : s 139 0 = B - 1) (hB : 1 ≤ B ∧ B ≤ 9) (hn : 0 ≤ n ∧ n ≤ 4) (hc : 0 ≤ c ∧ c ≤ 100000) : ∀ (nn i : Nat), (i : Int) ≤ n → wl_R nn (d + 1) 282 5 [some (.ref 138), some (wp_i c), some (wp_i n), some (wp_i ((hoI c B n i))), some (wp_i ((i : Int)))] [] h (fun v1 h1 => h1 = h ∧ v1 = some (wp_i (hoI c B n n.toNat))) := by
  intro nn
  induction nn with
  | zero => intros; exact wl_0
  | succ nn ih =>
    intro i hi
    have hbb := hoI_b (c := c) (b := B) (n := n) i
    refine wl_s1 (pc' := 7) ji_282_5 rfl rfl rfl ?_
    refine wl_s (pc' := 8) ji_282_7 rfl rfl rfl ?_
    refine wl_icmp (t := 43) ji_282_8 rfl (by omega) (by omega) (fun (hb1 : (n : Int) ≤ ((i : Int))) => ?_) (fun (hb1 : ¬ ((n : Int) ≤ ((i : Int)))) => ?_)
    · refine wl_s (pc' := 44) ji_282_43 rfl rfl rfl ?_
      exact wl_ri ji_282_44 jr_282 rfl (⟨rfl, by rw [show i = n.toNat by omega]⟩)
    · refine wl_s (pc' := 12) ji_282_11 rfl rfl rfl ?_
      refine wl_s (pc' := 13) ji_282_12 rfl rfl rfl ?_
      refine wl_s (pc' := 14) ji_282_13 rfl rfl rfl ?_
      refine cs_gr (r := 139) (k := 0) C (by decide) sq_138 rfl ji_282_14 jf_282_7 ?_
      refine wl_s (pc' := 18) ji_282_17 rfl rfl rfl ?_
      refine cs_l (x := 0) C (by decide) (by decide) sq_139 (by omega) ji_282_18 (fun ld20 ld21 ld22 => ?_)
      rw [eB] at ld22 ⊢
      refine wl_s (pc' := 20) ji_282_19 rfl rfl rfl ?_
      refine wl_iadd (x := B - 1) (y := 1) (z := B) ji_282_20 (by omega) ?_
      refine wl_s (pc' := 22) ji_282_21 rfl rfl rfl ?_
      refine wl_s (pc' := 24) ji_282_22 rfl rfl rfl ?_
      refine wl_sc (d := d) (as := [wp_i c, wp_i B, wp_i n, wp_i ((i : Int))]) (rest := [wp_i ((hoI c B n i))]) ji_282_24 jc_282_422 (Nat.le_of_ble_eq_true rfl) rfl (Nat.le_of_ble_eq_true rfl) rfl (by rw [jn_283]; rfl) (uc_283 (d := d) (b := B) (by omega) (n := n) (i := (i : Int)) (by omega) (by omega) hc) (fun v1 h3 R => ?_)
      obtain ⟨ee, rfl⟩ := R
      rw [ee]
      clear ee
      have db := dgR_b (b := B) (by omega) (n - 1 - (i : Int)).toNat c
      obtain ⟨dg, edg⟩ : ∃ z9_, dgR (n - 1 - (i : Int)).toNat c B = z9_ := ⟨_, rfl⟩
      rw [edg] at db ⊢
      show wl_R _ _ 282 27 [some (.ref 138), some (wp_i c), some (wp_i n), some (wp_i ((hoI c B n i))), some (wp_i ((i : Int)))] [wp_i dg, wp_i ((hoI c B n i))] _ _
      refine wl_if (t := 34) ji_282_27 rfl (by omega) (fun (hb4 : (dg : Int) ≤ 0) => ?_) (fun (hb4 : ¬ ((dg : Int) ≤ 0)) => ?_)
      · refine wl_s (pc' := 35) ji_282_34 rfl rfl rfl ?_
        refine wl_iadd (x := (hoI c B n i)) (y := 0) (z := (hoI c B n i)) ji_282_35 (by omega) ?_
        refine wl_s (pc' := 37) (lv' := [some (.ref 138), some (wp_i c), some (wp_i n), some (wp_i ((hoI c B n i))), some (wp_i ((i : Int)))]) ji_282_36 rfl rfl rfl ?_
        refine wl_iinc (x := (i : Int)) (z := (i : Int) + 1) (lv' := [some (.ref 138), some (wp_i c), some (wp_i n), some (wp_i ((hoI c B n i))), some (wp_i ((i : Int) + 1))]) ji_282_37 rfl (Nat.le_of_ble_eq_true rfl) (by omega) rfl ?_
        refine wl_goto (t := 5) ji_282_40 rfl ?_
        have eS : hoI c B n (i + 1) = hoI c B n i + 0 := by { show hoI c B n i + (if 0 < dgR (n - 1 - (i : Int)).toNat c B then 1 else 0) = _; rw [edg, if_neg (by omega)] }
        rw [show (i : Int) + 1 = ((i + 1 : Nat) : Int) by omega, show hoI c B n i = hoI c B n (i + 1) by omega]
        exact ih (i + 1) (by omega)
      · refine wl_s (pc' := 31) ji_282_30 rfl rfl rfl ?_
        refine wl_goto (t := 35) ji_282_31 rfl ?_
        refine wl_iadd (x := (hoI c B n i)) (y := 1) (z := (hoI c B n i) + 1) ji_282_35 (by omega) ?_
        refine wl_s (pc' := 37) (lv' := [some (.ref 138), some (wp_i c), some (wp_i n), some (wp_i ((hoI c B n i) + 1)), some (wp_i ((i : Int)))]) ji_282_36 rfl rfl rfl ?_
        refine wl_iinc (x := (i : Int)) (z := (i : Int) + 1) (lv' := [some (.ref 138), some (wp_i c), some (wp_i n), some (wp_i ((hoI c B n i) + 1)), some (wp_i ((i : Int) + 1))]) ji_282_37 rfl (Nat.le_of_ble_eq_true rfl) (by omega) rfl ?_
        refine wl_goto (t := 5) ji_282_40 rfl ?_
        have eS : hoI c B n (i + 1) = hoI c B n i + 1 := by { show hoI c B n i + (if 0 < dgR (n - 1 - (i : Int)).toNat c B then 1 else 0) = _; rw [edg, if_pos (by omega)] }
        rw [show (i : Int) + 1 = ((i + 1 : Nat) : Int) by omega, show hoI c B n i + 1 = hoI c B n (i + 1) by omega]
        exact ih (i + 1) (by omega)
theorem uc_282 {nn d : Nat} {h : mj_H} {s : sg_} (C : CS h s) {B c n : Int} (eB : s 139 0 = B - 1) (hB : 1 ≤ B ∧ B ≤ 9) (hn : 0 ≤ n ∧ n ≤ 4) (hc : 0 ≤ c ∧ c ≤ 100000) : wl_R nn (d + 1) 282 0 [some (.ref 138), some (wp_i c), some (wp_i n), none, none] [] h (fun v1 h1 => h1 = h ∧ v1 = some (wp_i (hoI c B n n.toNat))) := by
  refine wl_s (pc' := 1) ji_282_0 rfl rfl rfl ?_
  refine wl_s (pc' := 2) (lv' := [some (.ref 138), some (wp_i c), some (wp_i n), some (wp_i 0), none]) ji_282_1 rfl rfl rfl ?_
  refine wl_s (pc' := 3) ji_282_2 rfl rfl rfl ?_
  refine wl_s (pc' := 5) (lv' := [some (.ref 138), some (wp_i c), some (wp_i n), some (wp_i 0), some (wp_i 0)]) ji_282_3 rfl rfl rfl ?_
  exact uc_282l C eB hB hn hc nn 0 (by omega)
theorem uc_284l {d : Nat} {s : sg_} {cr : crs} {w n c B : Int} (eB : s 139 0 = B - 1) (hB : 1 ≤ B ∧ B ≤ 9) (hw : 0 ≤ w ∧ w < 6) (hn : 0 ≤ n ∧ n ≤ 4) (hc : 0 ≤ c ∧ c ≤ 100000) (h0 : 0 ≤ s 139 12 ∧ s 139 12 ≤ 2000000000) : ∀ (nn i : Nat) (l5 : Option Value) (h : mj_H), CS h (ihS cr w c B n (bgR s) i) → AS cr s (ihS cr w c B n (bgR s) i) (i : Int) → (i : Int) ≤ n → wl_R nn (d + 9) 284 7 [some (.ref 138), some (wp_i w), some (wp_i n), some (wp_i c), some (wp_i ((i : Int))), l5] [] h (fun v1 h1 => v1 = some (wp_i (if ihS cr w c B n (bgR s) n.toNat 139 10 = w then 1 else 0)) ∧ ∃ t, CS h1 t ∧ ∀ (b : Nat) (j : Int), ¬ (b = 147 ∧ 8 ≤ j ∧ j < 148) → ¬ (b = 138 ∧ j = 25) → t b j = s b j) := by
  intro nn
  induction nn with
  | zero => intros; exact wl_0
  | succ nn ih =>
    intro i l5 h C A hi
    have eB2 : (ihS cr w c B n (bgR s) i) 139 0 = B - 1 := (A.2.1 139 0 (by omega)).trans ((bgR_fr (by omega) (by omega)).trans eB)
    have hd := A.1.g.d
    have ei : (i : Int) = n → i = n.toNat := fun z => by omega
    refine wl_s1 (pc' := 9) ji_284_7 rfl rfl rfl ?_
    refine wl_s (pc' := 10) ji_284_9 rfl rfl rfl ?_
    refine wl_icmp (t := 64) ji_284_10 rfl (by omega) (by omega) (fun (hb1 : (n : Int) ≤ ((i : Int))) => ?_) (fun (hb1 : ¬ ((n : Int) ≤ ((i : Int)))) => ?_)
    · refine wl_s (pc' := 65) ji_284_64 rfl rfl rfl ?_
      refine cs_gr (r := 139) (k := 0) C (by decide) sq_138 rfl ji_284_65 jf_284_7 ?_
      refine wl_bp ji_284_68 rfl ?_
      refine cs_l (x := 10) C (by decide) (by decide) sq_139 (by omega) ji_284_70 (fun ld20 ld21 ld22 => ?_)
      refine wl_s (pc' := 72) ji_284_71 rfl rfl rfl ?_
      refine wl_icmp (t := 79) ji_284_72 rfl (by omega) (by omega) (fun (hb3 : ¬ ((ihS cr w c B n (bgR s) i) 139 10 : Int) = w) => ?_) (fun (hb3 : ¬ (¬ ((ihS cr w c B n (bgR s) i) 139 10 : Int) = w)) => ?_)
      · refine wl_s (pc' := 80) ji_284_79 rfl rfl rfl ?_
        refine wl_s (pc' := 82) (lv' := [some (.ref 138), some (wp_i w), some (wp_i n), some (wp_i c), some (wp_i 0), l5]) ji_284_80 rfl rfl rfl ?_
        refine wl_s (pc' := 83) ji_284_82 rfl rfl rfl ?_
        obtain ⟨q5, hq5⟩ := cs_c C (by decide) sq_138
        refine wl_vc (d := d + 8) (as := [.ref 138]) (rest := []) ji_284_83 jc_284_403 rfl hq5 jk_274.symm (Nat.le_of_ble_eq_true rfl) rfl (by rw [jn_274]; rfl) (uc_274 (d := d + 8) C) (fun v1 h4 R => ?_)
        obtain ⟨rfl, C⟩ := R
        show wl_R _ _ 284 86 [some (.ref 138), some (wp_i w), some (wp_i n), some (wp_i c), some (wp_i 0), l5] [] h4 _
        refine wl_s (pc' := 88) ji_284_86 rfl rfl rfl ?_
        exact wl_ri ji_284_88 jr_284 (pv_nb (by omega)) (⟨congrArg (fun z => some (wp_i z)) (by rw [← ei (by omega)]; exact (if_neg (by omega)).symm), _, C, fun b j h1 h2 => pb_ok A.2.1 b j h1 h2⟩)
      · refine wl_s (pc' := 76) ji_284_75 rfl rfl rfl ?_
        refine wl_goto (t := 80) ji_284_76 rfl ?_
        refine wl_s (pc' := 82) (lv' := [some (.ref 138), some (wp_i w), some (wp_i n), some (wp_i c), some (wp_i 1), l5]) ji_284_80 rfl rfl rfl ?_
        refine wl_s (pc' := 83) ji_284_82 rfl rfl rfl ?_
        obtain ⟨q7, hq7⟩ := cs_c C (by decide) sq_138
        refine wl_vc (d := d + 8) (as := [.ref 138]) (rest := []) ji_284_83 jc_284_403 rfl hq7 jk_274.symm (Nat.le_of_ble_eq_true rfl) rfl (by rw [jn_274]; rfl) (uc_274 (d := d + 8) C) (fun v1 h6 R => ?_)
        obtain ⟨rfl, C⟩ := R
        show wl_R _ _ 284 86 [some (.ref 138), some (wp_i w), some (wp_i n), some (wp_i c), some (wp_i 1), l5] [] h6 _
        refine wl_s (pc' := 88) ji_284_86 rfl rfl rfl ?_
        exact wl_ri ji_284_88 jr_284 (pv_nb (by omega)) (⟨congrArg (fun z => some (wp_i z)) (by rw [← ei (by omega)]; exact (if_pos (by omega)).symm), _, C, fun b j h1 h2 => pb_ok A.2.1 b j h1 h2⟩)
    · refine wl_s (pc' := 14) ji_284_13 rfl rfl rfl ?_
      refine wl_s (pc' := 15) ji_284_14 rfl rfl rfl ?_
      refine cs_gr (r := 139) (k := 0) C (by decide) sq_138 rfl ji_284_15 jf_284_7 ?_
      refine wl_s (pc' := 19) ji_284_18 rfl rfl rfl ?_
      refine cs_l (x := 0) C (by decide) (by decide) sq_139 (by omega) ji_284_19 (fun ld80 ld81 ld82 => ?_)
      rw [eB2] at ld82 ⊢
      refine wl_s (pc' := 21) ji_284_20 rfl rfl rfl ?_
      refine wl_iadd (x := B - 1) (y := 1) (z := B) ji_284_21 (by omega) ?_
      refine wl_s (pc' := 23) ji_284_22 rfl rfl rfl ?_
      refine wl_s (pc' := 25) ji_284_23 rfl rfl rfl ?_
      refine wl_sc (d := d + 8) (as := [wp_i c, wp_i B, wp_i n, wp_i ((i : Int))]) (rest := []) ji_284_25 jc_284_422 (Nat.le_of_ble_eq_true rfl) rfl (Nat.le_of_ble_eq_true rfl) rfl (by rw [jn_283]; rfl) (uc_283 (d := d + 8) (b := B) (by omega) (n := n) (i := (i : Int)) (by omega) (by omega) hc) (fun v1 h9 R => ?_)
      obtain ⟨ee, rfl⟩ := R
      rw [ee]
      clear ee
      have db := dgR_b (b := B) (by omega) (n - 1 - (i : Int)).toNat c
      obtain ⟨dg, edg⟩ : ∃ z9_, dgR (n - 1 - (i : Int)).toNat c B = z9_ := ⟨_, rfl⟩
      rw [edg] at db ⊢
      show wl_R _ _ 284 28 [some (.ref 138), some (wp_i w), some (wp_i n), some (wp_i c), some (wp_i ((i : Int))), l5] [wp_i dg] _ _
      refine wl_s (pc' := 29) ji_284_28 rfl rfl rfl ?_
      refine wl_isub (x := dg) (y := 1) (z := dg - 1) ji_284_29 (by omega) ?_
      refine wl_s (pc' := 32) (lv' := [some (.ref 138), some (wp_i w), some (wp_i n), some (wp_i c), some (wp_i ((i : Int))), some (wp_i (dg - 1))]) ji_284_30 rfl rfl rfl ?_
      refine wl_s (pc' := 34) ji_284_32 rfl rfl rfl ?_
      refine wl_if (t := 54) ji_284_34 rfl (by omega) (fun (hb10 : (dg - 1 : Int) < 0) => ?_) (fun (hb10 : ¬ ((dg - 1 : Int) < 0)) => ?_)
      · refine wl_s (pc' := 55) ji_284_54 rfl rfl rfl ?_
        have eh : hoS w (dg - 1) (ihS cr w c B n (bgR s) i) = (ihS cr w c B n (bgR s) i) := if_neg (by first | exact fun z => absurd z.1 (by omega) | exact fun z => by { have := hcb.mpr z.2; omega })
        have A2 := AS_r (w := w) (d := dg - 1) A hw (by omega)
        have C : CS _ (hoS w (dg - 1) (ihS cr w c B n (bgR s) i)) := by { rw [eh]; exact C }
        obtain ⟨q12, hq12⟩ := cs_c C (by decide) sq_138
        refine wl_vc (d := d + 8) (as := [.ref 138]) (rest := []) ji_284_55 jc_284_339 rfl hq12 jk_221.symm (Nat.le_of_ble_eq_true rfl) rfl (by rw [jn_221]; rfl) (uc_221 (d := d) C A2.1 (by rw [A2.2.2.2]; omega)) (fun v1 h11 R => ?_)
        obtain ⟨rfl, C⟩ := R
        show wl_R _ _ 284 58 [some (.ref 138), some (wp_i w), some (wp_i n), some (wp_i c), some (wp_i ((i : Int))), some (wp_i (dg - 1))] [] h11 _
        refine wl_iinc (x := (i : Int)) (z := (i : Int) + 1) (lv' := [some (.ref 138), some (wp_i w), some (wp_i n), some (wp_i c), some (wp_i ((i : Int) + 1)), some (wp_i (dg - 1))]) ji_284_58 rfl (Nat.le_of_ble_eq_true rfl) (by omega) rfl ?_
        refine wl_goto (t := 7) ji_284_61 rfl ?_
        have C : CS _ (ihS cr w c B n (bgR s) (i + 1)) := cs_mono C (by show _ = hourR cr (hoS w (dgR (n - 1 - (i : Int)).toNat c B - 1) (ihS cr w c B n (bgR s) i)); rw [edg])
        have A3 := AS_h A2 (by omega) h0.1
        rw [show (i : Int) + 1 = ((i + 1 : Nat) : Int) by omega]
        exact ih (i + 1) _ _ C (by show AS cr s (hourR cr (hoS w (dgR (n - 1 - (i : Int)).toNat c B - 1) (ihS cr w c B n (bgR s) i))) _; rw [edg, show ((i + 1 : Nat) : Int) = (i : Int) + 1 by omega]; exact A3) (by omega)
      · refine wl_s (pc' := 38) ji_284_37 rfl rfl rfl ?_
        refine wl_s (pc' := 39) ji_284_38 rfl rfl rfl ?_
        refine wl_s (pc' := 41) ji_284_39 rfl rfl rfl ?_
        obtain ⟨q14, hq14⟩ := cs_c C (by decide) sq_138
        refine wl_vc (d := d + 8) (as := [.ref 138, wp_i w, wp_i (dg - 1)]) (rest := []) ji_284_41 jc_284_351 rfl hq14 jk_249.symm (Nat.le_of_ble_eq_true rfl) rfl (by rw [jn_249]; rfl) (uc_249 (d := d + 5) C A.1.g.w0 hw (p := dg - 1) (by omega)) (fun v1 h13 R => ?_)
        obtain ⟨ee, y15, rfl, hca, hcb⟩ := R
        rw [ee]
        clear ee
        show wl_R _ _ 284 44 [some (.ref 138), some (wp_i w), some (wp_i n), some (wp_i c), some (wp_i ((i : Int))), some (wp_i (dg - 1))] [wp_i y15] _ _
        refine wl_if (t := 54) ji_284_44 rfl (by omega) (fun (hb16 : (y15 : Int) = 0) => ?_) (fun (hb16 : ¬ ((y15 : Int) = 0)) => ?_)
        · refine wl_s (pc' := 55) ji_284_54 rfl rfl rfl ?_
          have eh : hoS w (dg - 1) (ihS cr w c B n (bgR s) i) = (ihS cr w c B n (bgR s) i) := if_neg (by first | exact fun z => absurd z.1 (by omega) | exact fun z => by { have := hcb.mpr z.2; omega })
          have A2 := AS_r (w := w) (d := dg - 1) A hw (by omega)
          have C : CS _ (hoS w (dg - 1) (ihS cr w c B n (bgR s) i)) := by { rw [eh]; exact C }
          obtain ⟨q18, hq18⟩ := cs_c C (by decide) sq_138
          refine wl_vc (d := d + 8) (as := [.ref 138]) (rest := []) ji_284_55 jc_284_339 rfl hq18 jk_221.symm (Nat.le_of_ble_eq_true rfl) rfl (by rw [jn_221]; rfl) (uc_221 (d := d) C A2.1 (by rw [A2.2.2.2]; omega)) (fun v1 h17 R => ?_)
          obtain ⟨rfl, C⟩ := R
          show wl_R _ _ 284 58 [some (.ref 138), some (wp_i w), some (wp_i n), some (wp_i c), some (wp_i ((i : Int))), some (wp_i (dg - 1))] [] h17 _
          refine wl_iinc (x := (i : Int)) (z := (i : Int) + 1) (lv' := [some (.ref 138), some (wp_i w), some (wp_i n), some (wp_i c), some (wp_i ((i : Int) + 1)), some (wp_i (dg - 1))]) ji_284_58 rfl (Nat.le_of_ble_eq_true rfl) (by omega) rfl ?_
          refine wl_goto (t := 7) ji_284_61 rfl ?_
          have C : CS _ (ihS cr w c B n (bgR s) (i + 1)) := cs_mono C (by show _ = hourR cr (hoS w (dgR (n - 1 - (i : Int)).toNat c B - 1) (ihS cr w c B n (bgR s) i)); rw [edg])
          have A3 := AS_h A2 (by omega) h0.1
          rw [show (i : Int) + 1 = ((i + 1 : Nat) : Int) by omega]
          exact ih (i + 1) _ _ C (by show AS cr s (hourR cr (hoS w (dgR (n - 1 - (i : Int)).toNat c B - 1) (ihS cr w c B n (bgR s) i))) _; rw [edg, show ((i + 1 : Nat) : Int) = (i : Int) + 1 by omega]; exact A3) (by omega)
        · refine wl_s (pc' := 48) ji_284_47 rfl rfl rfl ?_
          refine wl_s (pc' := 49) ji_284_48 rfl rfl rfl ?_
          refine wl_s (pc' := 51) ji_284_49 rfl rfl rfl ?_
          obtain ⟨q20, hq20⟩ := cs_c C (by decide) sq_138
          refine wl_vc (d := d + 8) (as := [.ref 138, wp_i w, wp_i (dg - 1)]) (rest := []) ji_284_51 jc_284_354 rfl hq20 jk_250.symm (Nat.le_of_ble_eq_true rfl) rfl (by rw [jn_250]; rfl) (uc_250 (d := d + 7) C hw (p := dg - 1) (by omega)) (fun v1 h19 R => ?_)
          obtain ⟨rfl, C⟩ := R
          show wl_R _ _ 284 54 [some (.ref 138), some (wp_i w), some (wp_i n), some (wp_i c), some (wp_i ((i : Int))), some (wp_i (dg - 1))] [] h19 _
          refine wl_s (pc' := 55) ji_284_54 rfl rfl rfl ?_
          have eh : hoS w (dg - 1) (ihS cr w c B n (bgR s) i) = rsR (ihS cr w c B n (bgR s) i) w (dg - 1) := if_pos ⟨by omega, by { rcases hca with z | z; exact absurd z (by omega); exact hcb.mp z }⟩
          have A2 := AS_r (w := w) (d := dg - 1) A hw (by omega)
          have C : CS _ (hoS w (dg - 1) (ihS cr w c B n (bgR s) i)) := by { rw [eh]; exact C }
          obtain ⟨q22, hq22⟩ := cs_c C (by decide) sq_138
          refine wl_vc (d := d + 8) (as := [.ref 138]) (rest := []) ji_284_55 jc_284_339 rfl hq22 jk_221.symm (Nat.le_of_ble_eq_true rfl) rfl (by rw [jn_221]; rfl) (uc_221 (d := d) C A2.1 (by rw [A2.2.2.2]; omega)) (fun v1 h21 R => ?_)
          obtain ⟨rfl, C⟩ := R
          show wl_R _ _ 284 58 [some (.ref 138), some (wp_i w), some (wp_i n), some (wp_i c), some (wp_i ((i : Int))), some (wp_i (dg - 1))] [] h21 _
          refine wl_iinc (x := (i : Int)) (z := (i : Int) + 1) (lv' := [some (.ref 138), some (wp_i w), some (wp_i n), some (wp_i c), some (wp_i ((i : Int) + 1)), some (wp_i (dg - 1))]) ji_284_58 rfl (Nat.le_of_ble_eq_true rfl) (by omega) rfl ?_
          refine wl_goto (t := 7) ji_284_61 rfl ?_
          have C : CS _ (ihS cr w c B n (bgR s) (i + 1)) := cs_mono C (by show _ = hourR cr (hoS w (dgR (n - 1 - (i : Int)).toNat c B - 1) (ihS cr w c B n (bgR s) i)); rw [edg])
          have A3 := AS_h A2 (by omega) h0.1
          rw [show (i : Int) + 1 = ((i + 1 : Nat) : Int) by omega]
          exact ih (i + 1) _ _ C (by show AS cr s (hourR cr (hoS w (dgR (n - 1 - (i : Int)).toNat c B - 1) (ihS cr w c B n (bgR s) i))) _; rw [edg, show ((i + 1 : Nat) : Int) = (i : Int) + 1 by omega]; exact A3) (by omega)
theorem uc_284 {nn d : Nat} {h : mj_H} {s : sg_} (C : CS h s) {cr : crs} {M : Int} (hM : M ≤ 2000000000) (T : RT s cr M) {w n c B : Int} (eB : s 139 0 = B - 1) (hB : 1 ≤ B ∧ B ≤ 9) (hw : 0 ≤ w ∧ w < 6) (hn : 0 ≤ n ∧ n ≤ 4) (hc : 0 ≤ c ∧ c ≤ 100000) : wl_R nn (d + 9) 284 0 [some (.ref 138), some (wp_i w), some (wp_i n), some (wp_i c), none, none] [] h (fun v1 h1 => v1 = some (wp_i (if ihS cr w c B n (bgR s) n.toNat 139 10 = w then 1 else 0)) ∧ ∃ t, CS h1 t ∧ ∀ (b : Nat) (j : Int), ¬ (b = 147 ∧ 8 ≤ j ∧ j < 148) → ¬ (b = 138 ∧ j = 25) → t b j = s b j) := by
  refine wl_s (pc' := 1) ji_284_0 rfl rfl rfl ?_
  obtain ⟨q2, hq2⟩ := cs_c C (by decide) sq_138
  refine wl_vc (d := d + 8) (as := [.ref 138]) (rest := []) ji_284_1 jc_284_400 rfl hq2 jk_273.symm (Nat.le_of_ble_eq_true rfl) rfl (by rw [jn_273]; rfl) (uc_273 (d := d + 8) C) (fun v1 h1 R => ?_)
  obtain ⟨rfl, C⟩ := R
  show wl_R _ _ 284 4 [some (.ref 138), some (wp_i w), some (wp_i n), some (wp_i c), none, none] [] h1 _
  refine wl_s (pc' := 5) ji_284_4 rfl rfl rfl ?_
  refine wl_s (pc' := 7) (lv' := [some (.ref 138), some (wp_i w), some (wp_i n), some (wp_i c), some (wp_i 0), none]) ji_284_5 rfl rfl rfl ?_
  have tb := T.b
  rw [show (0 : Int) = ((0 : Nat) : Int) from rfl]
  exact uc_284l eB hB hw hn hc (by omega) nn 0 _ _ C (AS_0 T) (by omega)
/-- the first plan with the fewest hoists that brings it, among the first c, and how many hoists -/
def hsR (cr : crs) (w B n : Int) (u : sg_) : Nat → Int × Int
  | 0 => (-1, 1000000000)
  | c + 1 => if hoI (c : Int) B n n.toNat < (hsR cr w B n u c).2 ∧ ihS cr w (c : Int) B n u n.toNat 139 10 = w then ((c : Int), hoI (c : Int) B n n.toNat) else hsR cr w B n u c
theorem hsR_b {cr : crs} {w B n : Int} {u : sg_} : ∀ c : Nat, (-1 ≤ (hsR cr w B n u c).1 ∧ (hsR cr w B n u c).1 < (c : Int) ∨ (hsR cr w B n u c).1 = -1) ∧ 0 ≤ (hsR cr w B n u c).2 ∧ (hsR cr w B n u c).2 ≤ 2147483647
  | 0 => ⟨Or.inr rfl, (by decide : (0 : Int) ≤ 1000000000), (by decide : (1000000000 : Int) ≤ 2147483647)⟩
  | c + 1 => by
    have a := hsR_b (cr := cr) (w := w) (B := B) (n := n) (u := u) c
    have b := hoI_b (c := (c : Int)) (b := B) (n := n) n.toNat
    by_cases q : hoI (c : Int) B n n.toNat < (hsR cr w B n u c).2 ∧ ihS cr w (c : Int) B n u n.toNat 139 10 = w
    · have e : hsR cr w B n u (c + 1) = ((c : Int), hoI (c : Int) B n n.toNat) := if_pos q
      rw [e]
      dsimp only
      omega
    · have e : hsR cr w B n u (c + 1) = hsR cr w B n u c := if_neg q
      rw [e]
      omega
def hvR (B n k : Int) (q : Int × Int) : Int := if q.1 = -1 then -1 else if k = -1 then q.2 else if dgR (n - 1 - k).toNat q.1 B = 0 then 8 else dgR (n - 1 - k).toNat q.1 B - 1
theorem uc_281e {nn d : Nat} {h : mj_H} {s t : sg_} {w n k P x l b7 B : Int} (C : CS h t) (eBt : t 139 0 = B - 1) (hB : 1 ≤ B ∧ B ≤ 9) (hn : 1 ≤ n ∧ n ≤ 4) (hk : -1 ≤ k ∧ k < n) (hx : -1 ≤ x ∧ x ≤ 100000) (hl : 0 ≤ l ∧ l ≤ 2147483647) (ft : ∀ (b : Nat) (j : Int), ¬ (b = 147 ∧ 8 ≤ j ∧ j < 148) → ¬ (b = 138 ∧ j = 25) → t b j = s b j) : wl_R nn (d + 10) 281 124 [some (.ref 138), some (wp_i w), some (wp_i n), some (wp_i k), some (wp_i P), some (wp_i x), some (wp_i l), some (wp_i b7)] [] h (fun v1 h1 => v1 = some (wp_i (hvR B n k (x, l))) ∧ ∃ t, CS h1 t ∧ ∀ (b : Nat) (j : Int), ¬ (b = 147 ∧ 8 ≤ j ∧ j < 148) → ¬ (b = 138 ∧ j = 25) → t b j = s b j) := by
  refine wl_s (pc' := 126) ji_281_124 rfl rfl rfl ?_
  refine wl_s (pc' := 127) ji_281_126 rfl rfl rfl ?_
  refine wl_icmp (t := 132) ji_281_127 rfl (by omega) (by omega) (fun (hb1 : ¬ (x : Int) = (-1)) => ?_) (fun (hb1 : ¬ (¬ (x : Int) = (-1))) => ?_)
  · refine wl_s (pc' := 133) ji_281_132 rfl rfl rfl ?_
    refine wl_s (pc' := 134) ji_281_133 rfl rfl rfl ?_
    refine wl_icmp (t := 140) ji_281_134 rfl (by omega) (by omega) (fun (hb2 : ¬ (k : Int) = (-1)) => ?_) (fun (hb2 : ¬ (¬ (k : Int) = (-1))) => ?_)
    · refine wl_s (pc' := 142) ji_281_140 rfl rfl rfl ?_
      refine wl_s (pc' := 143) ji_281_142 rfl rfl rfl ?_
      refine cs_gr (r := 139) (k := 0) C (by decide) sq_138 rfl ji_281_143 jf_281_7 ?_
      refine wl_s (pc' := 147) ji_281_146 rfl rfl rfl ?_
      refine cs_l (x := 0) C (by decide) (by decide) sq_139 (by omega) ji_281_147 (fun ld30 ld31 ld32 => ?_)
      rw [eBt] at ld32 ⊢
      refine wl_s (pc' := 149) ji_281_148 rfl rfl rfl ?_
      refine wl_iadd (x := B - 1) (y := 1) (z := B) ji_281_149 (by omega) ?_
      refine wl_s (pc' := 151) ji_281_150 rfl rfl rfl ?_
      refine wl_s (pc' := 152) ji_281_151 rfl rfl rfl ?_
      refine wl_sc (d := d + 9) (as := [wp_i x, wp_i B, wp_i n, wp_i k]) (rest := []) ji_281_152 jc_281_422 (Nat.le_of_ble_eq_true rfl) rfl (Nat.le_of_ble_eq_true rfl) rfl (by rw [jn_283]; rfl) (uc_283 (d := d + 9) (b := B) (by omega) (n := n) (i := k) (by omega) (by omega) (by omega)) (fun v1 h4 R => ?_)
      obtain ⟨ee, rfl⟩ := R
      rw [ee]
      clear ee
      have db := dgR_b (b := B) (by omega) (n - 1 - k).toNat x
      obtain ⟨dg, edg⟩ : ∃ z9_, dgR (n - 1 - k).toNat x B = z9_ := ⟨_, rfl⟩
      rw [edg] at db ⊢
      show wl_R _ _ 281 155 [some (.ref 138), some (wp_i w), some (wp_i n), some (wp_i k), some (wp_i P), some (wp_i x), some (wp_i l), some (wp_i b7)] [wp_i dg] _ _
      refine wl_s (pc' := 157) (lv' := [some (.ref 138), some (wp_i w), some (wp_i n), some (wp_i k), some (wp_i P), some (wp_i x), some (wp_i l), some (wp_i dg)]) ji_281_155 rfl rfl rfl ?_
      refine wl_s (pc' := 159) ji_281_157 rfl rfl rfl ?_
      refine wl_if (t := 167) ji_281_159 rfl (by omega) (fun (hb5 : ¬ (dg : Int) = 0) => ?_) (fun (hb5 : ¬ (¬ (dg : Int) = 0)) => ?_)
      · refine wl_s (pc' := 169) ji_281_167 rfl rfl rfl ?_
        refine wl_s (pc' := 170) ji_281_169 rfl rfl rfl ?_
        refine wl_isub (x := dg) (y := 1) (z := dg - 1) ji_281_170 (by omega) ?_
        exact wl_ri ji_281_171 jr_281 rfl (⟨congrArg (fun z => some (wp_i z)) (by show _ = (if x = -1 then -1 else if k = -1 then l else if dgR (n - 1 - k).toNat x B = 0 then 8 else dgR (n - 1 - k).toNat x B - 1); rw [if_neg (by omega), if_neg (by omega), edg, if_neg (by omega)]), t, C, ft⟩)
      · refine wl_bp ji_281_162 rfl ?_
        refine wl_goto (t := 171) ji_281_164 rfl ?_
        exact wl_ri ji_281_171 jr_281 rfl (⟨congrArg (fun z => some (wp_i z)) (by show _ = (if x = -1 then -1 else if k = -1 then l else if dgR (n - 1 - k).toNat x B = 0 then 8 else dgR (n - 1 - k).toNat x B - 1); rw [if_neg (by omega), if_neg (by omega), edg, if_pos (by omega)]), t, C, ft⟩)
    · refine wl_s (pc' := 139) ji_281_137 rfl rfl rfl ?_
      exact wl_ri ji_281_139 jr_281 rfl (⟨congrArg (fun z => some (wp_i z)) (by show _ = (if x = -1 then -1 else if k = -1 then l else if dgR (n - 1 - k).toNat x B = 0 then 8 else dgR (n - 1 - k).toNat x B - 1); rw [if_neg (by omega), if_pos (by omega)]), t, C, ft⟩)
  · refine wl_s (pc' := 131) ji_281_130 rfl rfl rfl ?_
    exact wl_ri ji_281_131 jr_281 rfl (⟨congrArg (fun z => some (wp_i z)) (by show _ = (if x = -1 then -1 else if k = -1 then l else if dgR (n - 1 - k).toNat x B = 0 then 8 else dgR (n - 1 - k).toNat x B - 1); rw [if_pos (by omega)]), t, C, ft⟩)
theorem uc_281m {d : Nat} {s : sg_} {cr : crs} {M : Int} (hM : M ≤ 2000000000) (T : RT s cr M) {w n k P B : Int} (eB : s 139 0 = B - 1) (hB : 1 ≤ B ∧ B ≤ 9) (hw : 0 ≤ w ∧ w < 6) (hn : 1 ≤ n ∧ n ≤ 4) (hk : -1 ≤ k ∧ k < n) (hP : 1 ≤ P ∧ P ≤ 6561) : ∀ (nn c : Nat) (x l : Int) (h : mj_H) (t : sg_), CS h t → (c : Int) ≤ P → hsR cr w B n (bgR s) c = (x, l) → (∀ (b : Nat) (j : Int), ¬ (b = 147 ∧ 8 ≤ j ∧ j < 148) → ¬ (b = 138 ∧ j = 25) → t b j = s b j) → wl_R nn (d + 10) 281 72 [some (.ref 138), some (wp_i w), some (wp_i n), some (wp_i k), some (wp_i P), some (wp_i x), some (wp_i l), some (wp_i ((c : Int)))] [] h (fun v1 h1 => v1 = some (wp_i (hvR B n k (hsR cr w B n (bgR s) P.toNat))) ∧ ∃ t, CS h1 t ∧ ∀ (b : Nat) (j : Int), ¬ (b = 147 ∧ 8 ≤ j ∧ j < 148) → ¬ (b = 138 ∧ j = 25) → t b j = s b j) := by
  intro nn
  induction nn with
  | zero => intros; exact wl_0
  | succ nn ih =>
    intro c x l h t C hc exl ft
    have eBt : t 139 0 = B - 1 := (ft 139 0 (by omega) (by omega)).trans eB
    have hq := hsR_b (cr := cr) (w := w) (B := B) (n := n) (u := bgR s) c
    rw [exl] at hq
    dsimp only at hq
    have hob := hoI_b (c := (c : Int)) (b := B) (n := n) n.toNat
    obtain ⟨ho, eho⟩ : ∃ z9_, hoI (c : Int) B n n.toNat = z9_ := ⟨_, rfl⟩
    rw [eho] at hob
    refine wl_s1 (pc' := 74) ji_281_72 rfl rfl rfl ?_
    refine wl_s (pc' := 76) ji_281_74 rfl rfl rfl ?_
    refine wl_icmp (t := 124) ji_281_76 rfl (by omega) (by omega) (fun (hb1 : (P : Int) ≤ ((c : Int))) => ?_) (fun (hb1 : ¬ ((P : Int) ≤ ((c : Int)))) => ?_)
    · rw [← show c = P.toNat by omega, exl]
      exact uc_281e C eBt hB hn hk (by omega) (by omega) ft
    · refine wl_s (pc' := 80) ji_281_79 rfl rfl rfl ?_
      refine wl_s (pc' := 82) ji_281_80 rfl rfl rfl ?_
      refine wl_s (pc' := 83) ji_281_82 rfl rfl rfl ?_
      obtain ⟨q3, hq3⟩ := cs_c C (by decide) sq_138
      refine wl_vc (d := d + 9) (as := [.ref 138, wp_i ((c : Int)), wp_i n]) (rest := []) ji_281_83 jc_281_425 rfl hq3 jk_282.symm (Nat.le_of_ble_eq_true rfl) rfl (by rw [jn_282]; rfl) (uc_282 (d := d + 8) C (B := B) eBt hB (n := n) (c := (c : Int)) (by omega) (by omega)) (fun v1 h2 R => ?_)
      obtain ⟨ee, rfl⟩ := R
      rw [ee]
      clear ee
      rw [eho]
      show wl_R _ _ 281 86 [some (.ref 138), some (wp_i w), some (wp_i n), some (wp_i k), some (wp_i P), some (wp_i x), some (wp_i l), some (wp_i ((c : Int)))] [wp_i ho] _ _
      refine wl_s (pc' := 88) ji_281_86 rfl rfl rfl ?_
      refine wl_icmp (t := 118) ji_281_88 rfl (by omega) (by omega) (fun (hb4 : (l : Int) ≤ ho) => ?_) (fun (hb4 : ¬ ((l : Int) ≤ ho)) => ?_)
      · refine wl_iinc (x := (c : Int)) (z := (c : Int) + 1) (lv' := [some (.ref 138), some (wp_i w), some (wp_i n), some (wp_i k), some (wp_i P), some (wp_i x), some (wp_i l), some (wp_i ((c : Int) + 1))]) ji_281_118 rfl (Nat.le_of_ble_eq_true rfl) (by omega) rfl ?_
        refine wl_goto (t := 72) ji_281_121 rfl ?_
        have eS : hsR cr w B n (bgR s) (c + 1) = (x, l) := (if_neg (fun z => by have z1 := z.1; rw [eho, exl] at z1; dsimp only at z1; omega)).trans exl
        rw [show (c : Int) + 1 = ((c + 1 : Nat) : Int) by omega]
        exact ih (c + 1) x l _ t C (by omega) eS ft
      · refine wl_s (pc' := 92) ji_281_91 rfl rfl rfl ?_
        refine wl_s (pc' := 93) ji_281_92 rfl rfl rfl ?_
        refine wl_s (pc' := 94) ji_281_93 rfl rfl rfl ?_
        refine wl_s (pc' := 96) ji_281_94 rfl rfl rfl ?_
        obtain ⟨q6, hq6⟩ := cs_c C (by decide) sq_138
        refine wl_vc (d := d + 9) (as := [.ref 138, wp_i w, wp_i n, wp_i ((c : Int))]) (rest := []) ji_281_96 jc_281_428 rfl hq6 jk_284.symm (Nat.le_of_ble_eq_true rfl) rfl (by rw [jn_284]; rfl) (uc_284 (d := d) C hM (RT_q T (fun b j hb => ft b j (by omega) (by omega))) (B := B) eBt hB (by omega) (by omega) (c := (c : Int)) (by omega)) (fun v1 h5 R => ?_)
        obtain ⟨rfl, t2, C, ft2⟩ := R
        rw [bg_same ft]
        obtain ⟨ih9, eih⟩ : ∃ z9_ : Int, (if ihS cr w (c : Int) B n (bgR s) n.toNat 139 10 = w then 1 else 0) = z9_ := ⟨_, rfl⟩
        rw [eih]
        have ih01 : (ih9 = 1 ∧ ihS cr w (c : Int) B n (bgR s) n.toNat 139 10 = w) ∨ (ih9 = 0 ∧ ¬ ihS cr w (c : Int) B n (bgR s) n.toNat 139 10 = w) := by { rw [← eih]; by_cases z : ihS cr w (c : Int) B n (bgR s) n.toNat 139 10 = w; exact Or.inl ⟨if_pos z, z⟩; exact Or.inr ⟨if_neg z, z⟩ }
        have ft3 : ∀ (b : Nat) (j : Int), ¬ (b = 147 ∧ 8 ≤ j ∧ j < 148) → ¬ (b = 138 ∧ j = 25) → t2 b j = s b j := fun b j h1 h2 => (ft2 b j h1 h2).trans (ft b j h1 h2)
        have eBt2 : t2 139 0 = B - 1 := (ft3 139 0 (by omega) (by omega)).trans eB
        show wl_R _ _ 281 99 [some (.ref 138), some (wp_i w), some (wp_i n), some (wp_i k), some (wp_i P), some (wp_i x), some (wp_i l), some (wp_i ((c : Int)))] [wp_i ih9] h5 _
        refine wl_if (t := 105) ji_281_99 rfl (by omega) (fun (hb7 : ¬ (ih9 : Int) = 0) => ?_) (fun (hb7 : ¬ (¬ (ih9 : Int) = 0)) => ?_)
        · refine wl_s (pc' := 106) ji_281_105 rfl rfl rfl ?_
          refine wl_s (pc' := 108) ji_281_106 rfl rfl rfl ?_
          refine wl_s (pc' := 109) ji_281_108 rfl rfl rfl ?_
          obtain ⟨q9, hq9⟩ := cs_c C (by decide) sq_138
          refine wl_vc (d := d + 9) (as := [.ref 138, wp_i ((c : Int)), wp_i n]) (rest := []) ji_281_109 jc_281_425 rfl hq9 jk_282.symm (Nat.le_of_ble_eq_true rfl) rfl (by rw [jn_282]; rfl) (uc_282 (d := d + 8) C (B := B) eBt2 hB (n := n) (c := (c : Int)) (by omega) (by omega)) (fun v1 h8 R => ?_)
          obtain ⟨ee, rfl⟩ := R
          rw [ee]
          clear ee
          rw [eho]
          show wl_R _ _ 281 112 [some (.ref 138), some (wp_i w), some (wp_i n), some (wp_i k), some (wp_i P), some (wp_i x), some (wp_i l), some (wp_i ((c : Int)))] [wp_i ho] _ _
          refine wl_s (pc' := 114) (lv' := [some (.ref 138), some (wp_i w), some (wp_i n), some (wp_i k), some (wp_i P), some (wp_i x), some (wp_i ho), some (wp_i ((c : Int)))]) ji_281_112 rfl rfl rfl ?_
          refine wl_s (pc' := 116) ji_281_114 rfl rfl rfl ?_
          refine wl_s (pc' := 118) (lv' := [some (.ref 138), some (wp_i w), some (wp_i n), some (wp_i k), some (wp_i P), some (wp_i ((c : Int))), some (wp_i ho), some (wp_i ((c : Int)))]) ji_281_116 rfl rfl rfl ?_
          refine wl_iinc (x := (c : Int)) (z := (c : Int) + 1) (lv' := [some (.ref 138), some (wp_i w), some (wp_i n), some (wp_i k), some (wp_i P), some (wp_i ((c : Int))), some (wp_i ho), some (wp_i ((c : Int) + 1))]) ji_281_118 rfl (Nat.le_of_ble_eq_true rfl) (by omega) rfl ?_
          refine wl_goto (t := 72) ji_281_121 rfl ?_
          have eS : hsR cr w B n (bgR s) (c + 1) = ((c : Int), ho) := by { refine (if_pos ⟨by rw [eho, exl]; dsimp only; omega, by rcases ih01 with y | y; exact y.2; omega⟩).trans ?_; rw [eho] }
          rw [show (c : Int) + 1 = ((c + 1 : Nat) : Int) by omega]
          exact ih (c + 1) (c : Int) ho _ t2 C (by omega) eS ft3
        · refine wl_goto (t := 118) ji_281_102 rfl ?_
          refine wl_iinc (x := (c : Int)) (z := (c : Int) + 1) (lv' := [some (.ref 138), some (wp_i w), some (wp_i n), some (wp_i k), some (wp_i P), some (wp_i x), some (wp_i l), some (wp_i ((c : Int) + 1))]) ji_281_118 rfl (Nat.le_of_ble_eq_true rfl) (by omega) rfl ?_
          refine wl_goto (t := 72) ji_281_121 rfl ?_
          have eS : hsR cr w B n (bgR s) (c + 1) = (x, l) := (if_neg (fun z => by rcases ih01 with y | y; omega; exact y.2 z.2)).trans exl
          rw [show (c : Int) + 1 = ((c + 1 : Nat) : Int) by omega]
          exact ih (c + 1) x l _ t2 C (by omega) eS ft3
theorem uc_281p {d : Nat} {s : sg_} {cr : crs} {M : Int} (hM : M ≤ 2000000000) (T : RT s cr M) {w n k B : Int} (eB : s 139 0 = B - 1) (hB : 1 ≤ B ∧ B ≤ 9) (hw : 0 ≤ w ∧ w < 6) (hn : 1 ≤ n ∧ n ≤ 4) (hk : -1 ≤ k ∧ k < n) : ∀ (nn i : Nat) (h : mj_H), CS h s → (i : Int) ≤ n → wl_R nn (d + 10) 281 36 [some (.ref 138), some (wp_i w), some (wp_i n), some (wp_i k), some (wp_i ((pwI B i))), some (wp_i ((i : Int))), none, none] [] h (fun v1 h1 => v1 = some (wp_i (hvR B n k (hsR cr w B n (bgR s) (pwI B n.toNat).toNat))) ∧ ∃ t, CS h1 t ∧ ∀ (b : Nat) (j : Int), ¬ (b = 147 ∧ 8 ≤ j ∧ j < 148) → ¬ (b = 138 ∧ j = 25) → t b j = s b j) := by
  intro nn
  induction nn with
  | zero => intros; exact wl_0
  | succ nn ih =>
    intro i h C hi
    have pb := pwI_b hB (i := i) (by omega)
    refine wl_s1 (pc' := 38) ji_281_36 rfl rfl rfl ?_
    refine wl_s (pc' := 39) ji_281_38 rfl rfl rfl ?_
    refine wl_icmp (t := 61) ji_281_39 rfl (by omega) (by omega) (fun (hb1 : (n : Int) ≤ ((i : Int))) => ?_) (fun (hb1 : ¬ ((n : Int) ≤ ((i : Int)))) => ?_)
    · refine wl_s (pc' := 62) ji_281_61 rfl rfl rfl ?_
      refine wl_s (pc' := 64) (lv' := [some (.ref 138), some (wp_i w), some (wp_i n), some (wp_i k), some (wp_i ((pwI B i))), some (wp_i (-1)), none, none]) ji_281_62 rfl rfl rfl ?_
      refine wl_ldw (n := 1000000000) ji_281_64 jcn_281_399 (by decide) ?_
      refine wl_s (pc' := 69) (lv' := [some (.ref 138), some (wp_i w), some (wp_i n), some (wp_i k), some (wp_i ((pwI B i))), some (wp_i (-1)), some (wp_i 1000000000), none]) ji_281_67 rfl rfl rfl ?_
      refine wl_s (pc' := 70) ji_281_69 rfl rfl rfl ?_
      refine wl_s (pc' := 72) (lv' := [some (.ref 138), some (wp_i w), some (wp_i n), some (wp_i k), some (wp_i ((pwI B i))), some (wp_i (-1)), some (wp_i 1000000000), some (wp_i 0)]) ji_281_70 rfl rfl rfl ?_
      have ei : i = n.toNat := by omega
      rw [ei] at pb ⊢
      exact uc_281m hM T eB hB hw hn hk pb nn 0 (-1) 1000000000 _ s C (by omega) rfl (fun _ _ _ _ => rfl)
    · refine wl_s (pc' := 44) ji_281_42 rfl rfl rfl ?_
      refine wl_s (pc' := 45) ji_281_44 rfl rfl rfl ?_
      refine cs_gr (r := 139) (k := 0) C (by decide) sq_138 rfl ji_281_45 jf_281_7 ?_
      refine wl_s (pc' := 49) ji_281_48 rfl rfl rfl ?_
      refine cs_l (x := 0) C (by decide) (by decide) sq_139 (by omega) ji_281_49 (fun ld20 ld21 ld22 => ?_)
      rw [eB] at ld22 ⊢
      refine wl_s (pc' := 51) ji_281_50 rfl rfl rfl ?_
      refine wl_iadd (x := B - 1) (y := 1) (z := B) ji_281_51 (by omega) ?_
      refine wl_imul (x := (pwI B i)) (y := B) (z := ((pwI B i)) * B) ji_281_52 rfl ?_
      refine wl_s (pc' := 55) (lv' := [some (.ref 138), some (wp_i w), some (wp_i n), some (wp_i k), some (wp_i (((pwI B i)) * B)), some (wp_i ((i : Int))), none, none]) ji_281_53 rfl rfl rfl ?_
      refine wl_iinc (x := (i : Int)) (z := (i : Int) + 1) (lv' := [some (.ref 138), some (wp_i w), some (wp_i n), some (wp_i k), some (wp_i (((pwI B i)) * B)), some (wp_i ((i : Int) + 1)), none, none]) ji_281_55 rfl (Nat.le_of_ble_eq_true rfl) (by omega) rfl ?_
      refine wl_goto (t := 36) ji_281_58 rfl ?_
      rw [show (i : Int) + 1 = ((i + 1 : Nat) : Int) by omega]
      exact ih (i + 1) _ C (by omega)
theorem uc_281 {nn d : Nat} {h : mj_H} {s : sg_} (C : CS h s) {cr : crs} {M : Int} (hM : M ≤ 2000000000) (T : RT s cr M) {w n k : Int} (hwr : wp_r w) (hnr : wp_r n) (hkr : wp_r k) : wl_R nn (d + 10) 281 0 [some (.ref 138), some (wp_i w), some (wp_i n), some (wp_i k), none, none, none, none] [] h (fun v1 h1 => (¬ ((0 ≤ w ∧ w < s 139 1) ∧ (1 ≤ n ∧ n ≤ 4) ∧ -1 ≤ k ∧ k < n) ∧ v1 = some (wp_i (-1)) ∧ CS h1 s) ∨ (((0 ≤ w ∧ w < s 139 1) ∧ (1 ≤ n ∧ n ≤ 4) ∧ -1 ≤ k ∧ k < n) ∧ v1 = some (wp_i (hvR (s 139 0 + 1) n k (hsR cr w (s 139 0 + 1) n (bgR s) (pwI (s 139 0 + 1) n.toNat).toNat))) ∧ ∃ t, CS h1 t ∧ ∀ (b : Nat) (j : Int), ¬ (b = 147 ∧ 8 ≤ j ∧ j < 148) → ¬ (b = 138 ∧ j = 25) → t b j = s b j)) := by
  have w0 := T.rs.g.w0
  have p0 := T.rs.g.p0
  refine wl_s (pc' := 1) ji_281_0 rfl rfl rfl ?_
  refine wl_s (pc' := 2) ji_281_1 rfl rfl rfl ?_
  obtain ⟨q2, hq2⟩ := cs_c C (by decide) sq_138
  refine wl_vc (d := d + 9) (as := [.ref 138, wp_i w]) (rest := []) ji_281_2 jc_281_345 rfl hq2 jk_247.symm (Nat.le_of_ble_eq_true rfl) rfl (by rw [jn_247]; rfl) (uc_247 (d := d + 8) C T.rs.g.w0 (w := w) (by omega)) (fun v1 h1 R => ?_)
  obtain ⟨ee, y3, rfl, hy3a, hy3b⟩ := R
  rw [ee]
  clear ee
  show wl_R _ _ 281 5 [some (.ref 138), some (wp_i w), some (wp_i n), some (wp_i k), none, none, none, none] [wp_i y3] _ _
  refine wl_if (t := 28) ji_281_5 rfl (by omega) (fun (hb4 : (y3 : Int) = 0) => ?_) (fun (hb4 : ¬ ((y3 : Int) = 0)) => ?_)
  · refine wl_s (pc' := 29) ji_281_28 rfl rfl rfl ?_
    exact wl_ri ji_281_29 jr_281 rfl (Or.inl ⟨by omega, rfl, C⟩)
  · refine wl_s (pc' := 9) ji_281_8 rfl rfl rfl ?_
    refine wl_s (pc' := 10) ji_281_9 rfl rfl rfl ?_
    refine wl_s (pc' := 11) ji_281_10 rfl rfl rfl ?_
    refine wl_sc (d := d + 9) (as := [wp_i n, wp_i 1, wp_i 4]) (rest := []) ji_281_11 jc_281_66 (Nat.le_of_ble_eq_true rfl) rfl (Nat.le_of_ble_eq_true rfl) rfl (by rw [jn_171]; rfl) (uc_171 (d := d + 9) (x := n) (a := 1) (b := 4) (by omega) (by omega) (by omega)) (fun v1 h5 R => ?_)
    obtain ⟨ee, y6, rfl, hy6a, hy6b⟩ := R
    rw [ee]
    clear ee
    show wl_R _ _ 281 14 [some (.ref 138), some (wp_i w), some (wp_i n), some (wp_i k), none, none, none, none] [wp_i y6] _ _
    refine wl_if (t := 28) ji_281_14 rfl (by omega) (fun (hb7 : (y6 : Int) = 0) => ?_) (fun (hb7 : ¬ ((y6 : Int) = 0)) => ?_)
    · refine wl_s (pc' := 29) ji_281_28 rfl rfl rfl ?_
      exact wl_ri ji_281_29 jr_281 rfl (Or.inl ⟨by omega, rfl, C⟩)
    · refine wl_s (pc' := 18) ji_281_17 rfl rfl rfl ?_
      refine wl_s (pc' := 19) ji_281_18 rfl rfl rfl ?_
      refine wl_s (pc' := 20) ji_281_19 rfl rfl rfl ?_
      refine wl_s (pc' := 21) ji_281_20 rfl rfl rfl ?_
      refine wl_isub (x := n) (y := 1) (z := n - 1) ji_281_21 (by omega) ?_
      refine wl_sc (d := d + 9) (as := [wp_i k, wp_i (-1), wp_i (n - 1)]) (rest := []) ji_281_22 jc_281_66 (Nat.le_of_ble_eq_true rfl) rfl (Nat.le_of_ble_eq_true rfl) rfl (by rw [jn_171]; rfl) (uc_171 (d := d + 9) (x := k) (a := -1) (b := n - 1) (by omega) (by omega) (by omega)) (fun v1 h8 R => ?_)
      obtain ⟨ee, y9, rfl, hy9a, hy9b⟩ := R
      rw [ee]
      clear ee
      show wl_R _ _ 281 25 [some (.ref 138), some (wp_i w), some (wp_i n), some (wp_i k), none, none, none, none] [wp_i y9] _ _
      refine wl_if (t := 30) ji_281_25 rfl (by omega) (fun (hb10 : ¬ (y9 : Int) = 0) => ?_) (fun (hb10 : ¬ (¬ (y9 : Int) = 0)) => ?_)
      · refine wl_s (pc' := 31) ji_281_30 rfl rfl rfl ?_
        refine wl_s (pc' := 33) (lv' := [some (.ref 138), some (wp_i w), some (wp_i n), some (wp_i k), some (wp_i 1), none, none, none]) ji_281_31 rfl rfl rfl ?_
        refine wl_s (pc' := 34) ji_281_33 rfl rfl rfl ?_
        refine wl_s (pc' := 36) (lv' := [some (.ref 138), some (wp_i w), some (wp_i n), some (wp_i k), some (wp_i 1), some (wp_i 0), none, none]) ji_281_34 rfl rfl rfl ?_
        have hq : (0 ≤ w ∧ w < s 139 1) ∧ (1 ≤ n ∧ n ≤ 4) ∧ -1 ≤ k ∧ k < n := by omega
        refine wl_mono (uc_281p hM T (B := s 139 0 + 1) (by omega) (by omega) (by omega) (by omega) (by omega) nn 0 _ C (by omega)) (fun v1 h1 R => Or.inr ⟨hq, R⟩)
      · refine wl_s (pc' := 29) ji_281_28 rfl rfl rfl ?_
        exact wl_ri ji_281_29 jr_281 rfl (Or.inl ⟨by omega, rfl, C⟩)
