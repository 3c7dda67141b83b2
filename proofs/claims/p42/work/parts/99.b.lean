/-! the reference's reader: a value, what stands behind it; laid by program (wp_one.py) -/
set_option maxRecDepth 100000 in
theorem ji_195_0 : mj_ins 195 0 = some (.aload_n 0) := by decide +kernel
set_option maxRecDepth 100000 in
theorem ji_195_1 : mj_ins 195 1 = some (.invokevirtual 205) := by decide +kernel
set_option maxRecDepth 100000 in
theorem jc_195_205 : mj_cal 195 205 = some (2, 196, 0) := by decide +kernel
set_option maxRecDepth 100000 in
theorem jk_196 : mj_cls 196 = 11 := by decide +kernel
set_option maxRecDepth 100000 in
theorem jn_196 : mj_nl 196 = 2 := by decide +kernel
set_option maxRecDepth 100000 in
theorem ji_195_4 : mj_ins 195 4 = some (.istore_n 1) := by decide +kernel
set_option maxRecDepth 100000 in
theorem ji_195_5 : mj_ins 195 5 = some (.iload_n 1) := by decide +kernel
set_option maxRecDepth 100000 in
theorem ji_195_6 : mj_ins 195 6 = some (.ifCond .lt 42) := by decide +kernel
set_option maxRecDepth 100000 in
theorem ji_195_48 : mj_ins 195 48 = some (.aload_n 0) := by decide +kernel
set_option maxRecDepth 100000 in
theorem ji_195_49 : mj_ins 195 49 = some (.invokevirtual 163) := by decide +kernel
set_option maxRecDepth 100000 in
theorem jc_195_163 : mj_cal 195 163 = some (2, 198, 0) := by decide +kernel
set_option maxRecDepth 100000 in
theorem ji_195_52 : mj_ins 195 52 = some (.istore_n 2) := by decide +kernel
set_option maxRecDepth 100000 in
theorem ji_195_53 : mj_ins 195 53 = some (.aload_n 0) := by decide +kernel
set_option maxRecDepth 100000 in
theorem ji_195_54 : mj_ins 195 54 = some (.invokevirtual 167) := by decide +kernel
set_option maxRecDepth 100000 in
theorem jc_195_167 : mj_cal 195 167 = some (2, 197, 0) := by decide +kernel
set_option maxRecDepth 100000 in
theorem ji_195_57 : mj_ins 195 57 = some (.ifCond .eq 29) := by decide +kernel
set_option maxRecDepth 100000 in
theorem ji_195_86 : mj_ins 195 86 = some (.iload_n 2) := by decide +kernel
set_option maxRecDepth 100000 in
theorem ji_195_87 : mj_ins 195 87 = some (.bipush 41) := by decide +kernel
set_option maxRecDepth 100000 in
theorem ji_195_89 : mj_ins 195 89 = some (.if_icmp .ne 17) := by decide +kernel
set_option maxRecDepth 100000 in
theorem ji_195_106 : mj_ins 195 106 = some (.iload_n 2) := by decide +kernel
set_option maxRecDepth 100000 in
theorem ji_195_107 : mj_ins 195 107 = some (.iconst (-1)) := by decide +kernel
set_option maxRecDepth 100000 in
theorem ji_195_108 : mj_ins 195 108 = some (.if_icmp .eq 12) := by decide +kernel
set_option maxRecDepth 100000 in
theorem ji_195_120 : mj_ins 195 120 = some (.iconst (-1)) := by decide +kernel
set_option maxRecDepth 100000 in
theorem ji_195_121 : mj_ins 195 121 = some (.ireturn) := by decide +kernel
set_option maxRecDepth 100000 in
theorem jr_195 : mj_ret 195 = some .int := by decide +kernel
set_option maxRecDepth 100000 in
theorem ji_195_111 : mj_ins 195 111 = some (.aload_n 0) := by decide +kernel
set_option maxRecDepth 100000 in
theorem ji_195_112 : mj_ins 195 112 = some (.getfield 95) := by decide +kernel
set_option maxRecDepth 100000 in
theorem jf_195_95 : mj_fld 195 95 = some (11, 9, .int, true) := by decide +kernel
set_option maxRecDepth 100000 in
theorem ji_195_115 : mj_ins 195 115 = some (.bipush 41) := by decide +kernel
set_option maxRecDepth 100000 in
theorem ji_195_117 : mj_ins 195 117 = some (.if_icmp .eq 5) := by decide +kernel
set_option maxRecDepth 100000 in
theorem ji_195_122 : mj_ins 195 122 = some (.aload_n 0) := by decide +kernel
set_option maxRecDepth 100000 in
theorem ji_195_123 : mj_ins 195 123 = some (.iload_n 2) := by decide +kernel
set_option maxRecDepth 100000 in
theorem ji_195_124 : mj_ins 195 124 = some (.invokevirtual 214) := by decide +kernel
set_option maxRecDepth 100000 in
theorem jc_195_214 : mj_cal 195 214 = some (2, 207, 1) := by decide +kernel
set_option maxRecDepth 100000 in
theorem jk_207 : mj_cls 207 = 11 := by decide +kernel
set_option maxRecDepth 100000 in
theorem jn_207 : mj_nl 207 = 2 := by decide +kernel
set_option maxRecDepth 100000 in
theorem ji_195_127 : mj_ins 195 127 = some (.iconst 0) := by decide +kernel
set_option maxRecDepth 100000 in
theorem ji_195_128 : mj_ins 195 128 = some (.ireturn) := by decide +kernel
set_option maxRecDepth 100000 in
theorem ji_195_92 : mj_ins 195 92 = some (.aload_n 0) := by decide +kernel
set_option maxRecDepth 100000 in
theorem ji_195_93 : mj_ins 195 93 = some (.getfield 95) := by decide +kernel
set_option maxRecDepth 100000 in
theorem ji_195_96 : mj_ins 195 96 = some (.bipush 44) := by decide +kernel
set_option maxRecDepth 100000 in
theorem ji_195_98 : mj_ins 195 98 = some (.if_icmp .ne 8) := by decide +kernel
set_option maxRecDepth 100000 in
theorem ji_195_101 : mj_ins 195 101 = some (.aload_n 0) := by decide +kernel
set_option maxRecDepth 100000 in
theorem ji_195_102 : mj_ins 195 102 = some (.invokevirtual 211) := by decide +kernel
set_option maxRecDepth 100000 in
theorem jc_195_211 : mj_cal 195 211 = some (2, 206, 0) := by decide +kernel
set_option maxRecDepth 100000 in
theorem jk_206 : mj_cls 206 = 11 := by decide +kernel
set_option maxRecDepth 100000 in
theorem jn_206 : mj_nl 206 = 1 := by decide +kernel
set_option maxRecDepth 100000 in
theorem ji_195_105 : mj_ins 195 105 = some (.ireturn) := by decide +kernel
set_option maxRecDepth 100000 in
theorem ji_195_60 : mj_ins 195 60 = some (.aload_n 0) := by decide +kernel
set_option maxRecDepth 100000 in
theorem ji_195_61 : mj_ins 195 61 = some (.invokevirtual 196) := by decide +kernel
set_option maxRecDepth 100000 in
theorem jc_195_196 : mj_cal 195 196 = some (2, 199, 0) := by decide +kernel
set_option maxRecDepth 100000 in
theorem ji_195_64 : mj_ins 195 64 = some (.ifCond .ne 22) := by decide +kernel
set_option maxRecDepth 100000 in
theorem ji_195_67 : mj_ins 195 67 = some (.aload_n 0) := by decide +kernel
set_option maxRecDepth 100000 in
theorem ji_195_68 : mj_ins 195 68 = some (.bipush 105) := by decide +kernel
set_option maxRecDepth 100000 in
theorem ji_195_70 : mj_ins 195 70 = some (.bipush 110) := by decide +kernel
set_option maxRecDepth 100000 in
theorem ji_195_72 : mj_ins 195 72 = some (.invokestatic 118) := by decide +kernel
set_option maxRecDepth 100000 in
theorem jc_195_118 : mj_cal 195 118 = some (1, 189, 2) := by decide +kernel
set_option maxRecDepth 100000 in
theorem ji_195_75 : mj_ins 195 75 = some (.invokevirtual 189) := by decide +kernel
set_option maxRecDepth 100000 in
theorem jc_195_189 : mj_cal 195 189 = some (2, 190, 1) := by decide +kernel
set_option maxRecDepth 100000 in
theorem ji_195_78 : mj_ins 195 78 = some (.ifCond .eq 8) := by decide +kernel
set_option maxRecDepth 100000 in
theorem ji_195_81 : mj_ins 195 81 = some (.aload_n 0) := by decide +kernel
set_option maxRecDepth 100000 in
theorem ji_195_82 : mj_ins 195 82 = some (.invokevirtual 208) := by decide +kernel
set_option maxRecDepth 100000 in
theorem jc_195_208 : mj_cal 195 208 = some (2, 204, 0) := by decide +kernel
set_option maxRecDepth 100000 in
theorem jk_204 : mj_cls 204 = 11 := by decide +kernel
set_option maxRecDepth 100000 in
theorem jn_204 : mj_nl 204 = 1 := by decide +kernel
set_option maxRecDepth 100000 in
theorem ji_195_85 : mj_ins 195 85 = some (.ireturn) := by decide +kernel
set_option maxRecDepth 100000 in
theorem ji_195_9 : mj_ins 195 9 = some (.aload_n 0) := by decide +kernel
set_option maxRecDepth 100000 in
theorem ji_195_10 : mj_ins 195 10 = some (.iload_n 1) := by decide +kernel
set_option maxRecDepth 100000 in
theorem ji_195_11 : mj_ins 195 11 = some (.invokestatic 150) := by decide +kernel
set_option maxRecDepth 100000 in
theorem jc_195_150 : mj_cal 195 150 = some (1, 200, 1) := by decide +kernel
set_option maxRecDepth 100000 in
theorem ji_195_14 : mj_ins 195 14 = some (.invokevirtual 183) := by decide +kernel
set_option maxRecDepth 100000 in
theorem jc_195_183 : mj_cal 195 183 = some (2, 202, 1) := by decide +kernel
set_option maxRecDepth 100000 in
theorem ji_195_17 : mj_ins 195 17 = some (.aload_n 0) := by decide +kernel
set_option maxRecDepth 100000 in
theorem ji_195_18 : mj_ins 195 18 = some (.getfield 29) := by decide +kernel
set_option maxRecDepth 100000 in
theorem jf_195_29 : mj_fld 195 29 = some (11, 15, (.array .int), false) := by decide +kernel
set_option maxRecDepth 100000 in
theorem ji_195_21 : mj_ins 195 21 = some (.aload_n 0) := by decide +kernel
set_option maxRecDepth 100000 in
theorem ji_195_22 : mj_ins 195 22 = some (.getfield 147) := by decide +kernel
set_option maxRecDepth 100000 in
theorem jf_195_147 : mj_fld 195 147 = some (11, 16, .int, true) := by decide +kernel
set_option maxRecDepth 100000 in
theorem ji_195_25 : mj_ins 195 25 = some (.iload_n 1) := by decide +kernel
set_option maxRecDepth 100000 in
theorem ji_195_26 : mj_ins 195 26 = some (.iastore) := by decide +kernel
set_option maxRecDepth 100000 in
theorem ji_195_27 : mj_ins 195 27 = some (.aload_n 0) := by decide +kernel
set_option maxRecDepth 100000 in
theorem ji_195_28 : mj_ins 195 28 = some (.dup) := by decide +kernel
set_option maxRecDepth 100000 in
theorem ji_195_29 : mj_ins 195 29 = some (.getfield 147) := by decide +kernel
set_option maxRecDepth 100000 in
theorem ji_195_32 : mj_ins 195 32 = some (.iconst 1) := by decide +kernel
set_option maxRecDepth 100000 in
theorem ji_195_33 : mj_ins 195 33 = some (.iadd) := by decide +kernel
set_option maxRecDepth 100000 in
theorem ji_195_34 : mj_ins 195 34 = some (.putfield 147) := by decide +kernel
set_option maxRecDepth 100000 in
theorem ji_195_37 : mj_ins 195 37 = some (.aload_n 0) := by decide +kernel
set_option maxRecDepth 100000 in
theorem ji_195_38 : mj_ins 195 38 = some (.iconst 0) := by decide +kernel
set_option maxRecDepth 100000 in
theorem ji_195_39 : mj_ins 195 39 = some (.putfield 180) := by decide +kernel
set_option maxRecDepth 100000 in
theorem jf_195_180 : mj_fld 195 180 = some (11, 19, .boolean, true) := by decide +kernel
set_option maxRecDepth 100000 in
theorem ji_195_42 : mj_ins 195 42 = some (.aload_n 0) := by decide +kernel
set_option maxRecDepth 100000 in
theorem ji_195_43 : mj_ins 195 43 = some (.invokevirtual 171) := by decide +kernel
set_option maxRecDepth 100000 in
theorem jc_195_171 : mj_cal 195 171 = some (2, 178, 0) := by decide +kernel
set_option maxRecDepth 100000 in
theorem ji_195_46 : mj_ins 195 46 = some (.iconst 0) := by decide +kernel
set_option maxRecDepth 100000 in
theorem ji_195_47 : mj_ins 195 47 = some (.ireturn) := by decide +kernel
set_option maxRecDepth 100000 in
theorem ji_209_0 : mj_ins 209 0 = some (.aload_n 0) := by decide +kernel
set_option maxRecDepth 100000 in
theorem ji_209_1 : mj_ins 209 1 = some (.getfield 95) := by decide +kernel
set_option maxRecDepth 100000 in
theorem jf_209_95 : mj_fld 209 95 = some (11, 9, .int, true) := by decide +kernel
set_option maxRecDepth 100000 in
theorem ji_209_4 : mj_ins 209 4 = some (.iconst 2) := by decide +kernel
set_option maxRecDepth 100000 in
theorem ji_209_5 : mj_ins 209 5 = some (.if_icmp .eq 5) := by decide +kernel
set_option maxRecDepth 100000 in
theorem ji_209_8 : mj_ins 209 8 = some (.iconst (-1)) := by decide +kernel
set_option maxRecDepth 100000 in
theorem ji_209_9 : mj_ins 209 9 = some (.ireturn) := by decide +kernel
set_option maxRecDepth 100000 in
theorem jr_209 : mj_ret 209 = some .int := by decide +kernel
set_option maxRecDepth 100000 in
theorem jn_209 : mj_nl 209 = 1 := by decide +kernel
set_option maxRecDepth 100000 in
theorem jn_210 : mj_nl 210 = 2 := by decide +kernel
set_option maxRecDepth 100000 in
theorem ji_208_0 : mj_ins 208 0 = some (.aload_n 0) := by decide +kernel
set_option maxRecDepth 100000 in
theorem ji_208_1 : mj_ins 208 1 = some (.getfield 95) := by decide +kernel
set_option maxRecDepth 100000 in
theorem jf_208_95 : mj_fld 208 95 = some (11, 9, .int, true) := by decide +kernel
set_option maxRecDepth 100000 in
theorem ji_208_4 : mj_ins 208 4 = some (.iconst 1) := by decide +kernel
set_option maxRecDepth 100000 in
theorem ji_208_5 : mj_ins 208 5 = some (.if_icmp .ne 15) := by decide +kernel
set_option maxRecDepth 100000 in
theorem ji_208_20 : mj_ins 208 20 = some (.aload_n 0) := by decide +kernel
set_option maxRecDepth 100000 in
theorem ji_208_21 : mj_ins 208 21 = some (.invokevirtual 174) := by decide +kernel
set_option maxRecDepth 100000 in
theorem jc_208_174 : mj_cal 208 174 = some (2, 209, 0) := by decide +kernel
set_option maxRecDepth 100000 in
theorem jk_209 : mj_cls 209 = 11 := by decide +kernel
set_option maxRecDepth 100000 in
theorem ji_208_24 : mj_ins 208 24 = some (.istore_n 1) := by decide +kernel
set_option maxRecDepth 100000 in
theorem ji_208_25 : mj_ins 208 25 = some (.iload_n 1) := by decide +kernel
set_option maxRecDepth 100000 in
theorem ji_208_26 : mj_ins 208 26 = some (.ifCond .lt 13) := by decide +kernel
set_option maxRecDepth 100000 in
theorem ji_208_39 : mj_ins 208 39 = some (.aload_n 0) := by decide +kernel
set_option maxRecDepth 100000 in
theorem ji_208_40 : mj_ins 208 40 = some (.getfield 95) := by decide +kernel
set_option maxRecDepth 100000 in
theorem ji_208_43 : mj_ins 208 43 = some (.iconst 1) := by decide +kernel
set_option maxRecDepth 100000 in
theorem ji_208_44 : mj_ins 208 44 = some (.if_icmp .eq 7) := by decide +kernel
set_option maxRecDepth 100000 in
theorem ji_208_51 : mj_ins 208 51 = some (.aload_n 0) := by decide +kernel
set_option maxRecDepth 100000 in
theorem ji_208_52 : mj_ins 208 52 = some (.aload_n 0) := by decide +kernel
set_option maxRecDepth 100000 in
theorem ji_208_53 : mj_ins 208 53 = some (.getfield 95) := by decide +kernel
set_option maxRecDepth 100000 in
theorem ji_208_56 : mj_ins 208 56 = some (.iconst 1) := by decide +kernel
set_option maxRecDepth 100000 in
theorem ji_208_57 : mj_ins 208 57 = some (.if_icmp .ne 7) := by decide +kernel
set_option maxRecDepth 100000 in
theorem ji_208_64 : mj_ins 208 64 = some (.iconst 1) := by decide +kernel
set_option maxRecDepth 100000 in
theorem ji_208_65 : mj_ins 208 65 = some (.aload_n 0) := by decide +kernel
set_option maxRecDepth 100000 in
theorem ji_208_66 : mj_ins 208 66 = some (.getfield 95) := by decide +kernel
set_option maxRecDepth 100000 in
theorem ji_208_69 : mj_ins 208 69 = some (.iconst 1) := by decide +kernel
set_option maxRecDepth 100000 in
theorem ji_208_70 : mj_ins 208 70 = some (.if_icmp .ne 10) := by decide +kernel
set_option maxRecDepth 100000 in
theorem ji_208_80 : mj_ins 208 80 = some (.iload_n 1) := by decide +kernel
set_option maxRecDepth 100000 in
theorem ji_208_81 : mj_ins 208 81 = some (.invokevirtual 153) := by decide +kernel
set_option maxRecDepth 100000 in
theorem jc_208_153 : mj_cal 208 153 = some (2, 203, 2) := by decide +kernel
set_option maxRecDepth 100000 in
theorem ji_208_84 : mj_ins 208 84 = some (.aload_n 0) := by decide +kernel
set_option maxRecDepth 100000 in
theorem ji_208_85 : mj_ins 208 85 = some (.invokevirtual 171) := by decide +kernel
set_option maxRecDepth 100000 in
theorem jc_208_171 : mj_cal 208 171 = some (2, 178, 0) := by decide +kernel
set_option maxRecDepth 100000 in
theorem ji_208_88 : mj_ins 208 88 = some (.aload_n 0) := by decide +kernel
set_option maxRecDepth 100000 in
theorem ji_208_89 : mj_ins 208 89 = some (.iconst 1) := by decide +kernel
set_option maxRecDepth 100000 in
theorem ji_208_90 : mj_ins 208 90 = some (.putfield 180) := by decide +kernel
set_option maxRecDepth 100000 in
theorem jf_208_180 : mj_fld 208 180 = some (11, 19, .boolean, true) := by decide +kernel
set_option maxRecDepth 100000 in
theorem ji_208_93 : mj_ins 208 93 = some (.aload_n 0) := by decide +kernel
set_option maxRecDepth 100000 in
theorem ji_208_94 : mj_ins 208 94 = some (.bipush 7) := by decide +kernel
set_option maxRecDepth 100000 in
theorem ji_208_96 : mj_ins 208 96 = some (.invokevirtual 183) := by decide +kernel
set_option maxRecDepth 100000 in
theorem jc_208_183 : mj_cal 208 183 = some (2, 202, 1) := by decide +kernel
set_option maxRecDepth 100000 in
theorem ji_208_99 : mj_ins 208 99 = some (.iconst 0) := by decide +kernel
set_option maxRecDepth 100000 in
theorem ji_208_100 : mj_ins 208 100 = some (.ireturn) := by decide +kernel
set_option maxRecDepth 100000 in
theorem jr_208 : mj_ret 208 = some .int := by decide +kernel
set_option maxRecDepth 100000 in
theorem ji_208_73 : mj_ins 208 73 = some (.aload_n 0) := by decide +kernel
set_option maxRecDepth 100000 in
theorem ji_208_74 : mj_ins 208 74 = some (.getfield 102) := by decide +kernel
set_option maxRecDepth 100000 in
theorem jf_208_102 : mj_fld 208 102 = some (11, 10, .int, true) := by decide +kernel
set_option maxRecDepth 100000 in
theorem ji_208_77 : mj_ins 208 77 = some (.goto 4) := by decide +kernel
set_option maxRecDepth 100000 in
theorem ji_208_60 : mj_ins 208 60 = some (.iconst 0) := by decide +kernel
set_option maxRecDepth 100000 in
theorem ji_208_61 : mj_ins 208 61 = some (.goto 4) := by decide +kernel
set_option maxRecDepth 100000 in
theorem ji_208_47 : mj_ins 208 47 = some (.iload_n 1) := by decide +kernel
set_option maxRecDepth 100000 in
theorem ji_208_48 : mj_ins 208 48 = some (.ifCond .lt 53) := by decide +kernel
set_option maxRecDepth 100000 in
theorem ji_208_101 : mj_ins 208 101 = some (.aload_n 0) := by decide +kernel
set_option maxRecDepth 100000 in
theorem ji_208_102 : mj_ins 208 102 = some (.getfield 95) := by decide +kernel
set_option maxRecDepth 100000 in
theorem ji_208_105 : mj_ins 208 105 = some (.bipush 40) := by decide +kernel
set_option maxRecDepth 100000 in
theorem ji_208_107 : mj_ins 208 107 = some (.if_icmp .ne 10) := by decide +kernel
set_option maxRecDepth 100000 in
theorem ji_208_117 : mj_ins 208 117 = some (.aload_n 0) := by decide +kernel
set_option maxRecDepth 100000 in
theorem ji_208_118 : mj_ins 208 118 = some (.getfield 95) := by decide +kernel
set_option maxRecDepth 100000 in
theorem ji_208_121 : mj_ins 208 121 = some (.bipush 45) := by decide +kernel
set_option maxRecDepth 100000 in
theorem ji_208_123 : mj_ins 208 123 = some (.if_icmp .ne 9) := by decide +kernel
set_option maxRecDepth 100000 in
theorem ji_208_132 : mj_ins 208 132 = some (.aload_n 0) := by decide +kernel
set_option maxRecDepth 100000 in
theorem ji_208_133 : mj_ins 208 133 = some (.bipush 110) := by decide +kernel
set_option maxRecDepth 100000 in
theorem ji_208_135 : mj_ins 208 135 = some (.bipush 111) := by decide +kernel
set_option maxRecDepth 100000 in
theorem ji_208_137 : mj_ins 208 137 = some (.bipush 116) := by decide +kernel
set_option maxRecDepth 100000 in
theorem ji_208_139 : mj_ins 208 139 = some (.invokestatic 122) := by decide +kernel
set_option maxRecDepth 100000 in
theorem jc_208_122 : mj_cal 208 122 = some (1, 188, 3) := by decide +kernel
set_option maxRecDepth 100000 in
theorem ji_208_142 : mj_ins 208 142 = some (.invokevirtual 189) := by decide +kernel
set_option maxRecDepth 100000 in
theorem jc_208_189 : mj_cal 208 189 = some (2, 190, 1) := by decide +kernel
set_option maxRecDepth 100000 in
theorem ji_208_145 : mj_ins 208 145 = some (.ifCond .eq 19) := by decide +kernel
set_option maxRecDepth 100000 in
theorem ji_208_164 : mj_ins 208 164 = some (.iconst 1) := by decide +kernel
set_option maxRecDepth 100000 in
theorem ji_208_165 : mj_ins 208 165 = some (.ireturn) := by decide +kernel
set_option maxRecDepth 100000 in
theorem ji_208_148 : mj_ins 208 148 = some (.aload_n 0) := by decide +kernel
set_option maxRecDepth 100000 in
theorem ji_208_149 : mj_ins 208 149 = some (.invokevirtual 193) := by decide +kernel
set_option maxRecDepth 100000 in
theorem jc_208_193 : mj_cal 208 193 = some (2, 211, 0) := by decide +kernel
set_option maxRecDepth 100000 in
theorem jk_211 : mj_cls 211 = 11 := by decide +kernel
set_option maxRecDepth 100000 in
theorem jn_211 : mj_nl 211 = 1 := by decide +kernel
set_option maxRecDepth 100000 in
theorem ji_208_152 : mj_ins 208 152 = some (.ifCond .eq 12) := by decide +kernel
set_option maxRecDepth 100000 in
theorem ji_208_155 : mj_ins 208 155 = some (.aload_n 0) := by decide +kernel
set_option maxRecDepth 100000 in
theorem ji_208_156 : mj_ins 208 156 = some (.bipush 20) := by decide +kernel
set_option maxRecDepth 100000 in
theorem ji_208_158 : mj_ins 208 158 = some (.invokevirtual 186) := by decide +kernel
set_option maxRecDepth 100000 in
theorem jc_208_186 : mj_cal 208 186 = some (2, 205, 1) := by decide +kernel
set_option maxRecDepth 100000 in
theorem ji_208_161 : mj_ins 208 161 = some (.goto 4) := by decide +kernel
set_option maxRecDepth 100000 in
theorem ji_208_126 : mj_ins 208 126 = some (.aload_n 0) := by decide +kernel
set_option maxRecDepth 100000 in
theorem ji_208_127 : mj_ins 208 127 = some (.iconst 3) := by decide +kernel
set_option maxRecDepth 100000 in
theorem ji_208_128 : mj_ins 208 128 = some (.invokevirtual 186) := by decide +kernel
set_option maxRecDepth 100000 in
theorem ji_208_131 : mj_ins 208 131 = some (.ireturn) := by decide +kernel
set_option maxRecDepth 100000 in
theorem ji_208_110 : mj_ins 208 110 = some (.aload_n 0) := by decide +kernel
set_option maxRecDepth 100000 in
theorem ji_208_111 : mj_ins 208 111 = some (.bipush 40) := by decide +kernel
set_option maxRecDepth 100000 in
theorem ji_208_113 : mj_ins 208 113 = some (.invokevirtual 186) := by decide +kernel
set_option maxRecDepth 100000 in
theorem ji_208_116 : mj_ins 208 116 = some (.ireturn) := by decide +kernel
set_option maxRecDepth 100000 in
theorem ji_208_29 : mj_ins 208 29 = some (.aload_n 0) := by decide +kernel
set_option maxRecDepth 100000 in
theorem ji_208_30 : mj_ins 208 30 = some (.iload_n 1) := by decide +kernel
set_option maxRecDepth 100000 in
theorem ji_208_31 : mj_ins 208 31 = some (.invokevirtual 177) := by decide +kernel
set_option maxRecDepth 100000 in
theorem jc_208_177 : mj_cal 208 177 = some (2, 210, 1) := by decide +kernel
set_option maxRecDepth 100000 in
theorem jk_210 : mj_cls 210 = 11 := by decide +kernel
set_option maxRecDepth 100000 in
theorem ji_208_34 : mj_ins 208 34 = some (.ifCond .ne 5) := by decide +kernel
set_option maxRecDepth 100000 in
theorem ji_208_37 : mj_ins 208 37 = some (.iconst 5) := by decide +kernel
set_option maxRecDepth 100000 in
theorem ji_208_38 : mj_ins 208 38 = some (.ireturn) := by decide +kernel
set_option maxRecDepth 100000 in
theorem ji_208_8 : mj_ins 208 8 = some (.aload_n 0) := by decide +kernel
set_option maxRecDepth 100000 in
theorem ji_208_9 : mj_ins 208 9 = some (.getfield 102) := by decide +kernel
set_option maxRecDepth 100000 in
theorem ji_208_12 : mj_ins 208 12 = some (.sipush 9999) := by decide +kernel
set_option maxRecDepth 100000 in
theorem ji_208_15 : mj_ins 208 15 = some (.if_icmp .le 5) := by decide +kernel
set_option maxRecDepth 100000 in
theorem ji_208_18 : mj_ins 208 18 = some (.iconst 2) := by decide +kernel
set_option maxRecDepth 100000 in
theorem ji_208_19 : mj_ins 208 19 = some (.ireturn) := by decide +kernel
/-- ends of a step: a fault, on with a token taken, nothing -/
def pY (h0 : mj_H) (a P T : Nat) (t0 : List Value) (s c0 : Nat) (φ : Nat → Int) (h : mj_H) : Option Value → mj_H → Prop := fun v h1 => ∃ y : Int, v = some (wp_i y) ∧ ((0 < y ∧ y ≤ 7 ∧ pE h0 a P T t0 s c0 φ h1) ∨ (y = 0 ∧ ¬ φ 9 = 0 ∧ pG h0 a P T t0 s c0 φ h1) ∨ (y = -1 ∧ h1 = h))
theorem se_16 {least : Int} {r : List Int} {q : Nat × Nat} (h : least ≤ 4) : se least (16 :: r) q = se least r q := by
  have e := rk_10 (x := 16) (by omega)
  show (if least ≤ pr_rank 16 then (if (16 : Int) = 16 then se least r q else _) else _) = _
  rw [if_pos (by omega), if_pos rfl]
theorem ic_16 {r : List Int} : ic (16 :: r) = 1 := by
  have e := rk_10 (x := 16) (by omega)
  show (if 4 < pr_rank 16 then ic r else if pr_rank 16 = 4 then 1 else 0) = 1
  rw [if_neg (by omega), if_pos e]
theorem on_16 {r : List Int} (h : po_L r) : on (16 :: r) = -1 := by
  have key : ∀ {l : List Int}, (∀ x ∈ l, x < 40) → on l = -1 := by
    intro l
    induction l with
    | nil => intro _; rfl
    | cons y l ih =>
      intro hl
      have := hl y List.mem_cons_self
      unfold on
      rw [if_neg (by omega)]
      exact ih (fun x hx => hl x (List.mem_cons_of_mem _ hx))
  refine key (fun x hx => ?_)
  rcases List.mem_cons.mp hx with e | e
  · omega
  · have := po_L_lt h x e
    omega
/-- what stands between two: the pile settled for it -/
theorem bh_se {φ : Nat → Int} {l : List Int} {n t : Nat} {y tp : Int} (hm : pm φ l n t) (h19 : φ 19 = 1) (htp : ∀ x r, l = x :: r → tp = x) (hy : (4 ≤ y ∧ y ≤ 7 ∧ ¬ tp = 16) ∨ (10 ≤ y ∧ y ≤ 15 ∧ φ 20 = 1 ∧ on l = -1 ∧ ic l = 0) ∨ (21 ≤ y ∧ y ≤ 22 ∧ φ 20 = 1 ∧ on l = -1 ∧ ic l = 1)) : (1 ≤ pr_rank y ∧ pr_rank y ≤ 7) ∧ ∃ l1 n1 t1, se (pr_rank y) l (n, t) = some (l1, (n1, t1)) ∧ po_A (y :: l1) ∧ n1 = po_n (φ 18).toNat (y :: l1) ∧ t1 = po_t (y :: l1) ∧ (φ 20 = 0 → ∀ x ∈ y :: l1, x < 10 ∨ x = 40) ∧ l1.length ≤ l.length := by
  obtain ⟨hE, hm⟩ := hm
  have hdrop : ∀ {k : Nat} {l1 : List Int}, l1 = l.drop k → l1.length ≤ l.length ∧ ∀ x ∈ l1, x ∈ l := by
    intro k l1 e
    refine ⟨by rw [e, List.length_drop]; omega, fun x hx => ?_⟩
    rw [e] at hx
    exact List.mem_of_mem_drop hx
  rcases hy with ⟨y1, y2, y3⟩ | ⟨y1, y2, y3, y4, y5⟩ | ⟨y1, y2, y3, y4, y5⟩
  · have hr := rk_3 (x := y) (by omega)
    have hrb := pr_rb y
    refine ⟨by omega, ?_⟩
    have hV : po_A l ∧ n = po_n (φ 18).toNat l + 1 ∧ t = po_t l := by
      rcases hm with ⟨q, -⟩ | ⟨-, q1, q2, q3⟩ | ⟨-, -, r, q, -⟩
      · omega
      · exact ⟨q1, q2, q3⟩
      · exact absurd (htp 16 r q) y3
    obtain ⟨hA, rfl, rfl⟩ := hV
    obtain ⟨l1, e1, e2, ⟨k, e3⟩, -, -⟩ := se_V (least := pr_rank y) (by omega) (am := (φ 18).toNat) hA (fun q => by omega)
    have := hdrop e3
    refine ⟨l1, _, _, e1, Or.inl ⟨Or.inl (by omega), e2⟩, ?_, ?_, fun q x hx => ?_, this.1⟩
    · rw [po_n_c, if_pos (by omega)]
      omega
    · rw [po_t_c, if_neg (by omega), Nat.zero_add]
    · rcases List.mem_cons.mp hx with e | e
      · omega
      · exact hE q x (this.2 x e)
  · have hr := rk_10 (x := y) (by omega)
    refine ⟨by omega, ?_⟩
    have hV : po_A l ∧ n = po_n (φ 18).toNat l + 1 ∧ t = po_t l := by
      rcases hm with ⟨q, -⟩ | ⟨-, q1, q2, q3⟩ | ⟨-, -, r, q, -⟩
      · omega
      · exact ⟨q1, q2, q3⟩
      · rw [q, ic_16] at y5
        cases y5
    obtain ⟨hA, rfl, rfl⟩ := hV
    have h40 := on_n y4
    have hno := ic_0 hA h40 y5
    obtain ⟨l1, e1, e2, ⟨k, e3⟩, -, e5⟩ := se_V (least := pr_rank y) (by omega) (am := (φ 18).toNat) hA (fun _ => hno)
    have hd := hdrop e3
    have hL : po_L l1 := po_A_L e2 (fun x hx => h40 x (hd.2 x hx)) (fun x hx => hno x (hd.2 x hx)) (e5 (by omega))
    refine ⟨l1, _, _, e1, Or.inr ⟨Or.inl (by omega), hL⟩, ?_, ?_, fun q => by omega, hd.1⟩
    · rw [po_n_c, if_neg (by omega), if_pos (by omega)]
      omega
    · rw [po_t_c, if_neg (by omega), Nat.zero_add]
  · have hr := rk_L (x := y) (by omega)
    refine ⟨by omega, ?_⟩
    have key : ∃ l1, se (pr_rank y) l (n, t) = some (l1, (0, po_t l1 + 1)) ∧ po_L l1 ∧ l1.length ≤ l.length := by
      rcases hm with ⟨q, -⟩ | ⟨-, q1, q2, q3⟩ | ⟨-, -, r, q, q1, q2, q3⟩
      · omega
      · subst q2 q3
        obtain ⟨l1, e1, e2, k, e3⟩ := se_C (least := pr_rank y) (by omega) (by omega) (am := (φ 18).toNat) q1 (on_n y4) (ic_1 q1 (on_n y4) y5)
        exact ⟨l1, e1, e2, (hdrop e3).1⟩
      · subst q q2 q3
        obtain ⟨l1, e1, e2, k, e3⟩ := se_T (least := pr_rank y) q1
        refine ⟨l1, by rw [se_16 (by omega)]; exact e1, e2, ?_⟩
        rw [e3, List.length_drop, List.length_cons]
        omega
    obtain ⟨l1, e1, e2, e3⟩ := key
    refine ⟨l1, _, _, e1, Or.inr ⟨Or.inr (Or.inr (by omega)), e2⟩, ?_, ?_, fun q => by omega, e3⟩
    · rw [po_n_c, if_neg (by omega), if_neg (by omega), if_neg (by omega), po_L_n e2]
    · rw [po_t_c, if_pos (by omega)]
      omega
/-- a value is at hand -/
theorem pm_V {φ : Nat → Int} {l : List Int} {n t : Nat} (hm : pm φ l n t) (h19 : φ 19 = 1) (h : ic l = 0 ∨ ¬ on l = -1) : po_A l ∧ n = po_n (φ 18).toNat l + 1 ∧ t = po_t l := by
  rcases hm.2 with ⟨q, -⟩ | ⟨-, q1, q2, q3⟩ | ⟨-, -, r, q, q1, -⟩
  · omega
  · exact ⟨q1, q2, q3⟩
  · subst q
    rcases h with h | h
    · rw [ic_16] at h
      cases h
    · exact absurd (on_16 q1) h
theorem ws_behind {d : Nat} {h0 h : mj_H} {a P T : Nat} {φ : Nat → Int} {pl ts t0 : List Value} {s c0 n t : Nat} {l : List Int} (V : pv h0 h a P T φ pl ts) (hp : ps t0 φ pl ts s c0 l n t) (hm : pm φ l n t) (h19 : φ 19 = 1) (hb : tkb φ) : wp_R (d + 1 + 1 + 1 + 1) 195 0 [some (.ref a), none, none] [] h (pY h0 a P T t0 s c0 φ h) := by
  have b7 := pv_b V (k := 7) (lo := 0) (hi := 300) (by decide) (by decide)
  have b13 := pv_b V (k := 13) (lo := 0) (hi := 303) (by decide) (by decide)
  have b16 := pv_b V (k := 16) (lo := 0) (hi := 160) (by decide) (by decide)
  have b17 := pv_b V (k := 17) (lo := 0) (hi := 8) (by decide) (by decide)
  have b18 := pv_b V (k := 18) (lo := 0) (hi := 6) (by decide) (by decide)
  have hlen := ps_len hp
  have hbq1 : φ 13 + φ 16 ≤ φ 7 := hb.1
  have hbq2 : ¬ φ 9 = 0 → φ 13 + φ 16 + 1 ≤ φ 7 := hb.2
  have h154 : φ 16 ≤ 154 := ps_top hp hm (by have := hb.1; omega) (by omega)
  have hpl := (pv_aP V).2.2.2.1
  have hp2 := hp
  obtain ⟨w, p, hw, h16, h12, hs, hc, hj, hwe, hpp, h17, hfr⟩ := hp2
  subst hpp
  have hpb := pp_b V (p := p) (by omega)
  have hob := on_b (pp pl p) (fun x hx => (hpb x hx).2)
  have hib := ic_b (pp pl p)
  obtain ⟨tp, htp, htz, htp2⟩ : ∃ tp : Int, (∀ q, p = q + 1 → sx_el pl q = tp) ∧ (p = 0 → tp = 0) ∧ ∀ x r, pp pl p = x :: r → tp = x := by
    cases p with
    | zero => exact ⟨0, fun q hq => by omega, fun _ => rfl, fun x r h => by cases h⟩
    | succ q => exact ⟨sx_el pl q, fun q2 hq => by rw [show q2 = q by omega], fun h => by omega, fun x r h => (List.cons.inj h).1⟩
  refine wp_s (pc' := 1) ji_195_0 rfl rfl rfl ?_
  refine pv_vc V ji_195_1 jc_195_205 jk_196 (rest := []) rfl (Nat.le_of_ble_eq_true rfl) rfl (by rw [jn_196]; rfl) (ws_between V h16 (tp := tp) htp htz) (fun v h R => ?_)
  obtain ⟨rfl, y, rfl, hy⟩ := R
  show wp_R (d + 1 + 1 + 1 + 1) 195 4 [some (.ref a), none, none] [wp_i y] h _
  refine wp_s (pc' := 5) (lv' := [some (.ref a), some (wp_i y), none]) ji_195_4 rfl rfl rfl ?_
  refine wp_s (pc' := 6) ji_195_5 rfl rfl rfl ?_
  refine wp_if (t := 48) ji_195_6 rfl (by omega) (fun (hb1 : (y : Int) < 0) => ?_) (fun (hb1 : ¬ ((y : Int) < 0)) => ?_)
  · refine wp_s (pc' := 49) ji_195_48 rfl rfl rfl ?_
    refine pv_vc V ji_195_49 jc_195_163 jk_198 (rest := []) rfl (Nat.le_of_ble_eq_true rfl) rfl (by rw [jn_198]; rfl) (ws_open V h16) (fun v h R => ?_)
    obtain ⟨rfl, rfl⟩ := R
    show wp_R (d + 1 + 1 + 1 + 1) 195 52 [some (.ref a), some (wp_i y), none] [wp_i (on (pp pl p))] h _
    refine wp_s (pc' := 53) (lv' := [some (.ref a), some (wp_i y), some (wp_i (on (pp pl p)))]) ji_195_52 rfl rfl rfl ?_
    refine wp_s (pc' := 54) ji_195_53 rfl rfl rfl ?_
    refine pv_vc V ji_195_54 jc_195_167 jk_197 (rest := []) rfl (Nat.le_of_ble_eq_true rfl) rfl (by rw [jn_197]; rfl) (ws_here V h16) (fun v h R => ?_)
    obtain ⟨rfl, y2, rfl, q3, q4⟩ := R
    show wp_R (d + 1 + 1 + 1 + 1) 195 57 [some (.ref a), some (wp_i y), some (wp_i (on (pp pl p)))] [wp_i y2] h _
    refine wp_if (t := 86) ji_195_57 rfl (by omega) (fun (hb5 : (y2 : Int) = 0) => ?_) (fun (hb5 : ¬ ((y2 : Int) = 0)) => ?_)
    · refine wp_s (pc' := 87) ji_195_86 rfl rfl rfl ?_
      refine wp_bp ji_195_87 rfl ?_
      refine wp_icmp (t := 106) ji_195_89 rfl (by omega) (by omega) (fun (hb6 : ¬ (on (pp pl p) : Int) = 41) => ?_) (fun (hb6 : ¬ (¬ (on (pp pl p) : Int) = 41)) => ?_)
      · refine wp_s (pc' := 107) ji_195_106 rfl rfl rfl ?_
        refine wp_s (pc' := 108) ji_195_107 rfl rfl rfl ?_
        refine wp_icmp (t := 120) ji_195_108 rfl (by omega) (by omega) (fun (hb7 : (on (pp pl p) : Int) = (-1)) => ?_) (fun (hb7 : ¬ ((on (pp pl p) : Int) = (-1))) => ?_)
        · refine wp_s (pc' := 121) ji_195_120 rfl rfl rfl ?_
          exact wp_ri ji_195_121 jr_195 rfl ⟨-1, rfl, Or.inr (Or.inr ⟨rfl, rfl⟩)⟩
        · refine wp_s (pc' := 112) ji_195_111 rfl rfl rfl ?_
          refine pv_gi V ji_195_112 jf_195_95 (by decide) pf_9 (y := φ 9) rfl (fun l8 u9 => ?_)
          refine wp_bp ji_195_115 rfl ?_
          refine wp_icmp (t := 122) ji_195_117 rfl (by omega) (by omega) (fun (hb10 : (φ 9 : Int) = 41) => ?_) (fun (hb10 : ¬ ((φ 9 : Int) = 41)) => ?_)
          · refine wp_s (pc' := 123) ji_195_122 rfl rfl rfl ?_
            refine wp_s (pc' := 124) ji_195_123 rfl rfl rfl ?_
            obtain ⟨hA, hn, ht⟩ := pm_V hm h19 (Or.inr (by omega))
            by_cases ho : on (pp pl p) = 41
            · refine pv_vc V ji_195_124 jc_195_214 jk_207 (rest := []) rfl (Nat.le_of_ble_eq_true rfl) rfl (by rw [jn_207]; rfl) (wp_up (Nat.le_succ _) (by rw [ho]; exact ws_shut41 V hp hA hn ht ho hm.1 h19 hb (by omega) h154)) (fun v h R => ?_)
              obtain ⟨rfl, hr9⟩ := R
              show wp_R (d + 1 + 1 + 1 + 1) 195 127 [some (.ref a), some (wp_i y), some (wp_i (on (pp pl p)))] [] h _
              refine wp_s (pc' := 128) ji_195_127 rfl rfl rfl ?_
              exact wp_ri ji_195_128 jr_195 rfl ⟨0, rfl, Or.inr (Or.inl ⟨rfl, by omega, hr9⟩)⟩
            · have ho4 : on (pp pl p) = 40 := by omega
              refine pv_vc V ji_195_124 jc_195_214 jk_207 (rest := []) rfl (Nat.le_of_ble_eq_true rfl) rfl (by rw [jn_207]; rfl) (wp_up (Nat.le_succ _) (by rw [ho4]; exact ws_shut40 V hp hA hn ht ho4 hm.1 h19 hb (by omega) h154)) (fun v h R => ?_)
              obtain ⟨rfl, hr9⟩ := R
              show wp_R (d + 1 + 1 + 1 + 1) 195 127 [some (.ref a), some (wp_i y), some (wp_i (on (pp pl p)))] [] h _
              refine wp_s (pc' := 128) ji_195_127 rfl rfl rfl ?_
              exact wp_ri ji_195_128 jr_195 rfl ⟨0, rfl, Or.inr (Or.inl ⟨rfl, by omega, hr9⟩)⟩
          · refine wp_s (pc' := 121) ji_195_120 rfl rfl rfl ?_
            exact wp_ri ji_195_121 jr_195 rfl ⟨-1, rfl, Or.inr (Or.inr ⟨rfl, rfl⟩)⟩
      · refine wp_s (pc' := 93) ji_195_92 rfl rfl rfl ?_
        refine pv_gi V ji_195_93 jf_195_95 (by decide) pf_9 (y := φ 9) rfl (fun l11 u12 => ?_)
        refine wp_bp ji_195_96 rfl ?_
        refine wp_icmp (t := 106) ji_195_98 rfl (by omega) (by omega) (fun (hb13 : ¬ (φ 9 : Int) = 44) => ?_) (fun (hb13 : ¬ (¬ (φ 9 : Int) = 44)) => ?_)
        · refine wp_s (pc' := 107) ji_195_106 rfl rfl rfl ?_
          refine wp_s (pc' := 108) ji_195_107 rfl rfl rfl ?_
          refine wp_icmp (t := 120) ji_195_108 rfl (by omega) (by omega) (fun (hb14 : (on (pp pl p) : Int) = (-1)) => ?_) (fun (hb14 : ¬ ((on (pp pl p) : Int) = (-1))) => ?_)
          · refine wp_s (pc' := 121) ji_195_120 rfl rfl rfl ?_
            exact wp_ri ji_195_121 jr_195 rfl ⟨-1, rfl, Or.inr (Or.inr ⟨rfl, rfl⟩)⟩
          · refine wp_s (pc' := 112) ji_195_111 rfl rfl rfl ?_
            refine pv_gi V ji_195_112 jf_195_95 (by decide) pf_9 (y := φ 9) rfl (fun l15 u16 => ?_)
            refine wp_bp ji_195_115 rfl ?_
            refine wp_icmp (t := 122) ji_195_117 rfl (by omega) (by omega) (fun (hb17 : (φ 9 : Int) = 41) => ?_) (fun (hb17 : ¬ ((φ 9 : Int) = 41)) => ?_)
            · refine wp_s (pc' := 123) ji_195_122 rfl rfl rfl ?_
              refine wp_s (pc' := 124) ji_195_123 rfl rfl rfl ?_
              obtain ⟨hA, hn, ht⟩ := pm_V hm h19 (Or.inr (by omega))
              by_cases ho : on (pp pl p) = 41
              · refine pv_vc V ji_195_124 jc_195_214 jk_207 (rest := []) rfl (Nat.le_of_ble_eq_true rfl) rfl (by rw [jn_207]; rfl) (wp_up (Nat.le_succ _) (by rw [ho]; exact ws_shut41 V hp hA hn ht ho hm.1 h19 hb (by omega) h154)) (fun v h R => ?_)
                obtain ⟨rfl, hr9⟩ := R
                show wp_R (d + 1 + 1 + 1 + 1) 195 127 [some (.ref a), some (wp_i y), some (wp_i (on (pp pl p)))] [] h _
                refine wp_s (pc' := 128) ji_195_127 rfl rfl rfl ?_
                exact wp_ri ji_195_128 jr_195 rfl ⟨0, rfl, Or.inr (Or.inl ⟨rfl, by omega, hr9⟩)⟩
              · have ho4 : on (pp pl p) = 40 := by omega
                refine pv_vc V ji_195_124 jc_195_214 jk_207 (rest := []) rfl (Nat.le_of_ble_eq_true rfl) rfl (by rw [jn_207]; rfl) (wp_up (Nat.le_succ _) (by rw [ho4]; exact ws_shut40 V hp hA hn ht ho4 hm.1 h19 hb (by omega) h154)) (fun v h R => ?_)
                obtain ⟨rfl, hr9⟩ := R
                show wp_R (d + 1 + 1 + 1 + 1) 195 127 [some (.ref a), some (wp_i y), some (wp_i (on (pp pl p)))] [] h _
                refine wp_s (pc' := 128) ji_195_127 rfl rfl rfl ?_
                exact wp_ri ji_195_128 jr_195 rfl ⟨0, rfl, Or.inr (Or.inl ⟨rfl, by omega, hr9⟩)⟩
            · refine wp_s (pc' := 121) ji_195_120 rfl rfl rfl ?_
              exact wp_ri ji_195_121 jr_195 rfl ⟨-1, rfl, Or.inr (Or.inr ⟨rfl, rfl⟩)⟩
        · refine wp_s (pc' := 102) ji_195_101 rfl rfl rfl ?_
          obtain ⟨hA, hn, ht⟩ := pm_V hm h19 (Or.inr (by omega))
          refine pv_vc V ji_195_102 jc_195_211 jk_206 (rest := []) rfl (Nat.le_of_ble_eq_true rfl) rfl (by rw [jn_206]; rfl) (wp_up (Nat.le_succ _) (ws_nextAmong V hp hA hn ht (by omega) hm.1 h19 hb (by omega) h154)) (fun v h R => ?_)
          obtain ⟨y9, rfl, hr9⟩ := R
          show wp_R (d + 1 + 1 + 1 + 1) 195 105 [some (.ref a), some (wp_i y), some (wp_i (on (pp pl p)))] [wp_i y9] h _
          refine wp_ri ji_195_105 jr_195 rfl ⟨y9, rfl, ?_⟩
          rcases hr9 with hr9 | hr9
          · exact Or.inl hr9
          · exact Or.inr (Or.inl ⟨hr9.1, by omega, hr9.2⟩)
    · refine wp_s (pc' := 61) ji_195_60 rfl rfl rfl ?_
      refine pv_vc V ji_195_61 jc_195_196 jk_199 (rest := []) rfl (Nat.le_of_ble_eq_true rfl) rfl (by rw [jn_199]; rfl) (ws_comp V h16) (fun v h R => ?_)
      obtain ⟨rfl, rfl⟩ := R
      show wp_R (d + 1 + 1 + 1 + 1) 195 64 [some (.ref a), some (wp_i y), some (wp_i (on (pp pl p)))] [wp_i (ic (pp pl p))] h _
      refine wp_if (t := 86) ji_195_64 rfl (by omega) (fun (hb18 : ¬ (ic (pp pl p) : Int) = 0) => ?_) (fun (hb18 : ¬ (¬ (ic (pp pl p) : Int) = 0)) => ?_)
      · refine wp_s (pc' := 87) ji_195_86 rfl rfl rfl ?_
        refine wp_bp ji_195_87 rfl ?_
        refine wp_icmp (t := 106) ji_195_89 rfl (by omega) (by omega) (fun (hb19 : ¬ (on (pp pl p) : Int) = 41) => ?_) (fun (hb19 : ¬ (¬ (on (pp pl p) : Int) = 41)) => ?_)
        · refine wp_s (pc' := 107) ji_195_106 rfl rfl rfl ?_
          refine wp_s (pc' := 108) ji_195_107 rfl rfl rfl ?_
          refine wp_icmp (t := 120) ji_195_108 rfl (by omega) (by omega) (fun (hb20 : (on (pp pl p) : Int) = (-1)) => ?_) (fun (hb20 : ¬ ((on (pp pl p) : Int) = (-1))) => ?_)
          · refine wp_s (pc' := 121) ji_195_120 rfl rfl rfl ?_
            exact wp_ri ji_195_121 jr_195 rfl ⟨-1, rfl, Or.inr (Or.inr ⟨rfl, rfl⟩)⟩
          · refine wp_s (pc' := 112) ji_195_111 rfl rfl rfl ?_
            refine pv_gi V ji_195_112 jf_195_95 (by decide) pf_9 (y := φ 9) rfl (fun l21 u22 => ?_)
            refine wp_bp ji_195_115 rfl ?_
            refine wp_icmp (t := 122) ji_195_117 rfl (by omega) (by omega) (fun (hb23 : (φ 9 : Int) = 41) => ?_) (fun (hb23 : ¬ ((φ 9 : Int) = 41)) => ?_)
            · refine wp_s (pc' := 123) ji_195_122 rfl rfl rfl ?_
              refine wp_s (pc' := 124) ji_195_123 rfl rfl rfl ?_
              obtain ⟨hA, hn, ht⟩ := pm_V hm h19 (Or.inr (by omega))
              by_cases ho : on (pp pl p) = 41
              · refine pv_vc V ji_195_124 jc_195_214 jk_207 (rest := []) rfl (Nat.le_of_ble_eq_true rfl) rfl (by rw [jn_207]; rfl) (wp_up (Nat.le_succ _) (by rw [ho]; exact ws_shut41 V hp hA hn ht ho hm.1 h19 hb (by omega) h154)) (fun v h R => ?_)
                obtain ⟨rfl, hr9⟩ := R
                show wp_R (d + 1 + 1 + 1 + 1) 195 127 [some (.ref a), some (wp_i y), some (wp_i (on (pp pl p)))] [] h _
                refine wp_s (pc' := 128) ji_195_127 rfl rfl rfl ?_
                exact wp_ri ji_195_128 jr_195 rfl ⟨0, rfl, Or.inr (Or.inl ⟨rfl, by omega, hr9⟩)⟩
              · have ho4 : on (pp pl p) = 40 := by omega
                refine pv_vc V ji_195_124 jc_195_214 jk_207 (rest := []) rfl (Nat.le_of_ble_eq_true rfl) rfl (by rw [jn_207]; rfl) (wp_up (Nat.le_succ _) (by rw [ho4]; exact ws_shut40 V hp hA hn ht ho4 hm.1 h19 hb (by omega) h154)) (fun v h R => ?_)
                obtain ⟨rfl, hr9⟩ := R
                show wp_R (d + 1 + 1 + 1 + 1) 195 127 [some (.ref a), some (wp_i y), some (wp_i (on (pp pl p)))] [] h _
                refine wp_s (pc' := 128) ji_195_127 rfl rfl rfl ?_
                exact wp_ri ji_195_128 jr_195 rfl ⟨0, rfl, Or.inr (Or.inl ⟨rfl, by omega, hr9⟩)⟩
            · refine wp_s (pc' := 121) ji_195_120 rfl rfl rfl ?_
              exact wp_ri ji_195_121 jr_195 rfl ⟨-1, rfl, Or.inr (Or.inr ⟨rfl, rfl⟩)⟩
        · refine wp_s (pc' := 93) ji_195_92 rfl rfl rfl ?_
          refine pv_gi V ji_195_93 jf_195_95 (by decide) pf_9 (y := φ 9) rfl (fun l24 u25 => ?_)
          refine wp_bp ji_195_96 rfl ?_
          refine wp_icmp (t := 106) ji_195_98 rfl (by omega) (by omega) (fun (hb26 : ¬ (φ 9 : Int) = 44) => ?_) (fun (hb26 : ¬ (¬ (φ 9 : Int) = 44)) => ?_)
          · refine wp_s (pc' := 107) ji_195_106 rfl rfl rfl ?_
            refine wp_s (pc' := 108) ji_195_107 rfl rfl rfl ?_
            refine wp_icmp (t := 120) ji_195_108 rfl (by omega) (by omega) (fun (hb27 : (on (pp pl p) : Int) = (-1)) => ?_) (fun (hb27 : ¬ ((on (pp pl p) : Int) = (-1))) => ?_)
            · refine wp_s (pc' := 121) ji_195_120 rfl rfl rfl ?_
              exact wp_ri ji_195_121 jr_195 rfl ⟨-1, rfl, Or.inr (Or.inr ⟨rfl, rfl⟩)⟩
            · refine wp_s (pc' := 112) ji_195_111 rfl rfl rfl ?_
              refine pv_gi V ji_195_112 jf_195_95 (by decide) pf_9 (y := φ 9) rfl (fun l28 u29 => ?_)
              refine wp_bp ji_195_115 rfl ?_
              refine wp_icmp (t := 122) ji_195_117 rfl (by omega) (by omega) (fun (hb30 : (φ 9 : Int) = 41) => ?_) (fun (hb30 : ¬ ((φ 9 : Int) = 41)) => ?_)
              · refine wp_s (pc' := 123) ji_195_122 rfl rfl rfl ?_
                refine wp_s (pc' := 124) ji_195_123 rfl rfl rfl ?_
                obtain ⟨hA, hn, ht⟩ := pm_V hm h19 (Or.inr (by omega))
                by_cases ho : on (pp pl p) = 41
                · refine pv_vc V ji_195_124 jc_195_214 jk_207 (rest := []) rfl (Nat.le_of_ble_eq_true rfl) rfl (by rw [jn_207]; rfl) (wp_up (Nat.le_succ _) (by rw [ho]; exact ws_shut41 V hp hA hn ht ho hm.1 h19 hb (by omega) h154)) (fun v h R => ?_)
                  obtain ⟨rfl, hr9⟩ := R
                  show wp_R (d + 1 + 1 + 1 + 1) 195 127 [some (.ref a), some (wp_i y), some (wp_i (on (pp pl p)))] [] h _
                  refine wp_s (pc' := 128) ji_195_127 rfl rfl rfl ?_
                  exact wp_ri ji_195_128 jr_195 rfl ⟨0, rfl, Or.inr (Or.inl ⟨rfl, by omega, hr9⟩)⟩
                · have ho4 : on (pp pl p) = 40 := by omega
                  refine pv_vc V ji_195_124 jc_195_214 jk_207 (rest := []) rfl (Nat.le_of_ble_eq_true rfl) rfl (by rw [jn_207]; rfl) (wp_up (Nat.le_succ _) (by rw [ho4]; exact ws_shut40 V hp hA hn ht ho4 hm.1 h19 hb (by omega) h154)) (fun v h R => ?_)
                  obtain ⟨rfl, hr9⟩ := R
                  show wp_R (d + 1 + 1 + 1 + 1) 195 127 [some (.ref a), some (wp_i y), some (wp_i (on (pp pl p)))] [] h _
                  refine wp_s (pc' := 128) ji_195_127 rfl rfl rfl ?_
                  exact wp_ri ji_195_128 jr_195 rfl ⟨0, rfl, Or.inr (Or.inl ⟨rfl, by omega, hr9⟩)⟩
              · refine wp_s (pc' := 121) ji_195_120 rfl rfl rfl ?_
                exact wp_ri ji_195_121 jr_195 rfl ⟨-1, rfl, Or.inr (Or.inr ⟨rfl, rfl⟩)⟩
          · refine wp_s (pc' := 102) ji_195_101 rfl rfl rfl ?_
            obtain ⟨hA, hn, ht⟩ := pm_V hm h19 (Or.inr (by omega))
            refine pv_vc V ji_195_102 jc_195_211 jk_206 (rest := []) rfl (Nat.le_of_ble_eq_true rfl) rfl (by rw [jn_206]; rfl) (wp_up (Nat.le_succ _) (ws_nextAmong V hp hA hn ht (by omega) hm.1 h19 hb (by omega) h154)) (fun v h R => ?_)
            obtain ⟨y9, rfl, hr9⟩ := R
            show wp_R (d + 1 + 1 + 1 + 1) 195 105 [some (.ref a), some (wp_i y), some (wp_i (on (pp pl p)))] [wp_i y9] h _
            refine wp_ri ji_195_105 jr_195 rfl ⟨y9, rfl, ?_⟩
            rcases hr9 with hr9 | hr9
            · exact Or.inl hr9
            · exact Or.inr (Or.inl ⟨hr9.1, by omega, hr9.2⟩)
      · refine wp_s (pc' := 68) ji_195_67 rfl rfl rfl ?_
        refine wp_bp ji_195_68 rfl ?_
        refine wp_bp ji_195_70 rfl ?_
        refine wp_sc (as := [wp_i 105, wp_i 110]) (rest := [.ref a]) ji_195_72 jc_195_118 (Nat.le_of_ble_eq_true rfl) rfl (Nat.le_of_ble_eq_true rfl) rfl (by rw [jn_189]; rfl) ws_w2 (fun v h R => ?_)
        obtain ⟨rfl, z31, rfl⟩ := R
        show wp_R (d + 1 + 1 + 1 + 1) 195 75 [some (.ref a), some (wp_i y), some (wp_i (on (pp pl p)))] [.long z31, .ref a] h _
        refine pv_vc V ji_195_75 jc_195_189 jk_190 (rest := []) rfl (Nat.le_of_ble_eq_true rfl) rfl (by rw [jn_190]; rfl) (ws_isWord V) (fun v h R => ?_)
        obtain ⟨rfl, y32, rfl, q33, q34⟩ := R
        show wp_R (d + 1 + 1 + 1 + 1) 195 78 [some (.ref a), some (wp_i y), some (wp_i (on (pp pl p)))] [wp_i y32] h _
        refine wp_if (t := 86) ji_195_78 rfl (by omega) (fun (hb35 : (y32 : Int) = 0) => ?_) (fun (hb35 : ¬ ((y32 : Int) = 0)) => ?_)
        · refine wp_s (pc' := 87) ji_195_86 rfl rfl rfl ?_
          refine wp_bp ji_195_87 rfl ?_
          refine wp_icmp (t := 106) ji_195_89 rfl (by omega) (by omega) (fun (hb36 : ¬ (on (pp pl p) : Int) = 41) => ?_) (fun (hb36 : ¬ (¬ (on (pp pl p) : Int) = 41)) => ?_)
          · refine wp_s (pc' := 107) ji_195_106 rfl rfl rfl ?_
            refine wp_s (pc' := 108) ji_195_107 rfl rfl rfl ?_
            refine wp_icmp (t := 120) ji_195_108 rfl (by omega) (by omega) (fun (hb37 : (on (pp pl p) : Int) = (-1)) => ?_) (fun (hb37 : ¬ ((on (pp pl p) : Int) = (-1))) => ?_)
            · refine wp_s (pc' := 121) ji_195_120 rfl rfl rfl ?_
              exact wp_ri ji_195_121 jr_195 rfl ⟨-1, rfl, Or.inr (Or.inr ⟨rfl, rfl⟩)⟩
            · refine wp_s (pc' := 112) ji_195_111 rfl rfl rfl ?_
              refine pv_gi V ji_195_112 jf_195_95 (by decide) pf_9 (y := φ 9) rfl (fun l38 u39 => ?_)
              refine wp_bp ji_195_115 rfl ?_
              refine wp_icmp (t := 122) ji_195_117 rfl (by omega) (by omega) (fun (hb40 : (φ 9 : Int) = 41) => ?_) (fun (hb40 : ¬ ((φ 9 : Int) = 41)) => ?_)
              · refine wp_s (pc' := 123) ji_195_122 rfl rfl rfl ?_
                refine wp_s (pc' := 124) ji_195_123 rfl rfl rfl ?_
                obtain ⟨hA, hn, ht⟩ := pm_V hm h19 (Or.inr (by omega))
                by_cases ho : on (pp pl p) = 41
                · refine pv_vc V ji_195_124 jc_195_214 jk_207 (rest := []) rfl (Nat.le_of_ble_eq_true rfl) rfl (by rw [jn_207]; rfl) (wp_up (Nat.le_succ _) (by rw [ho]; exact ws_shut41 V hp hA hn ht ho hm.1 h19 hb (by omega) h154)) (fun v h R => ?_)
                  obtain ⟨rfl, hr9⟩ := R
                  show wp_R (d + 1 + 1 + 1 + 1) 195 127 [some (.ref a), some (wp_i y), some (wp_i (on (pp pl p)))] [] h _
                  refine wp_s (pc' := 128) ji_195_127 rfl rfl rfl ?_
                  exact wp_ri ji_195_128 jr_195 rfl ⟨0, rfl, Or.inr (Or.inl ⟨rfl, by omega, hr9⟩)⟩
                · have ho4 : on (pp pl p) = 40 := by omega
                  refine pv_vc V ji_195_124 jc_195_214 jk_207 (rest := []) rfl (Nat.le_of_ble_eq_true rfl) rfl (by rw [jn_207]; rfl) (wp_up (Nat.le_succ _) (by rw [ho4]; exact ws_shut40 V hp hA hn ht ho4 hm.1 h19 hb (by omega) h154)) (fun v h R => ?_)
                  obtain ⟨rfl, hr9⟩ := R
                  show wp_R (d + 1 + 1 + 1 + 1) 195 127 [some (.ref a), some (wp_i y), some (wp_i (on (pp pl p)))] [] h _
                  refine wp_s (pc' := 128) ji_195_127 rfl rfl rfl ?_
                  exact wp_ri ji_195_128 jr_195 rfl ⟨0, rfl, Or.inr (Or.inl ⟨rfl, by omega, hr9⟩)⟩
              · refine wp_s (pc' := 121) ji_195_120 rfl rfl rfl ?_
                exact wp_ri ji_195_121 jr_195 rfl ⟨-1, rfl, Or.inr (Or.inr ⟨rfl, rfl⟩)⟩
          · refine wp_s (pc' := 93) ji_195_92 rfl rfl rfl ?_
            refine pv_gi V ji_195_93 jf_195_95 (by decide) pf_9 (y := φ 9) rfl (fun l41 u42 => ?_)
            refine wp_bp ji_195_96 rfl ?_
            refine wp_icmp (t := 106) ji_195_98 rfl (by omega) (by omega) (fun (hb43 : ¬ (φ 9 : Int) = 44) => ?_) (fun (hb43 : ¬ (¬ (φ 9 : Int) = 44)) => ?_)
            · refine wp_s (pc' := 107) ji_195_106 rfl rfl rfl ?_
              refine wp_s (pc' := 108) ji_195_107 rfl rfl rfl ?_
              refine wp_icmp (t := 120) ji_195_108 rfl (by omega) (by omega) (fun (hb44 : (on (pp pl p) : Int) = (-1)) => ?_) (fun (hb44 : ¬ ((on (pp pl p) : Int) = (-1))) => ?_)
              · refine wp_s (pc' := 121) ji_195_120 rfl rfl rfl ?_
                exact wp_ri ji_195_121 jr_195 rfl ⟨-1, rfl, Or.inr (Or.inr ⟨rfl, rfl⟩)⟩
              · refine wp_s (pc' := 112) ji_195_111 rfl rfl rfl ?_
                refine pv_gi V ji_195_112 jf_195_95 (by decide) pf_9 (y := φ 9) rfl (fun l45 u46 => ?_)
                refine wp_bp ji_195_115 rfl ?_
                refine wp_icmp (t := 122) ji_195_117 rfl (by omega) (by omega) (fun (hb47 : (φ 9 : Int) = 41) => ?_) (fun (hb47 : ¬ ((φ 9 : Int) = 41)) => ?_)
                · refine wp_s (pc' := 123) ji_195_122 rfl rfl rfl ?_
                  refine wp_s (pc' := 124) ji_195_123 rfl rfl rfl ?_
                  obtain ⟨hA, hn, ht⟩ := pm_V hm h19 (Or.inr (by omega))
                  by_cases ho : on (pp pl p) = 41
                  · refine pv_vc V ji_195_124 jc_195_214 jk_207 (rest := []) rfl (Nat.le_of_ble_eq_true rfl) rfl (by rw [jn_207]; rfl) (wp_up (Nat.le_succ _) (by rw [ho]; exact ws_shut41 V hp hA hn ht ho hm.1 h19 hb (by omega) h154)) (fun v h R => ?_)
                    obtain ⟨rfl, hr9⟩ := R
                    show wp_R (d + 1 + 1 + 1 + 1) 195 127 [some (.ref a), some (wp_i y), some (wp_i (on (pp pl p)))] [] h _
                    refine wp_s (pc' := 128) ji_195_127 rfl rfl rfl ?_
                    exact wp_ri ji_195_128 jr_195 rfl ⟨0, rfl, Or.inr (Or.inl ⟨rfl, by omega, hr9⟩)⟩
                  · have ho4 : on (pp pl p) = 40 := by omega
                    refine pv_vc V ji_195_124 jc_195_214 jk_207 (rest := []) rfl (Nat.le_of_ble_eq_true rfl) rfl (by rw [jn_207]; rfl) (wp_up (Nat.le_succ _) (by rw [ho4]; exact ws_shut40 V hp hA hn ht ho4 hm.1 h19 hb (by omega) h154)) (fun v h R => ?_)
                    obtain ⟨rfl, hr9⟩ := R
                    show wp_R (d + 1 + 1 + 1 + 1) 195 127 [some (.ref a), some (wp_i y), some (wp_i (on (pp pl p)))] [] h _
                    refine wp_s (pc' := 128) ji_195_127 rfl rfl rfl ?_
                    exact wp_ri ji_195_128 jr_195 rfl ⟨0, rfl, Or.inr (Or.inl ⟨rfl, by omega, hr9⟩)⟩
                · refine wp_s (pc' := 121) ji_195_120 rfl rfl rfl ?_
                  exact wp_ri ji_195_121 jr_195 rfl ⟨-1, rfl, Or.inr (Or.inr ⟨rfl, rfl⟩)⟩
            · refine wp_s (pc' := 102) ji_195_101 rfl rfl rfl ?_
              obtain ⟨hA, hn, ht⟩ := pm_V hm h19 (Or.inr (by omega))
              refine pv_vc V ji_195_102 jc_195_211 jk_206 (rest := []) rfl (Nat.le_of_ble_eq_true rfl) rfl (by rw [jn_206]; rfl) (wp_up (Nat.le_succ _) (ws_nextAmong V hp hA hn ht (by omega) hm.1 h19 hb (by omega) h154)) (fun v h R => ?_)
              obtain ⟨y9, rfl, hr9⟩ := R
              show wp_R (d + 1 + 1 + 1 + 1) 195 105 [some (.ref a), some (wp_i y), some (wp_i (on (pp pl p)))] [wp_i y9] h _
              refine wp_ri ji_195_105 jr_195 rfl ⟨y9, rfl, ?_⟩
              rcases hr9 with hr9 | hr9
              · exact Or.inl hr9
              · exact Or.inr (Or.inl ⟨hr9.1, by omega, hr9.2⟩)
        · refine wp_s (pc' := 82) ji_195_81 rfl rfl rfl ?_
          obtain ⟨hA, hn, ht⟩ := pm_V hm h19 (Or.inl (by omega))
          refine pv_vc V ji_195_82 jc_195_208 jk_204 (rest := []) rfl (Nat.le_of_ble_eq_true rfl) rfl (by rw [jn_204]; rfl) (ws_beginAmong V hp hA hn ht (by omega) (by omega) (by omega) hb (by omega) h154) (fun v h R => ?_)
          obtain ⟨y9, rfl, hr9⟩ := R
          show wp_R (d + 1 + 1 + 1 + 1) 195 85 [some (.ref a), some (wp_i y), some (wp_i (on (pp pl p)))] [wp_i y9] h _
          refine wp_ri ji_195_85 jr_195 rfl ⟨y9, rfl, ?_⟩
          rcases hr9 with hr9 | hr9
          · exact Or.inl hr9
          · exact Or.inr (Or.inl ⟨hr9.1, by omega, hr9.2⟩)
  · refine wp_s (pc' := 10) ji_195_9 rfl rfl rfl ?_
    refine wp_s (pc' := 11) ji_195_10 rfl rfl rfl ?_
    have hy2 := hy.resolve_left (by omega)
    obtain ⟨hrk, l1, n1, t1, hse, hA1, hn1, ht1, hE1, hle1⟩ := bh_se hm h19 htp2 hy2.2
    have hb2 := hb.2 hy2.1
    refine wp_sc (as := [wp_i y]) (rest := [.ref a]) ji_195_11 jc_195_150 (Nat.le_of_ble_eq_true rfl) rfl (Nat.le_of_ble_eq_true rfl) rfl (by rw [jn_200]; rfl) (ws_rank (o := y) (by omega)) (fun v h R => ?_)
    obtain ⟨rfl, rfl⟩ := R
    show wp_R (d + 1 + 1 + 1 + 1) 195 14 [some (.ref a), some (wp_i y), none] [wp_i (pr_rank y), .ref a] h _
    refine pv_vc V ji_195_14 jc_195_183 jk_202 (rest := []) rfl (Nat.le_of_ble_eq_true rfl) rfl (by rw [jn_202]; rfl) (ws_settle (least := pr_rank y) (by omega) _ _ _ _ _ _ V hp (show φ 13 + (φ 16) ≤ 300 by omega) hse) (fun v h R => ?_)
    obtain ⟨rfl, φ48, ts48, V, hp48, hf48, hs48⟩ := R
    have e48_4 : φ48 4 = φ 4 := hf48 4 (by decide) (by decide) (by decide)
    have e48_7 : φ48 7 = φ 7 := hf48 7 (by decide) (by decide) (by decide)
    have e48_9 : φ48 9 = φ 9 := hf48 9 (by decide) (by decide) (by decide)
    have e48_10 : φ48 10 = φ 10 := hf48 10 (by decide) (by decide) (by decide)
    have e48_12 : φ48 12 = φ 12 := hf48 12 (by decide) (by decide) (by decide)
    have e48_14 : φ48 14 = φ 14 := hf48 14 (by decide) (by decide) (by decide)
    have e48_18 : φ48 18 = φ 18 := hf48 18 (by decide) (by decide) (by decide)
    have e48_19 : φ48 19 = φ 19 := hf48 19 (by decide) (by decide) (by decide)
    have e48_20 : φ48 20 = φ 20 := hf48 20 (by decide) (by decide) (by decide)
    have e48_21 : φ48 21 = φ 21 := hf48 21 (by decide) (by decide) (by decide)
    have s48 : φ48 13 + φ48 16 ≤ φ 13 + (φ 16) := hs48
    have hlen48 := ps_len hp48
    show wp_R (d + 1 + 1 + 1 + 1) 195 17 [some (.ref a), some (wp_i y), none] [] h _
    refine wp_s (pc' := 18) ji_195_17 rfl rfl rfl ?_
    refine pv_gp V ji_195_18 jf_195_29 ?_
    refine wp_s (pc' := 22) ji_195_21 rfl rfl rfl ?_
    refine pv_gi V ji_195_22 jf_195_147 (by decide) pf_16 (y := φ48 16) rfl (fun l49 u50 => ?_)
    refine wp_s (pc' := 26) ji_195_25 rfl rfl rfl ?_
    refine pv_sp V (x := φ48 16) (y := y) ji_195_26 (by omega) (by omega) (by omega) (by omega) (fun h V => ?_)
    refine wp_s (pc' := 28) ji_195_27 rfl rfl rfl ?_
    refine wp_s (pc' := 29) ji_195_28 rfl rfl rfl ?_
    refine pv_gi V ji_195_29 jf_195_147 (by decide) pf_16 (y := φ48 16) rfl (fun l51 u52 => ?_)
    refine wp_s (pc' := 33) ji_195_32 rfl rfl rfl ?_
    refine wp_iadd (x := φ48 16) (y := 1) (z := φ48 16 + 1) ji_195_33 (by omega) ?_
    refine pv_pi V ji_195_34 jf_195_147 (by decide) pf_16 (by decide) (by decide) (by decide) (by omega) (by omega) (by omega) rfl rfl (fun h V => ?_)
    refine wp_s (pc' := 38) ji_195_37 rfl rfl rfl ?_
    refine wp_s (pc' := 39) ji_195_38 rfl rfl rfl ?_
    refine pv_pi V ji_195_39 jf_195_180 (by decide) pf_19 (by decide) (by decide) (by decide) (by omega) (by omega) (by omega) rfl rfl (fun h V => ?_)
    refine wp_s (pc' := 43) ji_195_42 rfl rfl rfl ?_
    refine pv_vc V ji_195_43 jc_195_171 jk_178 (rest := []) rfl (Nat.le_of_ble_eq_true rfl) rfl (by rw [jn_178]; rfl) (ws_next (by omega) V) (fun v h R => ?_)
    obtain ⟨rfl, φ53, V, hf53, ha53, hb53⟩ := R
    have e53_4 : φ53 4 = φ48 4 := hf53 4 (by decide) (by decide) (by decide) (by decide)
    have e53_12 : φ53 12 = φ48 12 := hf53 12 (by decide) (by decide) (by decide) (by decide)
    have e53_13 : φ53 13 = φ48 13 := hf53 13 (by decide) (by decide) (by decide) (by decide)
    have e53_14 : φ53 14 = φ48 14 := hf53 14 (by decide) (by decide) (by decide) (by decide)
    have e53_16 : φ53 16 = φ48 16 + 1 := hf53 16 (by decide) (by decide) (by decide) (by decide)
    have e53_17 : φ53 17 = φ48 17 := hf53 17 (by decide) (by decide) (by decide) (by decide)
    have e53_18 : φ53 18 = φ48 18 := hf53 18 (by decide) (by decide) (by decide) (by decide)
    have e53_19 : φ53 19 = 0 := hf53 19 (by decide) (by decide) (by decide) (by decide)
    have e53_20 : φ53 20 = φ48 20 := hf53 20 (by decide) (by decide) (by decide) (by decide)
    have e53_21 : φ53 21 = φ48 21 := hf53 21 (by decide) (by decide) (by decide) (by decide)
    have a53 : φ48 7 ≤ φ53 7 := ha53
    have b53 : ¬ φ53 9 = 0 → φ48 7 + 1 ≤ φ53 7 := hb53
    show wp_R (d + 1 + 1 + 1 + 1) 195 46 [some (.ref a), some (wp_i y), none] [] h _
    refine wp_s (pc' := 47) ji_195_46 rfl rfl rfl ?_
    refine wp_ri ji_195_47 jr_195 rfl ⟨0, rfl, Or.inr (Or.inl ⟨rfl, hy2.1, φ53, _, _, y :: l1, n1, t1, V, ps_push (φ := φ48) hp48 (by rw [hpl]; omega) (by omega) (by omega) (by omega) ?_ (by omega), ⟨by omega, by omega, by omega, by omega, by omega⟩, ⟨by omega, fun q => by have := b53 q; omega⟩, ⟨by omega, fun q => by have := b53 q; omega⟩, fun q => hE1 (by omega), Or.inl ⟨by omega, hA1, by rw [show (φ53 18).toNat = (φ 18).toNat by omega]; exact hn1, ht1⟩⟩)⟩
    rw [po_o_c, if_neg (by omega)]
    omega
def pZ (h0 : mj_H) (a P T : Nat) (t0 : List Value) (s c0 : Nat) (φ : Nat → Int) : Option Value → mj_H → Prop := fun v h1 => ∃ y : Int, v = some (wp_i y) ∧ ((0 < y ∧ y ≤ 7 ∧ pE h0 a P T t0 s c0 φ h1) ∨ (y = 0 ∧ ¬ φ 9 = 0 ∧ pG h0 a P T t0 s c0 φ h1))
/-- one value more -/
theorem ps_val {t0 pl ts : List Value} {φ φ' : Nat → Int} {s c0 n t w : Nat} {l : List Int} {o v : Int} (hp : ps t0 φ pl ts s c0 l n t) (hw : φ 13 = (w : Int)) (hlt : ts.length = 2820) (hw3 : w < 303) (h12 : φ' 12 = φ 12) (h13 : φ' 13 = φ 13 + 1) (h16 : φ' 16 = φ 16) (h17 : φ' 17 = φ 17) (hj2 : jw (em_t ts s w o v) s (w + 1)) (hov : o = 0 ∨ (o = 1 ∧ 0 ≤ v ∧ v ≤ 9)) (hv : wp_r v) : ps t0 φ' pl (em_t ts s w o v) s c0 l (n + 1) t := by
  obtain ⟨w', p, q1, q2, q3, q4, q5, q6, q7, q8, q9, q10⟩ := hp
  have ew : w' = w := by omega
  subst ew
  have ho : wp_r o := by omega
  refine ⟨w' + 1, p, by omega, by omega, by omega, q4, by omega, hj2, em_we q4 hw3 q5 hlt ho hv q7 ?_, q8, by omega, fun j hj => ?_⟩
  · unfold we_1
    rcases hov with e | ⟨e, e2⟩
    · rw [if_pos e]
    · rw [if_neg (by omega), if_pos e, if_pos e2]
  · rw [em_el q4 hw3 hlt ho hv, if_neg (by omega), if_neg (by omega)]
    exact q10 j hj
theorem ws_name {d : Nat} {h0 h : mj_H} {a P T : Nat} {φ : Nat → Int} {pl ts : List Value} (IH : sx_IH sx_PP (d + 1)) (hd : 5 ≤ d) (V : pv h0 h a P T φ pl ts) : wp_R d 209 0 [some (.ref a)] [] h (fun v h1 => pv h0 h1 a P T φ pl ts ∧ ∃ y : Int, v = some (wp_i y) ∧ -1 ≤ y ∧ y ≤ 9 ∧ (0 ≤ y → φ 9 = 2)) := by
  by_cases h2 : φ 9 = 2
  · refine wp_mono (pv_K0 V (IH d (Nat.lt_succ_self d) 209 sx_K209 rfl) (vs := [.ref a]) ⟨⟨a, rfl, V.2.2.2.1⟩, trivial⟩ (show (5 : Int) + 0 ≤ d by omega) (by rw [jn_209]; rfl) rfl) ?_
    rintro v h1 ⟨⟨w, rfl, z, rfl, z1, z2⟩, V1⟩
    exact ⟨V1, z.toInt, by rw [wp_iz], z1, z2, fun _ => h2⟩
  · refine wp_s (pc' := 1) ji_209_0 rfl rfl rfl ?_
    refine pv_gi V ji_209_1 jf_209_95 (by decide) pf_9 (y := φ 9) rfl (fun l1 u2 => ?_)
    refine wp_s (pc' := 5) ji_209_4 rfl rfl rfl ?_
    refine wp_icmp (t := 10) ji_209_5 rfl (by omega) (by omega) (fun (hb3 : (φ 9 : Int) = 2) => (by exfalso; omega)) (fun (hb3 : ¬ ((φ 9 : Int) = 2)) => ?_)
    refine wp_s (pc' := 9) ji_209_8 rfl rfl rfl ?_
    exact wp_ri ji_209_9 jr_209 rfl ⟨V, -1, rfl, by omega, by omega, fun q => by omega⟩
theorem ws_isOf {d : Nat} {h0 h : mj_H} {a P T : Nat} {φ : Nat → Int} {pl ts : List Value} (IH : sx_IH sx_PP (d + 1)) (V : pv h0 h a P T φ pl ts) {y : Int} (hy : -1 ≤ y ∧ y ≤ 9) : wp_R d 210 0 [some (.ref a), some (wp_i y)] [] h (fun v h1 => pv h0 h1 a P T φ pl ts ∧ ∃ y : Int, v = some (wp_i y) ∧ (y = 0 ∨ y = 1)) := by
  refine wp_mono (pv_K0 V (IH d (Nat.lt_succ_self d) 210 sx_K210 rfl) (vs := [.ref a, wp_i y]) ⟨⟨a, rfl, V.2.2.2.1⟩, ⟨_, rfl, by rw [wp_ti (by omega)]; omega, by rw [wp_ti (by omega)]; omega⟩, trivial⟩ (show (0 : Int) + 0 ≤ d by omega) (by rw [jn_210]; rfl) rfl) ?_
  rintro v h1 ⟨⟨w, rfl, z, rfl, z1, z2⟩, V1⟩
  have z1 : (0 : Int) ≤ z.toInt := z1
  have z2 : z.toInt ≤ 1 := z2
  exact ⟨V1, z.toInt, by rw [wp_iz], by omega⟩
theorem ws_begin {d : Nat} {h0 h : mj_H} {a P T : Nat} {φ : Nat → Int} {pl ts t0 : List Value} {s c0 n t : Nat} {l : List Int} (IH : sx_IH sx_PP (d + 1 + 1 + 1 + 1)) (hd : 2 ≤ d) (V : pv h0 h a P T φ pl ts) (hp : ps t0 φ pl ts s c0 l n t) (hm : pm φ l n t) (h19 : φ 19 = 0) (hb : tkb φ) : wp_R (d + 1 + 1 + 1 + 1) 208 0 [some (.ref a), none] [] h (pZ h0 a P T t0 s c0 φ) := by
  have b7 := pv_b V (k := 7) (lo := 0) (hi := 300) (by decide) (by decide)
  have b13 := pv_b V (k := 13) (lo := 0) (hi := 303) (by decide) (by decide)
  have b16 := pv_b V (k := 16) (lo := 0) (hi := 160) (by decide) (by decide)
  have b17 := pv_b V (k := 17) (lo := 0) (hi := 8) (by decide) (by decide)
  have b18 := pv_b V (k := 18) (lo := 0) (hi := 6) (by decide) (by decide)
  have hlen := ps_len hp
  have hbq1 : φ 13 + φ 16 ≤ φ 7 := hb.1
  have hbq2 : ¬ φ 9 = 0 → φ 13 + φ 16 + 1 ≤ φ 7 := hb.2
  have h154 : φ 16 ≤ 154 := ps_top hp hm (by have := hb.1; omega) (by omega)
  have hpl := (pv_aP V).2.2.2.1
  have hp2 := hp
  obtain ⟨w, p, hw, h16, h12, hs, hc, hj, hwe, hpp, h17, hfr⟩ := hp2
  subst hpp
  have hpb := pp_b V (p := p) (by omega)
  have hob := on_b (pp pl p) (fun x hx => (hpb x hx).2)
  have hib := ic_b (pp pl p)
  have htl := (pv_aP V).2.2.2.2.1
  obtain ⟨hA, rfl, rfl⟩ : po_A (pp pl p) ∧ n = po_n (φ 18).toNat (pp pl p) ∧ t = po_t (pp pl p) := by
    rcases hm.2 with ⟨-, q1, q2, q3⟩ | ⟨q, -⟩ | ⟨q, -⟩
    · exact ⟨q1, q2, q3⟩
    · omega
    · omega
  refine wp_s (pc' := 1) ji_208_0 rfl rfl rfl ?_
  refine pv_gi V ji_208_1 jf_208_95 (by decide) pf_9 (y := φ 9) rfl (fun l1 u2 => ?_)
  refine wp_s (pc' := 5) ji_208_4 rfl rfl rfl ?_
  refine wp_icmp (t := 20) ji_208_5 rfl (by omega) (by omega) (fun (hb3 : ¬ (φ 9 : Int) = 1) => ?_) (fun (hb3 : ¬ (¬ (φ 9 : Int) = 1)) => ?_)
  · refine wp_s (pc' := 21) ji_208_20 rfl rfl rfl ?_
    refine pv_vc V ji_208_21 jc_208_174 jk_209 (rest := []) rfl (Nat.le_of_ble_eq_true rfl) rfl (by rw [jn_209]; rfl) (ws_name (fun d1 hd1 => IH d1 (by omega)) (by omega) V) (fun v h R => ?_)
    obtain ⟨V, y, rfl, hy1, hy2, hy3⟩ := R
    show wp_R (d + 1 + 1 + 1 + 1) 208 24 [some (.ref a), none] [wp_i y] h _
    refine wp_s (pc' := 25) (lv' := [some (.ref a), some (wp_i y)]) ji_208_24 rfl rfl rfl ?_
    refine wp_s (pc' := 26) ji_208_25 rfl rfl rfl ?_
    refine wp_if (t := 39) ji_208_26 rfl (by omega) (fun (hb4 : (y : Int) < 0) => ?_) (fun (hb4 : ¬ ((y : Int) < 0)) => ?_)
    · refine wp_s (pc' := 40) ji_208_39 rfl rfl rfl ?_
      refine pv_gi V ji_208_40 jf_208_95 (by decide) pf_9 (y := φ 9) rfl (fun l5 u6 => ?_)
      refine wp_s (pc' := 44) ji_208_43 rfl rfl rfl ?_
      refine wp_icmp (t := 51) ji_208_44 rfl (by omega) (by omega) (fun (hb7 : (φ 9 : Int) = 1) => ?_) (fun (hb7 : ¬ ((φ 9 : Int) = 1)) => ?_)
      · refine wp_s (pc' := 52) ji_208_51 rfl rfl rfl ?_
        refine wp_s (pc' := 53) ji_208_52 rfl rfl rfl ?_
        refine pv_gi V ji_208_53 jf_208_95 (by decide) pf_9 (y := φ 9) rfl (fun l8 u9 => ?_)
        refine wp_s (pc' := 57) ji_208_56 rfl rfl rfl ?_
        refine wp_icmp (t := 64) ji_208_57 rfl (by omega) (by omega) (fun (hb10 : ¬ (φ 9 : Int) = 1) => ?_) (fun (hb10 : ¬ (¬ (φ 9 : Int) = 1)) => ?_)
        · refine wp_s (pc' := 65) ji_208_64 rfl rfl rfl ?_
          refine wp_s (pc' := 66) ji_208_65 rfl rfl rfl ?_
          refine pv_gi V ji_208_66 jf_208_95 (by decide) pf_9 (y := φ 9) rfl (fun l11 u12 => ?_)
          refine wp_s (pc' := 70) ji_208_69 rfl rfl rfl ?_
          refine wp_icmp (t := 80) ji_208_70 rfl (by omega) (by omega) (fun (hb13 : ¬ (φ 9 : Int) = 1) => ?_) (fun (hb13 : ¬ (¬ (φ 9 : Int) = 1)) => ?_)
          · refine wp_s (pc' := 81) ji_208_80 rfl rfl rfl ?_
            refine pv_vc V ji_208_81 jc_208_153 jk_203 (rest := []) rfl (Nat.le_of_ble_eq_true rfl) rfl (by rw [jn_203]; rfl) (ws_emit V (s := s) (w := w) (o := 1) (v := y) hw h12 hs (by omega) (by omega) (by omega) hj) (fun v h R => ?_)
            obtain ⟨rfl, V, hj2⟩ := R
            show wp_R (d + 1 + 1 + 1 + 1) 208 84 [some (.ref a), some (wp_i y)] [] h _
            refine wp_s (pc' := 85) ji_208_84 rfl rfl rfl ?_
            refine pv_vc V ji_208_85 jc_208_171 jk_178 (rest := []) rfl (Nat.le_of_ble_eq_true rfl) rfl (by rw [jn_178]; rfl) (ws_next (by omega) V) (fun v h R => ?_)
            obtain ⟨rfl, φ14, V, hf14, ha14, hb14⟩ := R
            have e14_4 : φ14 4 = φ 4 := hf14 4 (by decide) (by decide) (by decide) (by decide)
            have e14_12 : φ14 12 = φ 12 := hf14 12 (by decide) (by decide) (by decide) (by decide)
            have e14_13 : φ14 13 = (w : Int) + 1 := hf14 13 (by decide) (by decide) (by decide) (by decide)
            have e14_14 : φ14 14 = φ 14 := hf14 14 (by decide) (by decide) (by decide) (by decide)
            have e14_16 : φ14 16 = φ 16 := hf14 16 (by decide) (by decide) (by decide) (by decide)
            have e14_17 : φ14 17 = φ 17 := hf14 17 (by decide) (by decide) (by decide) (by decide)
            have e14_18 : φ14 18 = φ 18 := hf14 18 (by decide) (by decide) (by decide) (by decide)
            have e14_19 : φ14 19 = φ 19 := hf14 19 (by decide) (by decide) (by decide) (by decide)
            have e14_20 : φ14 20 = φ 20 := hf14 20 (by decide) (by decide) (by decide) (by decide)
            have e14_21 : φ14 21 = φ 21 := hf14 21 (by decide) (by decide) (by decide) (by decide)
            have a14 : φ 7 ≤ φ14 7 := ha14
            have b14 : ¬ φ14 9 = 0 → φ 7 + 1 ≤ φ14 7 := hb14
            show wp_R (d + 1 + 1 + 1 + 1) 208 88 [some (.ref a), some (wp_i y)] [] h _
            refine wp_s (pc' := 89) ji_208_88 rfl rfl rfl ?_
            refine wp_s (pc' := 90) ji_208_89 rfl rfl rfl ?_
            refine pv_pi V ji_208_90 jf_208_180 (by decide) pf_19 (by decide) (by decide) (by decide) (by omega) (by omega) (by omega) rfl rfl (fun h V => ?_)
            refine wp_s (pc' := 94) ji_208_93 rfl rfl rfl ?_
            refine wp_bp ji_208_94 rfl ?_
            obtain ⟨l1, hse, hA1, ⟨k1, hk1⟩, -, -⟩ := se_V (least := 7) (by omega) (am := (φ 18).toNat) hA (fun q => by omega)
            have hps : ps t0 (pv_u φ14 19 1) pl (em_t ts s w 1 y) s c0 (pp pl p) (po_n (φ 18).toNat (pp pl p) + 1) (po_t (pp pl p)) := ps_val hp hw htl (by omega) (show φ14 12 = _ by omega) (show φ14 13 = _ by omega) (show φ14 16 = _ by omega) (show φ14 17 = _ by omega) hj2 (by omega) (by omega)
            refine pv_vc V ji_208_96 jc_208_183 jk_202 (rest := []) rfl (Nat.le_of_ble_eq_true rfl) rfl (by rw [jn_202]; rfl) (ws_settle (least := 7) (by omega) _ _ _ _ _ _ V hps (show φ14 13 + (φ14 16) ≤ 300 by omega) hse) (fun v h R => ?_)
            obtain ⟨rfl, φ15, ts15, V, hp15, hf15, hs15⟩ := R
            have e15_4 : φ15 4 = φ14 4 := hf15 4 (by decide) (by decide) (by decide)
            have e15_7 : φ15 7 = φ14 7 := hf15 7 (by decide) (by decide) (by decide)
            have e15_9 : φ15 9 = φ14 9 := hf15 9 (by decide) (by decide) (by decide)
            have e15_10 : φ15 10 = φ14 10 := hf15 10 (by decide) (by decide) (by decide)
            have e15_12 : φ15 12 = φ14 12 := hf15 12 (by decide) (by decide) (by decide)
            have e15_14 : φ15 14 = φ14 14 := hf15 14 (by decide) (by decide) (by decide)
            have e15_18 : φ15 18 = φ14 18 := hf15 18 (by decide) (by decide) (by decide)
            have e15_19 : φ15 19 = 1 := hf15 19 (by decide) (by decide) (by decide)
            have e15_20 : φ15 20 = φ14 20 := hf15 20 (by decide) (by decide) (by decide)
            have e15_21 : φ15 21 = φ14 21 := hf15 21 (by decide) (by decide) (by decide)
            have s15 : φ15 13 + φ15 16 ≤ φ14 13 + (φ14 16) := hs15
            have hlen15 := ps_len hp15
            show wp_R (d + 1 + 1 + 1 + 1) 208 99 [some (.ref a), some (wp_i y)] [] h _
            refine wp_s (pc' := 100) ji_208_99 rfl rfl rfl ?_
            exact wp_ri ji_208_100 jr_208 rfl ⟨0, rfl, Or.inr (⟨rfl, by omega, φ15, pl, _, l1, _, _, V, hp15, ⟨by omega, by omega, by omega, by omega, by omega⟩, ⟨by omega, fun q => by have := b14 (by omega); omega⟩, ⟨by omega, fun q => by have := b14 (by omega); omega⟩, fun q x hx => hm.1 (by omega) x (by rw [hk1] at hx; exact List.mem_of_mem_drop hx), Or.inr (Or.inl ⟨by omega, hA1, by rw [show (φ15 18).toNat = (φ 18).toNat by omega], rfl⟩)⟩)⟩
          · refine wp_s (pc' := 74) ji_208_73 rfl rfl rfl ?_
            refine pv_gi V ji_208_74 jf_208_102 (by decide) pf_10 (y := φ 10) rfl (fun l16 u17 => ?_)
            refine wp_goto (t := 81) ji_208_77 rfl ?_
            refine pv_vc V ji_208_81 jc_208_153 jk_203 (rest := []) rfl (Nat.le_of_ble_eq_true rfl) rfl (by rw [jn_203]; rfl) (ws_emit V (s := s) (w := w) (o := 1) (v := φ 10) hw h12 hs (by omega) (by omega) (by omega) hj) (fun v h R => ?_)
            obtain ⟨rfl, V, hj2⟩ := R
            show wp_R (d + 1 + 1 + 1 + 1) 208 84 [some (.ref a), some (wp_i y)] [] h _
            refine wp_s (pc' := 85) ji_208_84 rfl rfl rfl ?_
            refine pv_vc V ji_208_85 jc_208_171 jk_178 (rest := []) rfl (Nat.le_of_ble_eq_true rfl) rfl (by rw [jn_178]; rfl) (ws_next (by omega) V) (fun v h R => ?_)
            obtain ⟨rfl, φ18, V, hf18, ha18, hb18⟩ := R
            have e18_4 : φ18 4 = φ 4 := hf18 4 (by decide) (by decide) (by decide) (by decide)
            have e18_12 : φ18 12 = φ 12 := hf18 12 (by decide) (by decide) (by decide) (by decide)
            have e18_13 : φ18 13 = (w : Int) + 1 := hf18 13 (by decide) (by decide) (by decide) (by decide)
            have e18_14 : φ18 14 = φ 14 := hf18 14 (by decide) (by decide) (by decide) (by decide)
            have e18_16 : φ18 16 = φ 16 := hf18 16 (by decide) (by decide) (by decide) (by decide)
            have e18_17 : φ18 17 = φ 17 := hf18 17 (by decide) (by decide) (by decide) (by decide)
            have e18_18 : φ18 18 = φ 18 := hf18 18 (by decide) (by decide) (by decide) (by decide)
            have e18_19 : φ18 19 = φ 19 := hf18 19 (by decide) (by decide) (by decide) (by decide)
            have e18_20 : φ18 20 = φ 20 := hf18 20 (by decide) (by decide) (by decide) (by decide)
            have e18_21 : φ18 21 = φ 21 := hf18 21 (by decide) (by decide) (by decide) (by decide)
            have a18 : φ 7 ≤ φ18 7 := ha18
            have b18 : ¬ φ18 9 = 0 → φ 7 + 1 ≤ φ18 7 := hb18
            show wp_R (d + 1 + 1 + 1 + 1) 208 88 [some (.ref a), some (wp_i y)] [] h _
            refine wp_s (pc' := 89) ji_208_88 rfl rfl rfl ?_
            refine wp_s (pc' := 90) ji_208_89 rfl rfl rfl ?_
            refine pv_pi V ji_208_90 jf_208_180 (by decide) pf_19 (by decide) (by decide) (by decide) (by omega) (by omega) (by omega) rfl rfl (fun h V => ?_)
            refine wp_s (pc' := 94) ji_208_93 rfl rfl rfl ?_
            refine wp_bp ji_208_94 rfl ?_
            obtain ⟨l1, hse, hA1, ⟨k1, hk1⟩, -, -⟩ := se_V (least := 7) (by omega) (am := (φ 18).toNat) hA (fun q => by omega)
            have hps : ps t0 (pv_u φ18 19 1) pl (em_t ts s w 1 (φ 10)) s c0 (pp pl p) (po_n (φ 18).toNat (pp pl p) + 1) (po_t (pp pl p)) := ps_val hp hw htl (by omega) (show φ18 12 = _ by omega) (show φ18 13 = _ by omega) (show φ18 16 = _ by omega) (show φ18 17 = _ by omega) hj2 (by omega) (by omega)
            refine pv_vc V ji_208_96 jc_208_183 jk_202 (rest := []) rfl (Nat.le_of_ble_eq_true rfl) rfl (by rw [jn_202]; rfl) (ws_settle (least := 7) (by omega) _ _ _ _ _ _ V hps (show φ18 13 + (φ18 16) ≤ 300 by omega) hse) (fun v h R => ?_)
            obtain ⟨rfl, φ19, ts19, V, hp19, hf19, hs19⟩ := R
            have e19_4 : φ19 4 = φ18 4 := hf19 4 (by decide) (by decide) (by decide)
            have e19_7 : φ19 7 = φ18 7 := hf19 7 (by decide) (by decide) (by decide)
            have e19_9 : φ19 9 = φ18 9 := hf19 9 (by decide) (by decide) (by decide)
            have e19_10 : φ19 10 = φ18 10 := hf19 10 (by decide) (by decide) (by decide)
            have e19_12 : φ19 12 = φ18 12 := hf19 12 (by decide) (by decide) (by decide)
            have e19_14 : φ19 14 = φ18 14 := hf19 14 (by decide) (by decide) (by decide)
            have e19_18 : φ19 18 = φ18 18 := hf19 18 (by decide) (by decide) (by decide)
            have e19_19 : φ19 19 = 1 := hf19 19 (by decide) (by decide) (by decide)
            have e19_20 : φ19 20 = φ18 20 := hf19 20 (by decide) (by decide) (by decide)
            have e19_21 : φ19 21 = φ18 21 := hf19 21 (by decide) (by decide) (by decide)
            have s19 : φ19 13 + φ19 16 ≤ φ18 13 + (φ18 16) := hs19
            have hlen19 := ps_len hp19
            show wp_R (d + 1 + 1 + 1 + 1) 208 99 [some (.ref a), some (wp_i y)] [] h _
            refine wp_s (pc' := 100) ji_208_99 rfl rfl rfl ?_
            exact wp_ri ji_208_100 jr_208 rfl ⟨0, rfl, Or.inr (⟨rfl, by omega, φ19, pl, _, l1, _, _, V, hp19, ⟨by omega, by omega, by omega, by omega, by omega⟩, ⟨by omega, fun q => by have := b18 (by omega); omega⟩, ⟨by omega, fun q => by have := b18 (by omega); omega⟩, fun q x hx => hm.1 (by omega) x (by rw [hk1] at hx; exact List.mem_of_mem_drop hx), Or.inr (Or.inl ⟨by omega, hA1, by rw [show (φ19 18).toNat = (φ 18).toNat by omega], rfl⟩)⟩)⟩
        · refine wp_s (pc' := 61) ji_208_60 rfl rfl rfl ?_
          refine wp_goto (t := 65) ji_208_61 rfl ?_
          refine wp_s (pc' := 66) ji_208_65 rfl rfl rfl ?_
          refine pv_gi V ji_208_66 jf_208_95 (by decide) pf_9 (y := φ 9) rfl (fun l20 u21 => ?_)
          refine wp_s (pc' := 70) ji_208_69 rfl rfl rfl ?_
          refine wp_icmp (t := 80) ji_208_70 rfl (by omega) (by omega) (fun (hb22 : ¬ (φ 9 : Int) = 1) => ?_) (fun (hb22 : ¬ (¬ (φ 9 : Int) = 1)) => ?_)
          · refine wp_s (pc' := 81) ji_208_80 rfl rfl rfl ?_
            refine pv_vc V ji_208_81 jc_208_153 jk_203 (rest := []) rfl (Nat.le_of_ble_eq_true rfl) rfl (by rw [jn_203]; rfl) (ws_emit V (s := s) (w := w) (o := 0) (v := y) hw h12 hs (by omega) (by omega) (by omega) hj) (fun v h R => ?_)
            obtain ⟨rfl, V, hj2⟩ := R
            show wp_R (d + 1 + 1 + 1 + 1) 208 84 [some (.ref a), some (wp_i y)] [] h _
            refine wp_s (pc' := 85) ji_208_84 rfl rfl rfl ?_
            refine pv_vc V ji_208_85 jc_208_171 jk_178 (rest := []) rfl (Nat.le_of_ble_eq_true rfl) rfl (by rw [jn_178]; rfl) (ws_next (by omega) V) (fun v h R => ?_)
            obtain ⟨rfl, φ23, V, hf23, ha23, hb23⟩ := R
            have e23_4 : φ23 4 = φ 4 := hf23 4 (by decide) (by decide) (by decide) (by decide)
            have e23_12 : φ23 12 = φ 12 := hf23 12 (by decide) (by decide) (by decide) (by decide)
            have e23_13 : φ23 13 = (w : Int) + 1 := hf23 13 (by decide) (by decide) (by decide) (by decide)
            have e23_14 : φ23 14 = φ 14 := hf23 14 (by decide) (by decide) (by decide) (by decide)
            have e23_16 : φ23 16 = φ 16 := hf23 16 (by decide) (by decide) (by decide) (by decide)
            have e23_17 : φ23 17 = φ 17 := hf23 17 (by decide) (by decide) (by decide) (by decide)
            have e23_18 : φ23 18 = φ 18 := hf23 18 (by decide) (by decide) (by decide) (by decide)
            have e23_19 : φ23 19 = φ 19 := hf23 19 (by decide) (by decide) (by decide) (by decide)
            have e23_20 : φ23 20 = φ 20 := hf23 20 (by decide) (by decide) (by decide) (by decide)
            have e23_21 : φ23 21 = φ 21 := hf23 21 (by decide) (by decide) (by decide) (by decide)
            have a23 : φ 7 ≤ φ23 7 := ha23
            have b23 : ¬ φ23 9 = 0 → φ 7 + 1 ≤ φ23 7 := hb23
            show wp_R (d + 1 + 1 + 1 + 1) 208 88 [some (.ref a), some (wp_i y)] [] h _
            refine wp_s (pc' := 89) ji_208_88 rfl rfl rfl ?_
            refine wp_s (pc' := 90) ji_208_89 rfl rfl rfl ?_
            refine pv_pi V ji_208_90 jf_208_180 (by decide) pf_19 (by decide) (by decide) (by decide) (by omega) (by omega) (by omega) rfl rfl (fun h V => ?_)
            refine wp_s (pc' := 94) ji_208_93 rfl rfl rfl ?_
            refine wp_bp ji_208_94 rfl ?_
            obtain ⟨l1, hse, hA1, ⟨k1, hk1⟩, -, -⟩ := se_V (least := 7) (by omega) (am := (φ 18).toNat) hA (fun q => by omega)
            have hps : ps t0 (pv_u φ23 19 1) pl (em_t ts s w 0 y) s c0 (pp pl p) (po_n (φ 18).toNat (pp pl p) + 1) (po_t (pp pl p)) := ps_val hp hw htl (by omega) (show φ23 12 = _ by omega) (show φ23 13 = _ by omega) (show φ23 16 = _ by omega) (show φ23 17 = _ by omega) hj2 (by omega) (by omega)
            refine pv_vc V ji_208_96 jc_208_183 jk_202 (rest := []) rfl (Nat.le_of_ble_eq_true rfl) rfl (by rw [jn_202]; rfl) (ws_settle (least := 7) (by omega) _ _ _ _ _ _ V hps (show φ23 13 + (φ23 16) ≤ 300 by omega) hse) (fun v h R => ?_)
            obtain ⟨rfl, φ24, ts24, V, hp24, hf24, hs24⟩ := R
            have e24_4 : φ24 4 = φ23 4 := hf24 4 (by decide) (by decide) (by decide)
            have e24_7 : φ24 7 = φ23 7 := hf24 7 (by decide) (by decide) (by decide)
            have e24_9 : φ24 9 = φ23 9 := hf24 9 (by decide) (by decide) (by decide)
            have e24_10 : φ24 10 = φ23 10 := hf24 10 (by decide) (by decide) (by decide)
            have e24_12 : φ24 12 = φ23 12 := hf24 12 (by decide) (by decide) (by decide)
            have e24_14 : φ24 14 = φ23 14 := hf24 14 (by decide) (by decide) (by decide)
            have e24_18 : φ24 18 = φ23 18 := hf24 18 (by decide) (by decide) (by decide)
            have e24_19 : φ24 19 = 1 := hf24 19 (by decide) (by decide) (by decide)
            have e24_20 : φ24 20 = φ23 20 := hf24 20 (by decide) (by decide) (by decide)
            have e24_21 : φ24 21 = φ23 21 := hf24 21 (by decide) (by decide) (by decide)
            have s24 : φ24 13 + φ24 16 ≤ φ23 13 + (φ23 16) := hs24
            have hlen24 := ps_len hp24
            show wp_R (d + 1 + 1 + 1 + 1) 208 99 [some (.ref a), some (wp_i y)] [] h _
            refine wp_s (pc' := 100) ji_208_99 rfl rfl rfl ?_
            exact wp_ri ji_208_100 jr_208 rfl ⟨0, rfl, Or.inr (⟨rfl, by omega, φ24, pl, _, l1, _, _, V, hp24, ⟨by omega, by omega, by omega, by omega, by omega⟩, ⟨by omega, fun q => by have := b23 (by omega); omega⟩, ⟨by omega, fun q => by have := b23 (by omega); omega⟩, fun q x hx => hm.1 (by omega) x (by rw [hk1] at hx; exact List.mem_of_mem_drop hx), Or.inr (Or.inl ⟨by omega, hA1, by rw [show (φ24 18).toNat = (φ 18).toNat by omega], rfl⟩)⟩)⟩
          · refine wp_s (pc' := 74) ji_208_73 rfl rfl rfl ?_
            refine pv_gi V ji_208_74 jf_208_102 (by decide) pf_10 (y := φ 10) rfl (fun l25 u26 => ?_)
            refine wp_goto (t := 81) ji_208_77 rfl ?_
            refine pv_vc V ji_208_81 jc_208_153 jk_203 (rest := []) rfl (Nat.le_of_ble_eq_true rfl) rfl (by rw [jn_203]; rfl) (ws_emit V (s := s) (w := w) (o := 0) (v := φ 10) hw h12 hs (by omega) (by omega) (by omega) hj) (fun v h R => ?_)
            obtain ⟨rfl, V, hj2⟩ := R
            show wp_R (d + 1 + 1 + 1 + 1) 208 84 [some (.ref a), some (wp_i y)] [] h _
            refine wp_s (pc' := 85) ji_208_84 rfl rfl rfl ?_
            refine pv_vc V ji_208_85 jc_208_171 jk_178 (rest := []) rfl (Nat.le_of_ble_eq_true rfl) rfl (by rw [jn_178]; rfl) (ws_next (by omega) V) (fun v h R => ?_)
            obtain ⟨rfl, φ27, V, hf27, ha27, hb27⟩ := R
            have e27_4 : φ27 4 = φ 4 := hf27 4 (by decide) (by decide) (by decide) (by decide)
            have e27_12 : φ27 12 = φ 12 := hf27 12 (by decide) (by decide) (by decide) (by decide)
            have e27_13 : φ27 13 = (w : Int) + 1 := hf27 13 (by decide) (by decide) (by decide) (by decide)
            have e27_14 : φ27 14 = φ 14 := hf27 14 (by decide) (by decide) (by decide) (by decide)
            have e27_16 : φ27 16 = φ 16 := hf27 16 (by decide) (by decide) (by decide) (by decide)
            have e27_17 : φ27 17 = φ 17 := hf27 17 (by decide) (by decide) (by decide) (by decide)
            have e27_18 : φ27 18 = φ 18 := hf27 18 (by decide) (by decide) (by decide) (by decide)
            have e27_19 : φ27 19 = φ 19 := hf27 19 (by decide) (by decide) (by decide) (by decide)
            have e27_20 : φ27 20 = φ 20 := hf27 20 (by decide) (by decide) (by decide) (by decide)
            have e27_21 : φ27 21 = φ 21 := hf27 21 (by decide) (by decide) (by decide) (by decide)
            have a27 : φ 7 ≤ φ27 7 := ha27
            have b27 : ¬ φ27 9 = 0 → φ 7 + 1 ≤ φ27 7 := hb27
            show wp_R (d + 1 + 1 + 1 + 1) 208 88 [some (.ref a), some (wp_i y)] [] h _
            refine wp_s (pc' := 89) ji_208_88 rfl rfl rfl ?_
            refine wp_s (pc' := 90) ji_208_89 rfl rfl rfl ?_
            refine pv_pi V ji_208_90 jf_208_180 (by decide) pf_19 (by decide) (by decide) (by decide) (by omega) (by omega) (by omega) rfl rfl (fun h V => ?_)
            refine wp_s (pc' := 94) ji_208_93 rfl rfl rfl ?_
            refine wp_bp ji_208_94 rfl ?_
            obtain ⟨l1, hse, hA1, ⟨k1, hk1⟩, -, -⟩ := se_V (least := 7) (by omega) (am := (φ 18).toNat) hA (fun q => by omega)
            have hps : ps t0 (pv_u φ27 19 1) pl (em_t ts s w 0 (φ 10)) s c0 (pp pl p) (po_n (φ 18).toNat (pp pl p) + 1) (po_t (pp pl p)) := ps_val hp hw htl (by omega) (show φ27 12 = _ by omega) (show φ27 13 = _ by omega) (show φ27 16 = _ by omega) (show φ27 17 = _ by omega) hj2 (by omega) (by omega)
            refine pv_vc V ji_208_96 jc_208_183 jk_202 (rest := []) rfl (Nat.le_of_ble_eq_true rfl) rfl (by rw [jn_202]; rfl) (ws_settle (least := 7) (by omega) _ _ _ _ _ _ V hps (show φ27 13 + (φ27 16) ≤ 300 by omega) hse) (fun v h R => ?_)
            obtain ⟨rfl, φ28, ts28, V, hp28, hf28, hs28⟩ := R
            have e28_4 : φ28 4 = φ27 4 := hf28 4 (by decide) (by decide) (by decide)
            have e28_7 : φ28 7 = φ27 7 := hf28 7 (by decide) (by decide) (by decide)
            have e28_9 : φ28 9 = φ27 9 := hf28 9 (by decide) (by decide) (by decide)
            have e28_10 : φ28 10 = φ27 10 := hf28 10 (by decide) (by decide) (by decide)
            have e28_12 : φ28 12 = φ27 12 := hf28 12 (by decide) (by decide) (by decide)
            have e28_14 : φ28 14 = φ27 14 := hf28 14 (by decide) (by decide) (by decide)
            have e28_18 : φ28 18 = φ27 18 := hf28 18 (by decide) (by decide) (by decide)
            have e28_19 : φ28 19 = 1 := hf28 19 (by decide) (by decide) (by decide)
            have e28_20 : φ28 20 = φ27 20 := hf28 20 (by decide) (by decide) (by decide)
            have e28_21 : φ28 21 = φ27 21 := hf28 21 (by decide) (by decide) (by decide)
            have s28 : φ28 13 + φ28 16 ≤ φ27 13 + (φ27 16) := hs28
            have hlen28 := ps_len hp28
            show wp_R (d + 1 + 1 + 1 + 1) 208 99 [some (.ref a), some (wp_i y)] [] h _
            refine wp_s (pc' := 100) ji_208_99 rfl rfl rfl ?_
            exact wp_ri ji_208_100 jr_208 rfl ⟨0, rfl, Or.inr (⟨rfl, by omega, φ28, pl, _, l1, _, _, V, hp28, ⟨by omega, by omega, by omega, by omega, by omega⟩, ⟨by omega, fun q => by have := b27 (by omega); omega⟩, ⟨by omega, fun q => by have := b27 (by omega); omega⟩, fun q x hx => hm.1 (by omega) x (by rw [hk1] at hx; exact List.mem_of_mem_drop hx), Or.inr (Or.inl ⟨by omega, hA1, by rw [show (φ28 18).toNat = (φ 18).toNat by omega], rfl⟩)⟩)⟩
      · refine wp_s (pc' := 48) ji_208_47 rfl rfl rfl ?_
        refine wp_if (t := 101) ji_208_48 rfl (by omega) (fun (hb29 : (y : Int) < 0) => ?_) (fun (hb29 : ¬ ((y : Int) < 0)) => ?_)
        · refine wp_s (pc' := 102) ji_208_101 rfl rfl rfl ?_
          refine pv_gi V ji_208_102 jf_208_95 (by decide) pf_9 (y := φ 9) rfl (fun l30 u31 => ?_)
          refine wp_bp ji_208_105 rfl ?_
          refine wp_icmp (t := 117) ji_208_107 rfl (by omega) (by omega) (fun (hb32 : ¬ (φ 9 : Int) = 40) => ?_) (fun (hb32 : ¬ (¬ (φ 9 : Int) = 40)) => ?_)
          · refine wp_s (pc' := 118) ji_208_117 rfl rfl rfl ?_
            refine pv_gi V ji_208_118 jf_208_95 (by decide) pf_9 (y := φ 9) rfl (fun l33 u34 => ?_)
            refine wp_bp ji_208_121 rfl ?_
            refine wp_icmp (t := 132) ji_208_123 rfl (by omega) (by omega) (fun (hb35 : ¬ (φ 9 : Int) = 45) => ?_) (fun (hb35 : ¬ (¬ (φ 9 : Int) = 45)) => ?_)
            · refine wp_s (pc' := 133) ji_208_132 rfl rfl rfl ?_
              refine wp_bp ji_208_133 rfl ?_
              refine wp_bp ji_208_135 rfl ?_
              refine wp_bp ji_208_137 rfl ?_
              refine wp_sc (as := [wp_i 110, wp_i 111, wp_i 116]) (rest := [.ref a]) ji_208_139 jc_208_122 (Nat.le_of_ble_eq_true rfl) rfl (Nat.le_of_ble_eq_true rfl) rfl (by rw [jn_188]; rfl) ws_w3 (fun v h R => ?_)
              obtain ⟨rfl, z36, rfl⟩ := R
              show wp_R (d + 1 + 1 + 1 + 1) 208 142 [some (.ref a), some (wp_i y)] [.long z36, .ref a] h _
              refine pv_vc V ji_208_142 jc_208_189 jk_190 (rest := []) rfl (Nat.le_of_ble_eq_true rfl) rfl (by rw [jn_190]; rfl) (ws_isWord V) (fun v h R => ?_)
              obtain ⟨rfl, y37, rfl, q38, q39⟩ := R
              show wp_R (d + 1 + 1 + 1 + 1) 208 145 [some (.ref a), some (wp_i y)] [wp_i y37] h _
              refine wp_if (t := 164) ji_208_145 rfl (by omega) (fun (hb40 : (y37 : Int) = 0) => ?_) (fun (hb40 : ¬ ((y37 : Int) = 0)) => ?_)
              · refine wp_s (pc' := 165) ji_208_164 rfl rfl rfl ?_
                exact wp_ri ji_208_165 jr_208 rfl ⟨1, rfl, Or.inl ⟨by omega, by omega, φ, pl, ts, pp pl p, _, _, V, hp, ⟨rfl, rfl, rfl, rfl, rfl⟩, hb.1, fun q => by have := hb.2 q; omega, Int.le_refl _⟩⟩
              · refine wp_s (pc' := 149) ji_208_148 rfl rfl rfl ?_
                refine pv_vc V ji_208_149 jc_208_193 jk_211 (rest := []) rfl (Nat.le_of_ble_eq_true rfl) rfl (by rw [jn_211]; rfl) (ws_ahead V h16) (fun v h R => ?_)
                obtain ⟨rfl, y41, rfl, q42, q43⟩ := R
                show wp_R (d + 1 + 1 + 1 + 1) 208 152 [some (.ref a), some (wp_i y)] [wp_i y41] h _
                refine wp_if (t := 164) ji_208_152 rfl (by omega) (fun (hb44 : (y41 : Int) = 0) => ?_) (fun (hb44 : ¬ ((y41 : Int) = 0)) => ?_)
                · refine wp_s (pc' := 165) ji_208_164 rfl rfl rfl ?_
                  exact wp_ri ji_208_165 jr_208 rfl ⟨1, rfl, Or.inl ⟨by omega, by omega, φ, pl, ts, pp pl p, _, _, V, hp, ⟨rfl, rfl, rfl, rfl, rfl⟩, hb.1, fun q => by have := hb.2 q; omega, Int.le_refl _⟩⟩
                · have hah := q43 (by omega)
                  have hL : po_L (pp pl p) := by
                    rcases hah.2.2 with e | ⟨x, r, e, e2⟩
                    · rw [e]; trivial
                    · rw [e] at hA ⊢; exact po_A_t hA (rk_i e2)
                  refine wp_s (pc' := 156) ji_208_155 rfl rfl rfl ?_
                  refine wp_bp ji_208_156 rfl ?_
                  refine pv_vc V ji_208_158 jc_208_186 jk_205 (rest := []) rfl (Nat.le_of_ble_eq_true rfl) rfl (by rw [jn_205]; rfl) (wp_up (by omega) (ws_opened (d := d) V hp (o := 20) (by omega) h154 (by omega))) (fun v h R => ?_)
                  rcases R with ⟨rfl, rfl⟩ | ⟨rfl, φ9, pl9, V, hp9, ⟨f1, f2, f3, f4, f5⟩, f18, f19, f6, f7⟩
                  · show wp_R (d + 1 + 1 + 1 + 1) 208 161 [some (.ref a), some (wp_i y)] [wp_i 3] h _
                    refine wp_goto (t := 165) ji_208_161 rfl ?_
                    exact wp_ri ji_208_165 jr_208 rfl ⟨3, rfl, Or.inl ⟨by omega, by omega, φ, pl, ts, pp pl p, _, _, V, hp, ⟨rfl, rfl, rfl, rfl, rfl⟩, hb.1, fun q => by have := hb.2 q; omega, Int.le_refl _⟩⟩
                  · show wp_R (d + 1 + 1 + 1 + 1) 208 161 [some (.ref a), some (wp_i y)] [wp_i 0] h _
                    refine wp_goto (t := 165) ji_208_161 rfl ?_
                    refine wp_ri ji_208_165 jr_208 rfl ⟨0, rfl, Or.inr (⟨rfl, by omega, φ9, pl9, ts, _, _, _, V, hp9, ⟨f1, f2, f3, f4, f5⟩, f6, f7, ?_, Or.inl ⟨by omega, ?_, ?_, ?_⟩⟩)⟩
                    · exact fun q => by omega
                    · exact Or.inr ⟨Or.inr (Or.inr (by omega)), hL⟩
                    · rw [f18, po_n_c, if_neg (by omega), if_neg (by omega), if_neg (by omega), Nat.zero_add]
                    · rw [po_t_c, if_neg (by omega), Nat.zero_add]
            · refine wp_s (pc' := 127) ji_208_126 rfl rfl rfl ?_
              refine wp_s (pc' := 128) ji_208_127 rfl rfl rfl ?_
              refine pv_vc V ji_208_128 jc_208_186 jk_205 (rest := []) rfl (Nat.le_of_ble_eq_true rfl) rfl (by rw [jn_205]; rfl) (wp_up (by omega) (ws_opened (d := d) V hp (o := 3) (by omega) h154 (by omega))) (fun v h R => ?_)
              rcases R with ⟨rfl, rfl⟩ | ⟨rfl, φ9, pl9, V, hp9, ⟨f1, f2, f3, f4, f5⟩, f18, f19, f6, f7⟩
              · show wp_R (d + 1 + 1 + 1 + 1) 208 131 [some (.ref a), some (wp_i y)] [wp_i 3] h _
                exact wp_ri ji_208_131 jr_208 rfl ⟨3, rfl, Or.inl ⟨by omega, by omega, φ, pl, ts, pp pl p, _, _, V, hp, ⟨rfl, rfl, rfl, rfl, rfl⟩, hb.1, fun q => by have := hb.2 q; omega, Int.le_refl _⟩⟩
              · show wp_R (d + 1 + 1 + 1 + 1) 208 131 [some (.ref a), some (wp_i y)] [wp_i 0] h _
                refine wp_ri ji_208_131 jr_208 rfl ⟨0, rfl, Or.inr (⟨rfl, by omega, φ9, pl9, ts, _, _, _, V, hp9, ⟨f1, f2, f3, f4, f5⟩, f6, f7, ?_, Or.inl ⟨by omega, ?_, ?_, ?_⟩⟩)⟩
                · intro q x hx
                  rcases List.mem_cons.mp hx with e | e
                  · omega
                  · exact hm.1 (by omega) x e
                · exact Or.inl ⟨by omega, hA⟩
                · rw [f18, po_n_c, if_neg (by omega), if_neg (by omega), if_neg (by omega), Nat.zero_add]
                · rw [po_t_c, if_neg (by omega), Nat.zero_add]
          · refine wp_s (pc' := 111) ji_208_110 rfl rfl rfl ?_
            refine wp_bp ji_208_111 rfl ?_
            refine pv_vc V ji_208_113 jc_208_186 jk_205 (rest := []) rfl (Nat.le_of_ble_eq_true rfl) rfl (by rw [jn_205]; rfl) (wp_up (by omega) (ws_opened (d := d) V hp (o := 40) (by omega) h154 (by omega))) (fun v h R => ?_)
            rcases R with ⟨rfl, rfl⟩ | ⟨rfl, φ9, pl9, V, hp9, ⟨f1, f2, f3, f4, f5⟩, f18, f19, f6, f7⟩
            · show wp_R (d + 1 + 1 + 1 + 1) 208 116 [some (.ref a), some (wp_i y)] [wp_i 3] h _
              exact wp_ri ji_208_116 jr_208 rfl ⟨3, rfl, Or.inl ⟨by omega, by omega, φ, pl, ts, pp pl p, _, _, V, hp, ⟨rfl, rfl, rfl, rfl, rfl⟩, hb.1, fun q => by have := hb.2 q; omega, Int.le_refl _⟩⟩
            · show wp_R (d + 1 + 1 + 1 + 1) 208 116 [some (.ref a), some (wp_i y)] [wp_i 0] h _
              refine wp_ri ji_208_116 jr_208 rfl ⟨0, rfl, Or.inr (⟨rfl, by omega, φ9, pl9, ts, _, _, _, V, hp9, ⟨f1, f2, f3, f4, f5⟩, f6, f7, ?_, Or.inl ⟨by omega, ?_, ?_, ?_⟩⟩)⟩
              · intro q x hx
                rcases List.mem_cons.mp hx with e | e
                · omega
                · exact hm.1 (by omega) x e
              · exact Or.inl ⟨by omega, hA⟩
              · rw [f18, po_n_c, if_neg (by omega), if_neg (by omega), if_neg (by omega), Nat.zero_add]
              · rw [po_t_c, if_neg (by omega), Nat.zero_add]
        · refine wp_s (pc' := 52) ji_208_51 rfl rfl rfl ?_
          refine wp_s (pc' := 53) ji_208_52 rfl rfl rfl ?_
          refine pv_gi V ji_208_53 jf_208_95 (by decide) pf_9 (y := φ 9) rfl (fun l45 u46 => ?_)
          refine wp_s (pc' := 57) ji_208_56 rfl rfl rfl ?_
          refine wp_icmp (t := 64) ji_208_57 rfl (by omega) (by omega) (fun (hb47 : ¬ (φ 9 : Int) = 1) => ?_) (fun (hb47 : ¬ (¬ (φ 9 : Int) = 1)) => ?_)
          · refine wp_s (pc' := 65) ji_208_64 rfl rfl rfl ?_
            refine wp_s (pc' := 66) ji_208_65 rfl rfl rfl ?_
            refine pv_gi V ji_208_66 jf_208_95 (by decide) pf_9 (y := φ 9) rfl (fun l48 u49 => ?_)
            refine wp_s (pc' := 70) ji_208_69 rfl rfl rfl ?_
            refine wp_icmp (t := 80) ji_208_70 rfl (by omega) (by omega) (fun (hb50 : ¬ (φ 9 : Int) = 1) => ?_) (fun (hb50 : ¬ (¬ (φ 9 : Int) = 1)) => ?_)
            · refine wp_s (pc' := 81) ji_208_80 rfl rfl rfl ?_
              refine pv_vc V ji_208_81 jc_208_153 jk_203 (rest := []) rfl (Nat.le_of_ble_eq_true rfl) rfl (by rw [jn_203]; rfl) (ws_emit V (s := s) (w := w) (o := 1) (v := y) hw h12 hs (by omega) (by omega) (by omega) hj) (fun v h R => ?_)
              obtain ⟨rfl, V, hj2⟩ := R
              show wp_R (d + 1 + 1 + 1 + 1) 208 84 [some (.ref a), some (wp_i y)] [] h _
              refine wp_s (pc' := 85) ji_208_84 rfl rfl rfl ?_
              refine pv_vc V ji_208_85 jc_208_171 jk_178 (rest := []) rfl (Nat.le_of_ble_eq_true rfl) rfl (by rw [jn_178]; rfl) (ws_next (by omega) V) (fun v h R => ?_)
              obtain ⟨rfl, φ51, V, hf51, ha51, hb51⟩ := R
              have e51_4 : φ51 4 = φ 4 := hf51 4 (by decide) (by decide) (by decide) (by decide)
              have e51_12 : φ51 12 = φ 12 := hf51 12 (by decide) (by decide) (by decide) (by decide)
              have e51_13 : φ51 13 = (w : Int) + 1 := hf51 13 (by decide) (by decide) (by decide) (by decide)
              have e51_14 : φ51 14 = φ 14 := hf51 14 (by decide) (by decide) (by decide) (by decide)
              have e51_16 : φ51 16 = φ 16 := hf51 16 (by decide) (by decide) (by decide) (by decide)
              have e51_17 : φ51 17 = φ 17 := hf51 17 (by decide) (by decide) (by decide) (by decide)
              have e51_18 : φ51 18 = φ 18 := hf51 18 (by decide) (by decide) (by decide) (by decide)
              have e51_19 : φ51 19 = φ 19 := hf51 19 (by decide) (by decide) (by decide) (by decide)
              have e51_20 : φ51 20 = φ 20 := hf51 20 (by decide) (by decide) (by decide) (by decide)
              have e51_21 : φ51 21 = φ 21 := hf51 21 (by decide) (by decide) (by decide) (by decide)
              have a51 : φ 7 ≤ φ51 7 := ha51
              have b51 : ¬ φ51 9 = 0 → φ 7 + 1 ≤ φ51 7 := hb51
              show wp_R (d + 1 + 1 + 1 + 1) 208 88 [some (.ref a), some (wp_i y)] [] h _
              refine wp_s (pc' := 89) ji_208_88 rfl rfl rfl ?_
              refine wp_s (pc' := 90) ji_208_89 rfl rfl rfl ?_
              refine pv_pi V ji_208_90 jf_208_180 (by decide) pf_19 (by decide) (by decide) (by decide) (by omega) (by omega) (by omega) rfl rfl (fun h V => ?_)
              refine wp_s (pc' := 94) ji_208_93 rfl rfl rfl ?_
              refine wp_bp ji_208_94 rfl ?_
              obtain ⟨l1, hse, hA1, ⟨k1, hk1⟩, -, -⟩ := se_V (least := 7) (by omega) (am := (φ 18).toNat) hA (fun q => by omega)
              have hps : ps t0 (pv_u φ51 19 1) pl (em_t ts s w 1 y) s c0 (pp pl p) (po_n (φ 18).toNat (pp pl p) + 1) (po_t (pp pl p)) := ps_val hp hw htl (by omega) (show φ51 12 = _ by omega) (show φ51 13 = _ by omega) (show φ51 16 = _ by omega) (show φ51 17 = _ by omega) hj2 (by omega) (by omega)
              refine pv_vc V ji_208_96 jc_208_183 jk_202 (rest := []) rfl (Nat.le_of_ble_eq_true rfl) rfl (by rw [jn_202]; rfl) (ws_settle (least := 7) (by omega) _ _ _ _ _ _ V hps (show φ51 13 + (φ51 16) ≤ 300 by omega) hse) (fun v h R => ?_)
              obtain ⟨rfl, φ52, ts52, V, hp52, hf52, hs52⟩ := R
              have e52_4 : φ52 4 = φ51 4 := hf52 4 (by decide) (by decide) (by decide)
              have e52_7 : φ52 7 = φ51 7 := hf52 7 (by decide) (by decide) (by decide)
              have e52_9 : φ52 9 = φ51 9 := hf52 9 (by decide) (by decide) (by decide)
              have e52_10 : φ52 10 = φ51 10 := hf52 10 (by decide) (by decide) (by decide)
              have e52_12 : φ52 12 = φ51 12 := hf52 12 (by decide) (by decide) (by decide)
              have e52_14 : φ52 14 = φ51 14 := hf52 14 (by decide) (by decide) (by decide)
              have e52_18 : φ52 18 = φ51 18 := hf52 18 (by decide) (by decide) (by decide)
              have e52_19 : φ52 19 = 1 := hf52 19 (by decide) (by decide) (by decide)
              have e52_20 : φ52 20 = φ51 20 := hf52 20 (by decide) (by decide) (by decide)
              have e52_21 : φ52 21 = φ51 21 := hf52 21 (by decide) (by decide) (by decide)
              have s52 : φ52 13 + φ52 16 ≤ φ51 13 + (φ51 16) := hs52
              have hlen52 := ps_len hp52
              show wp_R (d + 1 + 1 + 1 + 1) 208 99 [some (.ref a), some (wp_i y)] [] h _
              refine wp_s (pc' := 100) ji_208_99 rfl rfl rfl ?_
              exact wp_ri ji_208_100 jr_208 rfl ⟨0, rfl, Or.inr (⟨rfl, by omega, φ52, pl, _, l1, _, _, V, hp52, ⟨by omega, by omega, by omega, by omega, by omega⟩, ⟨by omega, fun q => by have := b51 (by omega); omega⟩, ⟨by omega, fun q => by have := b51 (by omega); omega⟩, fun q x hx => hm.1 (by omega) x (by rw [hk1] at hx; exact List.mem_of_mem_drop hx), Or.inr (Or.inl ⟨by omega, hA1, by rw [show (φ52 18).toNat = (φ 18).toNat by omega], rfl⟩)⟩)⟩
            · refine wp_s (pc' := 74) ji_208_73 rfl rfl rfl ?_
              refine pv_gi V ji_208_74 jf_208_102 (by decide) pf_10 (y := φ 10) rfl (fun l53 u54 => ?_)
              refine wp_goto (t := 81) ji_208_77 rfl ?_
              refine pv_vc V ji_208_81 jc_208_153 jk_203 (rest := []) rfl (Nat.le_of_ble_eq_true rfl) rfl (by rw [jn_203]; rfl) (ws_emit V (s := s) (w := w) (o := 1) (v := φ 10) hw h12 hs (by omega) (by omega) (by omega) hj) (fun v h R => ?_)
              obtain ⟨rfl, V, hj2⟩ := R
              show wp_R (d + 1 + 1 + 1 + 1) 208 84 [some (.ref a), some (wp_i y)] [] h _
              refine wp_s (pc' := 85) ji_208_84 rfl rfl rfl ?_
              refine pv_vc V ji_208_85 jc_208_171 jk_178 (rest := []) rfl (Nat.le_of_ble_eq_true rfl) rfl (by rw [jn_178]; rfl) (ws_next (by omega) V) (fun v h R => ?_)
              obtain ⟨rfl, φ55, V, hf55, ha55, hb55⟩ := R
              have e55_4 : φ55 4 = φ 4 := hf55 4 (by decide) (by decide) (by decide) (by decide)
              have e55_12 : φ55 12 = φ 12 := hf55 12 (by decide) (by decide) (by decide) (by decide)
              have e55_13 : φ55 13 = (w : Int) + 1 := hf55 13 (by decide) (by decide) (by decide) (by decide)
              have e55_14 : φ55 14 = φ 14 := hf55 14 (by decide) (by decide) (by decide) (by decide)
              have e55_16 : φ55 16 = φ 16 := hf55 16 (by decide) (by decide) (by decide) (by decide)
              have e55_17 : φ55 17 = φ 17 := hf55 17 (by decide) (by decide) (by decide) (by decide)
              have e55_18 : φ55 18 = φ 18 := hf55 18 (by decide) (by decide) (by decide) (by decide)
              have e55_19 : φ55 19 = φ 19 := hf55 19 (by decide) (by decide) (by decide) (by decide)
              have e55_20 : φ55 20 = φ 20 := hf55 20 (by decide) (by decide) (by decide) (by decide)
              have e55_21 : φ55 21 = φ 21 := hf55 21 (by decide) (by decide) (by decide) (by decide)
              have a55 : φ 7 ≤ φ55 7 := ha55
              have b55 : ¬ φ55 9 = 0 → φ 7 + 1 ≤ φ55 7 := hb55
              show wp_R (d + 1 + 1 + 1 + 1) 208 88 [some (.ref a), some (wp_i y)] [] h _
              refine wp_s (pc' := 89) ji_208_88 rfl rfl rfl ?_
              refine wp_s (pc' := 90) ji_208_89 rfl rfl rfl ?_
              refine pv_pi V ji_208_90 jf_208_180 (by decide) pf_19 (by decide) (by decide) (by decide) (by omega) (by omega) (by omega) rfl rfl (fun h V => ?_)
              refine wp_s (pc' := 94) ji_208_93 rfl rfl rfl ?_
              refine wp_bp ji_208_94 rfl ?_
              obtain ⟨l1, hse, hA1, ⟨k1, hk1⟩, -, -⟩ := se_V (least := 7) (by omega) (am := (φ 18).toNat) hA (fun q => by omega)
              have hps : ps t0 (pv_u φ55 19 1) pl (em_t ts s w 1 (φ 10)) s c0 (pp pl p) (po_n (φ 18).toNat (pp pl p) + 1) (po_t (pp pl p)) := ps_val hp hw htl (by omega) (show φ55 12 = _ by omega) (show φ55 13 = _ by omega) (show φ55 16 = _ by omega) (show φ55 17 = _ by omega) hj2 (by omega) (by omega)
              refine pv_vc V ji_208_96 jc_208_183 jk_202 (rest := []) rfl (Nat.le_of_ble_eq_true rfl) rfl (by rw [jn_202]; rfl) (ws_settle (least := 7) (by omega) _ _ _ _ _ _ V hps (show φ55 13 + (φ55 16) ≤ 300 by omega) hse) (fun v h R => ?_)
              obtain ⟨rfl, φ56, ts56, V, hp56, hf56, hs56⟩ := R
              have e56_4 : φ56 4 = φ55 4 := hf56 4 (by decide) (by decide) (by decide)
              have e56_7 : φ56 7 = φ55 7 := hf56 7 (by decide) (by decide) (by decide)
              have e56_9 : φ56 9 = φ55 9 := hf56 9 (by decide) (by decide) (by decide)
              have e56_10 : φ56 10 = φ55 10 := hf56 10 (by decide) (by decide) (by decide)
              have e56_12 : φ56 12 = φ55 12 := hf56 12 (by decide) (by decide) (by decide)
              have e56_14 : φ56 14 = φ55 14 := hf56 14 (by decide) (by decide) (by decide)
              have e56_18 : φ56 18 = φ55 18 := hf56 18 (by decide) (by decide) (by decide)
              have e56_19 : φ56 19 = 1 := hf56 19 (by decide) (by decide) (by decide)
              have e56_20 : φ56 20 = φ55 20 := hf56 20 (by decide) (by decide) (by decide)
              have e56_21 : φ56 21 = φ55 21 := hf56 21 (by decide) (by decide) (by decide)
              have s56 : φ56 13 + φ56 16 ≤ φ55 13 + (φ55 16) := hs56
              have hlen56 := ps_len hp56
              show wp_R (d + 1 + 1 + 1 + 1) 208 99 [some (.ref a), some (wp_i y)] [] h _
              refine wp_s (pc' := 100) ji_208_99 rfl rfl rfl ?_
              exact wp_ri ji_208_100 jr_208 rfl ⟨0, rfl, Or.inr (⟨rfl, by omega, φ56, pl, _, l1, _, _, V, hp56, ⟨by omega, by omega, by omega, by omega, by omega⟩, ⟨by omega, fun q => by have := b55 (by omega); omega⟩, ⟨by omega, fun q => by have := b55 (by omega); omega⟩, fun q x hx => hm.1 (by omega) x (by rw [hk1] at hx; exact List.mem_of_mem_drop hx), Or.inr (Or.inl ⟨by omega, hA1, by rw [show (φ56 18).toNat = (φ 18).toNat by omega], rfl⟩)⟩)⟩
          · refine wp_s (pc' := 61) ji_208_60 rfl rfl rfl ?_
            refine wp_goto (t := 65) ji_208_61 rfl ?_
            refine wp_s (pc' := 66) ji_208_65 rfl rfl rfl ?_
            refine pv_gi V ji_208_66 jf_208_95 (by decide) pf_9 (y := φ 9) rfl (fun l57 u58 => ?_)
            refine wp_s (pc' := 70) ji_208_69 rfl rfl rfl ?_
            refine wp_icmp (t := 80) ji_208_70 rfl (by omega) (by omega) (fun (hb59 : ¬ (φ 9 : Int) = 1) => ?_) (fun (hb59 : ¬ (¬ (φ 9 : Int) = 1)) => ?_)
            · refine wp_s (pc' := 81) ji_208_80 rfl rfl rfl ?_
              refine pv_vc V ji_208_81 jc_208_153 jk_203 (rest := []) rfl (Nat.le_of_ble_eq_true rfl) rfl (by rw [jn_203]; rfl) (ws_emit V (s := s) (w := w) (o := 0) (v := y) hw h12 hs (by omega) (by omega) (by omega) hj) (fun v h R => ?_)
              obtain ⟨rfl, V, hj2⟩ := R
              show wp_R (d + 1 + 1 + 1 + 1) 208 84 [some (.ref a), some (wp_i y)] [] h _
              refine wp_s (pc' := 85) ji_208_84 rfl rfl rfl ?_
              refine pv_vc V ji_208_85 jc_208_171 jk_178 (rest := []) rfl (Nat.le_of_ble_eq_true rfl) rfl (by rw [jn_178]; rfl) (ws_next (by omega) V) (fun v h R => ?_)
              obtain ⟨rfl, φ60, V, hf60, ha60, hb60⟩ := R
              have e60_4 : φ60 4 = φ 4 := hf60 4 (by decide) (by decide) (by decide) (by decide)
              have e60_12 : φ60 12 = φ 12 := hf60 12 (by decide) (by decide) (by decide) (by decide)
              have e60_13 : φ60 13 = (w : Int) + 1 := hf60 13 (by decide) (by decide) (by decide) (by decide)
              have e60_14 : φ60 14 = φ 14 := hf60 14 (by decide) (by decide) (by decide) (by decide)
              have e60_16 : φ60 16 = φ 16 := hf60 16 (by decide) (by decide) (by decide) (by decide)
              have e60_17 : φ60 17 = φ 17 := hf60 17 (by decide) (by decide) (by decide) (by decide)
              have e60_18 : φ60 18 = φ 18 := hf60 18 (by decide) (by decide) (by decide) (by decide)
              have e60_19 : φ60 19 = φ 19 := hf60 19 (by decide) (by decide) (by decide) (by decide)
              have e60_20 : φ60 20 = φ 20 := hf60 20 (by decide) (by decide) (by decide) (by decide)
              have e60_21 : φ60 21 = φ 21 := hf60 21 (by decide) (by decide) (by decide) (by decide)
              have a60 : φ 7 ≤ φ60 7 := ha60
              have b60 : ¬ φ60 9 = 0 → φ 7 + 1 ≤ φ60 7 := hb60
              show wp_R (d + 1 + 1 + 1 + 1) 208 88 [some (.ref a), some (wp_i y)] [] h _
              refine wp_s (pc' := 89) ji_208_88 rfl rfl rfl ?_
              refine wp_s (pc' := 90) ji_208_89 rfl rfl rfl ?_
              refine pv_pi V ji_208_90 jf_208_180 (by decide) pf_19 (by decide) (by decide) (by decide) (by omega) (by omega) (by omega) rfl rfl (fun h V => ?_)
              refine wp_s (pc' := 94) ji_208_93 rfl rfl rfl ?_
              refine wp_bp ji_208_94 rfl ?_
              obtain ⟨l1, hse, hA1, ⟨k1, hk1⟩, -, -⟩ := se_V (least := 7) (by omega) (am := (φ 18).toNat) hA (fun q => by omega)
              have hps : ps t0 (pv_u φ60 19 1) pl (em_t ts s w 0 y) s c0 (pp pl p) (po_n (φ 18).toNat (pp pl p) + 1) (po_t (pp pl p)) := ps_val hp hw htl (by omega) (show φ60 12 = _ by omega) (show φ60 13 = _ by omega) (show φ60 16 = _ by omega) (show φ60 17 = _ by omega) hj2 (by omega) (by omega)
              refine pv_vc V ji_208_96 jc_208_183 jk_202 (rest := []) rfl (Nat.le_of_ble_eq_true rfl) rfl (by rw [jn_202]; rfl) (ws_settle (least := 7) (by omega) _ _ _ _ _ _ V hps (show φ60 13 + (φ60 16) ≤ 300 by omega) hse) (fun v h R => ?_)
              obtain ⟨rfl, φ61, ts61, V, hp61, hf61, hs61⟩ := R
              have e61_4 : φ61 4 = φ60 4 := hf61 4 (by decide) (by decide) (by decide)
              have e61_7 : φ61 7 = φ60 7 := hf61 7 (by decide) (by decide) (by decide)
              have e61_9 : φ61 9 = φ60 9 := hf61 9 (by decide) (by decide) (by decide)
              have e61_10 : φ61 10 = φ60 10 := hf61 10 (by decide) (by decide) (by decide)
              have e61_12 : φ61 12 = φ60 12 := hf61 12 (by decide) (by decide) (by decide)
              have e61_14 : φ61 14 = φ60 14 := hf61 14 (by decide) (by decide) (by decide)
              have e61_18 : φ61 18 = φ60 18 := hf61 18 (by decide) (by decide) (by decide)
              have e61_19 : φ61 19 = 1 := hf61 19 (by decide) (by decide) (by decide)
              have e61_20 : φ61 20 = φ60 20 := hf61 20 (by decide) (by decide) (by decide)
              have e61_21 : φ61 21 = φ60 21 := hf61 21 (by decide) (by decide) (by decide)
              have s61 : φ61 13 + φ61 16 ≤ φ60 13 + (φ60 16) := hs61
              have hlen61 := ps_len hp61
              show wp_R (d + 1 + 1 + 1 + 1) 208 99 [some (.ref a), some (wp_i y)] [] h _
              refine wp_s (pc' := 100) ji_208_99 rfl rfl rfl ?_
              exact wp_ri ji_208_100 jr_208 rfl ⟨0, rfl, Or.inr (⟨rfl, by omega, φ61, pl, _, l1, _, _, V, hp61, ⟨by omega, by omega, by omega, by omega, by omega⟩, ⟨by omega, fun q => by have := b60 (by omega); omega⟩, ⟨by omega, fun q => by have := b60 (by omega); omega⟩, fun q x hx => hm.1 (by omega) x (by rw [hk1] at hx; exact List.mem_of_mem_drop hx), Or.inr (Or.inl ⟨by omega, hA1, by rw [show (φ61 18).toNat = (φ 18).toNat by omega], rfl⟩)⟩)⟩
            · refine wp_s (pc' := 74) ji_208_73 rfl rfl rfl ?_
              refine pv_gi V ji_208_74 jf_208_102 (by decide) pf_10 (y := φ 10) rfl (fun l62 u63 => ?_)
              refine wp_goto (t := 81) ji_208_77 rfl ?_
              refine pv_vc V ji_208_81 jc_208_153 jk_203 (rest := []) rfl (Nat.le_of_ble_eq_true rfl) rfl (by rw [jn_203]; rfl) (ws_emit V (s := s) (w := w) (o := 0) (v := φ 10) hw h12 hs (by omega) (by omega) (by omega) hj) (fun v h R => ?_)
              obtain ⟨rfl, V, hj2⟩ := R
              show wp_R (d + 1 + 1 + 1 + 1) 208 84 [some (.ref a), some (wp_i y)] [] h _
              refine wp_s (pc' := 85) ji_208_84 rfl rfl rfl ?_
              refine pv_vc V ji_208_85 jc_208_171 jk_178 (rest := []) rfl (Nat.le_of_ble_eq_true rfl) rfl (by rw [jn_178]; rfl) (ws_next (by omega) V) (fun v h R => ?_)
              obtain ⟨rfl, φ64, V, hf64, ha64, hb64⟩ := R
              have e64_4 : φ64 4 = φ 4 := hf64 4 (by decide) (by decide) (by decide) (by decide)
              have e64_12 : φ64 12 = φ 12 := hf64 12 (by decide) (by decide) (by decide) (by decide)
              have e64_13 : φ64 13 = (w : Int) + 1 := hf64 13 (by decide) (by decide) (by decide) (by decide)
              have e64_14 : φ64 14 = φ 14 := hf64 14 (by decide) (by decide) (by decide) (by decide)
              have e64_16 : φ64 16 = φ 16 := hf64 16 (by decide) (by decide) (by decide) (by decide)
              have e64_17 : φ64 17 = φ 17 := hf64 17 (by decide) (by decide) (by decide) (by decide)
              have e64_18 : φ64 18 = φ 18 := hf64 18 (by decide) (by decide) (by decide) (by decide)
              have e64_19 : φ64 19 = φ 19 := hf64 19 (by decide) (by decide) (by decide) (by decide)
              have e64_20 : φ64 20 = φ 20 := hf64 20 (by decide) (by decide) (by decide) (by decide)
              have e64_21 : φ64 21 = φ 21 := hf64 21 (by decide) (by decide) (by decide) (by decide)
              have a64 : φ 7 ≤ φ64 7 := ha64
              have b64 : ¬ φ64 9 = 0 → φ 7 + 1 ≤ φ64 7 := hb64
              show wp_R (d + 1 + 1 + 1 + 1) 208 88 [some (.ref a), some (wp_i y)] [] h _
              refine wp_s (pc' := 89) ji_208_88 rfl rfl rfl ?_
              refine wp_s (pc' := 90) ji_208_89 rfl rfl rfl ?_
              refine pv_pi V ji_208_90 jf_208_180 (by decide) pf_19 (by decide) (by decide) (by decide) (by omega) (by omega) (by omega) rfl rfl (fun h V => ?_)
              refine wp_s (pc' := 94) ji_208_93 rfl rfl rfl ?_
              refine wp_bp ji_208_94 rfl ?_
              obtain ⟨l1, hse, hA1, ⟨k1, hk1⟩, -, -⟩ := se_V (least := 7) (by omega) (am := (φ 18).toNat) hA (fun q => by omega)
              have hps : ps t0 (pv_u φ64 19 1) pl (em_t ts s w 0 (φ 10)) s c0 (pp pl p) (po_n (φ 18).toNat (pp pl p) + 1) (po_t (pp pl p)) := ps_val hp hw htl (by omega) (show φ64 12 = _ by omega) (show φ64 13 = _ by omega) (show φ64 16 = _ by omega) (show φ64 17 = _ by omega) hj2 (by omega) (by omega)
              refine pv_vc V ji_208_96 jc_208_183 jk_202 (rest := []) rfl (Nat.le_of_ble_eq_true rfl) rfl (by rw [jn_202]; rfl) (ws_settle (least := 7) (by omega) _ _ _ _ _ _ V hps (show φ64 13 + (φ64 16) ≤ 300 by omega) hse) (fun v h R => ?_)
              obtain ⟨rfl, φ65, ts65, V, hp65, hf65, hs65⟩ := R
              have e65_4 : φ65 4 = φ64 4 := hf65 4 (by decide) (by decide) (by decide)
              have e65_7 : φ65 7 = φ64 7 := hf65 7 (by decide) (by decide) (by decide)
              have e65_9 : φ65 9 = φ64 9 := hf65 9 (by decide) (by decide) (by decide)
              have e65_10 : φ65 10 = φ64 10 := hf65 10 (by decide) (by decide) (by decide)
              have e65_12 : φ65 12 = φ64 12 := hf65 12 (by decide) (by decide) (by decide)
              have e65_14 : φ65 14 = φ64 14 := hf65 14 (by decide) (by decide) (by decide)
              have e65_18 : φ65 18 = φ64 18 := hf65 18 (by decide) (by decide) (by decide)
              have e65_19 : φ65 19 = 1 := hf65 19 (by decide) (by decide) (by decide)
              have e65_20 : φ65 20 = φ64 20 := hf65 20 (by decide) (by decide) (by decide)
              have e65_21 : φ65 21 = φ64 21 := hf65 21 (by decide) (by decide) (by decide)
              have s65 : φ65 13 + φ65 16 ≤ φ64 13 + (φ64 16) := hs65
              have hlen65 := ps_len hp65
              show wp_R (d + 1 + 1 + 1 + 1) 208 99 [some (.ref a), some (wp_i y)] [] h _
              refine wp_s (pc' := 100) ji_208_99 rfl rfl rfl ?_
              exact wp_ri ji_208_100 jr_208 rfl ⟨0, rfl, Or.inr (⟨rfl, by omega, φ65, pl, _, l1, _, _, V, hp65, ⟨by omega, by omega, by omega, by omega, by omega⟩, ⟨by omega, fun q => by have := b64 (by omega); omega⟩, ⟨by omega, fun q => by have := b64 (by omega); omega⟩, fun q x hx => hm.1 (by omega) x (by rw [hk1] at hx; exact List.mem_of_mem_drop hx), Or.inr (Or.inl ⟨by omega, hA1, by rw [show (φ65 18).toNat = (φ 18).toNat by omega], rfl⟩)⟩)⟩
    · refine wp_s (pc' := 30) ji_208_29 rfl rfl rfl ?_
      refine wp_s (pc' := 31) ji_208_30 rfl rfl rfl ?_
      refine pv_vc V ji_208_31 jc_208_177 jk_210 (rest := []) rfl (Nat.le_of_ble_eq_true rfl) rfl (by rw [jn_210]; rfl) (ws_isOf (fun d1 hd1 => IH d1 (by omega)) V (by omega)) (fun v h R => ?_)
      obtain ⟨V, y66, rfl, q67⟩ := R
      show wp_R (d + 1 + 1 + 1 + 1) 208 34 [some (.ref a), some (wp_i y)] [wp_i y66] h _
      refine wp_if (t := 39) ji_208_34 rfl (by omega) (fun (hb68 : ¬ (y66 : Int) = 0) => ?_) (fun (hb68 : ¬ (¬ (y66 : Int) = 0)) => ?_)
      · refine wp_s (pc' := 40) ji_208_39 rfl rfl rfl ?_
        refine pv_gi V ji_208_40 jf_208_95 (by decide) pf_9 (y := φ 9) rfl (fun l69 u70 => ?_)
        refine wp_s (pc' := 44) ji_208_43 rfl rfl rfl ?_
        refine wp_icmp (t := 51) ji_208_44 rfl (by omega) (by omega) (fun (hb71 : (φ 9 : Int) = 1) => ?_) (fun (hb71 : ¬ ((φ 9 : Int) = 1)) => ?_)
        · refine wp_s (pc' := 52) ji_208_51 rfl rfl rfl ?_
          refine wp_s (pc' := 53) ji_208_52 rfl rfl rfl ?_
          refine pv_gi V ji_208_53 jf_208_95 (by decide) pf_9 (y := φ 9) rfl (fun l72 u73 => ?_)
          refine wp_s (pc' := 57) ji_208_56 rfl rfl rfl ?_
          refine wp_icmp (t := 64) ji_208_57 rfl (by omega) (by omega) (fun (hb74 : ¬ (φ 9 : Int) = 1) => ?_) (fun (hb74 : ¬ (¬ (φ 9 : Int) = 1)) => ?_)
          · refine wp_s (pc' := 65) ji_208_64 rfl rfl rfl ?_
            refine wp_s (pc' := 66) ji_208_65 rfl rfl rfl ?_
            refine pv_gi V ji_208_66 jf_208_95 (by decide) pf_9 (y := φ 9) rfl (fun l75 u76 => ?_)
            refine wp_s (pc' := 70) ji_208_69 rfl rfl rfl ?_
            refine wp_icmp (t := 80) ji_208_70 rfl (by omega) (by omega) (fun (hb77 : ¬ (φ 9 : Int) = 1) => ?_) (fun (hb77 : ¬ (¬ (φ 9 : Int) = 1)) => ?_)
            · refine wp_s (pc' := 81) ji_208_80 rfl rfl rfl ?_
              refine pv_vc V ji_208_81 jc_208_153 jk_203 (rest := []) rfl (Nat.le_of_ble_eq_true rfl) rfl (by rw [jn_203]; rfl) (ws_emit V (s := s) (w := w) (o := 1) (v := y) hw h12 hs (by omega) (by omega) (by omega) hj) (fun v h R => ?_)
              obtain ⟨rfl, V, hj2⟩ := R
              show wp_R (d + 1 + 1 + 1 + 1) 208 84 [some (.ref a), some (wp_i y)] [] h _
              refine wp_s (pc' := 85) ji_208_84 rfl rfl rfl ?_
              refine pv_vc V ji_208_85 jc_208_171 jk_178 (rest := []) rfl (Nat.le_of_ble_eq_true rfl) rfl (by rw [jn_178]; rfl) (ws_next (by omega) V) (fun v h R => ?_)
              obtain ⟨rfl, φ78, V, hf78, ha78, hb78⟩ := R
              have e78_4 : φ78 4 = φ 4 := hf78 4 (by decide) (by decide) (by decide) (by decide)
              have e78_12 : φ78 12 = φ 12 := hf78 12 (by decide) (by decide) (by decide) (by decide)
              have e78_13 : φ78 13 = (w : Int) + 1 := hf78 13 (by decide) (by decide) (by decide) (by decide)
              have e78_14 : φ78 14 = φ 14 := hf78 14 (by decide) (by decide) (by decide) (by decide)
              have e78_16 : φ78 16 = φ 16 := hf78 16 (by decide) (by decide) (by decide) (by decide)
              have e78_17 : φ78 17 = φ 17 := hf78 17 (by decide) (by decide) (by decide) (by decide)
              have e78_18 : φ78 18 = φ 18 := hf78 18 (by decide) (by decide) (by decide) (by decide)
              have e78_19 : φ78 19 = φ 19 := hf78 19 (by decide) (by decide) (by decide) (by decide)
              have e78_20 : φ78 20 = φ 20 := hf78 20 (by decide) (by decide) (by decide) (by decide)
              have e78_21 : φ78 21 = φ 21 := hf78 21 (by decide) (by decide) (by decide) (by decide)
              have a78 : φ 7 ≤ φ78 7 := ha78
              have b78 : ¬ φ78 9 = 0 → φ 7 + 1 ≤ φ78 7 := hb78
              show wp_R (d + 1 + 1 + 1 + 1) 208 88 [some (.ref a), some (wp_i y)] [] h _
              refine wp_s (pc' := 89) ji_208_88 rfl rfl rfl ?_
              refine wp_s (pc' := 90) ji_208_89 rfl rfl rfl ?_
              refine pv_pi V ji_208_90 jf_208_180 (by decide) pf_19 (by decide) (by decide) (by decide) (by omega) (by omega) (by omega) rfl rfl (fun h V => ?_)
              refine wp_s (pc' := 94) ji_208_93 rfl rfl rfl ?_
              refine wp_bp ji_208_94 rfl ?_
              obtain ⟨l1, hse, hA1, ⟨k1, hk1⟩, -, -⟩ := se_V (least := 7) (by omega) (am := (φ 18).toNat) hA (fun q => by omega)
              have hps : ps t0 (pv_u φ78 19 1) pl (em_t ts s w 1 y) s c0 (pp pl p) (po_n (φ 18).toNat (pp pl p) + 1) (po_t (pp pl p)) := ps_val hp hw htl (by omega) (show φ78 12 = _ by omega) (show φ78 13 = _ by omega) (show φ78 16 = _ by omega) (show φ78 17 = _ by omega) hj2 (by omega) (by omega)
              refine pv_vc V ji_208_96 jc_208_183 jk_202 (rest := []) rfl (Nat.le_of_ble_eq_true rfl) rfl (by rw [jn_202]; rfl) (ws_settle (least := 7) (by omega) _ _ _ _ _ _ V hps (show φ78 13 + (φ78 16) ≤ 300 by omega) hse) (fun v h R => ?_)
              obtain ⟨rfl, φ79, ts79, V, hp79, hf79, hs79⟩ := R
              have e79_4 : φ79 4 = φ78 4 := hf79 4 (by decide) (by decide) (by decide)
              have e79_7 : φ79 7 = φ78 7 := hf79 7 (by decide) (by decide) (by decide)
              have e79_9 : φ79 9 = φ78 9 := hf79 9 (by decide) (by decide) (by decide)
              have e79_10 : φ79 10 = φ78 10 := hf79 10 (by decide) (by decide) (by decide)
              have e79_12 : φ79 12 = φ78 12 := hf79 12 (by decide) (by decide) (by decide)
              have e79_14 : φ79 14 = φ78 14 := hf79 14 (by decide) (by decide) (by decide)
              have e79_18 : φ79 18 = φ78 18 := hf79 18 (by decide) (by decide) (by decide)
              have e79_19 : φ79 19 = 1 := hf79 19 (by decide) (by decide) (by decide)
              have e79_20 : φ79 20 = φ78 20 := hf79 20 (by decide) (by decide) (by decide)
              have e79_21 : φ79 21 = φ78 21 := hf79 21 (by decide) (by decide) (by decide)
              have s79 : φ79 13 + φ79 16 ≤ φ78 13 + (φ78 16) := hs79
              have hlen79 := ps_len hp79
              show wp_R (d + 1 + 1 + 1 + 1) 208 99 [some (.ref a), some (wp_i y)] [] h _
              refine wp_s (pc' := 100) ji_208_99 rfl rfl rfl ?_
              exact wp_ri ji_208_100 jr_208 rfl ⟨0, rfl, Or.inr (⟨rfl, by omega, φ79, pl, _, l1, _, _, V, hp79, ⟨by omega, by omega, by omega, by omega, by omega⟩, ⟨by omega, fun q => by have := b78 (by omega); omega⟩, ⟨by omega, fun q => by have := b78 (by omega); omega⟩, fun q x hx => hm.1 (by omega) x (by rw [hk1] at hx; exact List.mem_of_mem_drop hx), Or.inr (Or.inl ⟨by omega, hA1, by rw [show (φ79 18).toNat = (φ 18).toNat by omega], rfl⟩)⟩)⟩
            · refine wp_s (pc' := 74) ji_208_73 rfl rfl rfl ?_
              refine pv_gi V ji_208_74 jf_208_102 (by decide) pf_10 (y := φ 10) rfl (fun l80 u81 => ?_)
              refine wp_goto (t := 81) ji_208_77 rfl ?_
              refine pv_vc V ji_208_81 jc_208_153 jk_203 (rest := []) rfl (Nat.le_of_ble_eq_true rfl) rfl (by rw [jn_203]; rfl) (ws_emit V (s := s) (w := w) (o := 1) (v := φ 10) hw h12 hs (by omega) (by omega) (by omega) hj) (fun v h R => ?_)
              obtain ⟨rfl, V, hj2⟩ := R
              show wp_R (d + 1 + 1 + 1 + 1) 208 84 [some (.ref a), some (wp_i y)] [] h _
              refine wp_s (pc' := 85) ji_208_84 rfl rfl rfl ?_
              refine pv_vc V ji_208_85 jc_208_171 jk_178 (rest := []) rfl (Nat.le_of_ble_eq_true rfl) rfl (by rw [jn_178]; rfl) (ws_next (by omega) V) (fun v h R => ?_)
              obtain ⟨rfl, φ82, V, hf82, ha82, hb82⟩ := R
              have e82_4 : φ82 4 = φ 4 := hf82 4 (by decide) (by decide) (by decide) (by decide)
              have e82_12 : φ82 12 = φ 12 := hf82 12 (by decide) (by decide) (by decide) (by decide)
              have e82_13 : φ82 13 = (w : Int) + 1 := hf82 13 (by decide) (by decide) (by decide) (by decide)
              have e82_14 : φ82 14 = φ 14 := hf82 14 (by decide) (by decide) (by decide) (by decide)
              have e82_16 : φ82 16 = φ 16 := hf82 16 (by decide) (by decide) (by decide) (by decide)
              have e82_17 : φ82 17 = φ 17 := hf82 17 (by decide) (by decide) (by decide) (by decide)
              have e82_18 : φ82 18 = φ 18 := hf82 18 (by decide) (by decide) (by decide) (by decide)
              have e82_19 : φ82 19 = φ 19 := hf82 19 (by decide) (by decide) (by decide) (by decide)
              have e82_20 : φ82 20 = φ 20 := hf82 20 (by decide) (by decide) (by decide) (by decide)
              have e82_21 : φ82 21 = φ 21 := hf82 21 (by decide) (by decide) (by decide) (by decide)
              have a82 : φ 7 ≤ φ82 7 := ha82
              have b82 : ¬ φ82 9 = 0 → φ 7 + 1 ≤ φ82 7 := hb82
              show wp_R (d + 1 + 1 + 1 + 1) 208 88 [some (.ref a), some (wp_i y)] [] h _
              refine wp_s (pc' := 89) ji_208_88 rfl rfl rfl ?_
              refine wp_s (pc' := 90) ji_208_89 rfl rfl rfl ?_
              refine pv_pi V ji_208_90 jf_208_180 (by decide) pf_19 (by decide) (by decide) (by decide) (by omega) (by omega) (by omega) rfl rfl (fun h V => ?_)
              refine wp_s (pc' := 94) ji_208_93 rfl rfl rfl ?_
              refine wp_bp ji_208_94 rfl ?_
              obtain ⟨l1, hse, hA1, ⟨k1, hk1⟩, -, -⟩ := se_V (least := 7) (by omega) (am := (φ 18).toNat) hA (fun q => by omega)
              have hps : ps t0 (pv_u φ82 19 1) pl (em_t ts s w 1 (φ 10)) s c0 (pp pl p) (po_n (φ 18).toNat (pp pl p) + 1) (po_t (pp pl p)) := ps_val hp hw htl (by omega) (show φ82 12 = _ by omega) (show φ82 13 = _ by omega) (show φ82 16 = _ by omega) (show φ82 17 = _ by omega) hj2 (by omega) (by omega)
              refine pv_vc V ji_208_96 jc_208_183 jk_202 (rest := []) rfl (Nat.le_of_ble_eq_true rfl) rfl (by rw [jn_202]; rfl) (ws_settle (least := 7) (by omega) _ _ _ _ _ _ V hps (show φ82 13 + (φ82 16) ≤ 300 by omega) hse) (fun v h R => ?_)
              obtain ⟨rfl, φ83, ts83, V, hp83, hf83, hs83⟩ := R
              have e83_4 : φ83 4 = φ82 4 := hf83 4 (by decide) (by decide) (by decide)
              have e83_7 : φ83 7 = φ82 7 := hf83 7 (by decide) (by decide) (by decide)
              have e83_9 : φ83 9 = φ82 9 := hf83 9 (by decide) (by decide) (by decide)
              have e83_10 : φ83 10 = φ82 10 := hf83 10 (by decide) (by decide) (by decide)
              have e83_12 : φ83 12 = φ82 12 := hf83 12 (by decide) (by decide) (by decide)
              have e83_14 : φ83 14 = φ82 14 := hf83 14 (by decide) (by decide) (by decide)
              have e83_18 : φ83 18 = φ82 18 := hf83 18 (by decide) (by decide) (by decide)
              have e83_19 : φ83 19 = 1 := hf83 19 (by decide) (by decide) (by decide)
              have e83_20 : φ83 20 = φ82 20 := hf83 20 (by decide) (by decide) (by decide)
              have e83_21 : φ83 21 = φ82 21 := hf83 21 (by decide) (by decide) (by decide)
              have s83 : φ83 13 + φ83 16 ≤ φ82 13 + (φ82 16) := hs83
              have hlen83 := ps_len hp83
              show wp_R (d + 1 + 1 + 1 + 1) 208 99 [some (.ref a), some (wp_i y)] [] h _
              refine wp_s (pc' := 100) ji_208_99 rfl rfl rfl ?_
              exact wp_ri ji_208_100 jr_208 rfl ⟨0, rfl, Or.inr (⟨rfl, by omega, φ83, pl, _, l1, _, _, V, hp83, ⟨by omega, by omega, by omega, by omega, by omega⟩, ⟨by omega, fun q => by have := b82 (by omega); omega⟩, ⟨by omega, fun q => by have := b82 (by omega); omega⟩, fun q x hx => hm.1 (by omega) x (by rw [hk1] at hx; exact List.mem_of_mem_drop hx), Or.inr (Or.inl ⟨by omega, hA1, by rw [show (φ83 18).toNat = (φ 18).toNat by omega], rfl⟩)⟩)⟩
          · refine wp_s (pc' := 61) ji_208_60 rfl rfl rfl ?_
            refine wp_goto (t := 65) ji_208_61 rfl ?_
            refine wp_s (pc' := 66) ji_208_65 rfl rfl rfl ?_
            refine pv_gi V ji_208_66 jf_208_95 (by decide) pf_9 (y := φ 9) rfl (fun l84 u85 => ?_)
            refine wp_s (pc' := 70) ji_208_69 rfl rfl rfl ?_
            refine wp_icmp (t := 80) ji_208_70 rfl (by omega) (by omega) (fun (hb86 : ¬ (φ 9 : Int) = 1) => ?_) (fun (hb86 : ¬ (¬ (φ 9 : Int) = 1)) => ?_)
            · refine wp_s (pc' := 81) ji_208_80 rfl rfl rfl ?_
              refine pv_vc V ji_208_81 jc_208_153 jk_203 (rest := []) rfl (Nat.le_of_ble_eq_true rfl) rfl (by rw [jn_203]; rfl) (ws_emit V (s := s) (w := w) (o := 0) (v := y) hw h12 hs (by omega) (by omega) (by omega) hj) (fun v h R => ?_)
              obtain ⟨rfl, V, hj2⟩ := R
              show wp_R (d + 1 + 1 + 1 + 1) 208 84 [some (.ref a), some (wp_i y)] [] h _
              refine wp_s (pc' := 85) ji_208_84 rfl rfl rfl ?_
              refine pv_vc V ji_208_85 jc_208_171 jk_178 (rest := []) rfl (Nat.le_of_ble_eq_true rfl) rfl (by rw [jn_178]; rfl) (ws_next (by omega) V) (fun v h R => ?_)
              obtain ⟨rfl, φ87, V, hf87, ha87, hb87⟩ := R
              have e87_4 : φ87 4 = φ 4 := hf87 4 (by decide) (by decide) (by decide) (by decide)
              have e87_12 : φ87 12 = φ 12 := hf87 12 (by decide) (by decide) (by decide) (by decide)
              have e87_13 : φ87 13 = (w : Int) + 1 := hf87 13 (by decide) (by decide) (by decide) (by decide)
              have e87_14 : φ87 14 = φ 14 := hf87 14 (by decide) (by decide) (by decide) (by decide)
              have e87_16 : φ87 16 = φ 16 := hf87 16 (by decide) (by decide) (by decide) (by decide)
              have e87_17 : φ87 17 = φ 17 := hf87 17 (by decide) (by decide) (by decide) (by decide)
              have e87_18 : φ87 18 = φ 18 := hf87 18 (by decide) (by decide) (by decide) (by decide)
              have e87_19 : φ87 19 = φ 19 := hf87 19 (by decide) (by decide) (by decide) (by decide)
              have e87_20 : φ87 20 = φ 20 := hf87 20 (by decide) (by decide) (by decide) (by decide)
              have e87_21 : φ87 21 = φ 21 := hf87 21 (by decide) (by decide) (by decide) (by decide)
              have a87 : φ 7 ≤ φ87 7 := ha87
              have b87 : ¬ φ87 9 = 0 → φ 7 + 1 ≤ φ87 7 := hb87
              show wp_R (d + 1 + 1 + 1 + 1) 208 88 [some (.ref a), some (wp_i y)] [] h _
              refine wp_s (pc' := 89) ji_208_88 rfl rfl rfl ?_
              refine wp_s (pc' := 90) ji_208_89 rfl rfl rfl ?_
              refine pv_pi V ji_208_90 jf_208_180 (by decide) pf_19 (by decide) (by decide) (by decide) (by omega) (by omega) (by omega) rfl rfl (fun h V => ?_)
              refine wp_s (pc' := 94) ji_208_93 rfl rfl rfl ?_
              refine wp_bp ji_208_94 rfl ?_
              obtain ⟨l1, hse, hA1, ⟨k1, hk1⟩, -, -⟩ := se_V (least := 7) (by omega) (am := (φ 18).toNat) hA (fun q => by omega)
              have hps : ps t0 (pv_u φ87 19 1) pl (em_t ts s w 0 y) s c0 (pp pl p) (po_n (φ 18).toNat (pp pl p) + 1) (po_t (pp pl p)) := ps_val hp hw htl (by omega) (show φ87 12 = _ by omega) (show φ87 13 = _ by omega) (show φ87 16 = _ by omega) (show φ87 17 = _ by omega) hj2 (by omega) (by omega)
              refine pv_vc V ji_208_96 jc_208_183 jk_202 (rest := []) rfl (Nat.le_of_ble_eq_true rfl) rfl (by rw [jn_202]; rfl) (ws_settle (least := 7) (by omega) _ _ _ _ _ _ V hps (show φ87 13 + (φ87 16) ≤ 300 by omega) hse) (fun v h R => ?_)
              obtain ⟨rfl, φ88, ts88, V, hp88, hf88, hs88⟩ := R
              have e88_4 : φ88 4 = φ87 4 := hf88 4 (by decide) (by decide) (by decide)
              have e88_7 : φ88 7 = φ87 7 := hf88 7 (by decide) (by decide) (by decide)
              have e88_9 : φ88 9 = φ87 9 := hf88 9 (by decide) (by decide) (by decide)
              have e88_10 : φ88 10 = φ87 10 := hf88 10 (by decide) (by decide) (by decide)
              have e88_12 : φ88 12 = φ87 12 := hf88 12 (by decide) (by decide) (by decide)
              have e88_14 : φ88 14 = φ87 14 := hf88 14 (by decide) (by decide) (by decide)
              have e88_18 : φ88 18 = φ87 18 := hf88 18 (by decide) (by decide) (by decide)
              have e88_19 : φ88 19 = 1 := hf88 19 (by decide) (by decide) (by decide)
              have e88_20 : φ88 20 = φ87 20 := hf88 20 (by decide) (by decide) (by decide)
              have e88_21 : φ88 21 = φ87 21 := hf88 21 (by decide) (by decide) (by decide)
              have s88 : φ88 13 + φ88 16 ≤ φ87 13 + (φ87 16) := hs88
              have hlen88 := ps_len hp88
              show wp_R (d + 1 + 1 + 1 + 1) 208 99 [some (.ref a), some (wp_i y)] [] h _
              refine wp_s (pc' := 100) ji_208_99 rfl rfl rfl ?_
              exact wp_ri ji_208_100 jr_208 rfl ⟨0, rfl, Or.inr (⟨rfl, by omega, φ88, pl, _, l1, _, _, V, hp88, ⟨by omega, by omega, by omega, by omega, by omega⟩, ⟨by omega, fun q => by have := b87 (by omega); omega⟩, ⟨by omega, fun q => by have := b87 (by omega); omega⟩, fun q x hx => hm.1 (by omega) x (by rw [hk1] at hx; exact List.mem_of_mem_drop hx), Or.inr (Or.inl ⟨by omega, hA1, by rw [show (φ88 18).toNat = (φ 18).toNat by omega], rfl⟩)⟩)⟩
            · refine wp_s (pc' := 74) ji_208_73 rfl rfl rfl ?_
              refine pv_gi V ji_208_74 jf_208_102 (by decide) pf_10 (y := φ 10) rfl (fun l89 u90 => ?_)
              refine wp_goto (t := 81) ji_208_77 rfl ?_
              refine pv_vc V ji_208_81 jc_208_153 jk_203 (rest := []) rfl (Nat.le_of_ble_eq_true rfl) rfl (by rw [jn_203]; rfl) (ws_emit V (s := s) (w := w) (o := 0) (v := φ 10) hw h12 hs (by omega) (by omega) (by omega) hj) (fun v h R => ?_)
              obtain ⟨rfl, V, hj2⟩ := R
              show wp_R (d + 1 + 1 + 1 + 1) 208 84 [some (.ref a), some (wp_i y)] [] h _
              refine wp_s (pc' := 85) ji_208_84 rfl rfl rfl ?_
              refine pv_vc V ji_208_85 jc_208_171 jk_178 (rest := []) rfl (Nat.le_of_ble_eq_true rfl) rfl (by rw [jn_178]; rfl) (ws_next (by omega) V) (fun v h R => ?_)
              obtain ⟨rfl, φ91, V, hf91, ha91, hb91⟩ := R
              have e91_4 : φ91 4 = φ 4 := hf91 4 (by decide) (by decide) (by decide) (by decide)
              have e91_12 : φ91 12 = φ 12 := hf91 12 (by decide) (by decide) (by decide) (by decide)
              have e91_13 : φ91 13 = (w : Int) + 1 := hf91 13 (by decide) (by decide) (by decide) (by decide)
              have e91_14 : φ91 14 = φ 14 := hf91 14 (by decide) (by decide) (by decide) (by decide)
              have e91_16 : φ91 16 = φ 16 := hf91 16 (by decide) (by decide) (by decide) (by decide)
              have e91_17 : φ91 17 = φ 17 := hf91 17 (by decide) (by decide) (by decide) (by decide)
              have e91_18 : φ91 18 = φ 18 := hf91 18 (by decide) (by decide) (by decide) (by decide)
              have e91_19 : φ91 19 = φ 19 := hf91 19 (by decide) (by decide) (by decide) (by decide)
              have e91_20 : φ91 20 = φ 20 := hf91 20 (by decide) (by decide) (by decide) (by decide)
              have e91_21 : φ91 21 = φ 21 := hf91 21 (by decide) (by decide) (by decide) (by decide)
              have a91 : φ 7 ≤ φ91 7 := ha91
              have b91 : ¬ φ91 9 = 0 → φ 7 + 1 ≤ φ91 7 := hb91
              show wp_R (d + 1 + 1 + 1 + 1) 208 88 [some (.ref a), some (wp_i y)] [] h _
              refine wp_s (pc' := 89) ji_208_88 rfl rfl rfl ?_
              refine wp_s (pc' := 90) ji_208_89 rfl rfl rfl ?_
              refine pv_pi V ji_208_90 jf_208_180 (by decide) pf_19 (by decide) (by decide) (by decide) (by omega) (by omega) (by omega) rfl rfl (fun h V => ?_)
              refine wp_s (pc' := 94) ji_208_93 rfl rfl rfl ?_
              refine wp_bp ji_208_94 rfl ?_
              obtain ⟨l1, hse, hA1, ⟨k1, hk1⟩, -, -⟩ := se_V (least := 7) (by omega) (am := (φ 18).toNat) hA (fun q => by omega)
              have hps : ps t0 (pv_u φ91 19 1) pl (em_t ts s w 0 (φ 10)) s c0 (pp pl p) (po_n (φ 18).toNat (pp pl p) + 1) (po_t (pp pl p)) := ps_val hp hw htl (by omega) (show φ91 12 = _ by omega) (show φ91 13 = _ by omega) (show φ91 16 = _ by omega) (show φ91 17 = _ by omega) hj2 (by omega) (by omega)
              refine pv_vc V ji_208_96 jc_208_183 jk_202 (rest := []) rfl (Nat.le_of_ble_eq_true rfl) rfl (by rw [jn_202]; rfl) (ws_settle (least := 7) (by omega) _ _ _ _ _ _ V hps (show φ91 13 + (φ91 16) ≤ 300 by omega) hse) (fun v h R => ?_)
              obtain ⟨rfl, φ92, ts92, V, hp92, hf92, hs92⟩ := R
              have e92_4 : φ92 4 = φ91 4 := hf92 4 (by decide) (by decide) (by decide)
              have e92_7 : φ92 7 = φ91 7 := hf92 7 (by decide) (by decide) (by decide)
              have e92_9 : φ92 9 = φ91 9 := hf92 9 (by decide) (by decide) (by decide)
              have e92_10 : φ92 10 = φ91 10 := hf92 10 (by decide) (by decide) (by decide)
              have e92_12 : φ92 12 = φ91 12 := hf92 12 (by decide) (by decide) (by decide)
              have e92_14 : φ92 14 = φ91 14 := hf92 14 (by decide) (by decide) (by decide)
              have e92_18 : φ92 18 = φ91 18 := hf92 18 (by decide) (by decide) (by decide)
              have e92_19 : φ92 19 = 1 := hf92 19 (by decide) (by decide) (by decide)
              have e92_20 : φ92 20 = φ91 20 := hf92 20 (by decide) (by decide) (by decide)
              have e92_21 : φ92 21 = φ91 21 := hf92 21 (by decide) (by decide) (by decide)
              have s92 : φ92 13 + φ92 16 ≤ φ91 13 + (φ91 16) := hs92
              have hlen92 := ps_len hp92
              show wp_R (d + 1 + 1 + 1 + 1) 208 99 [some (.ref a), some (wp_i y)] [] h _
              refine wp_s (pc' := 100) ji_208_99 rfl rfl rfl ?_
              exact wp_ri ji_208_100 jr_208 rfl ⟨0, rfl, Or.inr (⟨rfl, by omega, φ92, pl, _, l1, _, _, V, hp92, ⟨by omega, by omega, by omega, by omega, by omega⟩, ⟨by omega, fun q => by have := b91 (by omega); omega⟩, ⟨by omega, fun q => by have := b91 (by omega); omega⟩, fun q x hx => hm.1 (by omega) x (by rw [hk1] at hx; exact List.mem_of_mem_drop hx), Or.inr (Or.inl ⟨by omega, hA1, by rw [show (φ92 18).toNat = (φ 18).toNat by omega], rfl⟩)⟩)⟩
        · refine wp_s (pc' := 48) ji_208_47 rfl rfl rfl ?_
          refine wp_if (t := 101) ji_208_48 rfl (by omega) (fun (hb93 : (y : Int) < 0) => ?_) (fun (hb93 : ¬ ((y : Int) < 0)) => ?_)
          · refine wp_s (pc' := 102) ji_208_101 rfl rfl rfl ?_
            refine pv_gi V ji_208_102 jf_208_95 (by decide) pf_9 (y := φ 9) rfl (fun l94 u95 => ?_)
            refine wp_bp ji_208_105 rfl ?_
            refine wp_icmp (t := 117) ji_208_107 rfl (by omega) (by omega) (fun (hb96 : ¬ (φ 9 : Int) = 40) => ?_) (fun (hb96 : ¬ (¬ (φ 9 : Int) = 40)) => ?_)
            · refine wp_s (pc' := 118) ji_208_117 rfl rfl rfl ?_
              refine pv_gi V ji_208_118 jf_208_95 (by decide) pf_9 (y := φ 9) rfl (fun l97 u98 => ?_)
              refine wp_bp ji_208_121 rfl ?_
              refine wp_icmp (t := 132) ji_208_123 rfl (by omega) (by omega) (fun (hb99 : ¬ (φ 9 : Int) = 45) => ?_) (fun (hb99 : ¬ (¬ (φ 9 : Int) = 45)) => ?_)
              · refine wp_s (pc' := 133) ji_208_132 rfl rfl rfl ?_
                refine wp_bp ji_208_133 rfl ?_
                refine wp_bp ji_208_135 rfl ?_
                refine wp_bp ji_208_137 rfl ?_
                refine wp_sc (as := [wp_i 110, wp_i 111, wp_i 116]) (rest := [.ref a]) ji_208_139 jc_208_122 (Nat.le_of_ble_eq_true rfl) rfl (Nat.le_of_ble_eq_true rfl) rfl (by rw [jn_188]; rfl) ws_w3 (fun v h R => ?_)
                obtain ⟨rfl, z100, rfl⟩ := R
                show wp_R (d + 1 + 1 + 1 + 1) 208 142 [some (.ref a), some (wp_i y)] [.long z100, .ref a] h _
                refine pv_vc V ji_208_142 jc_208_189 jk_190 (rest := []) rfl (Nat.le_of_ble_eq_true rfl) rfl (by rw [jn_190]; rfl) (ws_isWord V) (fun v h R => ?_)
                obtain ⟨rfl, y101, rfl, q102, q103⟩ := R
                show wp_R (d + 1 + 1 + 1 + 1) 208 145 [some (.ref a), some (wp_i y)] [wp_i y101] h _
                refine wp_if (t := 164) ji_208_145 rfl (by omega) (fun (hb104 : (y101 : Int) = 0) => ?_) (fun (hb104 : ¬ ((y101 : Int) = 0)) => ?_)
                · refine wp_s (pc' := 165) ji_208_164 rfl rfl rfl ?_
                  exact wp_ri ji_208_165 jr_208 rfl ⟨1, rfl, Or.inl ⟨by omega, by omega, φ, pl, ts, pp pl p, _, _, V, hp, ⟨rfl, rfl, rfl, rfl, rfl⟩, hb.1, fun q => by have := hb.2 q; omega, Int.le_refl _⟩⟩
                · refine wp_s (pc' := 149) ji_208_148 rfl rfl rfl ?_
                  refine pv_vc V ji_208_149 jc_208_193 jk_211 (rest := []) rfl (Nat.le_of_ble_eq_true rfl) rfl (by rw [jn_211]; rfl) (ws_ahead V h16) (fun v h R => ?_)
                  obtain ⟨rfl, y105, rfl, q106, q107⟩ := R
                  show wp_R (d + 1 + 1 + 1 + 1) 208 152 [some (.ref a), some (wp_i y)] [wp_i y105] h _
                  refine wp_if (t := 164) ji_208_152 rfl (by omega) (fun (hb108 : (y105 : Int) = 0) => ?_) (fun (hb108 : ¬ ((y105 : Int) = 0)) => ?_)
                  · refine wp_s (pc' := 165) ji_208_164 rfl rfl rfl ?_
                    exact wp_ri ji_208_165 jr_208 rfl ⟨1, rfl, Or.inl ⟨by omega, by omega, φ, pl, ts, pp pl p, _, _, V, hp, ⟨rfl, rfl, rfl, rfl, rfl⟩, hb.1, fun q => by have := hb.2 q; omega, Int.le_refl _⟩⟩
                  · have hah := q107 (by omega)
                    have hL : po_L (pp pl p) := by
                      rcases hah.2.2 with e | ⟨x, r, e, e2⟩
                      · rw [e]; trivial
                      · rw [e] at hA ⊢; exact po_A_t hA (rk_i e2)
                    refine wp_s (pc' := 156) ji_208_155 rfl rfl rfl ?_
                    refine wp_bp ji_208_156 rfl ?_
                    refine pv_vc V ji_208_158 jc_208_186 jk_205 (rest := []) rfl (Nat.le_of_ble_eq_true rfl) rfl (by rw [jn_205]; rfl) (wp_up (by omega) (ws_opened (d := d) V hp (o := 20) (by omega) h154 (by omega))) (fun v h R => ?_)
                    rcases R with ⟨rfl, rfl⟩ | ⟨rfl, φ9, pl9, V, hp9, ⟨f1, f2, f3, f4, f5⟩, f18, f19, f6, f7⟩
                    · show wp_R (d + 1 + 1 + 1 + 1) 208 161 [some (.ref a), some (wp_i y)] [wp_i 3] h _
                      refine wp_goto (t := 165) ji_208_161 rfl ?_
                      exact wp_ri ji_208_165 jr_208 rfl ⟨3, rfl, Or.inl ⟨by omega, by omega, φ, pl, ts, pp pl p, _, _, V, hp, ⟨rfl, rfl, rfl, rfl, rfl⟩, hb.1, fun q => by have := hb.2 q; omega, Int.le_refl _⟩⟩
                    · show wp_R (d + 1 + 1 + 1 + 1) 208 161 [some (.ref a), some (wp_i y)] [wp_i 0] h _
                      refine wp_goto (t := 165) ji_208_161 rfl ?_
                      refine wp_ri ji_208_165 jr_208 rfl ⟨0, rfl, Or.inr (⟨rfl, by omega, φ9, pl9, ts, _, _, _, V, hp9, ⟨f1, f2, f3, f4, f5⟩, f6, f7, ?_, Or.inl ⟨by omega, ?_, ?_, ?_⟩⟩)⟩
                      · exact fun q => by omega
                      · exact Or.inr ⟨Or.inr (Or.inr (by omega)), hL⟩
                      · rw [f18, po_n_c, if_neg (by omega), if_neg (by omega), if_neg (by omega), Nat.zero_add]
                      · rw [po_t_c, if_neg (by omega), Nat.zero_add]
              · refine wp_s (pc' := 127) ji_208_126 rfl rfl rfl ?_
                refine wp_s (pc' := 128) ji_208_127 rfl rfl rfl ?_
                refine pv_vc V ji_208_128 jc_208_186 jk_205 (rest := []) rfl (Nat.le_of_ble_eq_true rfl) rfl (by rw [jn_205]; rfl) (wp_up (by omega) (ws_opened (d := d) V hp (o := 3) (by omega) h154 (by omega))) (fun v h R => ?_)
                rcases R with ⟨rfl, rfl⟩ | ⟨rfl, φ9, pl9, V, hp9, ⟨f1, f2, f3, f4, f5⟩, f18, f19, f6, f7⟩
                · show wp_R (d + 1 + 1 + 1 + 1) 208 131 [some (.ref a), some (wp_i y)] [wp_i 3] h _
                  exact wp_ri ji_208_131 jr_208 rfl ⟨3, rfl, Or.inl ⟨by omega, by omega, φ, pl, ts, pp pl p, _, _, V, hp, ⟨rfl, rfl, rfl, rfl, rfl⟩, hb.1, fun q => by have := hb.2 q; omega, Int.le_refl _⟩⟩
                · show wp_R (d + 1 + 1 + 1 + 1) 208 131 [some (.ref a), some (wp_i y)] [wp_i 0] h _
                  refine wp_ri ji_208_131 jr_208 rfl ⟨0, rfl, Or.inr (⟨rfl, by omega, φ9, pl9, ts, _, _, _, V, hp9, ⟨f1, f2, f3, f4, f5⟩, f6, f7, ?_, Or.inl ⟨by omega, ?_, ?_, ?_⟩⟩)⟩
                  · intro q x hx
                    rcases List.mem_cons.mp hx with e | e
                    · omega
                    · exact hm.1 (by omega) x e
                  · exact Or.inl ⟨by omega, hA⟩
                  · rw [f18, po_n_c, if_neg (by omega), if_neg (by omega), if_neg (by omega), Nat.zero_add]
                  · rw [po_t_c, if_neg (by omega), Nat.zero_add]
            · refine wp_s (pc' := 111) ji_208_110 rfl rfl rfl ?_
              refine wp_bp ji_208_111 rfl ?_
              refine pv_vc V ji_208_113 jc_208_186 jk_205 (rest := []) rfl (Nat.le_of_ble_eq_true rfl) rfl (by rw [jn_205]; rfl) (wp_up (by omega) (ws_opened (d := d) V hp (o := 40) (by omega) h154 (by omega))) (fun v h R => ?_)
              rcases R with ⟨rfl, rfl⟩ | ⟨rfl, φ9, pl9, V, hp9, ⟨f1, f2, f3, f4, f5⟩, f18, f19, f6, f7⟩
              · show wp_R (d + 1 + 1 + 1 + 1) 208 116 [some (.ref a), some (wp_i y)] [wp_i 3] h _
                exact wp_ri ji_208_116 jr_208 rfl ⟨3, rfl, Or.inl ⟨by omega, by omega, φ, pl, ts, pp pl p, _, _, V, hp, ⟨rfl, rfl, rfl, rfl, rfl⟩, hb.1, fun q => by have := hb.2 q; omega, Int.le_refl _⟩⟩
              · show wp_R (d + 1 + 1 + 1 + 1) 208 116 [some (.ref a), some (wp_i y)] [wp_i 0] h _
                refine wp_ri ji_208_116 jr_208 rfl ⟨0, rfl, Or.inr (⟨rfl, by omega, φ9, pl9, ts, _, _, _, V, hp9, ⟨f1, f2, f3, f4, f5⟩, f6, f7, ?_, Or.inl ⟨by omega, ?_, ?_, ?_⟩⟩)⟩
                · intro q x hx
                  rcases List.mem_cons.mp hx with e | e
                  · omega
                  · exact hm.1 (by omega) x e
                · exact Or.inl ⟨by omega, hA⟩
                · rw [f18, po_n_c, if_neg (by omega), if_neg (by omega), if_neg (by omega), Nat.zero_add]
                · rw [po_t_c, if_neg (by omega), Nat.zero_add]
          · refine wp_s (pc' := 52) ji_208_51 rfl rfl rfl ?_
            refine wp_s (pc' := 53) ji_208_52 rfl rfl rfl ?_
            refine pv_gi V ji_208_53 jf_208_95 (by decide) pf_9 (y := φ 9) rfl (fun l109 u110 => ?_)
            refine wp_s (pc' := 57) ji_208_56 rfl rfl rfl ?_
            refine wp_icmp (t := 64) ji_208_57 rfl (by omega) (by omega) (fun (hb111 : ¬ (φ 9 : Int) = 1) => ?_) (fun (hb111 : ¬ (¬ (φ 9 : Int) = 1)) => ?_)
            · refine wp_s (pc' := 65) ji_208_64 rfl rfl rfl ?_
              refine wp_s (pc' := 66) ji_208_65 rfl rfl rfl ?_
              refine pv_gi V ji_208_66 jf_208_95 (by decide) pf_9 (y := φ 9) rfl (fun l112 u113 => ?_)
              refine wp_s (pc' := 70) ji_208_69 rfl rfl rfl ?_
              refine wp_icmp (t := 80) ji_208_70 rfl (by omega) (by omega) (fun (hb114 : ¬ (φ 9 : Int) = 1) => ?_) (fun (hb114 : ¬ (¬ (φ 9 : Int) = 1)) => ?_)
              · refine wp_s (pc' := 81) ji_208_80 rfl rfl rfl ?_
                refine pv_vc V ji_208_81 jc_208_153 jk_203 (rest := []) rfl (Nat.le_of_ble_eq_true rfl) rfl (by rw [jn_203]; rfl) (ws_emit V (s := s) (w := w) (o := 1) (v := y) hw h12 hs (by omega) (by omega) (by omega) hj) (fun v h R => ?_)
                obtain ⟨rfl, V, hj2⟩ := R
                show wp_R (d + 1 + 1 + 1 + 1) 208 84 [some (.ref a), some (wp_i y)] [] h _
                refine wp_s (pc' := 85) ji_208_84 rfl rfl rfl ?_
                refine pv_vc V ji_208_85 jc_208_171 jk_178 (rest := []) rfl (Nat.le_of_ble_eq_true rfl) rfl (by rw [jn_178]; rfl) (ws_next (by omega) V) (fun v h R => ?_)
                obtain ⟨rfl, φ115, V, hf115, ha115, hb115⟩ := R
                have e115_4 : φ115 4 = φ 4 := hf115 4 (by decide) (by decide) (by decide) (by decide)
                have e115_12 : φ115 12 = φ 12 := hf115 12 (by decide) (by decide) (by decide) (by decide)
                have e115_13 : φ115 13 = (w : Int) + 1 := hf115 13 (by decide) (by decide) (by decide) (by decide)
                have e115_14 : φ115 14 = φ 14 := hf115 14 (by decide) (by decide) (by decide) (by decide)
                have e115_16 : φ115 16 = φ 16 := hf115 16 (by decide) (by decide) (by decide) (by decide)
                have e115_17 : φ115 17 = φ 17 := hf115 17 (by decide) (by decide) (by decide) (by decide)
                have e115_18 : φ115 18 = φ 18 := hf115 18 (by decide) (by decide) (by decide) (by decide)
                have e115_19 : φ115 19 = φ 19 := hf115 19 (by decide) (by decide) (by decide) (by decide)
                have e115_20 : φ115 20 = φ 20 := hf115 20 (by decide) (by decide) (by decide) (by decide)
                have e115_21 : φ115 21 = φ 21 := hf115 21 (by decide) (by decide) (by decide) (by decide)
                have a115 : φ 7 ≤ φ115 7 := ha115
                have b115 : ¬ φ115 9 = 0 → φ 7 + 1 ≤ φ115 7 := hb115
                show wp_R (d + 1 + 1 + 1 + 1) 208 88 [some (.ref a), some (wp_i y)] [] h _
                refine wp_s (pc' := 89) ji_208_88 rfl rfl rfl ?_
                refine wp_s (pc' := 90) ji_208_89 rfl rfl rfl ?_
                refine pv_pi V ji_208_90 jf_208_180 (by decide) pf_19 (by decide) (by decide) (by decide) (by omega) (by omega) (by omega) rfl rfl (fun h V => ?_)
                refine wp_s (pc' := 94) ji_208_93 rfl rfl rfl ?_
                refine wp_bp ji_208_94 rfl ?_
                obtain ⟨l1, hse, hA1, ⟨k1, hk1⟩, -, -⟩ := se_V (least := 7) (by omega) (am := (φ 18).toNat) hA (fun q => by omega)
                have hps : ps t0 (pv_u φ115 19 1) pl (em_t ts s w 1 y) s c0 (pp pl p) (po_n (φ 18).toNat (pp pl p) + 1) (po_t (pp pl p)) := ps_val hp hw htl (by omega) (show φ115 12 = _ by omega) (show φ115 13 = _ by omega) (show φ115 16 = _ by omega) (show φ115 17 = _ by omega) hj2 (by omega) (by omega)
                refine pv_vc V ji_208_96 jc_208_183 jk_202 (rest := []) rfl (Nat.le_of_ble_eq_true rfl) rfl (by rw [jn_202]; rfl) (ws_settle (least := 7) (by omega) _ _ _ _ _ _ V hps (show φ115 13 + (φ115 16) ≤ 300 by omega) hse) (fun v h R => ?_)
                obtain ⟨rfl, φ116, ts116, V, hp116, hf116, hs116⟩ := R
                have e116_4 : φ116 4 = φ115 4 := hf116 4 (by decide) (by decide) (by decide)
                have e116_7 : φ116 7 = φ115 7 := hf116 7 (by decide) (by decide) (by decide)
                have e116_9 : φ116 9 = φ115 9 := hf116 9 (by decide) (by decide) (by decide)
                have e116_10 : φ116 10 = φ115 10 := hf116 10 (by decide) (by decide) (by decide)
                have e116_12 : φ116 12 = φ115 12 := hf116 12 (by decide) (by decide) (by decide)
                have e116_14 : φ116 14 = φ115 14 := hf116 14 (by decide) (by decide) (by decide)
                have e116_18 : φ116 18 = φ115 18 := hf116 18 (by decide) (by decide) (by decide)
                have e116_19 : φ116 19 = 1 := hf116 19 (by decide) (by decide) (by decide)
                have e116_20 : φ116 20 = φ115 20 := hf116 20 (by decide) (by decide) (by decide)
                have e116_21 : φ116 21 = φ115 21 := hf116 21 (by decide) (by decide) (by decide)
                have s116 : φ116 13 + φ116 16 ≤ φ115 13 + (φ115 16) := hs116
                have hlen116 := ps_len hp116
                show wp_R (d + 1 + 1 + 1 + 1) 208 99 [some (.ref a), some (wp_i y)] [] h _
                refine wp_s (pc' := 100) ji_208_99 rfl rfl rfl ?_
                exact wp_ri ji_208_100 jr_208 rfl ⟨0, rfl, Or.inr (⟨rfl, by omega, φ116, pl, _, l1, _, _, V, hp116, ⟨by omega, by omega, by omega, by omega, by omega⟩, ⟨by omega, fun q => by have := b115 (by omega); omega⟩, ⟨by omega, fun q => by have := b115 (by omega); omega⟩, fun q x hx => hm.1 (by omega) x (by rw [hk1] at hx; exact List.mem_of_mem_drop hx), Or.inr (Or.inl ⟨by omega, hA1, by rw [show (φ116 18).toNat = (φ 18).toNat by omega], rfl⟩)⟩)⟩
              · refine wp_s (pc' := 74) ji_208_73 rfl rfl rfl ?_
                refine pv_gi V ji_208_74 jf_208_102 (by decide) pf_10 (y := φ 10) rfl (fun l117 u118 => ?_)
                refine wp_goto (t := 81) ji_208_77 rfl ?_
                refine pv_vc V ji_208_81 jc_208_153 jk_203 (rest := []) rfl (Nat.le_of_ble_eq_true rfl) rfl (by rw [jn_203]; rfl) (ws_emit V (s := s) (w := w) (o := 1) (v := φ 10) hw h12 hs (by omega) (by omega) (by omega) hj) (fun v h R => ?_)
                obtain ⟨rfl, V, hj2⟩ := R
                show wp_R (d + 1 + 1 + 1 + 1) 208 84 [some (.ref a), some (wp_i y)] [] h _
                refine wp_s (pc' := 85) ji_208_84 rfl rfl rfl ?_
                refine pv_vc V ji_208_85 jc_208_171 jk_178 (rest := []) rfl (Nat.le_of_ble_eq_true rfl) rfl (by rw [jn_178]; rfl) (ws_next (by omega) V) (fun v h R => ?_)
                obtain ⟨rfl, φ119, V, hf119, ha119, hb119⟩ := R
                have e119_4 : φ119 4 = φ 4 := hf119 4 (by decide) (by decide) (by decide) (by decide)
                have e119_12 : φ119 12 = φ 12 := hf119 12 (by decide) (by decide) (by decide) (by decide)
                have e119_13 : φ119 13 = (w : Int) + 1 := hf119 13 (by decide) (by decide) (by decide) (by decide)
                have e119_14 : φ119 14 = φ 14 := hf119 14 (by decide) (by decide) (by decide) (by decide)
                have e119_16 : φ119 16 = φ 16 := hf119 16 (by decide) (by decide) (by decide) (by decide)
                have e119_17 : φ119 17 = φ 17 := hf119 17 (by decide) (by decide) (by decide) (by decide)
                have e119_18 : φ119 18 = φ 18 := hf119 18 (by decide) (by decide) (by decide) (by decide)
                have e119_19 : φ119 19 = φ 19 := hf119 19 (by decide) (by decide) (by decide) (by decide)
                have e119_20 : φ119 20 = φ 20 := hf119 20 (by decide) (by decide) (by decide) (by decide)
                have e119_21 : φ119 21 = φ 21 := hf119 21 (by decide) (by decide) (by decide) (by decide)
                have a119 : φ 7 ≤ φ119 7 := ha119
                have b119 : ¬ φ119 9 = 0 → φ 7 + 1 ≤ φ119 7 := hb119
                show wp_R (d + 1 + 1 + 1 + 1) 208 88 [some (.ref a), some (wp_i y)] [] h _
                refine wp_s (pc' := 89) ji_208_88 rfl rfl rfl ?_
                refine wp_s (pc' := 90) ji_208_89 rfl rfl rfl ?_
                refine pv_pi V ji_208_90 jf_208_180 (by decide) pf_19 (by decide) (by decide) (by decide) (by omega) (by omega) (by omega) rfl rfl (fun h V => ?_)
                refine wp_s (pc' := 94) ji_208_93 rfl rfl rfl ?_
                refine wp_bp ji_208_94 rfl ?_
                obtain ⟨l1, hse, hA1, ⟨k1, hk1⟩, -, -⟩ := se_V (least := 7) (by omega) (am := (φ 18).toNat) hA (fun q => by omega)
                have hps : ps t0 (pv_u φ119 19 1) pl (em_t ts s w 1 (φ 10)) s c0 (pp pl p) (po_n (φ 18).toNat (pp pl p) + 1) (po_t (pp pl p)) := ps_val hp hw htl (by omega) (show φ119 12 = _ by omega) (show φ119 13 = _ by omega) (show φ119 16 = _ by omega) (show φ119 17 = _ by omega) hj2 (by omega) (by omega)
                refine pv_vc V ji_208_96 jc_208_183 jk_202 (rest := []) rfl (Nat.le_of_ble_eq_true rfl) rfl (by rw [jn_202]; rfl) (ws_settle (least := 7) (by omega) _ _ _ _ _ _ V hps (show φ119 13 + (φ119 16) ≤ 300 by omega) hse) (fun v h R => ?_)
                obtain ⟨rfl, φ120, ts120, V, hp120, hf120, hs120⟩ := R
                have e120_4 : φ120 4 = φ119 4 := hf120 4 (by decide) (by decide) (by decide)
                have e120_7 : φ120 7 = φ119 7 := hf120 7 (by decide) (by decide) (by decide)
                have e120_9 : φ120 9 = φ119 9 := hf120 9 (by decide) (by decide) (by decide)
                have e120_10 : φ120 10 = φ119 10 := hf120 10 (by decide) (by decide) (by decide)
                have e120_12 : φ120 12 = φ119 12 := hf120 12 (by decide) (by decide) (by decide)
                have e120_14 : φ120 14 = φ119 14 := hf120 14 (by decide) (by decide) (by decide)
                have e120_18 : φ120 18 = φ119 18 := hf120 18 (by decide) (by decide) (by decide)
                have e120_19 : φ120 19 = 1 := hf120 19 (by decide) (by decide) (by decide)
                have e120_20 : φ120 20 = φ119 20 := hf120 20 (by decide) (by decide) (by decide)
                have e120_21 : φ120 21 = φ119 21 := hf120 21 (by decide) (by decide) (by decide)
                have s120 : φ120 13 + φ120 16 ≤ φ119 13 + (φ119 16) := hs120
                have hlen120 := ps_len hp120
                show wp_R (d + 1 + 1 + 1 + 1) 208 99 [some (.ref a), some (wp_i y)] [] h _
                refine wp_s (pc' := 100) ji_208_99 rfl rfl rfl ?_
                exact wp_ri ji_208_100 jr_208 rfl ⟨0, rfl, Or.inr (⟨rfl, by omega, φ120, pl, _, l1, _, _, V, hp120, ⟨by omega, by omega, by omega, by omega, by omega⟩, ⟨by omega, fun q => by have := b119 (by omega); omega⟩, ⟨by omega, fun q => by have := b119 (by omega); omega⟩, fun q x hx => hm.1 (by omega) x (by rw [hk1] at hx; exact List.mem_of_mem_drop hx), Or.inr (Or.inl ⟨by omega, hA1, by rw [show (φ120 18).toNat = (φ 18).toNat by omega], rfl⟩)⟩)⟩
            · refine wp_s (pc' := 61) ji_208_60 rfl rfl rfl ?_
              refine wp_goto (t := 65) ji_208_61 rfl ?_
              refine wp_s (pc' := 66) ji_208_65 rfl rfl rfl ?_
              refine pv_gi V ji_208_66 jf_208_95 (by decide) pf_9 (y := φ 9) rfl (fun l121 u122 => ?_)
              refine wp_s (pc' := 70) ji_208_69 rfl rfl rfl ?_
              refine wp_icmp (t := 80) ji_208_70 rfl (by omega) (by omega) (fun (hb123 : ¬ (φ 9 : Int) = 1) => ?_) (fun (hb123 : ¬ (¬ (φ 9 : Int) = 1)) => ?_)
              · refine wp_s (pc' := 81) ji_208_80 rfl rfl rfl ?_
                refine pv_vc V ji_208_81 jc_208_153 jk_203 (rest := []) rfl (Nat.le_of_ble_eq_true rfl) rfl (by rw [jn_203]; rfl) (ws_emit V (s := s) (w := w) (o := 0) (v := y) hw h12 hs (by omega) (by omega) (by omega) hj) (fun v h R => ?_)
                obtain ⟨rfl, V, hj2⟩ := R
                show wp_R (d + 1 + 1 + 1 + 1) 208 84 [some (.ref a), some (wp_i y)] [] h _
                refine wp_s (pc' := 85) ji_208_84 rfl rfl rfl ?_
                refine pv_vc V ji_208_85 jc_208_171 jk_178 (rest := []) rfl (Nat.le_of_ble_eq_true rfl) rfl (by rw [jn_178]; rfl) (ws_next (by omega) V) (fun v h R => ?_)
                obtain ⟨rfl, φ124, V, hf124, ha124, hb124⟩ := R
                have e124_4 : φ124 4 = φ 4 := hf124 4 (by decide) (by decide) (by decide) (by decide)
                have e124_12 : φ124 12 = φ 12 := hf124 12 (by decide) (by decide) (by decide) (by decide)
                have e124_13 : φ124 13 = (w : Int) + 1 := hf124 13 (by decide) (by decide) (by decide) (by decide)
                have e124_14 : φ124 14 = φ 14 := hf124 14 (by decide) (by decide) (by decide) (by decide)
                have e124_16 : φ124 16 = φ 16 := hf124 16 (by decide) (by decide) (by decide) (by decide)
                have e124_17 : φ124 17 = φ 17 := hf124 17 (by decide) (by decide) (by decide) (by decide)
                have e124_18 : φ124 18 = φ 18 := hf124 18 (by decide) (by decide) (by decide) (by decide)
                have e124_19 : φ124 19 = φ 19 := hf124 19 (by decide) (by decide) (by decide) (by decide)
                have e124_20 : φ124 20 = φ 20 := hf124 20 (by decide) (by decide) (by decide) (by decide)
                have e124_21 : φ124 21 = φ 21 := hf124 21 (by decide) (by decide) (by decide) (by decide)
                have a124 : φ 7 ≤ φ124 7 := ha124
                have b124 : ¬ φ124 9 = 0 → φ 7 + 1 ≤ φ124 7 := hb124
                show wp_R (d + 1 + 1 + 1 + 1) 208 88 [some (.ref a), some (wp_i y)] [] h _
                refine wp_s (pc' := 89) ji_208_88 rfl rfl rfl ?_
                refine wp_s (pc' := 90) ji_208_89 rfl rfl rfl ?_
                refine pv_pi V ji_208_90 jf_208_180 (by decide) pf_19 (by decide) (by decide) (by decide) (by omega) (by omega) (by omega) rfl rfl (fun h V => ?_)
                refine wp_s (pc' := 94) ji_208_93 rfl rfl rfl ?_
                refine wp_bp ji_208_94 rfl ?_
                obtain ⟨l1, hse, hA1, ⟨k1, hk1⟩, -, -⟩ := se_V (least := 7) (by omega) (am := (φ 18).toNat) hA (fun q => by omega)
                have hps : ps t0 (pv_u φ124 19 1) pl (em_t ts s w 0 y) s c0 (pp pl p) (po_n (φ 18).toNat (pp pl p) + 1) (po_t (pp pl p)) := ps_val hp hw htl (by omega) (show φ124 12 = _ by omega) (show φ124 13 = _ by omega) (show φ124 16 = _ by omega) (show φ124 17 = _ by omega) hj2 (by omega) (by omega)
                refine pv_vc V ji_208_96 jc_208_183 jk_202 (rest := []) rfl (Nat.le_of_ble_eq_true rfl) rfl (by rw [jn_202]; rfl) (ws_settle (least := 7) (by omega) _ _ _ _ _ _ V hps (show φ124 13 + (φ124 16) ≤ 300 by omega) hse) (fun v h R => ?_)
                obtain ⟨rfl, φ125, ts125, V, hp125, hf125, hs125⟩ := R
                have e125_4 : φ125 4 = φ124 4 := hf125 4 (by decide) (by decide) (by decide)
                have e125_7 : φ125 7 = φ124 7 := hf125 7 (by decide) (by decide) (by decide)
                have e125_9 : φ125 9 = φ124 9 := hf125 9 (by decide) (by decide) (by decide)
                have e125_10 : φ125 10 = φ124 10 := hf125 10 (by decide) (by decide) (by decide)
                have e125_12 : φ125 12 = φ124 12 := hf125 12 (by decide) (by decide) (by decide)
                have e125_14 : φ125 14 = φ124 14 := hf125 14 (by decide) (by decide) (by decide)
                have e125_18 : φ125 18 = φ124 18 := hf125 18 (by decide) (by decide) (by decide)
                have e125_19 : φ125 19 = 1 := hf125 19 (by decide) (by decide) (by decide)
                have e125_20 : φ125 20 = φ124 20 := hf125 20 (by decide) (by decide) (by decide)
                have e125_21 : φ125 21 = φ124 21 := hf125 21 (by decide) (by decide) (by decide)
                have s125 : φ125 13 + φ125 16 ≤ φ124 13 + (φ124 16) := hs125
                have hlen125 := ps_len hp125
                show wp_R (d + 1 + 1 + 1 + 1) 208 99 [some (.ref a), some (wp_i y)] [] h _
                refine wp_s (pc' := 100) ji_208_99 rfl rfl rfl ?_
                exact wp_ri ji_208_100 jr_208 rfl ⟨0, rfl, Or.inr (⟨rfl, by omega, φ125, pl, _, l1, _, _, V, hp125, ⟨by omega, by omega, by omega, by omega, by omega⟩, ⟨by omega, fun q => by have := b124 (by omega); omega⟩, ⟨by omega, fun q => by have := b124 (by omega); omega⟩, fun q x hx => hm.1 (by omega) x (by rw [hk1] at hx; exact List.mem_of_mem_drop hx), Or.inr (Or.inl ⟨by omega, hA1, by rw [show (φ125 18).toNat = (φ 18).toNat by omega], rfl⟩)⟩)⟩
              · refine wp_s (pc' := 74) ji_208_73 rfl rfl rfl ?_
                refine pv_gi V ji_208_74 jf_208_102 (by decide) pf_10 (y := φ 10) rfl (fun l126 u127 => ?_)
                refine wp_goto (t := 81) ji_208_77 rfl ?_
                refine pv_vc V ji_208_81 jc_208_153 jk_203 (rest := []) rfl (Nat.le_of_ble_eq_true rfl) rfl (by rw [jn_203]; rfl) (ws_emit V (s := s) (w := w) (o := 0) (v := φ 10) hw h12 hs (by omega) (by omega) (by omega) hj) (fun v h R => ?_)
                obtain ⟨rfl, V, hj2⟩ := R
                show wp_R (d + 1 + 1 + 1 + 1) 208 84 [some (.ref a), some (wp_i y)] [] h _
                refine wp_s (pc' := 85) ji_208_84 rfl rfl rfl ?_
                refine pv_vc V ji_208_85 jc_208_171 jk_178 (rest := []) rfl (Nat.le_of_ble_eq_true rfl) rfl (by rw [jn_178]; rfl) (ws_next (by omega) V) (fun v h R => ?_)
                obtain ⟨rfl, φ128, V, hf128, ha128, hb128⟩ := R
                have e128_4 : φ128 4 = φ 4 := hf128 4 (by decide) (by decide) (by decide) (by decide)
                have e128_12 : φ128 12 = φ 12 := hf128 12 (by decide) (by decide) (by decide) (by decide)
                have e128_13 : φ128 13 = (w : Int) + 1 := hf128 13 (by decide) (by decide) (by decide) (by decide)
                have e128_14 : φ128 14 = φ 14 := hf128 14 (by decide) (by decide) (by decide) (by decide)
                have e128_16 : φ128 16 = φ 16 := hf128 16 (by decide) (by decide) (by decide) (by decide)
                have e128_17 : φ128 17 = φ 17 := hf128 17 (by decide) (by decide) (by decide) (by decide)
                have e128_18 : φ128 18 = φ 18 := hf128 18 (by decide) (by decide) (by decide) (by decide)
                have e128_19 : φ128 19 = φ 19 := hf128 19 (by decide) (by decide) (by decide) (by decide)
                have e128_20 : φ128 20 = φ 20 := hf128 20 (by decide) (by decide) (by decide) (by decide)
                have e128_21 : φ128 21 = φ 21 := hf128 21 (by decide) (by decide) (by decide) (by decide)
                have a128 : φ 7 ≤ φ128 7 := ha128
                have b128 : ¬ φ128 9 = 0 → φ 7 + 1 ≤ φ128 7 := hb128
                show wp_R (d + 1 + 1 + 1 + 1) 208 88 [some (.ref a), some (wp_i y)] [] h _
                refine wp_s (pc' := 89) ji_208_88 rfl rfl rfl ?_
                refine wp_s (pc' := 90) ji_208_89 rfl rfl rfl ?_
                refine pv_pi V ji_208_90 jf_208_180 (by decide) pf_19 (by decide) (by decide) (by decide) (by omega) (by omega) (by omega) rfl rfl (fun h V => ?_)
                refine wp_s (pc' := 94) ji_208_93 rfl rfl rfl ?_
                refine wp_bp ji_208_94 rfl ?_
                obtain ⟨l1, hse, hA1, ⟨k1, hk1⟩, -, -⟩ := se_V (least := 7) (by omega) (am := (φ 18).toNat) hA (fun q => by omega)
                have hps : ps t0 (pv_u φ128 19 1) pl (em_t ts s w 0 (φ 10)) s c0 (pp pl p) (po_n (φ 18).toNat (pp pl p) + 1) (po_t (pp pl p)) := ps_val hp hw htl (by omega) (show φ128 12 = _ by omega) (show φ128 13 = _ by omega) (show φ128 16 = _ by omega) (show φ128 17 = _ by omega) hj2 (by omega) (by omega)
                refine pv_vc V ji_208_96 jc_208_183 jk_202 (rest := []) rfl (Nat.le_of_ble_eq_true rfl) rfl (by rw [jn_202]; rfl) (ws_settle (least := 7) (by omega) _ _ _ _ _ _ V hps (show φ128 13 + (φ128 16) ≤ 300 by omega) hse) (fun v h R => ?_)
                obtain ⟨rfl, φ129, ts129, V, hp129, hf129, hs129⟩ := R
                have e129_4 : φ129 4 = φ128 4 := hf129 4 (by decide) (by decide) (by decide)
                have e129_7 : φ129 7 = φ128 7 := hf129 7 (by decide) (by decide) (by decide)
                have e129_9 : φ129 9 = φ128 9 := hf129 9 (by decide) (by decide) (by decide)
                have e129_10 : φ129 10 = φ128 10 := hf129 10 (by decide) (by decide) (by decide)
                have e129_12 : φ129 12 = φ128 12 := hf129 12 (by decide) (by decide) (by decide)
                have e129_14 : φ129 14 = φ128 14 := hf129 14 (by decide) (by decide) (by decide)
                have e129_18 : φ129 18 = φ128 18 := hf129 18 (by decide) (by decide) (by decide)
                have e129_19 : φ129 19 = 1 := hf129 19 (by decide) (by decide) (by decide)
                have e129_20 : φ129 20 = φ128 20 := hf129 20 (by decide) (by decide) (by decide)
                have e129_21 : φ129 21 = φ128 21 := hf129 21 (by decide) (by decide) (by decide)
                have s129 : φ129 13 + φ129 16 ≤ φ128 13 + (φ128 16) := hs129
                have hlen129 := ps_len hp129
                show wp_R (d + 1 + 1 + 1 + 1) 208 99 [some (.ref a), some (wp_i y)] [] h _
                refine wp_s (pc' := 100) ji_208_99 rfl rfl rfl ?_
                exact wp_ri ji_208_100 jr_208 rfl ⟨0, rfl, Or.inr (⟨rfl, by omega, φ129, pl, _, l1, _, _, V, hp129, ⟨by omega, by omega, by omega, by omega, by omega⟩, ⟨by omega, fun q => by have := b128 (by omega); omega⟩, ⟨by omega, fun q => by have := b128 (by omega); omega⟩, fun q x hx => hm.1 (by omega) x (by rw [hk1] at hx; exact List.mem_of_mem_drop hx), Or.inr (Or.inl ⟨by omega, hA1, by rw [show (φ129 18).toNat = (φ 18).toNat by omega], rfl⟩)⟩)⟩
      · refine wp_s (pc' := 38) ji_208_37 rfl rfl rfl ?_
        exact wp_ri ji_208_38 jr_208 rfl ⟨5, rfl, Or.inl ⟨by omega, by omega, φ, pl, ts, pp pl p, _, _, V, hp, ⟨rfl, rfl, rfl, rfl, rfl⟩, hb.1, fun q => by have := hb.2 q; omega, Int.le_refl _⟩⟩
  · refine wp_s (pc' := 9) ji_208_8 rfl rfl rfl ?_
    refine pv_gi V ji_208_9 jf_208_102 (by decide) pf_10 (y := φ 10) rfl (fun l130 u131 => ?_)
    refine wp_sp ji_208_12 rfl ?_
    refine wp_icmp (t := 20) ji_208_15 rfl (by omega) (by omega) (fun (hb132 : (φ 10 : Int) ≤ 9999) => ?_) (fun (hb132 : ¬ ((φ 10 : Int) ≤ 9999)) => ?_)
    · refine wp_s (pc' := 21) ji_208_20 rfl rfl rfl ?_
      refine pv_vc V ji_208_21 jc_208_174 jk_209 (rest := []) rfl (Nat.le_of_ble_eq_true rfl) rfl (by rw [jn_209]; rfl) (ws_name (fun d1 hd1 => IH d1 (by omega)) (by omega) V) (fun v h R => ?_)
      obtain ⟨V, y, rfl, hy1, hy2, hy3⟩ := R
      show wp_R (d + 1 + 1 + 1 + 1) 208 24 [some (.ref a), none] [wp_i y] h _
      refine wp_s (pc' := 25) (lv' := [some (.ref a), some (wp_i y)]) ji_208_24 rfl rfl rfl ?_
      refine wp_s (pc' := 26) ji_208_25 rfl rfl rfl ?_
      refine wp_if (t := 39) ji_208_26 rfl (by omega) (fun (hb133 : (y : Int) < 0) => ?_) (fun (hb133 : ¬ ((y : Int) < 0)) => ?_)
      · refine wp_s (pc' := 40) ji_208_39 rfl rfl rfl ?_
        refine pv_gi V ji_208_40 jf_208_95 (by decide) pf_9 (y := φ 9) rfl (fun l134 u135 => ?_)
        refine wp_s (pc' := 44) ji_208_43 rfl rfl rfl ?_
        refine wp_icmp (t := 51) ji_208_44 rfl (by omega) (by omega) (fun (hb136 : (φ 9 : Int) = 1) => ?_) (fun (hb136 : ¬ ((φ 9 : Int) = 1)) => ?_)
        · refine wp_s (pc' := 52) ji_208_51 rfl rfl rfl ?_
          refine wp_s (pc' := 53) ji_208_52 rfl rfl rfl ?_
          refine pv_gi V ji_208_53 jf_208_95 (by decide) pf_9 (y := φ 9) rfl (fun l137 u138 => ?_)
          refine wp_s (pc' := 57) ji_208_56 rfl rfl rfl ?_
          refine wp_icmp (t := 64) ji_208_57 rfl (by omega) (by omega) (fun (hb139 : ¬ (φ 9 : Int) = 1) => ?_) (fun (hb139 : ¬ (¬ (φ 9 : Int) = 1)) => ?_)
          · refine wp_s (pc' := 65) ji_208_64 rfl rfl rfl ?_
            refine wp_s (pc' := 66) ji_208_65 rfl rfl rfl ?_
            refine pv_gi V ji_208_66 jf_208_95 (by decide) pf_9 (y := φ 9) rfl (fun l140 u141 => ?_)
            refine wp_s (pc' := 70) ji_208_69 rfl rfl rfl ?_
            refine wp_icmp (t := 80) ji_208_70 rfl (by omega) (by omega) (fun (hb142 : ¬ (φ 9 : Int) = 1) => ?_) (fun (hb142 : ¬ (¬ (φ 9 : Int) = 1)) => ?_)
            · refine wp_s (pc' := 81) ji_208_80 rfl rfl rfl ?_
              refine pv_vc V ji_208_81 jc_208_153 jk_203 (rest := []) rfl (Nat.le_of_ble_eq_true rfl) rfl (by rw [jn_203]; rfl) (ws_emit V (s := s) (w := w) (o := 1) (v := y) hw h12 hs (by omega) (by omega) (by omega) hj) (fun v h R => ?_)
              obtain ⟨rfl, V, hj2⟩ := R
              show wp_R (d + 1 + 1 + 1 + 1) 208 84 [some (.ref a), some (wp_i y)] [] h _
              refine wp_s (pc' := 85) ji_208_84 rfl rfl rfl ?_
              refine pv_vc V ji_208_85 jc_208_171 jk_178 (rest := []) rfl (Nat.le_of_ble_eq_true rfl) rfl (by rw [jn_178]; rfl) (ws_next (by omega) V) (fun v h R => ?_)
              obtain ⟨rfl, φ143, V, hf143, ha143, hb143⟩ := R
              have e143_4 : φ143 4 = φ 4 := hf143 4 (by decide) (by decide) (by decide) (by decide)
              have e143_12 : φ143 12 = φ 12 := hf143 12 (by decide) (by decide) (by decide) (by decide)
              have e143_13 : φ143 13 = (w : Int) + 1 := hf143 13 (by decide) (by decide) (by decide) (by decide)
              have e143_14 : φ143 14 = φ 14 := hf143 14 (by decide) (by decide) (by decide) (by decide)
              have e143_16 : φ143 16 = φ 16 := hf143 16 (by decide) (by decide) (by decide) (by decide)
              have e143_17 : φ143 17 = φ 17 := hf143 17 (by decide) (by decide) (by decide) (by decide)
              have e143_18 : φ143 18 = φ 18 := hf143 18 (by decide) (by decide) (by decide) (by decide)
              have e143_19 : φ143 19 = φ 19 := hf143 19 (by decide) (by decide) (by decide) (by decide)
              have e143_20 : φ143 20 = φ 20 := hf143 20 (by decide) (by decide) (by decide) (by decide)
              have e143_21 : φ143 21 = φ 21 := hf143 21 (by decide) (by decide) (by decide) (by decide)
              have a143 : φ 7 ≤ φ143 7 := ha143
              have b143 : ¬ φ143 9 = 0 → φ 7 + 1 ≤ φ143 7 := hb143
              show wp_R (d + 1 + 1 + 1 + 1) 208 88 [some (.ref a), some (wp_i y)] [] h _
              refine wp_s (pc' := 89) ji_208_88 rfl rfl rfl ?_
              refine wp_s (pc' := 90) ji_208_89 rfl rfl rfl ?_
              refine pv_pi V ji_208_90 jf_208_180 (by decide) pf_19 (by decide) (by decide) (by decide) (by omega) (by omega) (by omega) rfl rfl (fun h V => ?_)
              refine wp_s (pc' := 94) ji_208_93 rfl rfl rfl ?_
              refine wp_bp ji_208_94 rfl ?_
              obtain ⟨l1, hse, hA1, ⟨k1, hk1⟩, -, -⟩ := se_V (least := 7) (by omega) (am := (φ 18).toNat) hA (fun q => by omega)
              have hps : ps t0 (pv_u φ143 19 1) pl (em_t ts s w 1 y) s c0 (pp pl p) (po_n (φ 18).toNat (pp pl p) + 1) (po_t (pp pl p)) := ps_val hp hw htl (by omega) (show φ143 12 = _ by omega) (show φ143 13 = _ by omega) (show φ143 16 = _ by omega) (show φ143 17 = _ by omega) hj2 (by omega) (by omega)
              refine pv_vc V ji_208_96 jc_208_183 jk_202 (rest := []) rfl (Nat.le_of_ble_eq_true rfl) rfl (by rw [jn_202]; rfl) (ws_settle (least := 7) (by omega) _ _ _ _ _ _ V hps (show φ143 13 + (φ143 16) ≤ 300 by omega) hse) (fun v h R => ?_)
              obtain ⟨rfl, φ144, ts144, V, hp144, hf144, hs144⟩ := R
              have e144_4 : φ144 4 = φ143 4 := hf144 4 (by decide) (by decide) (by decide)
              have e144_7 : φ144 7 = φ143 7 := hf144 7 (by decide) (by decide) (by decide)
              have e144_9 : φ144 9 = φ143 9 := hf144 9 (by decide) (by decide) (by decide)
              have e144_10 : φ144 10 = φ143 10 := hf144 10 (by decide) (by decide) (by decide)
              have e144_12 : φ144 12 = φ143 12 := hf144 12 (by decide) (by decide) (by decide)
              have e144_14 : φ144 14 = φ143 14 := hf144 14 (by decide) (by decide) (by decide)
              have e144_18 : φ144 18 = φ143 18 := hf144 18 (by decide) (by decide) (by decide)
              have e144_19 : φ144 19 = 1 := hf144 19 (by decide) (by decide) (by decide)
              have e144_20 : φ144 20 = φ143 20 := hf144 20 (by decide) (by decide) (by decide)
              have e144_21 : φ144 21 = φ143 21 := hf144 21 (by decide) (by decide) (by decide)
              have s144 : φ144 13 + φ144 16 ≤ φ143 13 + (φ143 16) := hs144
              have hlen144 := ps_len hp144
              show wp_R (d + 1 + 1 + 1 + 1) 208 99 [some (.ref a), some (wp_i y)] [] h _
              refine wp_s (pc' := 100) ji_208_99 rfl rfl rfl ?_
              exact wp_ri ji_208_100 jr_208 rfl ⟨0, rfl, Or.inr (⟨rfl, by omega, φ144, pl, _, l1, _, _, V, hp144, ⟨by omega, by omega, by omega, by omega, by omega⟩, ⟨by omega, fun q => by have := b143 (by omega); omega⟩, ⟨by omega, fun q => by have := b143 (by omega); omega⟩, fun q x hx => hm.1 (by omega) x (by rw [hk1] at hx; exact List.mem_of_mem_drop hx), Or.inr (Or.inl ⟨by omega, hA1, by rw [show (φ144 18).toNat = (φ 18).toNat by omega], rfl⟩)⟩)⟩
            · refine wp_s (pc' := 74) ji_208_73 rfl rfl rfl ?_
              refine pv_gi V ji_208_74 jf_208_102 (by decide) pf_10 (y := φ 10) rfl (fun l145 u146 => ?_)
              refine wp_goto (t := 81) ji_208_77 rfl ?_
              refine pv_vc V ji_208_81 jc_208_153 jk_203 (rest := []) rfl (Nat.le_of_ble_eq_true rfl) rfl (by rw [jn_203]; rfl) (ws_emit V (s := s) (w := w) (o := 1) (v := φ 10) hw h12 hs (by omega) (by omega) (by omega) hj) (fun v h R => ?_)
              obtain ⟨rfl, V, hj2⟩ := R
              show wp_R (d + 1 + 1 + 1 + 1) 208 84 [some (.ref a), some (wp_i y)] [] h _
              refine wp_s (pc' := 85) ji_208_84 rfl rfl rfl ?_
              refine pv_vc V ji_208_85 jc_208_171 jk_178 (rest := []) rfl (Nat.le_of_ble_eq_true rfl) rfl (by rw [jn_178]; rfl) (ws_next (by omega) V) (fun v h R => ?_)
              obtain ⟨rfl, φ147, V, hf147, ha147, hb147⟩ := R
              have e147_4 : φ147 4 = φ 4 := hf147 4 (by decide) (by decide) (by decide) (by decide)
              have e147_12 : φ147 12 = φ 12 := hf147 12 (by decide) (by decide) (by decide) (by decide)
              have e147_13 : φ147 13 = (w : Int) + 1 := hf147 13 (by decide) (by decide) (by decide) (by decide)
              have e147_14 : φ147 14 = φ 14 := hf147 14 (by decide) (by decide) (by decide) (by decide)
              have e147_16 : φ147 16 = φ 16 := hf147 16 (by decide) (by decide) (by decide) (by decide)
              have e147_17 : φ147 17 = φ 17 := hf147 17 (by decide) (by decide) (by decide) (by decide)
              have e147_18 : φ147 18 = φ 18 := hf147 18 (by decide) (by decide) (by decide) (by decide)
              have e147_19 : φ147 19 = φ 19 := hf147 19 (by decide) (by decide) (by decide) (by decide)
              have e147_20 : φ147 20 = φ 20 := hf147 20 (by decide) (by decide) (by decide) (by decide)
              have e147_21 : φ147 21 = φ 21 := hf147 21 (by decide) (by decide) (by decide) (by decide)
              have a147 : φ 7 ≤ φ147 7 := ha147
              have b147 : ¬ φ147 9 = 0 → φ 7 + 1 ≤ φ147 7 := hb147
              show wp_R (d + 1 + 1 + 1 + 1) 208 88 [some (.ref a), some (wp_i y)] [] h _
              refine wp_s (pc' := 89) ji_208_88 rfl rfl rfl ?_
              refine wp_s (pc' := 90) ji_208_89 rfl rfl rfl ?_
              refine pv_pi V ji_208_90 jf_208_180 (by decide) pf_19 (by decide) (by decide) (by decide) (by omega) (by omega) (by omega) rfl rfl (fun h V => ?_)
              refine wp_s (pc' := 94) ji_208_93 rfl rfl rfl ?_
              refine wp_bp ji_208_94 rfl ?_
              obtain ⟨l1, hse, hA1, ⟨k1, hk1⟩, -, -⟩ := se_V (least := 7) (by omega) (am := (φ 18).toNat) hA (fun q => by omega)
              have hps : ps t0 (pv_u φ147 19 1) pl (em_t ts s w 1 (φ 10)) s c0 (pp pl p) (po_n (φ 18).toNat (pp pl p) + 1) (po_t (pp pl p)) := ps_val hp hw htl (by omega) (show φ147 12 = _ by omega) (show φ147 13 = _ by omega) (show φ147 16 = _ by omega) (show φ147 17 = _ by omega) hj2 (by omega) (by omega)
              refine pv_vc V ji_208_96 jc_208_183 jk_202 (rest := []) rfl (Nat.le_of_ble_eq_true rfl) rfl (by rw [jn_202]; rfl) (ws_settle (least := 7) (by omega) _ _ _ _ _ _ V hps (show φ147 13 + (φ147 16) ≤ 300 by omega) hse) (fun v h R => ?_)
              obtain ⟨rfl, φ148, ts148, V, hp148, hf148, hs148⟩ := R
              have e148_4 : φ148 4 = φ147 4 := hf148 4 (by decide) (by decide) (by decide)
              have e148_7 : φ148 7 = φ147 7 := hf148 7 (by decide) (by decide) (by decide)
              have e148_9 : φ148 9 = φ147 9 := hf148 9 (by decide) (by decide) (by decide)
              have e148_10 : φ148 10 = φ147 10 := hf148 10 (by decide) (by decide) (by decide)
              have e148_12 : φ148 12 = φ147 12 := hf148 12 (by decide) (by decide) (by decide)
              have e148_14 : φ148 14 = φ147 14 := hf148 14 (by decide) (by decide) (by decide)
              have e148_18 : φ148 18 = φ147 18 := hf148 18 (by decide) (by decide) (by decide)
              have e148_19 : φ148 19 = 1 := hf148 19 (by decide) (by decide) (by decide)
              have e148_20 : φ148 20 = φ147 20 := hf148 20 (by decide) (by decide) (by decide)
              have e148_21 : φ148 21 = φ147 21 := hf148 21 (by decide) (by decide) (by decide)
              have s148 : φ148 13 + φ148 16 ≤ φ147 13 + (φ147 16) := hs148
              have hlen148 := ps_len hp148
              show wp_R (d + 1 + 1 + 1 + 1) 208 99 [some (.ref a), some (wp_i y)] [] h _
              refine wp_s (pc' := 100) ji_208_99 rfl rfl rfl ?_
              exact wp_ri ji_208_100 jr_208 rfl ⟨0, rfl, Or.inr (⟨rfl, by omega, φ148, pl, _, l1, _, _, V, hp148, ⟨by omega, by omega, by omega, by omega, by omega⟩, ⟨by omega, fun q => by have := b147 (by omega); omega⟩, ⟨by omega, fun q => by have := b147 (by omega); omega⟩, fun q x hx => hm.1 (by omega) x (by rw [hk1] at hx; exact List.mem_of_mem_drop hx), Or.inr (Or.inl ⟨by omega, hA1, by rw [show (φ148 18).toNat = (φ 18).toNat by omega], rfl⟩)⟩)⟩
          · refine wp_s (pc' := 61) ji_208_60 rfl rfl rfl ?_
            refine wp_goto (t := 65) ji_208_61 rfl ?_
            refine wp_s (pc' := 66) ji_208_65 rfl rfl rfl ?_
            refine pv_gi V ji_208_66 jf_208_95 (by decide) pf_9 (y := φ 9) rfl (fun l149 u150 => ?_)
            refine wp_s (pc' := 70) ji_208_69 rfl rfl rfl ?_
            refine wp_icmp (t := 80) ji_208_70 rfl (by omega) (by omega) (fun (hb151 : ¬ (φ 9 : Int) = 1) => ?_) (fun (hb151 : ¬ (¬ (φ 9 : Int) = 1)) => ?_)
            · refine wp_s (pc' := 81) ji_208_80 rfl rfl rfl ?_
              refine pv_vc V ji_208_81 jc_208_153 jk_203 (rest := []) rfl (Nat.le_of_ble_eq_true rfl) rfl (by rw [jn_203]; rfl) (ws_emit V (s := s) (w := w) (o := 0) (v := y) hw h12 hs (by omega) (by omega) (by omega) hj) (fun v h R => ?_)
              obtain ⟨rfl, V, hj2⟩ := R
              show wp_R (d + 1 + 1 + 1 + 1) 208 84 [some (.ref a), some (wp_i y)] [] h _
              refine wp_s (pc' := 85) ji_208_84 rfl rfl rfl ?_
              refine pv_vc V ji_208_85 jc_208_171 jk_178 (rest := []) rfl (Nat.le_of_ble_eq_true rfl) rfl (by rw [jn_178]; rfl) (ws_next (by omega) V) (fun v h R => ?_)
              obtain ⟨rfl, φ152, V, hf152, ha152, hb152⟩ := R
              have e152_4 : φ152 4 = φ 4 := hf152 4 (by decide) (by decide) (by decide) (by decide)
              have e152_12 : φ152 12 = φ 12 := hf152 12 (by decide) (by decide) (by decide) (by decide)
              have e152_13 : φ152 13 = (w : Int) + 1 := hf152 13 (by decide) (by decide) (by decide) (by decide)
              have e152_14 : φ152 14 = φ 14 := hf152 14 (by decide) (by decide) (by decide) (by decide)
              have e152_16 : φ152 16 = φ 16 := hf152 16 (by decide) (by decide) (by decide) (by decide)
              have e152_17 : φ152 17 = φ 17 := hf152 17 (by decide) (by decide) (by decide) (by decide)
              have e152_18 : φ152 18 = φ 18 := hf152 18 (by decide) (by decide) (by decide) (by decide)
              have e152_19 : φ152 19 = φ 19 := hf152 19 (by decide) (by decide) (by decide) (by decide)
              have e152_20 : φ152 20 = φ 20 := hf152 20 (by decide) (by decide) (by decide) (by decide)
              have e152_21 : φ152 21 = φ 21 := hf152 21 (by decide) (by decide) (by decide) (by decide)
              have a152 : φ 7 ≤ φ152 7 := ha152
              have b152 : ¬ φ152 9 = 0 → φ 7 + 1 ≤ φ152 7 := hb152
              show wp_R (d + 1 + 1 + 1 + 1) 208 88 [some (.ref a), some (wp_i y)] [] h _
              refine wp_s (pc' := 89) ji_208_88 rfl rfl rfl ?_
              refine wp_s (pc' := 90) ji_208_89 rfl rfl rfl ?_
              refine pv_pi V ji_208_90 jf_208_180 (by decide) pf_19 (by decide) (by decide) (by decide) (by omega) (by omega) (by omega) rfl rfl (fun h V => ?_)
              refine wp_s (pc' := 94) ji_208_93 rfl rfl rfl ?_
              refine wp_bp ji_208_94 rfl ?_
              obtain ⟨l1, hse, hA1, ⟨k1, hk1⟩, -, -⟩ := se_V (least := 7) (by omega) (am := (φ 18).toNat) hA (fun q => by omega)
              have hps : ps t0 (pv_u φ152 19 1) pl (em_t ts s w 0 y) s c0 (pp pl p) (po_n (φ 18).toNat (pp pl p) + 1) (po_t (pp pl p)) := ps_val hp hw htl (by omega) (show φ152 12 = _ by omega) (show φ152 13 = _ by omega) (show φ152 16 = _ by omega) (show φ152 17 = _ by omega) hj2 (by omega) (by omega)
              refine pv_vc V ji_208_96 jc_208_183 jk_202 (rest := []) rfl (Nat.le_of_ble_eq_true rfl) rfl (by rw [jn_202]; rfl) (ws_settle (least := 7) (by omega) _ _ _ _ _ _ V hps (show φ152 13 + (φ152 16) ≤ 300 by omega) hse) (fun v h R => ?_)
              obtain ⟨rfl, φ153, ts153, V, hp153, hf153, hs153⟩ := R
              have e153_4 : φ153 4 = φ152 4 := hf153 4 (by decide) (by decide) (by decide)
              have e153_7 : φ153 7 = φ152 7 := hf153 7 (by decide) (by decide) (by decide)
              have e153_9 : φ153 9 = φ152 9 := hf153 9 (by decide) (by decide) (by decide)
              have e153_10 : φ153 10 = φ152 10 := hf153 10 (by decide) (by decide) (by decide)
              have e153_12 : φ153 12 = φ152 12 := hf153 12 (by decide) (by decide) (by decide)
              have e153_14 : φ153 14 = φ152 14 := hf153 14 (by decide) (by decide) (by decide)
              have e153_18 : φ153 18 = φ152 18 := hf153 18 (by decide) (by decide) (by decide)
              have e153_19 : φ153 19 = 1 := hf153 19 (by decide) (by decide) (by decide)
              have e153_20 : φ153 20 = φ152 20 := hf153 20 (by decide) (by decide) (by decide)
              have e153_21 : φ153 21 = φ152 21 := hf153 21 (by decide) (by decide) (by decide)
              have s153 : φ153 13 + φ153 16 ≤ φ152 13 + (φ152 16) := hs153
              have hlen153 := ps_len hp153
              show wp_R (d + 1 + 1 + 1 + 1) 208 99 [some (.ref a), some (wp_i y)] [] h _
              refine wp_s (pc' := 100) ji_208_99 rfl rfl rfl ?_
              exact wp_ri ji_208_100 jr_208 rfl ⟨0, rfl, Or.inr (⟨rfl, by omega, φ153, pl, _, l1, _, _, V, hp153, ⟨by omega, by omega, by omega, by omega, by omega⟩, ⟨by omega, fun q => by have := b152 (by omega); omega⟩, ⟨by omega, fun q => by have := b152 (by omega); omega⟩, fun q x hx => hm.1 (by omega) x (by rw [hk1] at hx; exact List.mem_of_mem_drop hx), Or.inr (Or.inl ⟨by omega, hA1, by rw [show (φ153 18).toNat = (φ 18).toNat by omega], rfl⟩)⟩)⟩
            · refine wp_s (pc' := 74) ji_208_73 rfl rfl rfl ?_
              refine pv_gi V ji_208_74 jf_208_102 (by decide) pf_10 (y := φ 10) rfl (fun l154 u155 => ?_)
              refine wp_goto (t := 81) ji_208_77 rfl ?_
              refine pv_vc V ji_208_81 jc_208_153 jk_203 (rest := []) rfl (Nat.le_of_ble_eq_true rfl) rfl (by rw [jn_203]; rfl) (ws_emit V (s := s) (w := w) (o := 0) (v := φ 10) hw h12 hs (by omega) (by omega) (by omega) hj) (fun v h R => ?_)
              obtain ⟨rfl, V, hj2⟩ := R
              show wp_R (d + 1 + 1 + 1 + 1) 208 84 [some (.ref a), some (wp_i y)] [] h _
              refine wp_s (pc' := 85) ji_208_84 rfl rfl rfl ?_
              refine pv_vc V ji_208_85 jc_208_171 jk_178 (rest := []) rfl (Nat.le_of_ble_eq_true rfl) rfl (by rw [jn_178]; rfl) (ws_next (by omega) V) (fun v h R => ?_)
              obtain ⟨rfl, φ156, V, hf156, ha156, hb156⟩ := R
              have e156_4 : φ156 4 = φ 4 := hf156 4 (by decide) (by decide) (by decide) (by decide)
              have e156_12 : φ156 12 = φ 12 := hf156 12 (by decide) (by decide) (by decide) (by decide)
              have e156_13 : φ156 13 = (w : Int) + 1 := hf156 13 (by decide) (by decide) (by decide) (by decide)
              have e156_14 : φ156 14 = φ 14 := hf156 14 (by decide) (by decide) (by decide) (by decide)
              have e156_16 : φ156 16 = φ 16 := hf156 16 (by decide) (by decide) (by decide) (by decide)
              have e156_17 : φ156 17 = φ 17 := hf156 17 (by decide) (by decide) (by decide) (by decide)
              have e156_18 : φ156 18 = φ 18 := hf156 18 (by decide) (by decide) (by decide) (by decide)
              have e156_19 : φ156 19 = φ 19 := hf156 19 (by decide) (by decide) (by decide) (by decide)
              have e156_20 : φ156 20 = φ 20 := hf156 20 (by decide) (by decide) (by decide) (by decide)
              have e156_21 : φ156 21 = φ 21 := hf156 21 (by decide) (by decide) (by decide) (by decide)
              have a156 : φ 7 ≤ φ156 7 := ha156
              have b156 : ¬ φ156 9 = 0 → φ 7 + 1 ≤ φ156 7 := hb156
              show wp_R (d + 1 + 1 + 1 + 1) 208 88 [some (.ref a), some (wp_i y)] [] h _
              refine wp_s (pc' := 89) ji_208_88 rfl rfl rfl ?_
              refine wp_s (pc' := 90) ji_208_89 rfl rfl rfl ?_
              refine pv_pi V ji_208_90 jf_208_180 (by decide) pf_19 (by decide) (by decide) (by decide) (by omega) (by omega) (by omega) rfl rfl (fun h V => ?_)
              refine wp_s (pc' := 94) ji_208_93 rfl rfl rfl ?_
              refine wp_bp ji_208_94 rfl ?_
              obtain ⟨l1, hse, hA1, ⟨k1, hk1⟩, -, -⟩ := se_V (least := 7) (by omega) (am := (φ 18).toNat) hA (fun q => by omega)
              have hps : ps t0 (pv_u φ156 19 1) pl (em_t ts s w 0 (φ 10)) s c0 (pp pl p) (po_n (φ 18).toNat (pp pl p) + 1) (po_t (pp pl p)) := ps_val hp hw htl (by omega) (show φ156 12 = _ by omega) (show φ156 13 = _ by omega) (show φ156 16 = _ by omega) (show φ156 17 = _ by omega) hj2 (by omega) (by omega)
              refine pv_vc V ji_208_96 jc_208_183 jk_202 (rest := []) rfl (Nat.le_of_ble_eq_true rfl) rfl (by rw [jn_202]; rfl) (ws_settle (least := 7) (by omega) _ _ _ _ _ _ V hps (show φ156 13 + (φ156 16) ≤ 300 by omega) hse) (fun v h R => ?_)
              obtain ⟨rfl, φ157, ts157, V, hp157, hf157, hs157⟩ := R
              have e157_4 : φ157 4 = φ156 4 := hf157 4 (by decide) (by decide) (by decide)
              have e157_7 : φ157 7 = φ156 7 := hf157 7 (by decide) (by decide) (by decide)
              have e157_9 : φ157 9 = φ156 9 := hf157 9 (by decide) (by decide) (by decide)
              have e157_10 : φ157 10 = φ156 10 := hf157 10 (by decide) (by decide) (by decide)
              have e157_12 : φ157 12 = φ156 12 := hf157 12 (by decide) (by decide) (by decide)
              have e157_14 : φ157 14 = φ156 14 := hf157 14 (by decide) (by decide) (by decide)
              have e157_18 : φ157 18 = φ156 18 := hf157 18 (by decide) (by decide) (by decide)
              have e157_19 : φ157 19 = 1 := hf157 19 (by decide) (by decide) (by decide)
              have e157_20 : φ157 20 = φ156 20 := hf157 20 (by decide) (by decide) (by decide)
              have e157_21 : φ157 21 = φ156 21 := hf157 21 (by decide) (by decide) (by decide)
              have s157 : φ157 13 + φ157 16 ≤ φ156 13 + (φ156 16) := hs157
              have hlen157 := ps_len hp157
              show wp_R (d + 1 + 1 + 1 + 1) 208 99 [some (.ref a), some (wp_i y)] [] h _
              refine wp_s (pc' := 100) ji_208_99 rfl rfl rfl ?_
              exact wp_ri ji_208_100 jr_208 rfl ⟨0, rfl, Or.inr (⟨rfl, by omega, φ157, pl, _, l1, _, _, V, hp157, ⟨by omega, by omega, by omega, by omega, by omega⟩, ⟨by omega, fun q => by have := b156 (by omega); omega⟩, ⟨by omega, fun q => by have := b156 (by omega); omega⟩, fun q x hx => hm.1 (by omega) x (by rw [hk1] at hx; exact List.mem_of_mem_drop hx), Or.inr (Or.inl ⟨by omega, hA1, by rw [show (φ157 18).toNat = (φ 18).toNat by omega], rfl⟩)⟩)⟩
        · refine wp_s (pc' := 48) ji_208_47 rfl rfl rfl ?_
          refine wp_if (t := 101) ji_208_48 rfl (by omega) (fun (hb158 : (y : Int) < 0) => ?_) (fun (hb158 : ¬ ((y : Int) < 0)) => ?_)
          · refine wp_s (pc' := 102) ji_208_101 rfl rfl rfl ?_
            refine pv_gi V ji_208_102 jf_208_95 (by decide) pf_9 (y := φ 9) rfl (fun l159 u160 => ?_)
            refine wp_bp ji_208_105 rfl ?_
            refine wp_icmp (t := 117) ji_208_107 rfl (by omega) (by omega) (fun (hb161 : ¬ (φ 9 : Int) = 40) => ?_) (fun (hb161 : ¬ (¬ (φ 9 : Int) = 40)) => ?_)
            · refine wp_s (pc' := 118) ji_208_117 rfl rfl rfl ?_
              refine pv_gi V ji_208_118 jf_208_95 (by decide) pf_9 (y := φ 9) rfl (fun l162 u163 => ?_)
              refine wp_bp ji_208_121 rfl ?_
              refine wp_icmp (t := 132) ji_208_123 rfl (by omega) (by omega) (fun (hb164 : ¬ (φ 9 : Int) = 45) => ?_) (fun (hb164 : ¬ (¬ (φ 9 : Int) = 45)) => ?_)
              · refine wp_s (pc' := 133) ji_208_132 rfl rfl rfl ?_
                refine wp_bp ji_208_133 rfl ?_
                refine wp_bp ji_208_135 rfl ?_
                refine wp_bp ji_208_137 rfl ?_
                refine wp_sc (as := [wp_i 110, wp_i 111, wp_i 116]) (rest := [.ref a]) ji_208_139 jc_208_122 (Nat.le_of_ble_eq_true rfl) rfl (Nat.le_of_ble_eq_true rfl) rfl (by rw [jn_188]; rfl) ws_w3 (fun v h R => ?_)
                obtain ⟨rfl, z165, rfl⟩ := R
                show wp_R (d + 1 + 1 + 1 + 1) 208 142 [some (.ref a), some (wp_i y)] [.long z165, .ref a] h _
                refine pv_vc V ji_208_142 jc_208_189 jk_190 (rest := []) rfl (Nat.le_of_ble_eq_true rfl) rfl (by rw [jn_190]; rfl) (ws_isWord V) (fun v h R => ?_)
                obtain ⟨rfl, y166, rfl, q167, q168⟩ := R
                show wp_R (d + 1 + 1 + 1 + 1) 208 145 [some (.ref a), some (wp_i y)] [wp_i y166] h _
                refine wp_if (t := 164) ji_208_145 rfl (by omega) (fun (hb169 : (y166 : Int) = 0) => ?_) (fun (hb169 : ¬ ((y166 : Int) = 0)) => ?_)
                · refine wp_s (pc' := 165) ji_208_164 rfl rfl rfl ?_
                  exact wp_ri ji_208_165 jr_208 rfl ⟨1, rfl, Or.inl ⟨by omega, by omega, φ, pl, ts, pp pl p, _, _, V, hp, ⟨rfl, rfl, rfl, rfl, rfl⟩, hb.1, fun q => by have := hb.2 q; omega, Int.le_refl _⟩⟩
                · refine wp_s (pc' := 149) ji_208_148 rfl rfl rfl ?_
                  refine pv_vc V ji_208_149 jc_208_193 jk_211 (rest := []) rfl (Nat.le_of_ble_eq_true rfl) rfl (by rw [jn_211]; rfl) (ws_ahead V h16) (fun v h R => ?_)
                  obtain ⟨rfl, y170, rfl, q171, q172⟩ := R
                  show wp_R (d + 1 + 1 + 1 + 1) 208 152 [some (.ref a), some (wp_i y)] [wp_i y170] h _
                  refine wp_if (t := 164) ji_208_152 rfl (by omega) (fun (hb173 : (y170 : Int) = 0) => ?_) (fun (hb173 : ¬ ((y170 : Int) = 0)) => ?_)
                  · refine wp_s (pc' := 165) ji_208_164 rfl rfl rfl ?_
                    exact wp_ri ji_208_165 jr_208 rfl ⟨1, rfl, Or.inl ⟨by omega, by omega, φ, pl, ts, pp pl p, _, _, V, hp, ⟨rfl, rfl, rfl, rfl, rfl⟩, hb.1, fun q => by have := hb.2 q; omega, Int.le_refl _⟩⟩
                  · have hah := q172 (by omega)
                    have hL : po_L (pp pl p) := by
                      rcases hah.2.2 with e | ⟨x, r, e, e2⟩
                      · rw [e]; trivial
                      · rw [e] at hA ⊢; exact po_A_t hA (rk_i e2)
                    refine wp_s (pc' := 156) ji_208_155 rfl rfl rfl ?_
                    refine wp_bp ji_208_156 rfl ?_
                    refine pv_vc V ji_208_158 jc_208_186 jk_205 (rest := []) rfl (Nat.le_of_ble_eq_true rfl) rfl (by rw [jn_205]; rfl) (wp_up (by omega) (ws_opened (d := d) V hp (o := 20) (by omega) h154 (by omega))) (fun v h R => ?_)
                    rcases R with ⟨rfl, rfl⟩ | ⟨rfl, φ9, pl9, V, hp9, ⟨f1, f2, f3, f4, f5⟩, f18, f19, f6, f7⟩
                    · show wp_R (d + 1 + 1 + 1 + 1) 208 161 [some (.ref a), some (wp_i y)] [wp_i 3] h _
                      refine wp_goto (t := 165) ji_208_161 rfl ?_
                      exact wp_ri ji_208_165 jr_208 rfl ⟨3, rfl, Or.inl ⟨by omega, by omega, φ, pl, ts, pp pl p, _, _, V, hp, ⟨rfl, rfl, rfl, rfl, rfl⟩, hb.1, fun q => by have := hb.2 q; omega, Int.le_refl _⟩⟩
                    · show wp_R (d + 1 + 1 + 1 + 1) 208 161 [some (.ref a), some (wp_i y)] [wp_i 0] h _
                      refine wp_goto (t := 165) ji_208_161 rfl ?_
                      refine wp_ri ji_208_165 jr_208 rfl ⟨0, rfl, Or.inr (⟨rfl, by omega, φ9, pl9, ts, _, _, _, V, hp9, ⟨f1, f2, f3, f4, f5⟩, f6, f7, ?_, Or.inl ⟨by omega, ?_, ?_, ?_⟩⟩)⟩
                      · exact fun q => by omega
                      · exact Or.inr ⟨Or.inr (Or.inr (by omega)), hL⟩
                      · rw [f18, po_n_c, if_neg (by omega), if_neg (by omega), if_neg (by omega), Nat.zero_add]
                      · rw [po_t_c, if_neg (by omega), Nat.zero_add]
              · refine wp_s (pc' := 127) ji_208_126 rfl rfl rfl ?_
                refine wp_s (pc' := 128) ji_208_127 rfl rfl rfl ?_
                refine pv_vc V ji_208_128 jc_208_186 jk_205 (rest := []) rfl (Nat.le_of_ble_eq_true rfl) rfl (by rw [jn_205]; rfl) (wp_up (by omega) (ws_opened (d := d) V hp (o := 3) (by omega) h154 (by omega))) (fun v h R => ?_)
                rcases R with ⟨rfl, rfl⟩ | ⟨rfl, φ9, pl9, V, hp9, ⟨f1, f2, f3, f4, f5⟩, f18, f19, f6, f7⟩
                · show wp_R (d + 1 + 1 + 1 + 1) 208 131 [some (.ref a), some (wp_i y)] [wp_i 3] h _
                  exact wp_ri ji_208_131 jr_208 rfl ⟨3, rfl, Or.inl ⟨by omega, by omega, φ, pl, ts, pp pl p, _, _, V, hp, ⟨rfl, rfl, rfl, rfl, rfl⟩, hb.1, fun q => by have := hb.2 q; omega, Int.le_refl _⟩⟩
                · show wp_R (d + 1 + 1 + 1 + 1) 208 131 [some (.ref a), some (wp_i y)] [wp_i 0] h _
                  refine wp_ri ji_208_131 jr_208 rfl ⟨0, rfl, Or.inr (⟨rfl, by omega, φ9, pl9, ts, _, _, _, V, hp9, ⟨f1, f2, f3, f4, f5⟩, f6, f7, ?_, Or.inl ⟨by omega, ?_, ?_, ?_⟩⟩)⟩
                  · intro q x hx
                    rcases List.mem_cons.mp hx with e | e
                    · omega
                    · exact hm.1 (by omega) x e
                  · exact Or.inl ⟨by omega, hA⟩
                  · rw [f18, po_n_c, if_neg (by omega), if_neg (by omega), if_neg (by omega), Nat.zero_add]
                  · rw [po_t_c, if_neg (by omega), Nat.zero_add]
            · refine wp_s (pc' := 111) ji_208_110 rfl rfl rfl ?_
              refine wp_bp ji_208_111 rfl ?_
              refine pv_vc V ji_208_113 jc_208_186 jk_205 (rest := []) rfl (Nat.le_of_ble_eq_true rfl) rfl (by rw [jn_205]; rfl) (wp_up (by omega) (ws_opened (d := d) V hp (o := 40) (by omega) h154 (by omega))) (fun v h R => ?_)
              rcases R with ⟨rfl, rfl⟩ | ⟨rfl, φ9, pl9, V, hp9, ⟨f1, f2, f3, f4, f5⟩, f18, f19, f6, f7⟩
              · show wp_R (d + 1 + 1 + 1 + 1) 208 116 [some (.ref a), some (wp_i y)] [wp_i 3] h _
                exact wp_ri ji_208_116 jr_208 rfl ⟨3, rfl, Or.inl ⟨by omega, by omega, φ, pl, ts, pp pl p, _, _, V, hp, ⟨rfl, rfl, rfl, rfl, rfl⟩, hb.1, fun q => by have := hb.2 q; omega, Int.le_refl _⟩⟩
              · show wp_R (d + 1 + 1 + 1 + 1) 208 116 [some (.ref a), some (wp_i y)] [wp_i 0] h _
                refine wp_ri ji_208_116 jr_208 rfl ⟨0, rfl, Or.inr (⟨rfl, by omega, φ9, pl9, ts, _, _, _, V, hp9, ⟨f1, f2, f3, f4, f5⟩, f6, f7, ?_, Or.inl ⟨by omega, ?_, ?_, ?_⟩⟩)⟩
                · intro q x hx
                  rcases List.mem_cons.mp hx with e | e
                  · omega
                  · exact hm.1 (by omega) x e
                · exact Or.inl ⟨by omega, hA⟩
                · rw [f18, po_n_c, if_neg (by omega), if_neg (by omega), if_neg (by omega), Nat.zero_add]
                · rw [po_t_c, if_neg (by omega), Nat.zero_add]
          · refine wp_s (pc' := 52) ji_208_51 rfl rfl rfl ?_
            refine wp_s (pc' := 53) ji_208_52 rfl rfl rfl ?_
            refine pv_gi V ji_208_53 jf_208_95 (by decide) pf_9 (y := φ 9) rfl (fun l174 u175 => ?_)
            refine wp_s (pc' := 57) ji_208_56 rfl rfl rfl ?_
            refine wp_icmp (t := 64) ji_208_57 rfl (by omega) (by omega) (fun (hb176 : ¬ (φ 9 : Int) = 1) => ?_) (fun (hb176 : ¬ (¬ (φ 9 : Int) = 1)) => ?_)
            · refine wp_s (pc' := 65) ji_208_64 rfl rfl rfl ?_
              refine wp_s (pc' := 66) ji_208_65 rfl rfl rfl ?_
              refine pv_gi V ji_208_66 jf_208_95 (by decide) pf_9 (y := φ 9) rfl (fun l177 u178 => ?_)
              refine wp_s (pc' := 70) ji_208_69 rfl rfl rfl ?_
              refine wp_icmp (t := 80) ji_208_70 rfl (by omega) (by omega) (fun (hb179 : ¬ (φ 9 : Int) = 1) => ?_) (fun (hb179 : ¬ (¬ (φ 9 : Int) = 1)) => ?_)
              · refine wp_s (pc' := 81) ji_208_80 rfl rfl rfl ?_
                refine pv_vc V ji_208_81 jc_208_153 jk_203 (rest := []) rfl (Nat.le_of_ble_eq_true rfl) rfl (by rw [jn_203]; rfl) (ws_emit V (s := s) (w := w) (o := 1) (v := y) hw h12 hs (by omega) (by omega) (by omega) hj) (fun v h R => ?_)
                obtain ⟨rfl, V, hj2⟩ := R
                show wp_R (d + 1 + 1 + 1 + 1) 208 84 [some (.ref a), some (wp_i y)] [] h _
                refine wp_s (pc' := 85) ji_208_84 rfl rfl rfl ?_
                refine pv_vc V ji_208_85 jc_208_171 jk_178 (rest := []) rfl (Nat.le_of_ble_eq_true rfl) rfl (by rw [jn_178]; rfl) (ws_next (by omega) V) (fun v h R => ?_)
                obtain ⟨rfl, φ180, V, hf180, ha180, hb180⟩ := R
                have e180_4 : φ180 4 = φ 4 := hf180 4 (by decide) (by decide) (by decide) (by decide)
                have e180_12 : φ180 12 = φ 12 := hf180 12 (by decide) (by decide) (by decide) (by decide)
                have e180_13 : φ180 13 = (w : Int) + 1 := hf180 13 (by decide) (by decide) (by decide) (by decide)
                have e180_14 : φ180 14 = φ 14 := hf180 14 (by decide) (by decide) (by decide) (by decide)
                have e180_16 : φ180 16 = φ 16 := hf180 16 (by decide) (by decide) (by decide) (by decide)
                have e180_17 : φ180 17 = φ 17 := hf180 17 (by decide) (by decide) (by decide) (by decide)
                have e180_18 : φ180 18 = φ 18 := hf180 18 (by decide) (by decide) (by decide) (by decide)
                have e180_19 : φ180 19 = φ 19 := hf180 19 (by decide) (by decide) (by decide) (by decide)
                have e180_20 : φ180 20 = φ 20 := hf180 20 (by decide) (by decide) (by decide) (by decide)
                have e180_21 : φ180 21 = φ 21 := hf180 21 (by decide) (by decide) (by decide) (by decide)
                have a180 : φ 7 ≤ φ180 7 := ha180
                have b180 : ¬ φ180 9 = 0 → φ 7 + 1 ≤ φ180 7 := hb180
                show wp_R (d + 1 + 1 + 1 + 1) 208 88 [some (.ref a), some (wp_i y)] [] h _
                refine wp_s (pc' := 89) ji_208_88 rfl rfl rfl ?_
                refine wp_s (pc' := 90) ji_208_89 rfl rfl rfl ?_
                refine pv_pi V ji_208_90 jf_208_180 (by decide) pf_19 (by decide) (by decide) (by decide) (by omega) (by omega) (by omega) rfl rfl (fun h V => ?_)
                refine wp_s (pc' := 94) ji_208_93 rfl rfl rfl ?_
                refine wp_bp ji_208_94 rfl ?_
                obtain ⟨l1, hse, hA1, ⟨k1, hk1⟩, -, -⟩ := se_V (least := 7) (by omega) (am := (φ 18).toNat) hA (fun q => by omega)
                have hps : ps t0 (pv_u φ180 19 1) pl (em_t ts s w 1 y) s c0 (pp pl p) (po_n (φ 18).toNat (pp pl p) + 1) (po_t (pp pl p)) := ps_val hp hw htl (by omega) (show φ180 12 = _ by omega) (show φ180 13 = _ by omega) (show φ180 16 = _ by omega) (show φ180 17 = _ by omega) hj2 (by omega) (by omega)
                refine pv_vc V ji_208_96 jc_208_183 jk_202 (rest := []) rfl (Nat.le_of_ble_eq_true rfl) rfl (by rw [jn_202]; rfl) (ws_settle (least := 7) (by omega) _ _ _ _ _ _ V hps (show φ180 13 + (φ180 16) ≤ 300 by omega) hse) (fun v h R => ?_)
                obtain ⟨rfl, φ181, ts181, V, hp181, hf181, hs181⟩ := R
                have e181_4 : φ181 4 = φ180 4 := hf181 4 (by decide) (by decide) (by decide)
                have e181_7 : φ181 7 = φ180 7 := hf181 7 (by decide) (by decide) (by decide)
                have e181_9 : φ181 9 = φ180 9 := hf181 9 (by decide) (by decide) (by decide)
                have e181_10 : φ181 10 = φ180 10 := hf181 10 (by decide) (by decide) (by decide)
                have e181_12 : φ181 12 = φ180 12 := hf181 12 (by decide) (by decide) (by decide)
                have e181_14 : φ181 14 = φ180 14 := hf181 14 (by decide) (by decide) (by decide)
                have e181_18 : φ181 18 = φ180 18 := hf181 18 (by decide) (by decide) (by decide)
                have e181_19 : φ181 19 = 1 := hf181 19 (by decide) (by decide) (by decide)
                have e181_20 : φ181 20 = φ180 20 := hf181 20 (by decide) (by decide) (by decide)
                have e181_21 : φ181 21 = φ180 21 := hf181 21 (by decide) (by decide) (by decide)
                have s181 : φ181 13 + φ181 16 ≤ φ180 13 + (φ180 16) := hs181
                have hlen181 := ps_len hp181
                show wp_R (d + 1 + 1 + 1 + 1) 208 99 [some (.ref a), some (wp_i y)] [] h _
                refine wp_s (pc' := 100) ji_208_99 rfl rfl rfl ?_
                exact wp_ri ji_208_100 jr_208 rfl ⟨0, rfl, Or.inr (⟨rfl, by omega, φ181, pl, _, l1, _, _, V, hp181, ⟨by omega, by omega, by omega, by omega, by omega⟩, ⟨by omega, fun q => by have := b180 (by omega); omega⟩, ⟨by omega, fun q => by have := b180 (by omega); omega⟩, fun q x hx => hm.1 (by omega) x (by rw [hk1] at hx; exact List.mem_of_mem_drop hx), Or.inr (Or.inl ⟨by omega, hA1, by rw [show (φ181 18).toNat = (φ 18).toNat by omega], rfl⟩)⟩)⟩
              · refine wp_s (pc' := 74) ji_208_73 rfl rfl rfl ?_
                refine pv_gi V ji_208_74 jf_208_102 (by decide) pf_10 (y := φ 10) rfl (fun l182 u183 => ?_)
                refine wp_goto (t := 81) ji_208_77 rfl ?_
                refine pv_vc V ji_208_81 jc_208_153 jk_203 (rest := []) rfl (Nat.le_of_ble_eq_true rfl) rfl (by rw [jn_203]; rfl) (ws_emit V (s := s) (w := w) (o := 1) (v := φ 10) hw h12 hs (by omega) (by omega) (by omega) hj) (fun v h R => ?_)
                obtain ⟨rfl, V, hj2⟩ := R
                show wp_R (d + 1 + 1 + 1 + 1) 208 84 [some (.ref a), some (wp_i y)] [] h _
                refine wp_s (pc' := 85) ji_208_84 rfl rfl rfl ?_
                refine pv_vc V ji_208_85 jc_208_171 jk_178 (rest := []) rfl (Nat.le_of_ble_eq_true rfl) rfl (by rw [jn_178]; rfl) (ws_next (by omega) V) (fun v h R => ?_)
                obtain ⟨rfl, φ184, V, hf184, ha184, hb184⟩ := R
                have e184_4 : φ184 4 = φ 4 := hf184 4 (by decide) (by decide) (by decide) (by decide)
                have e184_12 : φ184 12 = φ 12 := hf184 12 (by decide) (by decide) (by decide) (by decide)
                have e184_13 : φ184 13 = (w : Int) + 1 := hf184 13 (by decide) (by decide) (by decide) (by decide)
                have e184_14 : φ184 14 = φ 14 := hf184 14 (by decide) (by decide) (by decide) (by decide)
                have e184_16 : φ184 16 = φ 16 := hf184 16 (by decide) (by decide) (by decide) (by decide)
                have e184_17 : φ184 17 = φ 17 := hf184 17 (by decide) (by decide) (by decide) (by decide)
                have e184_18 : φ184 18 = φ 18 := hf184 18 (by decide) (by decide) (by decide) (by decide)
                have e184_19 : φ184 19 = φ 19 := hf184 19 (by decide) (by decide) (by decide) (by decide)
                have e184_20 : φ184 20 = φ 20 := hf184 20 (by decide) (by decide) (by decide) (by decide)
                have e184_21 : φ184 21 = φ 21 := hf184 21 (by decide) (by decide) (by decide) (by decide)
                have a184 : φ 7 ≤ φ184 7 := ha184
                have b184 : ¬ φ184 9 = 0 → φ 7 + 1 ≤ φ184 7 := hb184
                show wp_R (d + 1 + 1 + 1 + 1) 208 88 [some (.ref a), some (wp_i y)] [] h _
                refine wp_s (pc' := 89) ji_208_88 rfl rfl rfl ?_
                refine wp_s (pc' := 90) ji_208_89 rfl rfl rfl ?_
                refine pv_pi V ji_208_90 jf_208_180 (by decide) pf_19 (by decide) (by decide) (by decide) (by omega) (by omega) (by omega) rfl rfl (fun h V => ?_)
                refine wp_s (pc' := 94) ji_208_93 rfl rfl rfl ?_
                refine wp_bp ji_208_94 rfl ?_
                obtain ⟨l1, hse, hA1, ⟨k1, hk1⟩, -, -⟩ := se_V (least := 7) (by omega) (am := (φ 18).toNat) hA (fun q => by omega)
                have hps : ps t0 (pv_u φ184 19 1) pl (em_t ts s w 1 (φ 10)) s c0 (pp pl p) (po_n (φ 18).toNat (pp pl p) + 1) (po_t (pp pl p)) := ps_val hp hw htl (by omega) (show φ184 12 = _ by omega) (show φ184 13 = _ by omega) (show φ184 16 = _ by omega) (show φ184 17 = _ by omega) hj2 (by omega) (by omega)
                refine pv_vc V ji_208_96 jc_208_183 jk_202 (rest := []) rfl (Nat.le_of_ble_eq_true rfl) rfl (by rw [jn_202]; rfl) (ws_settle (least := 7) (by omega) _ _ _ _ _ _ V hps (show φ184 13 + (φ184 16) ≤ 300 by omega) hse) (fun v h R => ?_)
                obtain ⟨rfl, φ185, ts185, V, hp185, hf185, hs185⟩ := R
                have e185_4 : φ185 4 = φ184 4 := hf185 4 (by decide) (by decide) (by decide)
                have e185_7 : φ185 7 = φ184 7 := hf185 7 (by decide) (by decide) (by decide)
                have e185_9 : φ185 9 = φ184 9 := hf185 9 (by decide) (by decide) (by decide)
                have e185_10 : φ185 10 = φ184 10 := hf185 10 (by decide) (by decide) (by decide)
                have e185_12 : φ185 12 = φ184 12 := hf185 12 (by decide) (by decide) (by decide)
                have e185_14 : φ185 14 = φ184 14 := hf185 14 (by decide) (by decide) (by decide)
                have e185_18 : φ185 18 = φ184 18 := hf185 18 (by decide) (by decide) (by decide)
                have e185_19 : φ185 19 = 1 := hf185 19 (by decide) (by decide) (by decide)
                have e185_20 : φ185 20 = φ184 20 := hf185 20 (by decide) (by decide) (by decide)
                have e185_21 : φ185 21 = φ184 21 := hf185 21 (by decide) (by decide) (by decide)
                have s185 : φ185 13 + φ185 16 ≤ φ184 13 + (φ184 16) := hs185
                have hlen185 := ps_len hp185
                show wp_R (d + 1 + 1 + 1 + 1) 208 99 [some (.ref a), some (wp_i y)] [] h _
                refine wp_s (pc' := 100) ji_208_99 rfl rfl rfl ?_
                exact wp_ri ji_208_100 jr_208 rfl ⟨0, rfl, Or.inr (⟨rfl, by omega, φ185, pl, _, l1, _, _, V, hp185, ⟨by omega, by omega, by omega, by omega, by omega⟩, ⟨by omega, fun q => by have := b184 (by omega); omega⟩, ⟨by omega, fun q => by have := b184 (by omega); omega⟩, fun q x hx => hm.1 (by omega) x (by rw [hk1] at hx; exact List.mem_of_mem_drop hx), Or.inr (Or.inl ⟨by omega, hA1, by rw [show (φ185 18).toNat = (φ 18).toNat by omega], rfl⟩)⟩)⟩
            · refine wp_s (pc' := 61) ji_208_60 rfl rfl rfl ?_
              refine wp_goto (t := 65) ji_208_61 rfl ?_
              refine wp_s (pc' := 66) ji_208_65 rfl rfl rfl ?_
              refine pv_gi V ji_208_66 jf_208_95 (by decide) pf_9 (y := φ 9) rfl (fun l186 u187 => ?_)
              refine wp_s (pc' := 70) ji_208_69 rfl rfl rfl ?_
              refine wp_icmp (t := 80) ji_208_70 rfl (by omega) (by omega) (fun (hb188 : ¬ (φ 9 : Int) = 1) => ?_) (fun (hb188 : ¬ (¬ (φ 9 : Int) = 1)) => ?_)
              · refine wp_s (pc' := 81) ji_208_80 rfl rfl rfl ?_
                refine pv_vc V ji_208_81 jc_208_153 jk_203 (rest := []) rfl (Nat.le_of_ble_eq_true rfl) rfl (by rw [jn_203]; rfl) (ws_emit V (s := s) (w := w) (o := 0) (v := y) hw h12 hs (by omega) (by omega) (by omega) hj) (fun v h R => ?_)
                obtain ⟨rfl, V, hj2⟩ := R
                show wp_R (d + 1 + 1 + 1 + 1) 208 84 [some (.ref a), some (wp_i y)] [] h _
                refine wp_s (pc' := 85) ji_208_84 rfl rfl rfl ?_
                refine pv_vc V ji_208_85 jc_208_171 jk_178 (rest := []) rfl (Nat.le_of_ble_eq_true rfl) rfl (by rw [jn_178]; rfl) (ws_next (by omega) V) (fun v h R => ?_)
                obtain ⟨rfl, φ189, V, hf189, ha189, hb189⟩ := R
                have e189_4 : φ189 4 = φ 4 := hf189 4 (by decide) (by decide) (by decide) (by decide)
                have e189_12 : φ189 12 = φ 12 := hf189 12 (by decide) (by decide) (by decide) (by decide)
                have e189_13 : φ189 13 = (w : Int) + 1 := hf189 13 (by decide) (by decide) (by decide) (by decide)
                have e189_14 : φ189 14 = φ 14 := hf189 14 (by decide) (by decide) (by decide) (by decide)
                have e189_16 : φ189 16 = φ 16 := hf189 16 (by decide) (by decide) (by decide) (by decide)
                have e189_17 : φ189 17 = φ 17 := hf189 17 (by decide) (by decide) (by decide) (by decide)
                have e189_18 : φ189 18 = φ 18 := hf189 18 (by decide) (by decide) (by decide) (by decide)
                have e189_19 : φ189 19 = φ 19 := hf189 19 (by decide) (by decide) (by decide) (by decide)
                have e189_20 : φ189 20 = φ 20 := hf189 20 (by decide) (by decide) (by decide) (by decide)
                have e189_21 : φ189 21 = φ 21 := hf189 21 (by decide) (by decide) (by decide) (by decide)
                have a189 : φ 7 ≤ φ189 7 := ha189
                have b189 : ¬ φ189 9 = 0 → φ 7 + 1 ≤ φ189 7 := hb189
                show wp_R (d + 1 + 1 + 1 + 1) 208 88 [some (.ref a), some (wp_i y)] [] h _
                refine wp_s (pc' := 89) ji_208_88 rfl rfl rfl ?_
                refine wp_s (pc' := 90) ji_208_89 rfl rfl rfl ?_
                refine pv_pi V ji_208_90 jf_208_180 (by decide) pf_19 (by decide) (by decide) (by decide) (by omega) (by omega) (by omega) rfl rfl (fun h V => ?_)
                refine wp_s (pc' := 94) ji_208_93 rfl rfl rfl ?_
                refine wp_bp ji_208_94 rfl ?_
                obtain ⟨l1, hse, hA1, ⟨k1, hk1⟩, -, -⟩ := se_V (least := 7) (by omega) (am := (φ 18).toNat) hA (fun q => by omega)
                have hps : ps t0 (pv_u φ189 19 1) pl (em_t ts s w 0 y) s c0 (pp pl p) (po_n (φ 18).toNat (pp pl p) + 1) (po_t (pp pl p)) := ps_val hp hw htl (by omega) (show φ189 12 = _ by omega) (show φ189 13 = _ by omega) (show φ189 16 = _ by omega) (show φ189 17 = _ by omega) hj2 (by omega) (by omega)
                refine pv_vc V ji_208_96 jc_208_183 jk_202 (rest := []) rfl (Nat.le_of_ble_eq_true rfl) rfl (by rw [jn_202]; rfl) (ws_settle (least := 7) (by omega) _ _ _ _ _ _ V hps (show φ189 13 + (φ189 16) ≤ 300 by omega) hse) (fun v h R => ?_)
                obtain ⟨rfl, φ190, ts190, V, hp190, hf190, hs190⟩ := R
                have e190_4 : φ190 4 = φ189 4 := hf190 4 (by decide) (by decide) (by decide)
                have e190_7 : φ190 7 = φ189 7 := hf190 7 (by decide) (by decide) (by decide)
                have e190_9 : φ190 9 = φ189 9 := hf190 9 (by decide) (by decide) (by decide)
                have e190_10 : φ190 10 = φ189 10 := hf190 10 (by decide) (by decide) (by decide)
                have e190_12 : φ190 12 = φ189 12 := hf190 12 (by decide) (by decide) (by decide)
                have e190_14 : φ190 14 = φ189 14 := hf190 14 (by decide) (by decide) (by decide)
                have e190_18 : φ190 18 = φ189 18 := hf190 18 (by decide) (by decide) (by decide)
                have e190_19 : φ190 19 = 1 := hf190 19 (by decide) (by decide) (by decide)
                have e190_20 : φ190 20 = φ189 20 := hf190 20 (by decide) (by decide) (by decide)
                have e190_21 : φ190 21 = φ189 21 := hf190 21 (by decide) (by decide) (by decide)
                have s190 : φ190 13 + φ190 16 ≤ φ189 13 + (φ189 16) := hs190
                have hlen190 := ps_len hp190
                show wp_R (d + 1 + 1 + 1 + 1) 208 99 [some (.ref a), some (wp_i y)] [] h _
                refine wp_s (pc' := 100) ji_208_99 rfl rfl rfl ?_
                exact wp_ri ji_208_100 jr_208 rfl ⟨0, rfl, Or.inr (⟨rfl, by omega, φ190, pl, _, l1, _, _, V, hp190, ⟨by omega, by omega, by omega, by omega, by omega⟩, ⟨by omega, fun q => by have := b189 (by omega); omega⟩, ⟨by omega, fun q => by have := b189 (by omega); omega⟩, fun q x hx => hm.1 (by omega) x (by rw [hk1] at hx; exact List.mem_of_mem_drop hx), Or.inr (Or.inl ⟨by omega, hA1, by rw [show (φ190 18).toNat = (φ 18).toNat by omega], rfl⟩)⟩)⟩
              · refine wp_s (pc' := 74) ji_208_73 rfl rfl rfl ?_
                refine pv_gi V ji_208_74 jf_208_102 (by decide) pf_10 (y := φ 10) rfl (fun l191 u192 => ?_)
                refine wp_goto (t := 81) ji_208_77 rfl ?_
                refine pv_vc V ji_208_81 jc_208_153 jk_203 (rest := []) rfl (Nat.le_of_ble_eq_true rfl) rfl (by rw [jn_203]; rfl) (ws_emit V (s := s) (w := w) (o := 0) (v := φ 10) hw h12 hs (by omega) (by omega) (by omega) hj) (fun v h R => ?_)
                obtain ⟨rfl, V, hj2⟩ := R
                show wp_R (d + 1 + 1 + 1 + 1) 208 84 [some (.ref a), some (wp_i y)] [] h _
                refine wp_s (pc' := 85) ji_208_84 rfl rfl rfl ?_
                refine pv_vc V ji_208_85 jc_208_171 jk_178 (rest := []) rfl (Nat.le_of_ble_eq_true rfl) rfl (by rw [jn_178]; rfl) (ws_next (by omega) V) (fun v h R => ?_)
                obtain ⟨rfl, φ193, V, hf193, ha193, hb193⟩ := R
                have e193_4 : φ193 4 = φ 4 := hf193 4 (by decide) (by decide) (by decide) (by decide)
                have e193_12 : φ193 12 = φ 12 := hf193 12 (by decide) (by decide) (by decide) (by decide)
                have e193_13 : φ193 13 = (w : Int) + 1 := hf193 13 (by decide) (by decide) (by decide) (by decide)
                have e193_14 : φ193 14 = φ 14 := hf193 14 (by decide) (by decide) (by decide) (by decide)
                have e193_16 : φ193 16 = φ 16 := hf193 16 (by decide) (by decide) (by decide) (by decide)
                have e193_17 : φ193 17 = φ 17 := hf193 17 (by decide) (by decide) (by decide) (by decide)
                have e193_18 : φ193 18 = φ 18 := hf193 18 (by decide) (by decide) (by decide) (by decide)
                have e193_19 : φ193 19 = φ 19 := hf193 19 (by decide) (by decide) (by decide) (by decide)
                have e193_20 : φ193 20 = φ 20 := hf193 20 (by decide) (by decide) (by decide) (by decide)
                have e193_21 : φ193 21 = φ 21 := hf193 21 (by decide) (by decide) (by decide) (by decide)
                have a193 : φ 7 ≤ φ193 7 := ha193
                have b193 : ¬ φ193 9 = 0 → φ 7 + 1 ≤ φ193 7 := hb193
                show wp_R (d + 1 + 1 + 1 + 1) 208 88 [some (.ref a), some (wp_i y)] [] h _
                refine wp_s (pc' := 89) ji_208_88 rfl rfl rfl ?_
                refine wp_s (pc' := 90) ji_208_89 rfl rfl rfl ?_
                refine pv_pi V ji_208_90 jf_208_180 (by decide) pf_19 (by decide) (by decide) (by decide) (by omega) (by omega) (by omega) rfl rfl (fun h V => ?_)
                refine wp_s (pc' := 94) ji_208_93 rfl rfl rfl ?_
                refine wp_bp ji_208_94 rfl ?_
                obtain ⟨l1, hse, hA1, ⟨k1, hk1⟩, -, -⟩ := se_V (least := 7) (by omega) (am := (φ 18).toNat) hA (fun q => by omega)
                have hps : ps t0 (pv_u φ193 19 1) pl (em_t ts s w 0 (φ 10)) s c0 (pp pl p) (po_n (φ 18).toNat (pp pl p) + 1) (po_t (pp pl p)) := ps_val hp hw htl (by omega) (show φ193 12 = _ by omega) (show φ193 13 = _ by omega) (show φ193 16 = _ by omega) (show φ193 17 = _ by omega) hj2 (by omega) (by omega)
                refine pv_vc V ji_208_96 jc_208_183 jk_202 (rest := []) rfl (Nat.le_of_ble_eq_true rfl) rfl (by rw [jn_202]; rfl) (ws_settle (least := 7) (by omega) _ _ _ _ _ _ V hps (show φ193 13 + (φ193 16) ≤ 300 by omega) hse) (fun v h R => ?_)
                obtain ⟨rfl, φ194, ts194, V, hp194, hf194, hs194⟩ := R
                have e194_4 : φ194 4 = φ193 4 := hf194 4 (by decide) (by decide) (by decide)
                have e194_7 : φ194 7 = φ193 7 := hf194 7 (by decide) (by decide) (by decide)
                have e194_9 : φ194 9 = φ193 9 := hf194 9 (by decide) (by decide) (by decide)
                have e194_10 : φ194 10 = φ193 10 := hf194 10 (by decide) (by decide) (by decide)
                have e194_12 : φ194 12 = φ193 12 := hf194 12 (by decide) (by decide) (by decide)
                have e194_14 : φ194 14 = φ193 14 := hf194 14 (by decide) (by decide) (by decide)
                have e194_18 : φ194 18 = φ193 18 := hf194 18 (by decide) (by decide) (by decide)
                have e194_19 : φ194 19 = 1 := hf194 19 (by decide) (by decide) (by decide)
                have e194_20 : φ194 20 = φ193 20 := hf194 20 (by decide) (by decide) (by decide)
                have e194_21 : φ194 21 = φ193 21 := hf194 21 (by decide) (by decide) (by decide)
                have s194 : φ194 13 + φ194 16 ≤ φ193 13 + (φ193 16) := hs194
                have hlen194 := ps_len hp194
                show wp_R (d + 1 + 1 + 1 + 1) 208 99 [some (.ref a), some (wp_i y)] [] h _
                refine wp_s (pc' := 100) ji_208_99 rfl rfl rfl ?_
                exact wp_ri ji_208_100 jr_208 rfl ⟨0, rfl, Or.inr (⟨rfl, by omega, φ194, pl, _, l1, _, _, V, hp194, ⟨by omega, by omega, by omega, by omega, by omega⟩, ⟨by omega, fun q => by have := b193 (by omega); omega⟩, ⟨by omega, fun q => by have := b193 (by omega); omega⟩, fun q x hx => hm.1 (by omega) x (by rw [hk1] at hx; exact List.mem_of_mem_drop hx), Or.inr (Or.inl ⟨by omega, hA1, by rw [show (φ194 18).toNat = (φ 18).toNat by omega], rfl⟩)⟩)⟩
      · refine wp_s (pc' := 30) ji_208_29 rfl rfl rfl ?_
        refine wp_s (pc' := 31) ji_208_30 rfl rfl rfl ?_
        refine pv_vc V ji_208_31 jc_208_177 jk_210 (rest := []) rfl (Nat.le_of_ble_eq_true rfl) rfl (by rw [jn_210]; rfl) (ws_isOf (fun d1 hd1 => IH d1 (by omega)) V (by omega)) (fun v h R => ?_)
        obtain ⟨V, y195, rfl, q196⟩ := R
        show wp_R (d + 1 + 1 + 1 + 1) 208 34 [some (.ref a), some (wp_i y)] [wp_i y195] h _
        refine wp_if (t := 39) ji_208_34 rfl (by omega) (fun (hb197 : ¬ (y195 : Int) = 0) => ?_) (fun (hb197 : ¬ (¬ (y195 : Int) = 0)) => ?_)
        · refine wp_s (pc' := 40) ji_208_39 rfl rfl rfl ?_
          refine pv_gi V ji_208_40 jf_208_95 (by decide) pf_9 (y := φ 9) rfl (fun l198 u199 => ?_)
          refine wp_s (pc' := 44) ji_208_43 rfl rfl rfl ?_
          refine wp_icmp (t := 51) ji_208_44 rfl (by omega) (by omega) (fun (hb200 : (φ 9 : Int) = 1) => ?_) (fun (hb200 : ¬ ((φ 9 : Int) = 1)) => ?_)
          · refine wp_s (pc' := 52) ji_208_51 rfl rfl rfl ?_
            refine wp_s (pc' := 53) ji_208_52 rfl rfl rfl ?_
            refine pv_gi V ji_208_53 jf_208_95 (by decide) pf_9 (y := φ 9) rfl (fun l201 u202 => ?_)
            refine wp_s (pc' := 57) ji_208_56 rfl rfl rfl ?_
            refine wp_icmp (t := 64) ji_208_57 rfl (by omega) (by omega) (fun (hb203 : ¬ (φ 9 : Int) = 1) => ?_) (fun (hb203 : ¬ (¬ (φ 9 : Int) = 1)) => ?_)
            · refine wp_s (pc' := 65) ji_208_64 rfl rfl rfl ?_
              refine wp_s (pc' := 66) ji_208_65 rfl rfl rfl ?_
              refine pv_gi V ji_208_66 jf_208_95 (by decide) pf_9 (y := φ 9) rfl (fun l204 u205 => ?_)
              refine wp_s (pc' := 70) ji_208_69 rfl rfl rfl ?_
              refine wp_icmp (t := 80) ji_208_70 rfl (by omega) (by omega) (fun (hb206 : ¬ (φ 9 : Int) = 1) => ?_) (fun (hb206 : ¬ (¬ (φ 9 : Int) = 1)) => ?_)
              · refine wp_s (pc' := 81) ji_208_80 rfl rfl rfl ?_
                refine pv_vc V ji_208_81 jc_208_153 jk_203 (rest := []) rfl (Nat.le_of_ble_eq_true rfl) rfl (by rw [jn_203]; rfl) (ws_emit V (s := s) (w := w) (o := 1) (v := y) hw h12 hs (by omega) (by omega) (by omega) hj) (fun v h R => ?_)
                obtain ⟨rfl, V, hj2⟩ := R
                show wp_R (d + 1 + 1 + 1 + 1) 208 84 [some (.ref a), some (wp_i y)] [] h _
                refine wp_s (pc' := 85) ji_208_84 rfl rfl rfl ?_
                refine pv_vc V ji_208_85 jc_208_171 jk_178 (rest := []) rfl (Nat.le_of_ble_eq_true rfl) rfl (by rw [jn_178]; rfl) (ws_next (by omega) V) (fun v h R => ?_)
                obtain ⟨rfl, φ207, V, hf207, ha207, hb207⟩ := R
                have e207_4 : φ207 4 = φ 4 := hf207 4 (by decide) (by decide) (by decide) (by decide)
                have e207_12 : φ207 12 = φ 12 := hf207 12 (by decide) (by decide) (by decide) (by decide)
                have e207_13 : φ207 13 = (w : Int) + 1 := hf207 13 (by decide) (by decide) (by decide) (by decide)
                have e207_14 : φ207 14 = φ 14 := hf207 14 (by decide) (by decide) (by decide) (by decide)
                have e207_16 : φ207 16 = φ 16 := hf207 16 (by decide) (by decide) (by decide) (by decide)
                have e207_17 : φ207 17 = φ 17 := hf207 17 (by decide) (by decide) (by decide) (by decide)
                have e207_18 : φ207 18 = φ 18 := hf207 18 (by decide) (by decide) (by decide) (by decide)
                have e207_19 : φ207 19 = φ 19 := hf207 19 (by decide) (by decide) (by decide) (by decide)
                have e207_20 : φ207 20 = φ 20 := hf207 20 (by decide) (by decide) (by decide) (by decide)
                have e207_21 : φ207 21 = φ 21 := hf207 21 (by decide) (by decide) (by decide) (by decide)
                have a207 : φ 7 ≤ φ207 7 := ha207
                have b207 : ¬ φ207 9 = 0 → φ 7 + 1 ≤ φ207 7 := hb207
                show wp_R (d + 1 + 1 + 1 + 1) 208 88 [some (.ref a), some (wp_i y)] [] h _
                refine wp_s (pc' := 89) ji_208_88 rfl rfl rfl ?_
                refine wp_s (pc' := 90) ji_208_89 rfl rfl rfl ?_
                refine pv_pi V ji_208_90 jf_208_180 (by decide) pf_19 (by decide) (by decide) (by decide) (by omega) (by omega) (by omega) rfl rfl (fun h V => ?_)
                refine wp_s (pc' := 94) ji_208_93 rfl rfl rfl ?_
                refine wp_bp ji_208_94 rfl ?_
                obtain ⟨l1, hse, hA1, ⟨k1, hk1⟩, -, -⟩ := se_V (least := 7) (by omega) (am := (φ 18).toNat) hA (fun q => by omega)
                have hps : ps t0 (pv_u φ207 19 1) pl (em_t ts s w 1 y) s c0 (pp pl p) (po_n (φ 18).toNat (pp pl p) + 1) (po_t (pp pl p)) := ps_val hp hw htl (by omega) (show φ207 12 = _ by omega) (show φ207 13 = _ by omega) (show φ207 16 = _ by omega) (show φ207 17 = _ by omega) hj2 (by omega) (by omega)
                refine pv_vc V ji_208_96 jc_208_183 jk_202 (rest := []) rfl (Nat.le_of_ble_eq_true rfl) rfl (by rw [jn_202]; rfl) (ws_settle (least := 7) (by omega) _ _ _ _ _ _ V hps (show φ207 13 + (φ207 16) ≤ 300 by omega) hse) (fun v h R => ?_)
                obtain ⟨rfl, φ208, ts208, V, hp208, hf208, hs208⟩ := R
                have e208_4 : φ208 4 = φ207 4 := hf208 4 (by decide) (by decide) (by decide)
                have e208_7 : φ208 7 = φ207 7 := hf208 7 (by decide) (by decide) (by decide)
                have e208_9 : φ208 9 = φ207 9 := hf208 9 (by decide) (by decide) (by decide)
                have e208_10 : φ208 10 = φ207 10 := hf208 10 (by decide) (by decide) (by decide)
                have e208_12 : φ208 12 = φ207 12 := hf208 12 (by decide) (by decide) (by decide)
                have e208_14 : φ208 14 = φ207 14 := hf208 14 (by decide) (by decide) (by decide)
                have e208_18 : φ208 18 = φ207 18 := hf208 18 (by decide) (by decide) (by decide)
                have e208_19 : φ208 19 = 1 := hf208 19 (by decide) (by decide) (by decide)
                have e208_20 : φ208 20 = φ207 20 := hf208 20 (by decide) (by decide) (by decide)
                have e208_21 : φ208 21 = φ207 21 := hf208 21 (by decide) (by decide) (by decide)
                have s208 : φ208 13 + φ208 16 ≤ φ207 13 + (φ207 16) := hs208
                have hlen208 := ps_len hp208
                show wp_R (d + 1 + 1 + 1 + 1) 208 99 [some (.ref a), some (wp_i y)] [] h _
                refine wp_s (pc' := 100) ji_208_99 rfl rfl rfl ?_
                exact wp_ri ji_208_100 jr_208 rfl ⟨0, rfl, Or.inr (⟨rfl, by omega, φ208, pl, _, l1, _, _, V, hp208, ⟨by omega, by omega, by omega, by omega, by omega⟩, ⟨by omega, fun q => by have := b207 (by omega); omega⟩, ⟨by omega, fun q => by have := b207 (by omega); omega⟩, fun q x hx => hm.1 (by omega) x (by rw [hk1] at hx; exact List.mem_of_mem_drop hx), Or.inr (Or.inl ⟨by omega, hA1, by rw [show (φ208 18).toNat = (φ 18).toNat by omega], rfl⟩)⟩)⟩
              · refine wp_s (pc' := 74) ji_208_73 rfl rfl rfl ?_
                refine pv_gi V ji_208_74 jf_208_102 (by decide) pf_10 (y := φ 10) rfl (fun l209 u210 => ?_)
                refine wp_goto (t := 81) ji_208_77 rfl ?_
                refine pv_vc V ji_208_81 jc_208_153 jk_203 (rest := []) rfl (Nat.le_of_ble_eq_true rfl) rfl (by rw [jn_203]; rfl) (ws_emit V (s := s) (w := w) (o := 1) (v := φ 10) hw h12 hs (by omega) (by omega) (by omega) hj) (fun v h R => ?_)
                obtain ⟨rfl, V, hj2⟩ := R
                show wp_R (d + 1 + 1 + 1 + 1) 208 84 [some (.ref a), some (wp_i y)] [] h _
                refine wp_s (pc' := 85) ji_208_84 rfl rfl rfl ?_
                refine pv_vc V ji_208_85 jc_208_171 jk_178 (rest := []) rfl (Nat.le_of_ble_eq_true rfl) rfl (by rw [jn_178]; rfl) (ws_next (by omega) V) (fun v h R => ?_)
                obtain ⟨rfl, φ211, V, hf211, ha211, hb211⟩ := R
                have e211_4 : φ211 4 = φ 4 := hf211 4 (by decide) (by decide) (by decide) (by decide)
                have e211_12 : φ211 12 = φ 12 := hf211 12 (by decide) (by decide) (by decide) (by decide)
                have e211_13 : φ211 13 = (w : Int) + 1 := hf211 13 (by decide) (by decide) (by decide) (by decide)
                have e211_14 : φ211 14 = φ 14 := hf211 14 (by decide) (by decide) (by decide) (by decide)
                have e211_16 : φ211 16 = φ 16 := hf211 16 (by decide) (by decide) (by decide) (by decide)
                have e211_17 : φ211 17 = φ 17 := hf211 17 (by decide) (by decide) (by decide) (by decide)
                have e211_18 : φ211 18 = φ 18 := hf211 18 (by decide) (by decide) (by decide) (by decide)
                have e211_19 : φ211 19 = φ 19 := hf211 19 (by decide) (by decide) (by decide) (by decide)
                have e211_20 : φ211 20 = φ 20 := hf211 20 (by decide) (by decide) (by decide) (by decide)
                have e211_21 : φ211 21 = φ 21 := hf211 21 (by decide) (by decide) (by decide) (by decide)
                have a211 : φ 7 ≤ φ211 7 := ha211
                have b211 : ¬ φ211 9 = 0 → φ 7 + 1 ≤ φ211 7 := hb211
                show wp_R (d + 1 + 1 + 1 + 1) 208 88 [some (.ref a), some (wp_i y)] [] h _
                refine wp_s (pc' := 89) ji_208_88 rfl rfl rfl ?_
                refine wp_s (pc' := 90) ji_208_89 rfl rfl rfl ?_
                refine pv_pi V ji_208_90 jf_208_180 (by decide) pf_19 (by decide) (by decide) (by decide) (by omega) (by omega) (by omega) rfl rfl (fun h V => ?_)
                refine wp_s (pc' := 94) ji_208_93 rfl rfl rfl ?_
                refine wp_bp ji_208_94 rfl ?_
                obtain ⟨l1, hse, hA1, ⟨k1, hk1⟩, -, -⟩ := se_V (least := 7) (by omega) (am := (φ 18).toNat) hA (fun q => by omega)
                have hps : ps t0 (pv_u φ211 19 1) pl (em_t ts s w 1 (φ 10)) s c0 (pp pl p) (po_n (φ 18).toNat (pp pl p) + 1) (po_t (pp pl p)) := ps_val hp hw htl (by omega) (show φ211 12 = _ by omega) (show φ211 13 = _ by omega) (show φ211 16 = _ by omega) (show φ211 17 = _ by omega) hj2 (by omega) (by omega)
                refine pv_vc V ji_208_96 jc_208_183 jk_202 (rest := []) rfl (Nat.le_of_ble_eq_true rfl) rfl (by rw [jn_202]; rfl) (ws_settle (least := 7) (by omega) _ _ _ _ _ _ V hps (show φ211 13 + (φ211 16) ≤ 300 by omega) hse) (fun v h R => ?_)
                obtain ⟨rfl, φ212, ts212, V, hp212, hf212, hs212⟩ := R
                have e212_4 : φ212 4 = φ211 4 := hf212 4 (by decide) (by decide) (by decide)
                have e212_7 : φ212 7 = φ211 7 := hf212 7 (by decide) (by decide) (by decide)
                have e212_9 : φ212 9 = φ211 9 := hf212 9 (by decide) (by decide) (by decide)
                have e212_10 : φ212 10 = φ211 10 := hf212 10 (by decide) (by decide) (by decide)
                have e212_12 : φ212 12 = φ211 12 := hf212 12 (by decide) (by decide) (by decide)
                have e212_14 : φ212 14 = φ211 14 := hf212 14 (by decide) (by decide) (by decide)
                have e212_18 : φ212 18 = φ211 18 := hf212 18 (by decide) (by decide) (by decide)
                have e212_19 : φ212 19 = 1 := hf212 19 (by decide) (by decide) (by decide)
                have e212_20 : φ212 20 = φ211 20 := hf212 20 (by decide) (by decide) (by decide)
                have e212_21 : φ212 21 = φ211 21 := hf212 21 (by decide) (by decide) (by decide)
                have s212 : φ212 13 + φ212 16 ≤ φ211 13 + (φ211 16) := hs212
                have hlen212 := ps_len hp212
                show wp_R (d + 1 + 1 + 1 + 1) 208 99 [some (.ref a), some (wp_i y)] [] h _
                refine wp_s (pc' := 100) ji_208_99 rfl rfl rfl ?_
                exact wp_ri ji_208_100 jr_208 rfl ⟨0, rfl, Or.inr (⟨rfl, by omega, φ212, pl, _, l1, _, _, V, hp212, ⟨by omega, by omega, by omega, by omega, by omega⟩, ⟨by omega, fun q => by have := b211 (by omega); omega⟩, ⟨by omega, fun q => by have := b211 (by omega); omega⟩, fun q x hx => hm.1 (by omega) x (by rw [hk1] at hx; exact List.mem_of_mem_drop hx), Or.inr (Or.inl ⟨by omega, hA1, by rw [show (φ212 18).toNat = (φ 18).toNat by omega], rfl⟩)⟩)⟩
            · refine wp_s (pc' := 61) ji_208_60 rfl rfl rfl ?_
              refine wp_goto (t := 65) ji_208_61 rfl ?_
              refine wp_s (pc' := 66) ji_208_65 rfl rfl rfl ?_
              refine pv_gi V ji_208_66 jf_208_95 (by decide) pf_9 (y := φ 9) rfl (fun l213 u214 => ?_)
              refine wp_s (pc' := 70) ji_208_69 rfl rfl rfl ?_
              refine wp_icmp (t := 80) ji_208_70 rfl (by omega) (by omega) (fun (hb215 : ¬ (φ 9 : Int) = 1) => ?_) (fun (hb215 : ¬ (¬ (φ 9 : Int) = 1)) => ?_)
              · refine wp_s (pc' := 81) ji_208_80 rfl rfl rfl ?_
                refine pv_vc V ji_208_81 jc_208_153 jk_203 (rest := []) rfl (Nat.le_of_ble_eq_true rfl) rfl (by rw [jn_203]; rfl) (ws_emit V (s := s) (w := w) (o := 0) (v := y) hw h12 hs (by omega) (by omega) (by omega) hj) (fun v h R => ?_)
                obtain ⟨rfl, V, hj2⟩ := R
                show wp_R (d + 1 + 1 + 1 + 1) 208 84 [some (.ref a), some (wp_i y)] [] h _
                refine wp_s (pc' := 85) ji_208_84 rfl rfl rfl ?_
                refine pv_vc V ji_208_85 jc_208_171 jk_178 (rest := []) rfl (Nat.le_of_ble_eq_true rfl) rfl (by rw [jn_178]; rfl) (ws_next (by omega) V) (fun v h R => ?_)
                obtain ⟨rfl, φ216, V, hf216, ha216, hb216⟩ := R
                have e216_4 : φ216 4 = φ 4 := hf216 4 (by decide) (by decide) (by decide) (by decide)
                have e216_12 : φ216 12 = φ 12 := hf216 12 (by decide) (by decide) (by decide) (by decide)
                have e216_13 : φ216 13 = (w : Int) + 1 := hf216 13 (by decide) (by decide) (by decide) (by decide)
                have e216_14 : φ216 14 = φ 14 := hf216 14 (by decide) (by decide) (by decide) (by decide)
                have e216_16 : φ216 16 = φ 16 := hf216 16 (by decide) (by decide) (by decide) (by decide)
                have e216_17 : φ216 17 = φ 17 := hf216 17 (by decide) (by decide) (by decide) (by decide)
                have e216_18 : φ216 18 = φ 18 := hf216 18 (by decide) (by decide) (by decide) (by decide)
                have e216_19 : φ216 19 = φ 19 := hf216 19 (by decide) (by decide) (by decide) (by decide)
                have e216_20 : φ216 20 = φ 20 := hf216 20 (by decide) (by decide) (by decide) (by decide)
                have e216_21 : φ216 21 = φ 21 := hf216 21 (by decide) (by decide) (by decide) (by decide)
                have a216 : φ 7 ≤ φ216 7 := ha216
                have b216 : ¬ φ216 9 = 0 → φ 7 + 1 ≤ φ216 7 := hb216
                show wp_R (d + 1 + 1 + 1 + 1) 208 88 [some (.ref a), some (wp_i y)] [] h _
                refine wp_s (pc' := 89) ji_208_88 rfl rfl rfl ?_
                refine wp_s (pc' := 90) ji_208_89 rfl rfl rfl ?_
                refine pv_pi V ji_208_90 jf_208_180 (by decide) pf_19 (by decide) (by decide) (by decide) (by omega) (by omega) (by omega) rfl rfl (fun h V => ?_)
                refine wp_s (pc' := 94) ji_208_93 rfl rfl rfl ?_
                refine wp_bp ji_208_94 rfl ?_
                obtain ⟨l1, hse, hA1, ⟨k1, hk1⟩, -, -⟩ := se_V (least := 7) (by omega) (am := (φ 18).toNat) hA (fun q => by omega)
                have hps : ps t0 (pv_u φ216 19 1) pl (em_t ts s w 0 y) s c0 (pp pl p) (po_n (φ 18).toNat (pp pl p) + 1) (po_t (pp pl p)) := ps_val hp hw htl (by omega) (show φ216 12 = _ by omega) (show φ216 13 = _ by omega) (show φ216 16 = _ by omega) (show φ216 17 = _ by omega) hj2 (by omega) (by omega)
                refine pv_vc V ji_208_96 jc_208_183 jk_202 (rest := []) rfl (Nat.le_of_ble_eq_true rfl) rfl (by rw [jn_202]; rfl) (ws_settle (least := 7) (by omega) _ _ _ _ _ _ V hps (show φ216 13 + (φ216 16) ≤ 300 by omega) hse) (fun v h R => ?_)
                obtain ⟨rfl, φ217, ts217, V, hp217, hf217, hs217⟩ := R
                have e217_4 : φ217 4 = φ216 4 := hf217 4 (by decide) (by decide) (by decide)
                have e217_7 : φ217 7 = φ216 7 := hf217 7 (by decide) (by decide) (by decide)
                have e217_9 : φ217 9 = φ216 9 := hf217 9 (by decide) (by decide) (by decide)
                have e217_10 : φ217 10 = φ216 10 := hf217 10 (by decide) (by decide) (by decide)
                have e217_12 : φ217 12 = φ216 12 := hf217 12 (by decide) (by decide) (by decide)
                have e217_14 : φ217 14 = φ216 14 := hf217 14 (by decide) (by decide) (by decide)
                have e217_18 : φ217 18 = φ216 18 := hf217 18 (by decide) (by decide) (by decide)
                have e217_19 : φ217 19 = 1 := hf217 19 (by decide) (by decide) (by decide)
                have e217_20 : φ217 20 = φ216 20 := hf217 20 (by decide) (by decide) (by decide)
                have e217_21 : φ217 21 = φ216 21 := hf217 21 (by decide) (by decide) (by decide)
                have s217 : φ217 13 + φ217 16 ≤ φ216 13 + (φ216 16) := hs217
                have hlen217 := ps_len hp217
                show wp_R (d + 1 + 1 + 1 + 1) 208 99 [some (.ref a), some (wp_i y)] [] h _
                refine wp_s (pc' := 100) ji_208_99 rfl rfl rfl ?_
                exact wp_ri ji_208_100 jr_208 rfl ⟨0, rfl, Or.inr (⟨rfl, by omega, φ217, pl, _, l1, _, _, V, hp217, ⟨by omega, by omega, by omega, by omega, by omega⟩, ⟨by omega, fun q => by have := b216 (by omega); omega⟩, ⟨by omega, fun q => by have := b216 (by omega); omega⟩, fun q x hx => hm.1 (by omega) x (by rw [hk1] at hx; exact List.mem_of_mem_drop hx), Or.inr (Or.inl ⟨by omega, hA1, by rw [show (φ217 18).toNat = (φ 18).toNat by omega], rfl⟩)⟩)⟩
              · refine wp_s (pc' := 74) ji_208_73 rfl rfl rfl ?_
                refine pv_gi V ji_208_74 jf_208_102 (by decide) pf_10 (y := φ 10) rfl (fun l218 u219 => ?_)
                refine wp_goto (t := 81) ji_208_77 rfl ?_
                refine pv_vc V ji_208_81 jc_208_153 jk_203 (rest := []) rfl (Nat.le_of_ble_eq_true rfl) rfl (by rw [jn_203]; rfl) (ws_emit V (s := s) (w := w) (o := 0) (v := φ 10) hw h12 hs (by omega) (by omega) (by omega) hj) (fun v h R => ?_)
                obtain ⟨rfl, V, hj2⟩ := R
                show wp_R (d + 1 + 1 + 1 + 1) 208 84 [some (.ref a), some (wp_i y)] [] h _
                refine wp_s (pc' := 85) ji_208_84 rfl rfl rfl ?_
                refine pv_vc V ji_208_85 jc_208_171 jk_178 (rest := []) rfl (Nat.le_of_ble_eq_true rfl) rfl (by rw [jn_178]; rfl) (ws_next (by omega) V) (fun v h R => ?_)
                obtain ⟨rfl, φ220, V, hf220, ha220, hb220⟩ := R
                have e220_4 : φ220 4 = φ 4 := hf220 4 (by decide) (by decide) (by decide) (by decide)
                have e220_12 : φ220 12 = φ 12 := hf220 12 (by decide) (by decide) (by decide) (by decide)
                have e220_13 : φ220 13 = (w : Int) + 1 := hf220 13 (by decide) (by decide) (by decide) (by decide)
                have e220_14 : φ220 14 = φ 14 := hf220 14 (by decide) (by decide) (by decide) (by decide)
                have e220_16 : φ220 16 = φ 16 := hf220 16 (by decide) (by decide) (by decide) (by decide)
                have e220_17 : φ220 17 = φ 17 := hf220 17 (by decide) (by decide) (by decide) (by decide)
                have e220_18 : φ220 18 = φ 18 := hf220 18 (by decide) (by decide) (by decide) (by decide)
                have e220_19 : φ220 19 = φ 19 := hf220 19 (by decide) (by decide) (by decide) (by decide)
                have e220_20 : φ220 20 = φ 20 := hf220 20 (by decide) (by decide) (by decide) (by decide)
                have e220_21 : φ220 21 = φ 21 := hf220 21 (by decide) (by decide) (by decide) (by decide)
                have a220 : φ 7 ≤ φ220 7 := ha220
                have b220 : ¬ φ220 9 = 0 → φ 7 + 1 ≤ φ220 7 := hb220
                show wp_R (d + 1 + 1 + 1 + 1) 208 88 [some (.ref a), some (wp_i y)] [] h _
                refine wp_s (pc' := 89) ji_208_88 rfl rfl rfl ?_
                refine wp_s (pc' := 90) ji_208_89 rfl rfl rfl ?_
                refine pv_pi V ji_208_90 jf_208_180 (by decide) pf_19 (by decide) (by decide) (by decide) (by omega) (by omega) (by omega) rfl rfl (fun h V => ?_)
                refine wp_s (pc' := 94) ji_208_93 rfl rfl rfl ?_
                refine wp_bp ji_208_94 rfl ?_
                obtain ⟨l1, hse, hA1, ⟨k1, hk1⟩, -, -⟩ := se_V (least := 7) (by omega) (am := (φ 18).toNat) hA (fun q => by omega)
                have hps : ps t0 (pv_u φ220 19 1) pl (em_t ts s w 0 (φ 10)) s c0 (pp pl p) (po_n (φ 18).toNat (pp pl p) + 1) (po_t (pp pl p)) := ps_val hp hw htl (by omega) (show φ220 12 = _ by omega) (show φ220 13 = _ by omega) (show φ220 16 = _ by omega) (show φ220 17 = _ by omega) hj2 (by omega) (by omega)
                refine pv_vc V ji_208_96 jc_208_183 jk_202 (rest := []) rfl (Nat.le_of_ble_eq_true rfl) rfl (by rw [jn_202]; rfl) (ws_settle (least := 7) (by omega) _ _ _ _ _ _ V hps (show φ220 13 + (φ220 16) ≤ 300 by omega) hse) (fun v h R => ?_)
                obtain ⟨rfl, φ221, ts221, V, hp221, hf221, hs221⟩ := R
                have e221_4 : φ221 4 = φ220 4 := hf221 4 (by decide) (by decide) (by decide)
                have e221_7 : φ221 7 = φ220 7 := hf221 7 (by decide) (by decide) (by decide)
                have e221_9 : φ221 9 = φ220 9 := hf221 9 (by decide) (by decide) (by decide)
                have e221_10 : φ221 10 = φ220 10 := hf221 10 (by decide) (by decide) (by decide)
                have e221_12 : φ221 12 = φ220 12 := hf221 12 (by decide) (by decide) (by decide)
                have e221_14 : φ221 14 = φ220 14 := hf221 14 (by decide) (by decide) (by decide)
                have e221_18 : φ221 18 = φ220 18 := hf221 18 (by decide) (by decide) (by decide)
                have e221_19 : φ221 19 = 1 := hf221 19 (by decide) (by decide) (by decide)
                have e221_20 : φ221 20 = φ220 20 := hf221 20 (by decide) (by decide) (by decide)
                have e221_21 : φ221 21 = φ220 21 := hf221 21 (by decide) (by decide) (by decide)
                have s221 : φ221 13 + φ221 16 ≤ φ220 13 + (φ220 16) := hs221
                have hlen221 := ps_len hp221
                show wp_R (d + 1 + 1 + 1 + 1) 208 99 [some (.ref a), some (wp_i y)] [] h _
                refine wp_s (pc' := 100) ji_208_99 rfl rfl rfl ?_
                exact wp_ri ji_208_100 jr_208 rfl ⟨0, rfl, Or.inr (⟨rfl, by omega, φ221, pl, _, l1, _, _, V, hp221, ⟨by omega, by omega, by omega, by omega, by omega⟩, ⟨by omega, fun q => by have := b220 (by omega); omega⟩, ⟨by omega, fun q => by have := b220 (by omega); omega⟩, fun q x hx => hm.1 (by omega) x (by rw [hk1] at hx; exact List.mem_of_mem_drop hx), Or.inr (Or.inl ⟨by omega, hA1, by rw [show (φ221 18).toNat = (φ 18).toNat by omega], rfl⟩)⟩)⟩
          · refine wp_s (pc' := 48) ji_208_47 rfl rfl rfl ?_
            refine wp_if (t := 101) ji_208_48 rfl (by omega) (fun (hb222 : (y : Int) < 0) => ?_) (fun (hb222 : ¬ ((y : Int) < 0)) => ?_)
            · refine wp_s (pc' := 102) ji_208_101 rfl rfl rfl ?_
              refine pv_gi V ji_208_102 jf_208_95 (by decide) pf_9 (y := φ 9) rfl (fun l223 u224 => ?_)
              refine wp_bp ji_208_105 rfl ?_
              refine wp_icmp (t := 117) ji_208_107 rfl (by omega) (by omega) (fun (hb225 : ¬ (φ 9 : Int) = 40) => ?_) (fun (hb225 : ¬ (¬ (φ 9 : Int) = 40)) => ?_)
              · refine wp_s (pc' := 118) ji_208_117 rfl rfl rfl ?_
                refine pv_gi V ji_208_118 jf_208_95 (by decide) pf_9 (y := φ 9) rfl (fun l226 u227 => ?_)
                refine wp_bp ji_208_121 rfl ?_
                refine wp_icmp (t := 132) ji_208_123 rfl (by omega) (by omega) (fun (hb228 : ¬ (φ 9 : Int) = 45) => ?_) (fun (hb228 : ¬ (¬ (φ 9 : Int) = 45)) => ?_)
                · refine wp_s (pc' := 133) ji_208_132 rfl rfl rfl ?_
                  refine wp_bp ji_208_133 rfl ?_
                  refine wp_bp ji_208_135 rfl ?_
                  refine wp_bp ji_208_137 rfl ?_
                  refine wp_sc (as := [wp_i 110, wp_i 111, wp_i 116]) (rest := [.ref a]) ji_208_139 jc_208_122 (Nat.le_of_ble_eq_true rfl) rfl (Nat.le_of_ble_eq_true rfl) rfl (by rw [jn_188]; rfl) ws_w3 (fun v h R => ?_)
                  obtain ⟨rfl, z229, rfl⟩ := R
                  show wp_R (d + 1 + 1 + 1 + 1) 208 142 [some (.ref a), some (wp_i y)] [.long z229, .ref a] h _
                  refine pv_vc V ji_208_142 jc_208_189 jk_190 (rest := []) rfl (Nat.le_of_ble_eq_true rfl) rfl (by rw [jn_190]; rfl) (ws_isWord V) (fun v h R => ?_)
                  obtain ⟨rfl, y230, rfl, q231, q232⟩ := R
                  show wp_R (d + 1 + 1 + 1 + 1) 208 145 [some (.ref a), some (wp_i y)] [wp_i y230] h _
                  refine wp_if (t := 164) ji_208_145 rfl (by omega) (fun (hb233 : (y230 : Int) = 0) => ?_) (fun (hb233 : ¬ ((y230 : Int) = 0)) => ?_)
                  · refine wp_s (pc' := 165) ji_208_164 rfl rfl rfl ?_
                    exact wp_ri ji_208_165 jr_208 rfl ⟨1, rfl, Or.inl ⟨by omega, by omega, φ, pl, ts, pp pl p, _, _, V, hp, ⟨rfl, rfl, rfl, rfl, rfl⟩, hb.1, fun q => by have := hb.2 q; omega, Int.le_refl _⟩⟩
                  · refine wp_s (pc' := 149) ji_208_148 rfl rfl rfl ?_
                    refine pv_vc V ji_208_149 jc_208_193 jk_211 (rest := []) rfl (Nat.le_of_ble_eq_true rfl) rfl (by rw [jn_211]; rfl) (ws_ahead V h16) (fun v h R => ?_)
                    obtain ⟨rfl, y234, rfl, q235, q236⟩ := R
                    show wp_R (d + 1 + 1 + 1 + 1) 208 152 [some (.ref a), some (wp_i y)] [wp_i y234] h _
                    refine wp_if (t := 164) ji_208_152 rfl (by omega) (fun (hb237 : (y234 : Int) = 0) => ?_) (fun (hb237 : ¬ ((y234 : Int) = 0)) => ?_)
                    · refine wp_s (pc' := 165) ji_208_164 rfl rfl rfl ?_
                      exact wp_ri ji_208_165 jr_208 rfl ⟨1, rfl, Or.inl ⟨by omega, by omega, φ, pl, ts, pp pl p, _, _, V, hp, ⟨rfl, rfl, rfl, rfl, rfl⟩, hb.1, fun q => by have := hb.2 q; omega, Int.le_refl _⟩⟩
                    · have hah := q236 (by omega)
                      have hL : po_L (pp pl p) := by
                        rcases hah.2.2 with e | ⟨x, r, e, e2⟩
                        · rw [e]; trivial
                        · rw [e] at hA ⊢; exact po_A_t hA (rk_i e2)
                      refine wp_s (pc' := 156) ji_208_155 rfl rfl rfl ?_
                      refine wp_bp ji_208_156 rfl ?_
                      refine pv_vc V ji_208_158 jc_208_186 jk_205 (rest := []) rfl (Nat.le_of_ble_eq_true rfl) rfl (by rw [jn_205]; rfl) (wp_up (by omega) (ws_opened (d := d) V hp (o := 20) (by omega) h154 (by omega))) (fun v h R => ?_)
                      rcases R with ⟨rfl, rfl⟩ | ⟨rfl, φ9, pl9, V, hp9, ⟨f1, f2, f3, f4, f5⟩, f18, f19, f6, f7⟩
                      · show wp_R (d + 1 + 1 + 1 + 1) 208 161 [some (.ref a), some (wp_i y)] [wp_i 3] h _
                        refine wp_goto (t := 165) ji_208_161 rfl ?_
                        exact wp_ri ji_208_165 jr_208 rfl ⟨3, rfl, Or.inl ⟨by omega, by omega, φ, pl, ts, pp pl p, _, _, V, hp, ⟨rfl, rfl, rfl, rfl, rfl⟩, hb.1, fun q => by have := hb.2 q; omega, Int.le_refl _⟩⟩
                      · show wp_R (d + 1 + 1 + 1 + 1) 208 161 [some (.ref a), some (wp_i y)] [wp_i 0] h _
                        refine wp_goto (t := 165) ji_208_161 rfl ?_
                        refine wp_ri ji_208_165 jr_208 rfl ⟨0, rfl, Or.inr (⟨rfl, by omega, φ9, pl9, ts, _, _, _, V, hp9, ⟨f1, f2, f3, f4, f5⟩, f6, f7, ?_, Or.inl ⟨by omega, ?_, ?_, ?_⟩⟩)⟩
                        · exact fun q => by omega
                        · exact Or.inr ⟨Or.inr (Or.inr (by omega)), hL⟩
                        · rw [f18, po_n_c, if_neg (by omega), if_neg (by omega), if_neg (by omega), Nat.zero_add]
                        · rw [po_t_c, if_neg (by omega), Nat.zero_add]
                · refine wp_s (pc' := 127) ji_208_126 rfl rfl rfl ?_
                  refine wp_s (pc' := 128) ji_208_127 rfl rfl rfl ?_
                  refine pv_vc V ji_208_128 jc_208_186 jk_205 (rest := []) rfl (Nat.le_of_ble_eq_true rfl) rfl (by rw [jn_205]; rfl) (wp_up (by omega) (ws_opened (d := d) V hp (o := 3) (by omega) h154 (by omega))) (fun v h R => ?_)
                  rcases R with ⟨rfl, rfl⟩ | ⟨rfl, φ9, pl9, V, hp9, ⟨f1, f2, f3, f4, f5⟩, f18, f19, f6, f7⟩
                  · show wp_R (d + 1 + 1 + 1 + 1) 208 131 [some (.ref a), some (wp_i y)] [wp_i 3] h _
                    exact wp_ri ji_208_131 jr_208 rfl ⟨3, rfl, Or.inl ⟨by omega, by omega, φ, pl, ts, pp pl p, _, _, V, hp, ⟨rfl, rfl, rfl, rfl, rfl⟩, hb.1, fun q => by have := hb.2 q; omega, Int.le_refl _⟩⟩
                  · show wp_R (d + 1 + 1 + 1 + 1) 208 131 [some (.ref a), some (wp_i y)] [wp_i 0] h _
                    refine wp_ri ji_208_131 jr_208 rfl ⟨0, rfl, Or.inr (⟨rfl, by omega, φ9, pl9, ts, _, _, _, V, hp9, ⟨f1, f2, f3, f4, f5⟩, f6, f7, ?_, Or.inl ⟨by omega, ?_, ?_, ?_⟩⟩)⟩
                    · intro q x hx
                      rcases List.mem_cons.mp hx with e | e
                      · omega
                      · exact hm.1 (by omega) x e
                    · exact Or.inl ⟨by omega, hA⟩
                    · rw [f18, po_n_c, if_neg (by omega), if_neg (by omega), if_neg (by omega), Nat.zero_add]
                    · rw [po_t_c, if_neg (by omega), Nat.zero_add]
              · refine wp_s (pc' := 111) ji_208_110 rfl rfl rfl ?_
                refine wp_bp ji_208_111 rfl ?_
                refine pv_vc V ji_208_113 jc_208_186 jk_205 (rest := []) rfl (Nat.le_of_ble_eq_true rfl) rfl (by rw [jn_205]; rfl) (wp_up (by omega) (ws_opened (d := d) V hp (o := 40) (by omega) h154 (by omega))) (fun v h R => ?_)
                rcases R with ⟨rfl, rfl⟩ | ⟨rfl, φ9, pl9, V, hp9, ⟨f1, f2, f3, f4, f5⟩, f18, f19, f6, f7⟩
                · show wp_R (d + 1 + 1 + 1 + 1) 208 116 [some (.ref a), some (wp_i y)] [wp_i 3] h _
                  exact wp_ri ji_208_116 jr_208 rfl ⟨3, rfl, Or.inl ⟨by omega, by omega, φ, pl, ts, pp pl p, _, _, V, hp, ⟨rfl, rfl, rfl, rfl, rfl⟩, hb.1, fun q => by have := hb.2 q; omega, Int.le_refl _⟩⟩
                · show wp_R (d + 1 + 1 + 1 + 1) 208 116 [some (.ref a), some (wp_i y)] [wp_i 0] h _
                  refine wp_ri ji_208_116 jr_208 rfl ⟨0, rfl, Or.inr (⟨rfl, by omega, φ9, pl9, ts, _, _, _, V, hp9, ⟨f1, f2, f3, f4, f5⟩, f6, f7, ?_, Or.inl ⟨by omega, ?_, ?_, ?_⟩⟩)⟩
                  · intro q x hx
                    rcases List.mem_cons.mp hx with e | e
                    · omega
                    · exact hm.1 (by omega) x e
                  · exact Or.inl ⟨by omega, hA⟩
                  · rw [f18, po_n_c, if_neg (by omega), if_neg (by omega), if_neg (by omega), Nat.zero_add]
                  · rw [po_t_c, if_neg (by omega), Nat.zero_add]
            · refine wp_s (pc' := 52) ji_208_51 rfl rfl rfl ?_
              refine wp_s (pc' := 53) ji_208_52 rfl rfl rfl ?_
              refine pv_gi V ji_208_53 jf_208_95 (by decide) pf_9 (y := φ 9) rfl (fun l238 u239 => ?_)
              refine wp_s (pc' := 57) ji_208_56 rfl rfl rfl ?_
              refine wp_icmp (t := 64) ji_208_57 rfl (by omega) (by omega) (fun (hb240 : ¬ (φ 9 : Int) = 1) => ?_) (fun (hb240 : ¬ (¬ (φ 9 : Int) = 1)) => ?_)
              · refine wp_s (pc' := 65) ji_208_64 rfl rfl rfl ?_
                refine wp_s (pc' := 66) ji_208_65 rfl rfl rfl ?_
                refine pv_gi V ji_208_66 jf_208_95 (by decide) pf_9 (y := φ 9) rfl (fun l241 u242 => ?_)
                refine wp_s (pc' := 70) ji_208_69 rfl rfl rfl ?_
                refine wp_icmp (t := 80) ji_208_70 rfl (by omega) (by omega) (fun (hb243 : ¬ (φ 9 : Int) = 1) => ?_) (fun (hb243 : ¬ (¬ (φ 9 : Int) = 1)) => ?_)
                · refine wp_s (pc' := 81) ji_208_80 rfl rfl rfl ?_
                  refine pv_vc V ji_208_81 jc_208_153 jk_203 (rest := []) rfl (Nat.le_of_ble_eq_true rfl) rfl (by rw [jn_203]; rfl) (ws_emit V (s := s) (w := w) (o := 1) (v := y) hw h12 hs (by omega) (by omega) (by omega) hj) (fun v h R => ?_)
                  obtain ⟨rfl, V, hj2⟩ := R
                  show wp_R (d + 1 + 1 + 1 + 1) 208 84 [some (.ref a), some (wp_i y)] [] h _
                  refine wp_s (pc' := 85) ji_208_84 rfl rfl rfl ?_
                  refine pv_vc V ji_208_85 jc_208_171 jk_178 (rest := []) rfl (Nat.le_of_ble_eq_true rfl) rfl (by rw [jn_178]; rfl) (ws_next (by omega) V) (fun v h R => ?_)
                  obtain ⟨rfl, φ244, V, hf244, ha244, hb244⟩ := R
                  have e244_4 : φ244 4 = φ 4 := hf244 4 (by decide) (by decide) (by decide) (by decide)
                  have e244_12 : φ244 12 = φ 12 := hf244 12 (by decide) (by decide) (by decide) (by decide)
                  have e244_13 : φ244 13 = (w : Int) + 1 := hf244 13 (by decide) (by decide) (by decide) (by decide)
                  have e244_14 : φ244 14 = φ 14 := hf244 14 (by decide) (by decide) (by decide) (by decide)
                  have e244_16 : φ244 16 = φ 16 := hf244 16 (by decide) (by decide) (by decide) (by decide)
                  have e244_17 : φ244 17 = φ 17 := hf244 17 (by decide) (by decide) (by decide) (by decide)
                  have e244_18 : φ244 18 = φ 18 := hf244 18 (by decide) (by decide) (by decide) (by decide)
                  have e244_19 : φ244 19 = φ 19 := hf244 19 (by decide) (by decide) (by decide) (by decide)
                  have e244_20 : φ244 20 = φ 20 := hf244 20 (by decide) (by decide) (by decide) (by decide)
                  have e244_21 : φ244 21 = φ 21 := hf244 21 (by decide) (by decide) (by decide) (by decide)
                  have a244 : φ 7 ≤ φ244 7 := ha244
                  have b244 : ¬ φ244 9 = 0 → φ 7 + 1 ≤ φ244 7 := hb244
                  show wp_R (d + 1 + 1 + 1 + 1) 208 88 [some (.ref a), some (wp_i y)] [] h _
                  refine wp_s (pc' := 89) ji_208_88 rfl rfl rfl ?_
                  refine wp_s (pc' := 90) ji_208_89 rfl rfl rfl ?_
                  refine pv_pi V ji_208_90 jf_208_180 (by decide) pf_19 (by decide) (by decide) (by decide) (by omega) (by omega) (by omega) rfl rfl (fun h V => ?_)
                  refine wp_s (pc' := 94) ji_208_93 rfl rfl rfl ?_
                  refine wp_bp ji_208_94 rfl ?_
                  obtain ⟨l1, hse, hA1, ⟨k1, hk1⟩, -, -⟩ := se_V (least := 7) (by omega) (am := (φ 18).toNat) hA (fun q => by omega)
                  have hps : ps t0 (pv_u φ244 19 1) pl (em_t ts s w 1 y) s c0 (pp pl p) (po_n (φ 18).toNat (pp pl p) + 1) (po_t (pp pl p)) := ps_val hp hw htl (by omega) (show φ244 12 = _ by omega) (show φ244 13 = _ by omega) (show φ244 16 = _ by omega) (show φ244 17 = _ by omega) hj2 (by omega) (by omega)
                  refine pv_vc V ji_208_96 jc_208_183 jk_202 (rest := []) rfl (Nat.le_of_ble_eq_true rfl) rfl (by rw [jn_202]; rfl) (ws_settle (least := 7) (by omega) _ _ _ _ _ _ V hps (show φ244 13 + (φ244 16) ≤ 300 by omega) hse) (fun v h R => ?_)
                  obtain ⟨rfl, φ245, ts245, V, hp245, hf245, hs245⟩ := R
                  have e245_4 : φ245 4 = φ244 4 := hf245 4 (by decide) (by decide) (by decide)
                  have e245_7 : φ245 7 = φ244 7 := hf245 7 (by decide) (by decide) (by decide)
                  have e245_9 : φ245 9 = φ244 9 := hf245 9 (by decide) (by decide) (by decide)
                  have e245_10 : φ245 10 = φ244 10 := hf245 10 (by decide) (by decide) (by decide)
                  have e245_12 : φ245 12 = φ244 12 := hf245 12 (by decide) (by decide) (by decide)
                  have e245_14 : φ245 14 = φ244 14 := hf245 14 (by decide) (by decide) (by decide)
                  have e245_18 : φ245 18 = φ244 18 := hf245 18 (by decide) (by decide) (by decide)
                  have e245_19 : φ245 19 = 1 := hf245 19 (by decide) (by decide) (by decide)
                  have e245_20 : φ245 20 = φ244 20 := hf245 20 (by decide) (by decide) (by decide)
                  have e245_21 : φ245 21 = φ244 21 := hf245 21 (by decide) (by decide) (by decide)
                  have s245 : φ245 13 + φ245 16 ≤ φ244 13 + (φ244 16) := hs245
                  have hlen245 := ps_len hp245
                  show wp_R (d + 1 + 1 + 1 + 1) 208 99 [some (.ref a), some (wp_i y)] [] h _
                  refine wp_s (pc' := 100) ji_208_99 rfl rfl rfl ?_
                  exact wp_ri ji_208_100 jr_208 rfl ⟨0, rfl, Or.inr (⟨rfl, by omega, φ245, pl, _, l1, _, _, V, hp245, ⟨by omega, by omega, by omega, by omega, by omega⟩, ⟨by omega, fun q => by have := b244 (by omega); omega⟩, ⟨by omega, fun q => by have := b244 (by omega); omega⟩, fun q x hx => hm.1 (by omega) x (by rw [hk1] at hx; exact List.mem_of_mem_drop hx), Or.inr (Or.inl ⟨by omega, hA1, by rw [show (φ245 18).toNat = (φ 18).toNat by omega], rfl⟩)⟩)⟩
                · refine wp_s (pc' := 74) ji_208_73 rfl rfl rfl ?_
                  refine pv_gi V ji_208_74 jf_208_102 (by decide) pf_10 (y := φ 10) rfl (fun l246 u247 => ?_)
                  refine wp_goto (t := 81) ji_208_77 rfl ?_
                  refine pv_vc V ji_208_81 jc_208_153 jk_203 (rest := []) rfl (Nat.le_of_ble_eq_true rfl) rfl (by rw [jn_203]; rfl) (ws_emit V (s := s) (w := w) (o := 1) (v := φ 10) hw h12 hs (by omega) (by omega) (by omega) hj) (fun v h R => ?_)
                  obtain ⟨rfl, V, hj2⟩ := R
                  show wp_R (d + 1 + 1 + 1 + 1) 208 84 [some (.ref a), some (wp_i y)] [] h _
                  refine wp_s (pc' := 85) ji_208_84 rfl rfl rfl ?_
                  refine pv_vc V ji_208_85 jc_208_171 jk_178 (rest := []) rfl (Nat.le_of_ble_eq_true rfl) rfl (by rw [jn_178]; rfl) (ws_next (by omega) V) (fun v h R => ?_)
                  obtain ⟨rfl, φ248, V, hf248, ha248, hb248⟩ := R
                  have e248_4 : φ248 4 = φ 4 := hf248 4 (by decide) (by decide) (by decide) (by decide)
                  have e248_12 : φ248 12 = φ 12 := hf248 12 (by decide) (by decide) (by decide) (by decide)
                  have e248_13 : φ248 13 = (w : Int) + 1 := hf248 13 (by decide) (by decide) (by decide) (by decide)
                  have e248_14 : φ248 14 = φ 14 := hf248 14 (by decide) (by decide) (by decide) (by decide)
                  have e248_16 : φ248 16 = φ 16 := hf248 16 (by decide) (by decide) (by decide) (by decide)
                  have e248_17 : φ248 17 = φ 17 := hf248 17 (by decide) (by decide) (by decide) (by decide)
                  have e248_18 : φ248 18 = φ 18 := hf248 18 (by decide) (by decide) (by decide) (by decide)
                  have e248_19 : φ248 19 = φ 19 := hf248 19 (by decide) (by decide) (by decide) (by decide)
                  have e248_20 : φ248 20 = φ 20 := hf248 20 (by decide) (by decide) (by decide) (by decide)
                  have e248_21 : φ248 21 = φ 21 := hf248 21 (by decide) (by decide) (by decide) (by decide)
                  have a248 : φ 7 ≤ φ248 7 := ha248
                  have b248 : ¬ φ248 9 = 0 → φ 7 + 1 ≤ φ248 7 := hb248
                  show wp_R (d + 1 + 1 + 1 + 1) 208 88 [some (.ref a), some (wp_i y)] [] h _
                  refine wp_s (pc' := 89) ji_208_88 rfl rfl rfl ?_
                  refine wp_s (pc' := 90) ji_208_89 rfl rfl rfl ?_
                  refine pv_pi V ji_208_90 jf_208_180 (by decide) pf_19 (by decide) (by decide) (by decide) (by omega) (by omega) (by omega) rfl rfl (fun h V => ?_)
                  refine wp_s (pc' := 94) ji_208_93 rfl rfl rfl ?_
                  refine wp_bp ji_208_94 rfl ?_
                  obtain ⟨l1, hse, hA1, ⟨k1, hk1⟩, -, -⟩ := se_V (least := 7) (by omega) (am := (φ 18).toNat) hA (fun q => by omega)
                  have hps : ps t0 (pv_u φ248 19 1) pl (em_t ts s w 1 (φ 10)) s c0 (pp pl p) (po_n (φ 18).toNat (pp pl p) + 1) (po_t (pp pl p)) := ps_val hp hw htl (by omega) (show φ248 12 = _ by omega) (show φ248 13 = _ by omega) (show φ248 16 = _ by omega) (show φ248 17 = _ by omega) hj2 (by omega) (by omega)
                  refine pv_vc V ji_208_96 jc_208_183 jk_202 (rest := []) rfl (Nat.le_of_ble_eq_true rfl) rfl (by rw [jn_202]; rfl) (ws_settle (least := 7) (by omega) _ _ _ _ _ _ V hps (show φ248 13 + (φ248 16) ≤ 300 by omega) hse) (fun v h R => ?_)
                  obtain ⟨rfl, φ249, ts249, V, hp249, hf249, hs249⟩ := R
                  have e249_4 : φ249 4 = φ248 4 := hf249 4 (by decide) (by decide) (by decide)
                  have e249_7 : φ249 7 = φ248 7 := hf249 7 (by decide) (by decide) (by decide)
                  have e249_9 : φ249 9 = φ248 9 := hf249 9 (by decide) (by decide) (by decide)
                  have e249_10 : φ249 10 = φ248 10 := hf249 10 (by decide) (by decide) (by decide)
                  have e249_12 : φ249 12 = φ248 12 := hf249 12 (by decide) (by decide) (by decide)
                  have e249_14 : φ249 14 = φ248 14 := hf249 14 (by decide) (by decide) (by decide)
                  have e249_18 : φ249 18 = φ248 18 := hf249 18 (by decide) (by decide) (by decide)
                  have e249_19 : φ249 19 = 1 := hf249 19 (by decide) (by decide) (by decide)
                  have e249_20 : φ249 20 = φ248 20 := hf249 20 (by decide) (by decide) (by decide)
                  have e249_21 : φ249 21 = φ248 21 := hf249 21 (by decide) (by decide) (by decide)
                  have s249 : φ249 13 + φ249 16 ≤ φ248 13 + (φ248 16) := hs249
                  have hlen249 := ps_len hp249
                  show wp_R (d + 1 + 1 + 1 + 1) 208 99 [some (.ref a), some (wp_i y)] [] h _
                  refine wp_s (pc' := 100) ji_208_99 rfl rfl rfl ?_
                  exact wp_ri ji_208_100 jr_208 rfl ⟨0, rfl, Or.inr (⟨rfl, by omega, φ249, pl, _, l1, _, _, V, hp249, ⟨by omega, by omega, by omega, by omega, by omega⟩, ⟨by omega, fun q => by have := b248 (by omega); omega⟩, ⟨by omega, fun q => by have := b248 (by omega); omega⟩, fun q x hx => hm.1 (by omega) x (by rw [hk1] at hx; exact List.mem_of_mem_drop hx), Or.inr (Or.inl ⟨by omega, hA1, by rw [show (φ249 18).toNat = (φ 18).toNat by omega], rfl⟩)⟩)⟩
              · refine wp_s (pc' := 61) ji_208_60 rfl rfl rfl ?_
                refine wp_goto (t := 65) ji_208_61 rfl ?_
                refine wp_s (pc' := 66) ji_208_65 rfl rfl rfl ?_
                refine pv_gi V ji_208_66 jf_208_95 (by decide) pf_9 (y := φ 9) rfl (fun l250 u251 => ?_)
                refine wp_s (pc' := 70) ji_208_69 rfl rfl rfl ?_
                refine wp_icmp (t := 80) ji_208_70 rfl (by omega) (by omega) (fun (hb252 : ¬ (φ 9 : Int) = 1) => ?_) (fun (hb252 : ¬ (¬ (φ 9 : Int) = 1)) => ?_)
                · refine wp_s (pc' := 81) ji_208_80 rfl rfl rfl ?_
                  refine pv_vc V ji_208_81 jc_208_153 jk_203 (rest := []) rfl (Nat.le_of_ble_eq_true rfl) rfl (by rw [jn_203]; rfl) (ws_emit V (s := s) (w := w) (o := 0) (v := y) hw h12 hs (by omega) (by omega) (by omega) hj) (fun v h R => ?_)
                  obtain ⟨rfl, V, hj2⟩ := R
                  show wp_R (d + 1 + 1 + 1 + 1) 208 84 [some (.ref a), some (wp_i y)] [] h _
                  refine wp_s (pc' := 85) ji_208_84 rfl rfl rfl ?_
                  refine pv_vc V ji_208_85 jc_208_171 jk_178 (rest := []) rfl (Nat.le_of_ble_eq_true rfl) rfl (by rw [jn_178]; rfl) (ws_next (by omega) V) (fun v h R => ?_)
                  obtain ⟨rfl, φ253, V, hf253, ha253, hb253⟩ := R
                  have e253_4 : φ253 4 = φ 4 := hf253 4 (by decide) (by decide) (by decide) (by decide)
                  have e253_12 : φ253 12 = φ 12 := hf253 12 (by decide) (by decide) (by decide) (by decide)
                  have e253_13 : φ253 13 = (w : Int) + 1 := hf253 13 (by decide) (by decide) (by decide) (by decide)
                  have e253_14 : φ253 14 = φ 14 := hf253 14 (by decide) (by decide) (by decide) (by decide)
                  have e253_16 : φ253 16 = φ 16 := hf253 16 (by decide) (by decide) (by decide) (by decide)
                  have e253_17 : φ253 17 = φ 17 := hf253 17 (by decide) (by decide) (by decide) (by decide)
                  have e253_18 : φ253 18 = φ 18 := hf253 18 (by decide) (by decide) (by decide) (by decide)
                  have e253_19 : φ253 19 = φ 19 := hf253 19 (by decide) (by decide) (by decide) (by decide)
                  have e253_20 : φ253 20 = φ 20 := hf253 20 (by decide) (by decide) (by decide) (by decide)
                  have e253_21 : φ253 21 = φ 21 := hf253 21 (by decide) (by decide) (by decide) (by decide)
                  have a253 : φ 7 ≤ φ253 7 := ha253
                  have b253 : ¬ φ253 9 = 0 → φ 7 + 1 ≤ φ253 7 := hb253
                  show wp_R (d + 1 + 1 + 1 + 1) 208 88 [some (.ref a), some (wp_i y)] [] h _
                  refine wp_s (pc' := 89) ji_208_88 rfl rfl rfl ?_
                  refine wp_s (pc' := 90) ji_208_89 rfl rfl rfl ?_
                  refine pv_pi V ji_208_90 jf_208_180 (by decide) pf_19 (by decide) (by decide) (by decide) (by omega) (by omega) (by omega) rfl rfl (fun h V => ?_)
                  refine wp_s (pc' := 94) ji_208_93 rfl rfl rfl ?_
                  refine wp_bp ji_208_94 rfl ?_
                  obtain ⟨l1, hse, hA1, ⟨k1, hk1⟩, -, -⟩ := se_V (least := 7) (by omega) (am := (φ 18).toNat) hA (fun q => by omega)
                  have hps : ps t0 (pv_u φ253 19 1) pl (em_t ts s w 0 y) s c0 (pp pl p) (po_n (φ 18).toNat (pp pl p) + 1) (po_t (pp pl p)) := ps_val hp hw htl (by omega) (show φ253 12 = _ by omega) (show φ253 13 = _ by omega) (show φ253 16 = _ by omega) (show φ253 17 = _ by omega) hj2 (by omega) (by omega)
                  refine pv_vc V ji_208_96 jc_208_183 jk_202 (rest := []) rfl (Nat.le_of_ble_eq_true rfl) rfl (by rw [jn_202]; rfl) (ws_settle (least := 7) (by omega) _ _ _ _ _ _ V hps (show φ253 13 + (φ253 16) ≤ 300 by omega) hse) (fun v h R => ?_)
                  obtain ⟨rfl, φ254, ts254, V, hp254, hf254, hs254⟩ := R
                  have e254_4 : φ254 4 = φ253 4 := hf254 4 (by decide) (by decide) (by decide)
                  have e254_7 : φ254 7 = φ253 7 := hf254 7 (by decide) (by decide) (by decide)
                  have e254_9 : φ254 9 = φ253 9 := hf254 9 (by decide) (by decide) (by decide)
                  have e254_10 : φ254 10 = φ253 10 := hf254 10 (by decide) (by decide) (by decide)
                  have e254_12 : φ254 12 = φ253 12 := hf254 12 (by decide) (by decide) (by decide)
                  have e254_14 : φ254 14 = φ253 14 := hf254 14 (by decide) (by decide) (by decide)
                  have e254_18 : φ254 18 = φ253 18 := hf254 18 (by decide) (by decide) (by decide)
                  have e254_19 : φ254 19 = 1 := hf254 19 (by decide) (by decide) (by decide)
                  have e254_20 : φ254 20 = φ253 20 := hf254 20 (by decide) (by decide) (by decide)
                  have e254_21 : φ254 21 = φ253 21 := hf254 21 (by decide) (by decide) (by decide)
                  have s254 : φ254 13 + φ254 16 ≤ φ253 13 + (φ253 16) := hs254
                  have hlen254 := ps_len hp254
                  show wp_R (d + 1 + 1 + 1 + 1) 208 99 [some (.ref a), some (wp_i y)] [] h _
                  refine wp_s (pc' := 100) ji_208_99 rfl rfl rfl ?_
                  exact wp_ri ji_208_100 jr_208 rfl ⟨0, rfl, Or.inr (⟨rfl, by omega, φ254, pl, _, l1, _, _, V, hp254, ⟨by omega, by omega, by omega, by omega, by omega⟩, ⟨by omega, fun q => by have := b253 (by omega); omega⟩, ⟨by omega, fun q => by have := b253 (by omega); omega⟩, fun q x hx => hm.1 (by omega) x (by rw [hk1] at hx; exact List.mem_of_mem_drop hx), Or.inr (Or.inl ⟨by omega, hA1, by rw [show (φ254 18).toNat = (φ 18).toNat by omega], rfl⟩)⟩)⟩
                · refine wp_s (pc' := 74) ji_208_73 rfl rfl rfl ?_
                  refine pv_gi V ji_208_74 jf_208_102 (by decide) pf_10 (y := φ 10) rfl (fun l255 u256 => ?_)
                  refine wp_goto (t := 81) ji_208_77 rfl ?_
                  refine pv_vc V ji_208_81 jc_208_153 jk_203 (rest := []) rfl (Nat.le_of_ble_eq_true rfl) rfl (by rw [jn_203]; rfl) (ws_emit V (s := s) (w := w) (o := 0) (v := φ 10) hw h12 hs (by omega) (by omega) (by omega) hj) (fun v h R => ?_)
                  obtain ⟨rfl, V, hj2⟩ := R
                  show wp_R (d + 1 + 1 + 1 + 1) 208 84 [some (.ref a), some (wp_i y)] [] h _
                  refine wp_s (pc' := 85) ji_208_84 rfl rfl rfl ?_
                  refine pv_vc V ji_208_85 jc_208_171 jk_178 (rest := []) rfl (Nat.le_of_ble_eq_true rfl) rfl (by rw [jn_178]; rfl) (ws_next (by omega) V) (fun v h R => ?_)
                  obtain ⟨rfl, φ257, V, hf257, ha257, hb257⟩ := R
                  have e257_4 : φ257 4 = φ 4 := hf257 4 (by decide) (by decide) (by decide) (by decide)
                  have e257_12 : φ257 12 = φ 12 := hf257 12 (by decide) (by decide) (by decide) (by decide)
                  have e257_13 : φ257 13 = (w : Int) + 1 := hf257 13 (by decide) (by decide) (by decide) (by decide)
                  have e257_14 : φ257 14 = φ 14 := hf257 14 (by decide) (by decide) (by decide) (by decide)
                  have e257_16 : φ257 16 = φ 16 := hf257 16 (by decide) (by decide) (by decide) (by decide)
                  have e257_17 : φ257 17 = φ 17 := hf257 17 (by decide) (by decide) (by decide) (by decide)
                  have e257_18 : φ257 18 = φ 18 := hf257 18 (by decide) (by decide) (by decide) (by decide)
                  have e257_19 : φ257 19 = φ 19 := hf257 19 (by decide) (by decide) (by decide) (by decide)
                  have e257_20 : φ257 20 = φ 20 := hf257 20 (by decide) (by decide) (by decide) (by decide)
                  have e257_21 : φ257 21 = φ 21 := hf257 21 (by decide) (by decide) (by decide) (by decide)
                  have a257 : φ 7 ≤ φ257 7 := ha257
                  have b257 : ¬ φ257 9 = 0 → φ 7 + 1 ≤ φ257 7 := hb257
                  show wp_R (d + 1 + 1 + 1 + 1) 208 88 [some (.ref a), some (wp_i y)] [] h _
                  refine wp_s (pc' := 89) ji_208_88 rfl rfl rfl ?_
                  refine wp_s (pc' := 90) ji_208_89 rfl rfl rfl ?_
                  refine pv_pi V ji_208_90 jf_208_180 (by decide) pf_19 (by decide) (by decide) (by decide) (by omega) (by omega) (by omega) rfl rfl (fun h V => ?_)
                  refine wp_s (pc' := 94) ji_208_93 rfl rfl rfl ?_
                  refine wp_bp ji_208_94 rfl ?_
                  obtain ⟨l1, hse, hA1, ⟨k1, hk1⟩, -, -⟩ := se_V (least := 7) (by omega) (am := (φ 18).toNat) hA (fun q => by omega)
                  have hps : ps t0 (pv_u φ257 19 1) pl (em_t ts s w 0 (φ 10)) s c0 (pp pl p) (po_n (φ 18).toNat (pp pl p) + 1) (po_t (pp pl p)) := ps_val hp hw htl (by omega) (show φ257 12 = _ by omega) (show φ257 13 = _ by omega) (show φ257 16 = _ by omega) (show φ257 17 = _ by omega) hj2 (by omega) (by omega)
                  refine pv_vc V ji_208_96 jc_208_183 jk_202 (rest := []) rfl (Nat.le_of_ble_eq_true rfl) rfl (by rw [jn_202]; rfl) (ws_settle (least := 7) (by omega) _ _ _ _ _ _ V hps (show φ257 13 + (φ257 16) ≤ 300 by omega) hse) (fun v h R => ?_)
                  obtain ⟨rfl, φ258, ts258, V, hp258, hf258, hs258⟩ := R
                  have e258_4 : φ258 4 = φ257 4 := hf258 4 (by decide) (by decide) (by decide)
                  have e258_7 : φ258 7 = φ257 7 := hf258 7 (by decide) (by decide) (by decide)
                  have e258_9 : φ258 9 = φ257 9 := hf258 9 (by decide) (by decide) (by decide)
                  have e258_10 : φ258 10 = φ257 10 := hf258 10 (by decide) (by decide) (by decide)
                  have e258_12 : φ258 12 = φ257 12 := hf258 12 (by decide) (by decide) (by decide)
                  have e258_14 : φ258 14 = φ257 14 := hf258 14 (by decide) (by decide) (by decide)
                  have e258_18 : φ258 18 = φ257 18 := hf258 18 (by decide) (by decide) (by decide)
                  have e258_19 : φ258 19 = 1 := hf258 19 (by decide) (by decide) (by decide)
                  have e258_20 : φ258 20 = φ257 20 := hf258 20 (by decide) (by decide) (by decide)
                  have e258_21 : φ258 21 = φ257 21 := hf258 21 (by decide) (by decide) (by decide)
                  have s258 : φ258 13 + φ258 16 ≤ φ257 13 + (φ257 16) := hs258
                  have hlen258 := ps_len hp258
                  show wp_R (d + 1 + 1 + 1 + 1) 208 99 [some (.ref a), some (wp_i y)] [] h _
                  refine wp_s (pc' := 100) ji_208_99 rfl rfl rfl ?_
                  exact wp_ri ji_208_100 jr_208 rfl ⟨0, rfl, Or.inr (⟨rfl, by omega, φ258, pl, _, l1, _, _, V, hp258, ⟨by omega, by omega, by omega, by omega, by omega⟩, ⟨by omega, fun q => by have := b257 (by omega); omega⟩, ⟨by omega, fun q => by have := b257 (by omega); omega⟩, fun q x hx => hm.1 (by omega) x (by rw [hk1] at hx; exact List.mem_of_mem_drop hx), Or.inr (Or.inl ⟨by omega, hA1, by rw [show (φ258 18).toNat = (φ 18).toNat by omega], rfl⟩)⟩)⟩
        · refine wp_s (pc' := 38) ji_208_37 rfl rfl rfl ?_
          exact wp_ri ji_208_38 jr_208 rfl ⟨5, rfl, Or.inl ⟨by omega, by omega, φ, pl, ts, pp pl p, _, _, V, hp, ⟨rfl, rfl, rfl, rfl, rfl⟩, hb.1, fun q => by have := hb.2 q; omega, Int.le_refl _⟩⟩
    · refine wp_s (pc' := 19) ji_208_18 rfl rfl rfl ?_
      exact wp_ri ji_208_19 jr_208 rfl ⟨2, rfl, Or.inl ⟨by omega, by omega, φ, pl, ts, pp pl p, _, _, V, hp, ⟨rfl, rfl, rfl, rfl, rfl⟩, hb.1, fun q => by have := hb.2 q; omega, Int.le_refl _⟩⟩
