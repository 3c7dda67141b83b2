/-! -/
/-! -/
set_option maxRecDepth 100000 in
theorem ji_60_32 : mj_ins 60 32 = some (.aload_n 0) := by decide +kernel
set_option maxRecDepth 100000 in
theorem ji_60_33 : mj_ins 60 33 = some (.getfield 17) := by decide +kernel
set_option maxRecDepth 100000 in
theorem sq_59 : sh_T[59]? = some (5, [63, 0, 0], 0, 0) := by decide +kernel
set_option maxRecDepth 100000 in
theorem jf_60_17 : mj_fld 60 17 = some (5, 1, .int, true) := by decide +kernel
set_option maxRecDepth 100000 in
theorem ji_60_36 : mj_ins 60 36 = some (.aload_n 0) := by decide +kernel
set_option maxRecDepth 100000 in
theorem ji_60_37 : mj_ins 60 37 = some (.getfield 21) := by decide +kernel
set_option maxRecDepth 100000 in
theorem jf_60_21 : mj_fld 60 21 = some (5, 2, .int, true) := by decide +kernel
set_option maxRecDepth 100000 in
theorem ji_60_40 : mj_ins 60 40 = some (.iadd) := by decide +kernel
set_option maxRecDepth 100000 in
theorem ji_60_41 : mj_ins 60 41 = some (.bipush 30) := by decide +kernel
set_option maxRecDepth 100000 in
theorem ji_60_43 : mj_ins 60 43 = some (.irem) := by decide +kernel
set_option maxRecDepth 100000 in
theorem ji_60_44 : mj_ins 60 44 = some (.sipush 190) := by decide +kernel
set_option maxRecDepth 100000 in
theorem ji_60_47 : mj_ins 60 47 = some (.imul) := by decide +kernel
set_option maxRecDepth 100000 in
theorem ji_60_48 : mj_ins 60 48 = some (.istore_n 3) := by decide +kernel
set_option maxRecDepth 100000 in
theorem ji_60_49 : mj_ins 60 49 = some (.aload_n 0) := by decide +kernel
set_option maxRecDepth 100000 in
theorem ji_60_50 : mj_ins 60 50 = some (.dup) := by decide +kernel
set_option maxRecDepth 100000 in
theorem ji_60_51 : mj_ins 60 51 = some (.getfield 21) := by decide +kernel
set_option maxRecDepth 100000 in
theorem ji_60_54 : mj_ins 60 54 = some (.iconst 1) := by decide +kernel
set_option maxRecDepth 100000 in
theorem ji_60_55 : mj_ins 60 55 = some (.iadd) := by decide +kernel
set_option maxRecDepth 100000 in
theorem ji_60_56 : mj_ins 60 56 = some (.putfield 21) := by decide +kernel
set_option maxRecDepth 100000 in
theorem ji_60_59 : mj_ins 60 59 = some (.aload_n 0) := by decide +kernel
set_option maxRecDepth 100000 in
theorem ji_60_60 : mj_ins 60 60 = some (.getfield 13) := by decide +kernel
set_option maxRecDepth 100000 in
theorem jf_60_13 : mj_fld 60 13 = some (5, 0, (.array .int), false) := by decide +kernel
set_option maxRecDepth 100000 in
theorem ji_60_63 : mj_ins 60 63 = some (.iload_n 3) := by decide +kernel
set_option maxRecDepth 100000 in
theorem ji_60_64 : mj_ins 60 64 = some (.aload_n 1) := by decide +kernel
set_option maxRecDepth 100000 in
theorem ji_60_65 : mj_ins 60 65 = some (.getfield 30) := by decide +kernel
set_option maxRecDepth 100000 in
theorem sq_48 : sh_T[48]? = some (3, [0, 0, 52, 53, 54, 55, 56, 57, 58, 0, 0, 0, 0], 0, 0) := by decide +kernel
set_option maxRecDepth 100000 in
theorem jf_60_30 : mj_fld 60 30 = some (3, 0, .int, true) := by decide +kernel
set_option maxRecDepth 100000 in
theorem ji_60_68 : mj_ins 60 68 = some (.iastore) := by decide +kernel
set_option maxRecDepth 100000 in
theorem sq_60 : sh_T[60]? = some (1000, [], 5700, 0) := by decide +kernel
set_option maxRecDepth 100000 in
theorem ji_60_69 : mj_ins 60 69 = some (.aload_n 0) := by decide +kernel
set_option maxRecDepth 100000 in
theorem ji_60_70 : mj_ins 60 70 = some (.getfield 13) := by decide +kernel
set_option maxRecDepth 100000 in
theorem ji_60_73 : mj_ins 60 73 = some (.iload_n 3) := by decide +kernel
set_option maxRecDepth 100000 in
theorem ji_60_74 : mj_ins 60 74 = some (.iconst 1) := by decide +kernel
set_option maxRecDepth 100000 in
theorem ji_60_75 : mj_ins 60 75 = some (.iadd) := by decide +kernel
set_option maxRecDepth 100000 in
theorem ji_60_76 : mj_ins 60 76 = some (.aload_n 1) := by decide +kernel
set_option maxRecDepth 100000 in
theorem ji_60_77 : mj_ins 60 77 = some (.getfield 35) := by decide +kernel
set_option maxRecDepth 100000 in
theorem jf_60_35 : mj_fld 60 35 = some (3, 9, .int, true) := by decide +kernel
set_option maxRecDepth 100000 in
theorem ji_60_80 : mj_ins 60 80 = some (.iastore) := by decide +kernel
set_option maxRecDepth 100000 in
theorem ji_60_81 : mj_ins 60 81 = some (.aload_n 0) := by decide +kernel
set_option maxRecDepth 100000 in
theorem ji_60_82 : mj_ins 60 82 = some (.getfield 13) := by decide +kernel
set_option maxRecDepth 100000 in
theorem ji_60_85 : mj_ins 60 85 = some (.iload_n 3) := by decide +kernel
set_option maxRecDepth 100000 in
theorem ji_60_86 : mj_ins 60 86 = some (.iconst 2) := by decide +kernel
set_option maxRecDepth 100000 in
theorem ji_60_87 : mj_ins 60 87 = some (.iadd) := by decide +kernel
set_option maxRecDepth 100000 in
theorem ji_60_88 : mj_ins 60 88 = some (.aload_n 1) := by decide +kernel
set_option maxRecDepth 100000 in
theorem ji_60_89 : mj_ins 60 89 = some (.getfield 38) := by decide +kernel
set_option maxRecDepth 100000 in
theorem jf_60_38 : mj_fld 60 38 = some (3, 10, .int, true) := by decide +kernel
set_option maxRecDepth 100000 in
theorem ji_60_92 : mj_ins 60 92 = some (.iastore) := by decide +kernel
set_option maxRecDepth 100000 in
theorem ji_60_93 : mj_ins 60 93 = some (.aload_n 0) := by decide +kernel
set_option maxRecDepth 100000 in
theorem ji_60_94 : mj_ins 60 94 = some (.getfield 13) := by decide +kernel
set_option maxRecDepth 100000 in
theorem ji_60_97 : mj_ins 60 97 = some (.iload_n 3) := by decide +kernel
set_option maxRecDepth 100000 in
theorem ji_60_98 : mj_ins 60 98 = some (.iconst 3) := by decide +kernel
set_option maxRecDepth 100000 in
theorem ji_60_99 : mj_ins 60 99 = some (.iadd) := by decide +kernel
set_option maxRecDepth 100000 in
theorem ji_60_100 : mj_ins 60 100 = some (.aload_n 1) := by decide +kernel
set_option maxRecDepth 100000 in
theorem ji_60_101 : mj_ins 60 101 = some (.getfield 41) := by decide +kernel
set_option maxRecDepth 100000 in
theorem jf_60_41 : mj_fld 60 41 = some (3, 11, .int, true) := by decide +kernel
set_option maxRecDepth 100000 in
theorem ji_60_104 : mj_ins 60 104 = some (.iastore) := by decide +kernel
set_option maxRecDepth 100000 in
theorem ji_60_105 : mj_ins 60 105 = some (.aload_n 0) := by decide +kernel
set_option maxRecDepth 100000 in
theorem ji_60_106 : mj_ins 60 106 = some (.getfield 13) := by decide +kernel
set_option maxRecDepth 100000 in
theorem ji_60_109 : mj_ins 60 109 = some (.iload_n 3) := by decide +kernel
set_option maxRecDepth 100000 in
theorem ji_60_110 : mj_ins 60 110 = some (.iconst 4) := by decide +kernel
set_option maxRecDepth 100000 in
theorem ji_60_111 : mj_ins 60 111 = some (.iadd) := by decide +kernel
set_option maxRecDepth 100000 in
theorem ji_60_112 : mj_ins 60 112 = some (.aload_n 1) := by decide +kernel
set_option maxRecDepth 100000 in
theorem ji_60_113 : mj_ins 60 113 = some (.getfield 44) := by decide +kernel
set_option maxRecDepth 100000 in
theorem jf_60_44 : mj_fld 60 44 = some (3, 12, .int, true) := by decide +kernel
set_option maxRecDepth 100000 in
theorem ji_60_116 : mj_ins 60 116 = some (.iastore) := by decide +kernel
set_option maxRecDepth 100000 in
theorem ji_60_117 : mj_ins 60 117 = some (.aload_n 0) := by decide +kernel
set_option maxRecDepth 100000 in
theorem ji_60_118 : mj_ins 60 118 = some (.getfield 13) := by decide +kernel
set_option maxRecDepth 100000 in
theorem ji_60_121 : mj_ins 60 121 = some (.iload_n 3) := by decide +kernel
set_option maxRecDepth 100000 in
theorem ji_60_122 : mj_ins 60 122 = some (.iconst 5) := by decide +kernel
set_option maxRecDepth 100000 in
theorem ji_60_123 : mj_ins 60 123 = some (.iadd) := by decide +kernel
set_option maxRecDepth 100000 in
theorem ji_60_124 : mj_ins 60 124 = some (.aload_n 2) := by decide +kernel
set_option maxRecDepth 100000 in
theorem ji_60_125 : mj_ins 60 125 = some (.getfield 47) := by decide +kernel
set_option maxRecDepth 100000 in
theorem jf_60_47 : mj_fld 60 47 = some (4, 2, .int, true) := by decide +kernel
set_option maxRecDepth 100000 in
theorem ji_60_128 : mj_ins 60 128 = some (.iastore) := by decide +kernel
set_option maxRecDepth 100000 in
theorem ji_60_129 : mj_ins 60 129 = some (.aload_n 1) := by decide +kernel
set_option maxRecDepth 100000 in
theorem ji_60_130 : mj_ins 60 130 = some (.getfield 48) := by decide +kernel
set_option maxRecDepth 100000 in
theorem jf_60_48 : mj_fld 60 48 = some (3, 3, (.array .int), false) := by decide +kernel
set_option maxRecDepth 100000 in
theorem ji_60_133 : mj_ins 60 133 = some (.iconst 0) := by decide +kernel
set_option maxRecDepth 100000 in
theorem ji_60_134 : mj_ins 60 134 = some (.aload_n 0) := by decide +kernel
set_option maxRecDepth 100000 in
theorem ji_60_135 : mj_ins 60 135 = some (.getfield 13) := by decide +kernel
set_option maxRecDepth 100000 in
theorem ji_60_138 : mj_ins 60 138 = some (.iload_n 3) := by decide +kernel
set_option maxRecDepth 100000 in
theorem ji_60_139 : mj_ins 60 139 = some (.bipush 6) := by decide +kernel
set_option maxRecDepth 100000 in
theorem ji_60_141 : mj_ins 60 141 = some (.iadd) := by decide +kernel
set_option maxRecDepth 100000 in
theorem ji_60_142 : mj_ins 60 142 = some (.bipush 8) := by decide +kernel
set_option maxRecDepth 100000 in
theorem ji_60_144 : mj_ins 60 144 = some (.invokestatic 24) := by decide +kernel
set_option maxRecDepth 100000 in
theorem jc_60_24 : mj_cal 60 24 = some (20, 0, 0) := by decide +kernel
set_option maxRecDepth 100000 in
theorem sq_50 : sh_T[50]? = some (1000, [], 8, 0) := by decide +kernel
set_option maxRecDepth 100000 in
theorem ji_60_147 : mj_ins 60 147 = some (.aload_n 1) := by decide +kernel
set_option maxRecDepth 100000 in
theorem ji_60_148 : mj_ins 60 148 = some (.getfield 51) := by decide +kernel
set_option maxRecDepth 100000 in
theorem jf_60_51 : mj_fld 60 51 = some (3, 7, (.array .int), false) := by decide +kernel
set_option maxRecDepth 100000 in
theorem ji_60_151 : mj_ins 60 151 = some (.iconst 0) := by decide +kernel
set_option maxRecDepth 100000 in
theorem ji_60_152 : mj_ins 60 152 = some (.aload_n 0) := by decide +kernel
set_option maxRecDepth 100000 in
theorem ji_60_153 : mj_ins 60 153 = some (.getfield 13) := by decide +kernel
set_option maxRecDepth 100000 in
theorem ji_60_156 : mj_ins 60 156 = some (.iload_n 3) := by decide +kernel
set_option maxRecDepth 100000 in
theorem ji_60_157 : mj_ins 60 157 = some (.bipush 14) := by decide +kernel
set_option maxRecDepth 100000 in
theorem ji_60_159 : mj_ins 60 159 = some (.iadd) := by decide +kernel
set_option maxRecDepth 100000 in
theorem ji_60_160 : mj_ins 60 160 = some (.bipush 48) := by decide +kernel
set_option maxRecDepth 100000 in
theorem ji_60_162 : mj_ins 60 162 = some (.invokestatic 24) := by decide +kernel
set_option maxRecDepth 100000 in
theorem sq_54 : sh_T[54]? = some (1000, [], 48, 0) := by decide +kernel
set_option maxRecDepth 100000 in
theorem ji_60_165 : mj_ins 60 165 = some (.aload_n 1) := by decide +kernel
set_option maxRecDepth 100000 in
theorem ji_60_166 : mj_ins 60 166 = some (.getfield 54) := by decide +kernel
set_option maxRecDepth 100000 in
theorem jf_60_54 : mj_fld 60 54 = some (3, 8, (.array .int), false) := by decide +kernel
set_option maxRecDepth 100000 in
theorem ji_60_169 : mj_ins 60 169 = some (.iconst 0) := by decide +kernel
set_option maxRecDepth 100000 in
theorem ji_60_170 : mj_ins 60 170 = some (.aload_n 0) := by decide +kernel
set_option maxRecDepth 100000 in
theorem ji_60_171 : mj_ins 60 171 = some (.getfield 13) := by decide +kernel
set_option maxRecDepth 100000 in
theorem ji_60_174 : mj_ins 60 174 = some (.iload_n 3) := by decide +kernel
set_option maxRecDepth 100000 in
theorem ji_60_175 : mj_ins 60 175 = some (.bipush 62) := by decide +kernel
set_option maxRecDepth 100000 in
theorem ji_60_177 : mj_ins 60 177 = some (.iadd) := by decide +kernel
set_option maxRecDepth 100000 in
theorem ji_60_178 : mj_ins 60 178 = some (.bipush 48) := by decide +kernel
set_option maxRecDepth 100000 in
theorem ji_60_180 : mj_ins 60 180 = some (.invokestatic 24) := by decide +kernel
set_option maxRecDepth 100000 in
theorem sq_55 : sh_T[55]? = some (1000, [], 48, 0) := by decide +kernel
set_option maxRecDepth 100000 in
theorem ji_60_183 : mj_ins 60 183 = some (.aload_n 2) := by decide +kernel
set_option maxRecDepth 100000 in
theorem ji_60_184 : mj_ins 60 184 = some (.getfield 57) := by decide +kernel
set_option maxRecDepth 100000 in
theorem jf_60_57 : mj_fld 60 57 = some (4, 0, (.array .int), false) := by decide +kernel
set_option maxRecDepth 100000 in
theorem ji_60_187 : mj_ins 60 187 = some (.iconst 0) := by decide +kernel
set_option maxRecDepth 100000 in
theorem ji_60_188 : mj_ins 60 188 = some (.aload_n 0) := by decide +kernel
set_option maxRecDepth 100000 in
theorem ji_60_189 : mj_ins 60 189 = some (.getfield 13) := by decide +kernel
set_option maxRecDepth 100000 in
theorem ji_60_192 : mj_ins 60 192 = some (.iload_n 3) := by decide +kernel
set_option maxRecDepth 100000 in
theorem ji_60_193 : mj_ins 60 193 = some (.bipush 110) := by decide +kernel
set_option maxRecDepth 100000 in
theorem ji_60_195 : mj_ins 60 195 = some (.iadd) := by decide +kernel
set_option maxRecDepth 100000 in
theorem ji_60_196 : mj_ins 60 196 = some (.bipush 40) := by decide +kernel
set_option maxRecDepth 100000 in
theorem ji_60_198 : mj_ins 60 198 = some (.invokestatic 24) := by decide +kernel
set_option maxRecDepth 100000 in
theorem ji_60_201 : mj_ins 60 201 = some (.aload_n 2) := by decide +kernel
set_option maxRecDepth 100000 in
theorem ji_60_202 : mj_ins 60 202 = some (.getfield 60) := by decide +kernel
set_option maxRecDepth 100000 in
theorem jf_60_60 : mj_fld 60 60 = some (4, 1, (.array .int), false) := by decide +kernel
set_option maxRecDepth 100000 in
theorem ji_60_205 : mj_ins 60 205 = some (.iconst 0) := by decide +kernel
set_option maxRecDepth 100000 in
theorem ji_60_206 : mj_ins 60 206 = some (.aload_n 0) := by decide +kernel
set_option maxRecDepth 100000 in
theorem ji_60_207 : mj_ins 60 207 = some (.getfield 13) := by decide +kernel
set_option maxRecDepth 100000 in
theorem ji_60_210 : mj_ins 60 210 = some (.iload_n 3) := by decide +kernel
set_option maxRecDepth 100000 in
theorem ji_60_211 : mj_ins 60 211 = some (.sipush 150) := by decide +kernel
set_option maxRecDepth 100000 in
theorem ji_60_214 : mj_ins 60 214 = some (.iadd) := by decide +kernel
set_option maxRecDepth 100000 in
theorem ji_60_215 : mj_ins 60 215 = some (.bipush 40) := by decide +kernel
set_option maxRecDepth 100000 in
theorem ji_60_217 : mj_ins 60 217 = some (.invokestatic 24) := by decide +kernel
set_option maxRecDepth 100000 in
theorem ji_60_220 : mj_ins 60 220 = some (.return_) := by decide +kernel
set_option maxRecDepth 100000 in
theorem jr_60 : mj_ret 60 = none := by decide +kernel
set_option maxRecDepth 100000 in
theorem ji_60_0 : mj_ins 60 0 = some (.aload_n 0) := by decide +kernel
set_option maxRecDepth 100000 in
theorem ji_60_1 : mj_ins 60 1 = some (.getfield 21) := by decide +kernel
set_option maxRecDepth 100000 in
theorem ji_60_4 : mj_ins 60 4 = some (.bipush 30) := by decide +kernel
set_option maxRecDepth 100000 in
theorem ji_60_6 : mj_ins 60 6 = some (.if_icmp .ne 26) := by decide +kernel
set_option maxRecDepth 100000 in
theorem ji_60_9 : mj_ins 60 9 = some (.aload_n 0) := by decide +kernel
set_option maxRecDepth 100000 in
theorem ji_60_10 : mj_ins 60 10 = some (.aload_n 0) := by decide +kernel
set_option maxRecDepth 100000 in
theorem ji_60_11 : mj_ins 60 11 = some (.getfield 17) := by decide +kernel
set_option maxRecDepth 100000 in
theorem ji_60_14 : mj_ins 60 14 = some (.iconst 1) := by decide +kernel
set_option maxRecDepth 100000 in
theorem ji_60_15 : mj_ins 60 15 = some (.iadd) := by decide +kernel
set_option maxRecDepth 100000 in
theorem ji_60_16 : mj_ins 60 16 = some (.bipush 30) := by decide +kernel
set_option maxRecDepth 100000 in
theorem ji_60_18 : mj_ins 60 18 = some (.irem) := by decide +kernel
set_option maxRecDepth 100000 in
theorem ji_60_19 : mj_ins 60 19 = some (.putfield 17) := by decide +kernel
set_option maxRecDepth 100000 in
theorem ji_60_22 : mj_ins 60 22 = some (.aload_n 0) := by decide +kernel
set_option maxRecDepth 100000 in
theorem ji_60_23 : mj_ins 60 23 = some (.dup) := by decide +kernel
set_option maxRecDepth 100000 in
theorem ji_60_24 : mj_ins 60 24 = some (.getfield 21) := by decide +kernel
set_option maxRecDepth 100000 in
theorem ji_60_27 : mj_ins 60 27 = some (.iconst 1) := by decide +kernel
set_option maxRecDepth 100000 in
theorem ji_60_28 : mj_ins 60 28 = some (.isub) := by decide +kernel
set_option maxRecDepth 100000 in
theorem ji_60_29 : mj_ins 60 29 = some (.putfield 21) := by decide +kernel
set_option maxRecDepth 100000 in
theorem ji_59_0 : mj_ins 59 0 = some (.aload_n 0) := by decide +kernel
set_option maxRecDepth 100000 in
theorem ji_59_1 : mj_ins 59 1 = some (.getfield 28) := by decide +kernel
set_option maxRecDepth 100000 in
theorem jf_59_28 : mj_fld 59 28 = some (2, 2, (.object "ForestOfPoles$Steps"), false) := by decide +kernel
set_option maxRecDepth 100000 in
theorem ji_59_4 : mj_ins 59 4 = some (.aload_n 0) := by decide +kernel
set_option maxRecDepth 100000 in
theorem ji_59_5 : mj_ins 59 5 = some (.getfield 12) := by decide +kernel
set_option maxRecDepth 100000 in
theorem jf_59_12 : mj_fld 59 12 = some (2, 0, (.object "ForestOfPoles$Forest"), false) := by decide +kernel
set_option maxRecDepth 100000 in
theorem ji_59_8 : mj_ins 59 8 = some (.aload_n 0) := by decide +kernel
set_option maxRecDepth 100000 in
theorem ji_59_9 : mj_ins 59 9 = some (.getfield 21) := by decide +kernel
set_option maxRecDepth 100000 in
theorem jf_59_21 : mj_fld 59 21 = some (2, 1, (.object "ForestOfPoles$Book"), false) := by decide +kernel
set_option maxRecDepth 100000 in
theorem ji_59_12 : mj_ins 59 12 = some (.invokevirtual 77) := by decide +kernel
set_option maxRecDepth 100000 in
theorem jc_59_77 : mj_cal 59 77 = some (2, 60, 2) := by decide +kernel
set_option maxRecDepth 100000 in
theorem jn_60 : mj_nl 60 = 4 := by decide +kernel
set_option maxRecDepth 100000 in
theorem jk_60 : mj_cls 60 = 5 := by decide +kernel
set_option maxRecDepth 100000 in
theorem ji_59_15 : mj_ins 59 15 = some (.return_) := by decide +kernel
set_option maxRecDepth 100000 in
theorem jr_59 : mj_ret 59 = none := by decide +kernel
/-! steps kept, hours, in the class; laid by program (wp_u13.py) -/
/-- a row of steps written -/
def kpR (s : sg_) (a : Int) : sg_ := cpy (cpy (cpy (cpy (cpy (up (up (up (up (up (up (up s 59 2 (s 59 2 + 1)) 60 a (s 48 0)) 60 (a + 1) (s 48 9)) 60 (a + 2) (s 48 10)) 60 (a + 3) (s 48 11)) 60 (a + 4) (s 48 12)) 60 (a + 5) (s 56 2)) 50 0 60 (a + 6) 8) 54 0 60 (a + 14) 48) 55 0 60 (a + 62) 48) 57 0 60 (a + 110) 40) 58 0 60 (a + 150) 40
def kpP (s : sg_) : sg_ := if s 59 2 = 30 then up (up s 59 1 ((s 59 1 + 1) % 30)) 59 2 29 else s
def kpA (s : sg_) : Int := (s 59 1 + s 59 2) % 30 * 190
def keepC (s : sg_) : sg_ := kpR (kpP s) (kpA (kpP s))
theorem uc_60l {nn d : Nat} {h : mj_H} {s : sg_} (C : CS h s) (h1 : 0 ≤ s 59 1 ∧ s 59 1 < 30) (h2 : 0 ≤ s 59 2 ∧ s 59 2 < 30) {a : Int} (ha : (s 59 1 + s 59 2) % 30 * 190 = a) : wl_R nn d 60 32 [some (.ref 59), some (.ref 48), some (.ref 56), none] [] h (fun v1 h1 => v1 = none ∧ CS h1 (kpR s a)) := by
  refine wl_s (pc' := 33) ji_60_32 rfl rfl rfl ?_
  refine cs_gi (k := 1) (kI := 1) C (by decide) (by decide) sq_59 rfl rfl ji_60_33 jf_60_17 ?_
  have bd1 : wp_r (s 59 1) := cs_ri (k := 1) (kI := 1) C (by decide) (by decide) sq_59 rfl rfl (show 1 < 3 by decide)
  refine wl_s (pc' := 37) ji_60_36 rfl rfl rfl ?_
  refine cs_gi (k := 2) (kI := 2) C (by decide) (by decide) sq_59 rfl rfl ji_60_37 jf_60_21 ?_
  have bd2 : wp_r (s 59 2) := cs_ri (k := 2) (kI := 2) C (by decide) (by decide) sq_59 rfl rfl (show 2 < 3 by decide)
  refine wl_iadd (x := s 59 1) (y := s 59 2) (z := s 59 1 + (s 59 2)) ji_60_40 (by omega) ?_
  refine wl_bp ji_60_41 rfl ?_
  refine wl_irem (x := s 59 1 + (s 59 2)) (y := 30) ji_60_43 (by omega) (by omega) ?_
  refine wl_sp ji_60_44 rfl ?_
  refine wl_imul (x := (s 59 1 + (s 59 2)) % 30) (y := 190) (z := a) ji_60_47 (by omega) ?_
  refine wl_s (pc' := 49) (lv' := [some (.ref 59), some (.ref 48), some (.ref 56), some (wp_i a)]) ji_60_48 rfl rfl rfl ?_
  refine wl_s (pc' := 50) ji_60_49 rfl rfl rfl ?_
  refine wl_s (pc' := 51) ji_60_50 rfl rfl rfl ?_
  refine cs_gi (k := 2) (kI := 2) C (by decide) (by decide) sq_59 rfl rfl ji_60_51 jf_60_21 ?_
  refine wl_s (pc' := 55) ji_60_54 rfl rfl rfl ?_
  refine wl_iadd (x := s 59 2) (y := 1) (z := s 59 2 + 1) ji_60_55 (by omega) ?_
  refine cs_pi (k := 2) (kI := 2) (y := s 59 2 + 1) C (by decide) sq_59 rfl rfl ji_60_56 jf_60_21 rfl rfl (by omega) (fun h C => ?_)
  obtain ⟨s3, es3⟩ : ∃ z9_, up s 59 2 (s 59 2 + 1) = z9_ := ⟨_, rfl⟩
  rw [es3] at C
  refine wl_s (pc' := 60) ji_60_59 rfl rfl rfl ?_
  refine cs_gr (r := 60) (k := 0) C (by decide) sq_59 rfl ji_60_60 jf_60_13 ?_
  refine wl_s (pc' := 64) ji_60_63 rfl rfl rfl ?_
  refine wl_s (pc' := 65) ji_60_64 rfl rfl rfl ?_
  refine cs_gi (k := 0) (kI := 0) C (by decide) (by decide) sq_48 rfl rfl ji_60_65 jf_60_30 ?_
  have rd4 : s3 48 0 = s 48 0 := by rw [← es3, up_a (by omega)]
  rw [rd4]
  have bd5 : wp_r (s 48 0) := rd4 ▸ cs_ri (k := 0) (kI := 0) C (by decide) (by decide) sq_48 rfl rfl (show 0 < 13 by decide)
  refine cs_s (x := a) (y := s 48 0) C (by decide) sq_60 (by omega) (by omega) ji_60_68 (fun h st60 st61 C => ?_)
  obtain ⟨s7, es7⟩ : ∃ z9_, up s3 60 a (s 48 0) = z9_ := ⟨_, rfl⟩
  rw [es7] at C
  refine wl_s (pc' := 70) ji_60_69 rfl rfl rfl ?_
  refine cs_gr (r := 60) (k := 0) C (by decide) sq_59 rfl ji_60_70 jf_60_13 ?_
  refine wl_s (pc' := 74) ji_60_73 rfl rfl rfl ?_
  refine wl_s (pc' := 75) ji_60_74 rfl rfl rfl ?_
  refine wl_iadd (x := a) (y := 1) (z := a + 1) ji_60_75 (by omega) ?_
  refine wl_s (pc' := 77) ji_60_76 rfl rfl rfl ?_
  refine cs_gi (k := 9) (kI := 9) C (by decide) (by decide) sq_48 rfl rfl ji_60_77 jf_60_35 ?_
  have rd8 : s7 48 9 = s 48 9 := by rw [← es7, up_a (by omega)]; rw [← es3, up_a (by omega)]
  rw [rd8]
  have bd9 : wp_r (s 48 9) := rd8 ▸ cs_ri (k := 9) (kI := 9) C (by decide) (by decide) sq_48 rfl rfl (show 9 < 13 by decide)
  refine cs_s (x := a + 1) (y := s 48 9) C (by decide) sq_60 (by omega) (by omega) ji_60_80 (fun h st100 st101 C => ?_)
  obtain ⟨s11, es11⟩ : ∃ z9_, up s7 60 (a + 1) (s 48 9) = z9_ := ⟨_, rfl⟩
  rw [es11] at C
  refine wl_s (pc' := 82) ji_60_81 rfl rfl rfl ?_
  refine cs_gr (r := 60) (k := 0) C (by decide) sq_59 rfl ji_60_82 jf_60_13 ?_
  refine wl_s (pc' := 86) ji_60_85 rfl rfl rfl ?_
  refine wl_s (pc' := 87) ji_60_86 rfl rfl rfl ?_
  refine wl_iadd (x := a) (y := 2) (z := a + 2) ji_60_87 (by omega) ?_
  refine wl_s (pc' := 89) ji_60_88 rfl rfl rfl ?_
  refine cs_gi (k := 10) (kI := 10) C (by decide) (by decide) sq_48 rfl rfl ji_60_89 jf_60_38 ?_
  have rd12 : s11 48 10 = s 48 10 := by rw [← es11, up_a (by omega)]; rw [← es7, up_a (by omega)]; rw [← es3, up_a (by omega)]
  rw [rd12]
  have bd13 : wp_r (s 48 10) := rd12 ▸ cs_ri (k := 10) (kI := 10) C (by decide) (by decide) sq_48 rfl rfl (show 10 < 13 by decide)
  refine cs_s (x := a + 2) (y := s 48 10) C (by decide) sq_60 (by omega) (by omega) ji_60_92 (fun h st140 st141 C => ?_)
  obtain ⟨s15, es15⟩ : ∃ z9_, up s11 60 (a + 2) (s 48 10) = z9_ := ⟨_, rfl⟩
  rw [es15] at C
  refine wl_s (pc' := 94) ji_60_93 rfl rfl rfl ?_
  refine cs_gr (r := 60) (k := 0) C (by decide) sq_59 rfl ji_60_94 jf_60_13 ?_
  refine wl_s (pc' := 98) ji_60_97 rfl rfl rfl ?_
  refine wl_s (pc' := 99) ji_60_98 rfl rfl rfl ?_
  refine wl_iadd (x := a) (y := 3) (z := a + 3) ji_60_99 (by omega) ?_
  refine wl_s (pc' := 101) ji_60_100 rfl rfl rfl ?_
  refine cs_gi (k := 11) (kI := 11) C (by decide) (by decide) sq_48 rfl rfl ji_60_101 jf_60_41 ?_
  have rd16 : s15 48 11 = s 48 11 := by rw [← es15, up_a (by omega)]; rw [← es11, up_a (by omega)]; rw [← es7, up_a (by omega)]; rw [← es3, up_a (by omega)]
  rw [rd16]
  have bd17 : wp_r (s 48 11) := rd16 ▸ cs_ri (k := 11) (kI := 11) C (by decide) (by decide) sq_48 rfl rfl (show 11 < 13 by decide)
  refine cs_s (x := a + 3) (y := s 48 11) C (by decide) sq_60 (by omega) (by omega) ji_60_104 (fun h st180 st181 C => ?_)
  obtain ⟨s19, es19⟩ : ∃ z9_, up s15 60 (a + 3) (s 48 11) = z9_ := ⟨_, rfl⟩
  rw [es19] at C
  refine wl_s (pc' := 106) ji_60_105 rfl rfl rfl ?_
  refine cs_gr (r := 60) (k := 0) C (by decide) sq_59 rfl ji_60_106 jf_60_13 ?_
  refine wl_s (pc' := 110) ji_60_109 rfl rfl rfl ?_
  refine wl_s (pc' := 111) ji_60_110 rfl rfl rfl ?_
  refine wl_iadd (x := a) (y := 4) (z := a + 4) ji_60_111 (by omega) ?_
  refine wl_s (pc' := 113) ji_60_112 rfl rfl rfl ?_
  refine cs_gi (k := 12) (kI := 12) C (by decide) (by decide) sq_48 rfl rfl ji_60_113 jf_60_44 ?_
  have rd20 : s19 48 12 = s 48 12 := by rw [← es19, up_a (by omega)]; rw [← es15, up_a (by omega)]; rw [← es11, up_a (by omega)]; rw [← es7, up_a (by omega)]; rw [← es3, up_a (by omega)]
  rw [rd20]
  have bd21 : wp_r (s 48 12) := rd20 ▸ cs_ri (k := 12) (kI := 12) C (by decide) (by decide) sq_48 rfl rfl (show 12 < 13 by decide)
  refine cs_s (x := a + 4) (y := s 48 12) C (by decide) sq_60 (by omega) (by omega) ji_60_116 (fun h st220 st221 C => ?_)
  obtain ⟨s23, es23⟩ : ∃ z9_, up s19 60 (a + 4) (s 48 12) = z9_ := ⟨_, rfl⟩
  rw [es23] at C
  refine wl_s (pc' := 118) ji_60_117 rfl rfl rfl ?_
  refine cs_gr (r := 60) (k := 0) C (by decide) sq_59 rfl ji_60_118 jf_60_13 ?_
  refine wl_s (pc' := 122) ji_60_121 rfl rfl rfl ?_
  refine wl_s (pc' := 123) ji_60_122 rfl rfl rfl ?_
  refine wl_iadd (x := a) (y := 5) (z := a + 5) ji_60_123 (by omega) ?_
  refine wl_s (pc' := 125) ji_60_124 rfl rfl rfl ?_
  refine cs_gi (k := 2) (kI := 2) C (by decide) (by decide) sq_56 rfl rfl ji_60_125 jf_60_47 ?_
  have rd24 : s23 56 2 = s 56 2 := by rw [← es23, up_a (by omega)]; rw [← es19, up_a (by omega)]; rw [← es15, up_a (by omega)]; rw [← es11, up_a (by omega)]; rw [← es7, up_a (by omega)]; rw [← es3, up_a (by omega)]
  rw [rd24]
  have bd25 : wp_r (s 56 2) := rd24 ▸ cs_ri (k := 2) (kI := 2) C (by decide) (by decide) sq_56 rfl rfl (show 2 < 3 by decide)
  refine cs_s (x := a + 5) (y := s 56 2) C (by decide) sq_60 (by omega) (by omega) ji_60_128 (fun h st260 st261 C => ?_)
  obtain ⟨s27, es27⟩ : ∃ z9_, up s23 60 (a + 5) (s 56 2) = z9_ := ⟨_, rfl⟩
  rw [es27] at C
  refine wl_s (pc' := 130) ji_60_129 rfl rfl rfl ?_
  refine cs_gr (r := 50) (k := 3) C (by decide) sq_48 rfl ji_60_130 jf_60_48 ?_
  refine wl_s (pc' := 134) ji_60_133 rfl rfl rfl ?_
  refine wl_s (pc' := 135) ji_60_134 rfl rfl rfl ?_
  refine cs_gr (r := 60) (k := 0) C (by decide) sq_59 rfl ji_60_135 jf_60_13 ?_
  refine wl_s (pc' := 139) ji_60_138 rfl rfl rfl ?_
  refine wl_bp ji_60_139 rfl ?_
  refine wl_iadd (x := a) (y := 6) (z := a + 6) ji_60_141 (by omega) ?_
  refine wl_bp ji_60_142 rfl ?_
  refine cs_cp (sp := 0) (dp := a + 6) (n := 8) C (by decide) sq_50 sq_60 (by decide) (by decide) (by omega) (by omega) (by omega) ji_60_144 jc_60_24 (fun h cp28 C => ?_)
  obtain ⟨s29, es29⟩ : ∃ z9_, cpy s27 50 0 60 (a + 6) 8 = z9_ := ⟨_, rfl⟩
  rw [es29] at C
  refine wl_s (pc' := 148) ji_60_147 rfl rfl rfl ?_
  refine cs_gr (r := 54) (k := 7) C (by decide) sq_48 rfl ji_60_148 jf_60_51 ?_
  refine wl_s (pc' := 152) ji_60_151 rfl rfl rfl ?_
  refine wl_s (pc' := 153) ji_60_152 rfl rfl rfl ?_
  refine cs_gr (r := 60) (k := 0) C (by decide) sq_59 rfl ji_60_153 jf_60_13 ?_
  refine wl_s (pc' := 157) ji_60_156 rfl rfl rfl ?_
  refine wl_bp ji_60_157 rfl ?_
  refine wl_iadd (x := a) (y := 14) (z := a + 14) ji_60_159 (by omega) ?_
  refine wl_bp ji_60_160 rfl ?_
  refine cs_cp (sp := 0) (dp := a + 14) (n := 48) C (by decide) sq_54 sq_60 (by decide) (by decide) (by omega) (by omega) (by omega) ji_60_162 jc_60_24 (fun h cp30 C => ?_)
  obtain ⟨s31, es31⟩ : ∃ z9_, cpy s29 54 0 60 (a + 14) 48 = z9_ := ⟨_, rfl⟩
  rw [es31] at C
  refine wl_s (pc' := 166) ji_60_165 rfl rfl rfl ?_
  refine cs_gr (r := 55) (k := 8) C (by decide) sq_48 rfl ji_60_166 jf_60_54 ?_
  refine wl_s (pc' := 170) ji_60_169 rfl rfl rfl ?_
  refine wl_s (pc' := 171) ji_60_170 rfl rfl rfl ?_
  refine cs_gr (r := 60) (k := 0) C (by decide) sq_59 rfl ji_60_171 jf_60_13 ?_
  refine wl_s (pc' := 175) ji_60_174 rfl rfl rfl ?_
  refine wl_bp ji_60_175 rfl ?_
  refine wl_iadd (x := a) (y := 62) (z := a + 62) ji_60_177 (by omega) ?_
  refine wl_bp ji_60_178 rfl ?_
  refine cs_cp (sp := 0) (dp := a + 62) (n := 48) C (by decide) sq_55 sq_60 (by decide) (by decide) (by omega) (by omega) (by omega) ji_60_180 jc_60_24 (fun h cp32 C => ?_)
  obtain ⟨s33, es33⟩ : ∃ z9_, cpy s31 55 0 60 (a + 62) 48 = z9_ := ⟨_, rfl⟩
  rw [es33] at C
  refine wl_s (pc' := 184) ji_60_183 rfl rfl rfl ?_
  refine cs_gr (r := 57) (k := 0) C (by decide) sq_56 rfl ji_60_184 jf_60_57 ?_
  refine wl_s (pc' := 188) ji_60_187 rfl rfl rfl ?_
  refine wl_s (pc' := 189) ji_60_188 rfl rfl rfl ?_
  refine cs_gr (r := 60) (k := 0) C (by decide) sq_59 rfl ji_60_189 jf_60_13 ?_
  refine wl_s (pc' := 193) ji_60_192 rfl rfl rfl ?_
  refine wl_bp ji_60_193 rfl ?_
  refine wl_iadd (x := a) (y := 110) (z := a + 110) ji_60_195 (by omega) ?_
  refine wl_bp ji_60_196 rfl ?_
  refine cs_cp (sp := 0) (dp := a + 110) (n := 40) C (by decide) sq_57 sq_60 (by decide) (by decide) (by omega) (by omega) (by omega) ji_60_198 jc_60_24 (fun h cp34 C => ?_)
  obtain ⟨s35, es35⟩ : ∃ z9_, cpy s33 57 0 60 (a + 110) 40 = z9_ := ⟨_, rfl⟩
  rw [es35] at C
  refine wl_s (pc' := 202) ji_60_201 rfl rfl rfl ?_
  refine cs_gr (r := 58) (k := 1) C (by decide) sq_56 rfl ji_60_202 jf_60_60 ?_
  refine wl_s (pc' := 206) ji_60_205 rfl rfl rfl ?_
  refine wl_s (pc' := 207) ji_60_206 rfl rfl rfl ?_
  refine cs_gr (r := 60) (k := 0) C (by decide) sq_59 rfl ji_60_207 jf_60_13 ?_
  refine wl_s (pc' := 211) ji_60_210 rfl rfl rfl ?_
  refine wl_sp ji_60_211 rfl ?_
  refine wl_iadd (x := a) (y := 150) (z := a + 150) ji_60_214 (by omega) ?_
  refine wl_bp ji_60_215 rfl ?_
  refine cs_cp (sp := 0) (dp := a + 150) (n := 40) C (by decide) sq_58 sq_60 (by decide) (by decide) (by omega) (by omega) (by omega) ji_60_217 jc_60_24 (fun h cp36 C => ?_)
  obtain ⟨s37, es37⟩ : ∃ z9_, cpy s35 58 0 60 (a + 150) 40 = z9_ := ⟨_, rfl⟩
  rw [es37] at C
  exact wl_rv ji_60_220 jr_60 (⟨rfl, cs_mono C (by unfold kpR; rw [es3, es7, es11, es15, es19, es23, es27, es29, es31, es33, es35, es37])⟩)
theorem uc_60 {nn d : Nat} {h : mj_H} {s : sg_} (C : CS h s) (h1 : 0 ≤ s 59 1 ∧ s 59 1 < 30) (h2 : 0 ≤ s 59 2 ∧ s 59 2 ≤ 30) : wl_R nn d 60 0 [some (.ref 59), some (.ref 48), some (.ref 56), none] [] h (fun v1 h1 => v1 = none ∧ CS h1 (keepC s)) := by
  refine wl_s (pc' := 1) ji_60_0 rfl rfl rfl ?_
  refine cs_gi (k := 2) (kI := 2) C (by decide) (by decide) sq_59 rfl rfl ji_60_1 jf_60_21 ?_
  have bd1 : wp_r (s 59 2) := cs_ri (k := 2) (kI := 2) C (by decide) (by decide) sq_59 rfl rfl (show 2 < 3 by decide)
  refine wl_bp ji_60_4 rfl ?_
  refine wl_icmp (t := 32) ji_60_6 rfl (by omega) (by omega) (fun (hb2 : ¬ (s 59 2 : Int) = 30) => ?_) (fun (hb2 : ¬ (¬ (s 59 2 : Int) = 30)) => ?_)
  · have e1 : kpP s = s := by unfold kpP; rw [if_neg (by omega)]
    unfold keepC
    rw [e1]
    exact uc_60l C h1 (by omega) rfl
  · refine wl_s (pc' := 10) ji_60_9 rfl rfl rfl ?_
    refine wl_s (pc' := 11) ji_60_10 rfl rfl rfl ?_
    refine cs_gi (k := 1) (kI := 1) C (by decide) (by decide) sq_59 rfl rfl ji_60_11 jf_60_17 ?_
    have bd3 : wp_r (s 59 1) := cs_ri (k := 1) (kI := 1) C (by decide) (by decide) sq_59 rfl rfl (show 1 < 3 by decide)
    refine wl_s (pc' := 15) ji_60_14 rfl rfl rfl ?_
    refine wl_iadd (x := s 59 1) (y := 1) (z := s 59 1 + 1) ji_60_15 (by omega) ?_
    refine wl_bp ji_60_16 rfl ?_
    refine wl_irem (x := s 59 1 + 1) (y := 30) ji_60_18 (by omega) (by omega) ?_
    refine cs_pi (k := 1) (kI := 1) (y := (s 59 1 + 1) % 30) C (by decide) sq_59 rfl rfl ji_60_19 jf_60_17 rfl rfl (by omega) (fun h C => ?_)
    obtain ⟨s4, es4⟩ : ∃ z9_, up s 59 1 ((s 59 1 + 1) % 30) = z9_ := ⟨_, rfl⟩
    rw [es4] at C
    refine wl_s (pc' := 23) ji_60_22 rfl rfl rfl ?_
    refine wl_s (pc' := 24) ji_60_23 rfl rfl rfl ?_
    refine cs_gi (k := 2) (kI := 2) C (by decide) (by decide) sq_59 rfl rfl ji_60_24 jf_60_21 ?_
    have rd5 : s4 59 2 = s 59 2 := by rw [← es4, up_k (by decide)]
    rw [rd5]
    refine wl_s (pc' := 28) ji_60_27 rfl rfl rfl ?_
    refine wl_isub (x := s 59 2) (y := 1) (z := 29) ji_60_28 (by omega) ?_
    refine cs_pi (k := 2) (kI := 2) (y := 29) C (by decide) sq_59 rfl rfl ji_60_29 jf_60_21 rfl rfl (by omega) (fun h C => ?_)
    obtain ⟨s6, es6⟩ : ∃ z9_, up s4 59 2 29 = z9_ := ⟨_, rfl⟩
    rw [es6] at C
    have e1 : kpP s = s6 := by unfold kpP; rw [if_pos (by omega), es4, es6]
    unfold keepC
    rw [e1]
    have q1 : s6 59 1 = (s 59 1 + 1) % 30 := by rw [← es6, up_k (by decide), ← es4, up_e]
    have q2 : s6 59 2 = 29 := by rw [← es6, up_e]
    exact uc_60l C (by omega) (by omega) rfl
theorem uc_59 {nn d : Nat} {h : mj_H} {s : sg_} (C : CS h s) (h1 : 0 ≤ s 59 1 ∧ s 59 1 < 30) (h2 : 0 ≤ s 59 2 ∧ s 59 2 ≤ 30) : wl_R nn (d + 1) 59 0 [some (.ref 47)] [] h (fun v1 h1 => v1 = none ∧ CS h1 (keepC s)) := by
  refine wl_s (pc' := 1) ji_59_0 rfl rfl rfl ?_
  refine cs_gr (r := 59) (k := 2) C (by decide) sq_47 rfl ji_59_1 jf_59_28 ?_
  refine wl_s (pc' := 5) ji_59_4 rfl rfl rfl ?_
  refine cs_gr (r := 48) (k := 0) C (by decide) sq_47 rfl ji_59_5 jf_59_12 ?_
  refine wl_s (pc' := 9) ji_59_8 rfl rfl rfl ?_
  refine cs_gr (r := 56) (k := 1) C (by decide) sq_47 rfl ji_59_9 jf_59_21 ?_
  obtain ⟨q2, hq2⟩ := cs_c C (by decide) sq_59
  refine wl_vc (d := d) (as := [.ref 59, .ref 48, .ref 56]) (rest := []) ji_59_12 jc_59_77 rfl hq2 jk_60.symm (Nat.le_of_ble_eq_true rfl) rfl (by rw [jn_60]; rfl) (uc_60 (d := d) C h1 h2) (fun v1 h1 R => ?_)
  obtain ⟨rfl, C⟩ := R
  obtain ⟨s3, es3⟩ : ∃ z9_, keepC s = z9_ := ⟨_, rfl⟩
  rw [es3] at C
  show wl_R _ _ 59 15 [some (.ref 47)] [] h1 _
  exact wl_rv ji_59_15 jr_59 (⟨rfl, by rw [es3]; exact C⟩)
