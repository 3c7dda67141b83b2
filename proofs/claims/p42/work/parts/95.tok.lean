/-! the reference's nextToken, laid by program (wp_tok.py) -/
def nx_f (φ0 φ : Nat → Int) : Prop := ∀ k, k ≠ 7 → k ≠ 8 → k ≠ 9 → k ≠ 10 → φ k = φ0 k
/-- behind it: a token has taken at least a byte -/
def nx_Q (h0 : mj_H) (a P T : Nat) (φ0 : Nat → Int) (pl ts : List Value) : Option Value → mj_H → Prop := fun v h1 => v = none ∧ ∃ φ', pv h0 h1 a P T φ' pl ts ∧ nx_f φ0 φ' ∧ φ0 7 ≤ φ' 7 ∧ (¬ φ' 9 = 0 → φ0 7 + 1 ≤ φ' 7)
set_option maxRecDepth 100000 in
theorem ji_178_85 : mj_ins 178 85 = some (.aload_n 0) := by decide +kernel
set_option maxRecDepth 100000 in
theorem ji_178_86 : mj_ins 178 86 = some (.aload_n 0) := by decide +kernel
set_option maxRecDepth 100000 in
theorem ji_178_87 : mj_ins 178 87 = some (.getfield 85) := by decide +kernel
set_option maxRecDepth 100000 in
theorem jf_178_85 : mj_fld 178 85 = some (11, 7, .int, true) := by decide +kernel
set_option maxRecDepth 100000 in
theorem pf_7 : sx_fd sx_y63.2.2 7 = some (0, 0, 300) := by decide +kernel
set_option maxRecDepth 100000 in
theorem ji_178_90 : mj_ins 178 90 = some (.invokevirtual 88) := by decide +kernel
set_option maxRecDepth 100000 in
theorem jc_178_88 : mj_cal 178 88 = some (2, 179, 1) := by decide +kernel
set_option maxRecDepth 100000 in
theorem jk_179 : mj_cls 179 = 11 := by decide +kernel
set_option maxRecDepth 100000 in
theorem jn_179 : mj_nl 179 = 2 := by decide +kernel
set_option maxRecDepth 100000 in
theorem ji_178_93 : mj_ins 178 93 = some (.invokestatic 98) := by decide +kernel
set_option maxRecDepth 100000 in
theorem jc_178_98 : mj_cal 178 98 = some (1, 180, 1) := by decide +kernel
set_option maxRecDepth 100000 in
theorem jn_180 : mj_nl 180 = 1 := by decide +kernel
set_option maxRecDepth 100000 in
theorem ji_178_96 : mj_ins 178 96 = some (.ifCond .eq 214) := by decide +kernel
set_option maxRecDepth 100000 in
theorem ji_178_310 : mj_ins 178 310 = some (.return_) := by decide +kernel
set_option maxRecDepth 100000 in
theorem jr_178 : mj_ret 178 = none := by decide +kernel
set_option maxRecDepth 100000 in
theorem ji_178_99 : mj_ins 178 99 = some (.aload_n 0) := by decide +kernel
set_option maxRecDepth 100000 in
theorem ji_178_100 : mj_ins 178 100 = some (.aload_n 0) := by decide +kernel
set_option maxRecDepth 100000 in
theorem ji_178_101 : mj_ins 178 101 = some (.getfield 102) := by decide +kernel
set_option maxRecDepth 100000 in
theorem jf_178_102 : mj_fld 178 102 = some (11, 10, .int, true) := by decide +kernel
set_option maxRecDepth 100000 in
theorem pf_10 : sx_fd sx_y63.2.2 10 = some (0, -2147483648, 2147483647) := by decide +kernel
set_option maxRecDepth 100000 in
theorem ji_178_104 : mj_ins 178 104 = some (.ldc 105) := by decide +kernel
set_option maxRecDepth 100000 in
theorem jl_178_105 : mj_con 178 105 = some (.int 99999) := by decide +kernel
set_option maxRecDepth 100000 in
theorem ji_178_106 : mj_ins 178 106 = some (.if_icmp .le 10) := by decide +kernel
set_option maxRecDepth 100000 in
theorem ji_178_116 : mj_ins 178 116 = some (.bipush 10) := by decide +kernel
set_option maxRecDepth 100000 in
theorem ji_178_118 : mj_ins 178 118 = some (.aload_n 0) := by decide +kernel
set_option maxRecDepth 100000 in
theorem ji_178_119 : mj_ins 178 119 = some (.getfield 102) := by decide +kernel
set_option maxRecDepth 100000 in
theorem ji_178_122 : mj_ins 178 122 = some (.imul) := by decide +kernel
set_option maxRecDepth 100000 in
theorem ji_178_123 : mj_ins 178 123 = some (.aload_n 0) := by decide +kernel
set_option maxRecDepth 100000 in
theorem ji_178_124 : mj_ins 178 124 = some (.aload_n 0) := by decide +kernel
set_option maxRecDepth 100000 in
theorem ji_178_125 : mj_ins 178 125 = some (.getfield 85) := by decide +kernel
set_option maxRecDepth 100000 in
theorem ji_178_128 : mj_ins 178 128 = some (.invokevirtual 88) := by decide +kernel
set_option maxRecDepth 100000 in
theorem ji_178_131 : mj_ins 178 131 = some (.iadd) := by decide +kernel
set_option maxRecDepth 100000 in
theorem ji_178_132 : mj_ins 178 132 = some (.bipush 48) := by decide +kernel
set_option maxRecDepth 100000 in
theorem ji_178_134 : mj_ins 178 134 = some (.isub) := by decide +kernel
set_option maxRecDepth 100000 in
theorem ji_178_135 : mj_ins 178 135 = some (.putfield 102) := by decide +kernel
set_option maxRecDepth 100000 in
theorem ji_178_138 : mj_ins 178 138 = some (.aload_n 0) := by decide +kernel
set_option maxRecDepth 100000 in
theorem ji_178_139 : mj_ins 178 139 = some (.dup) := by decide +kernel
set_option maxRecDepth 100000 in
theorem ji_178_140 : mj_ins 178 140 = some (.getfield 85) := by decide +kernel
set_option maxRecDepth 100000 in
theorem ji_178_143 : mj_ins 178 143 = some (.iconst 1) := by decide +kernel
set_option maxRecDepth 100000 in
theorem ji_178_144 : mj_ins 178 144 = some (.iadd) := by decide +kernel
set_option maxRecDepth 100000 in
theorem ji_178_145 : mj_ins 178 145 = some (.putfield 85) := by decide +kernel
set_option maxRecDepth 100000 in
theorem ji_178_148 : mj_ins 178 148 = some (.goto (-63)) := by decide +kernel
set_option maxRecDepth 100000 in
theorem ji_178_109 : mj_ins 178 109 = some (.aload_n 0) := by decide +kernel
set_option maxRecDepth 100000 in
theorem ji_178_110 : mj_ins 178 110 = some (.getfield 102) := by decide +kernel
set_option maxRecDepth 100000 in
theorem ji_178_113 : mj_ins 178 113 = some (.goto 22) := by decide +kernel
set_option maxRecDepth 100000 in
theorem ji_178_168 : mj_ins 178 168 = some (.aload_n 0) := by decide +kernel
set_option maxRecDepth 100000 in
theorem ji_178_169 : mj_ins 178 169 = some (.aload_n 0) := by decide +kernel
set_option maxRecDepth 100000 in
theorem ji_178_170 : mj_ins 178 170 = some (.getfield 85) := by decide +kernel
set_option maxRecDepth 100000 in
theorem ji_178_173 : mj_ins 178 173 = some (.invokevirtual 88) := by decide +kernel
set_option maxRecDepth 100000 in
theorem ji_178_176 : mj_ins 178 176 = some (.invokestatic 106) := by decide +kernel
set_option maxRecDepth 100000 in
theorem jc_178_106 : mj_cal 178 106 = some (1, 181, 1) := by decide +kernel
set_option maxRecDepth 100000 in
theorem jn_181 : mj_nl 181 = 1 := by decide +kernel
set_option maxRecDepth 100000 in
theorem ji_178_179 : mj_ins 178 179 = some (.ifCond .eq 131) := by decide +kernel
set_option maxRecDepth 100000 in
theorem ji_178_182 : mj_ins 178 182 = some (.aload_n 0) := by decide +kernel
set_option maxRecDepth 100000 in
theorem ji_178_183 : mj_ins 178 183 = some (.aload_n 0) := by decide +kernel
set_option maxRecDepth 100000 in
theorem ji_178_184 : mj_ins 178 184 = some (.getfield 109) := by decide +kernel
set_option maxRecDepth 100000 in
theorem jf_178_109 : mj_fld 178 109 = some (11, 11, .long, true) := by decide +kernel
set_option maxRecDepth 100000 in
theorem ji_178_187 : mj_ins 178 187 = some (.bipush 48) := by decide +kernel
set_option maxRecDepth 100000 in
theorem ji_178_189 : mj_ins 178 189 = some (.lshr) := by decide +kernel
set_option maxRecDepth 100000 in
theorem ji_178_190 : mj_ins 178 190 = some (.lconst 0) := by decide +kernel
set_option maxRecDepth 100000 in
theorem ji_178_191 : mj_ins 178 191 = some (.lcmp) := by decide +kernel
set_option maxRecDepth 100000 in
theorem ji_178_192 : mj_ins 178 192 = some (.ifCond .eq 9) := by decide +kernel
set_option maxRecDepth 100000 in
theorem ji_178_201 : mj_ins 178 201 = some (.aload_n 0) := by decide +kernel
set_option maxRecDepth 100000 in
theorem ji_178_202 : mj_ins 178 202 = some (.getfield 109) := by decide +kernel
set_option maxRecDepth 100000 in
theorem ji_178_205 : mj_ins 178 205 = some (.bipush 8) := by decide +kernel
set_option maxRecDepth 100000 in
theorem ji_178_207 : mj_ins 178 207 = some (.lshl) := by decide +kernel
set_option maxRecDepth 100000 in
theorem ji_178_208 : mj_ins 178 208 = some (.aload_n 0) := by decide +kernel
set_option maxRecDepth 100000 in
theorem ji_178_209 : mj_ins 178 209 = some (.aload_n 0) := by decide +kernel
set_option maxRecDepth 100000 in
theorem ji_178_210 : mj_ins 178 210 = some (.getfield 85) := by decide +kernel
set_option maxRecDepth 100000 in
theorem ji_178_213 : mj_ins 178 213 = some (.invokevirtual 88) := by decide +kernel
set_option maxRecDepth 100000 in
theorem ji_178_216 : mj_ins 178 216 = some (.i2l) := by decide +kernel
set_option maxRecDepth 100000 in
theorem ji_178_217 : mj_ins 178 217 = some (.lor) := by decide +kernel
set_option maxRecDepth 100000 in
theorem ji_178_218 : mj_ins 178 218 = some (.putfield 109) := by decide +kernel
set_option maxRecDepth 100000 in
theorem ji_178_221 : mj_ins 178 221 = some (.aload_n 0) := by decide +kernel
set_option maxRecDepth 100000 in
theorem ji_178_222 : mj_ins 178 222 = some (.dup) := by decide +kernel
set_option maxRecDepth 100000 in
theorem ji_178_223 : mj_ins 178 223 = some (.getfield 85) := by decide +kernel
set_option maxRecDepth 100000 in
theorem ji_178_226 : mj_ins 178 226 = some (.iconst 1) := by decide +kernel
set_option maxRecDepth 100000 in
theorem ji_178_227 : mj_ins 178 227 = some (.iadd) := by decide +kernel
set_option maxRecDepth 100000 in
theorem ji_178_228 : mj_ins 178 228 = some (.putfield 85) := by decide +kernel
set_option maxRecDepth 100000 in
theorem ji_178_231 : mj_ins 178 231 = some (.goto (-63)) := by decide +kernel
set_option maxRecDepth 100000 in
theorem ji_178_195 : mj_ins 178 195 = some (.ldc2_w 113) := by decide +kernel
set_option maxRecDepth 100000 in
theorem jl_178_113 : mj_con 178 113 = some (.long 1152921504606846976) := by decide +kernel
set_option maxRecDepth 100000 in
theorem ji_178_198 : mj_ins 178 198 = some (.goto 20) := by decide +kernel
set_option maxRecDepth 100000 in
theorem ji_178_0 : mj_ins 178 0 = some (.aload_n 0) := by decide +kernel
set_option maxRecDepth 100000 in
theorem ji_178_1 : mj_ins 178 1 = some (.aload_n 0) := by decide +kernel
set_option maxRecDepth 100000 in
theorem ji_178_2 : mj_ins 178 2 = some (.getfield 85) := by decide +kernel
set_option maxRecDepth 100000 in
theorem ji_178_5 : mj_ins 178 5 = some (.invokevirtual 88) := by decide +kernel
set_option maxRecDepth 100000 in
theorem ji_178_8 : mj_ins 178 8 = some (.bipush 32) := by decide +kernel
set_option maxRecDepth 100000 in
theorem ji_178_10 : mj_ins 178 10 = some (.if_icmp .eq 16) := by decide +kernel
set_option maxRecDepth 100000 in
theorem ji_178_26 : mj_ins 178 26 = some (.aload_n 0) := by decide +kernel
set_option maxRecDepth 100000 in
theorem ji_178_27 : mj_ins 178 27 = some (.dup) := by decide +kernel
set_option maxRecDepth 100000 in
theorem ji_178_28 : mj_ins 178 28 = some (.getfield 85) := by decide +kernel
set_option maxRecDepth 100000 in
theorem ji_178_31 : mj_ins 178 31 = some (.iconst 1) := by decide +kernel
set_option maxRecDepth 100000 in
theorem ji_178_32 : mj_ins 178 32 = some (.iadd) := by decide +kernel
set_option maxRecDepth 100000 in
theorem ji_178_33 : mj_ins 178 33 = some (.putfield 85) := by decide +kernel
set_option maxRecDepth 100000 in
theorem ji_178_36 : mj_ins 178 36 = some (.goto (-36)) := by decide +kernel
set_option maxRecDepth 100000 in
theorem ji_178_13 : mj_ins 178 13 = some (.aload_n 0) := by decide +kernel
set_option maxRecDepth 100000 in
theorem ji_178_14 : mj_ins 178 14 = some (.aload_n 0) := by decide +kernel
set_option maxRecDepth 100000 in
theorem ji_178_15 : mj_ins 178 15 = some (.getfield 85) := by decide +kernel
set_option maxRecDepth 100000 in
theorem ji_178_18 : mj_ins 178 18 = some (.invokevirtual 88) := by decide +kernel
set_option maxRecDepth 100000 in
theorem ji_178_21 : mj_ins 178 21 = some (.bipush 10) := by decide +kernel
set_option maxRecDepth 100000 in
theorem ji_178_23 : mj_ins 178 23 = some (.if_icmp .ne 16) := by decide +kernel
set_option maxRecDepth 100000 in
theorem ji_178_39 : mj_ins 178 39 = some (.aload_n 0) := by decide +kernel
set_option maxRecDepth 100000 in
theorem ji_178_40 : mj_ins 178 40 = some (.aload_n 0) := by decide +kernel
set_option maxRecDepth 100000 in
theorem ji_178_41 : mj_ins 178 41 = some (.getfield 85) := by decide +kernel
set_option maxRecDepth 100000 in
theorem ji_178_44 : mj_ins 178 44 = some (.putfield 92) := by decide +kernel
set_option maxRecDepth 100000 in
theorem jf_178_92 : mj_fld 178 92 = some (11, 8, .int, true) := by decide +kernel
set_option maxRecDepth 100000 in
theorem pf_8 : sx_fd sx_y63.2.2 8 = some (0, 0, 300) := by decide +kernel
set_option maxRecDepth 100000 in
theorem ji_178_47 : mj_ins 178 47 = some (.aload_n 0) := by decide +kernel
set_option maxRecDepth 100000 in
theorem ji_178_48 : mj_ins 178 48 = some (.aload_n 0) := by decide +kernel
set_option maxRecDepth 100000 in
theorem ji_178_49 : mj_ins 178 49 = some (.getfield 85) := by decide +kernel
set_option maxRecDepth 100000 in
theorem ji_178_52 : mj_ins 178 52 = some (.invokevirtual 88) := by decide +kernel
set_option maxRecDepth 100000 in
theorem ji_178_55 : mj_ins 178 55 = some (.istore_n 1) := by decide +kernel
set_option maxRecDepth 100000 in
theorem ji_178_56 : mj_ins 178 56 = some (.iload_n 1) := by decide +kernel
set_option maxRecDepth 100000 in
theorem ji_178_57 : mj_ins 178 57 = some (.ifCond .ge 11) := by decide +kernel
set_option maxRecDepth 100000 in
theorem ji_178_68 : mj_ins 178 68 = some (.iload_n 1) := by decide +kernel
set_option maxRecDepth 100000 in
theorem ji_178_69 : mj_ins 178 69 = some (.invokestatic 98) := by decide +kernel
set_option maxRecDepth 100000 in
theorem ji_178_72 : mj_ins 178 72 = some (.ifCond .eq 79) := by decide +kernel
set_option maxRecDepth 100000 in
theorem ji_178_151 : mj_ins 178 151 = some (.iload_n 1) := by decide +kernel
set_option maxRecDepth 100000 in
theorem ji_178_152 : mj_ins 178 152 = some (.invokestatic 106) := by decide +kernel
set_option maxRecDepth 100000 in
theorem ji_178_155 : mj_ins 178 155 = some (.ifCond .eq 79) := by decide +kernel
set_option maxRecDepth 100000 in
theorem ji_178_234 : mj_ins 178 234 = some (.aload_n 0) := by decide +kernel
set_option maxRecDepth 100000 in
theorem ji_178_235 : mj_ins 178 235 = some (.iload_n 1) := by decide +kernel
set_option maxRecDepth 100000 in
theorem ji_178_236 : mj_ins 178 236 = some (.invokestatic 115) := by decide +kernel
set_option maxRecDepth 100000 in
theorem jc_178_115 : mj_cal 178 115 = some (1, 182, 1) := by decide +kernel
set_option maxRecDepth 100000 in
theorem jn_182 : mj_nl 182 = 1 := by decide +kernel
set_option maxRecDepth 100000 in
theorem ji_178_239 : mj_ins 178 239 = some (.ifCond .eq 7) := by decide +kernel
set_option maxRecDepth 100000 in
theorem ji_178_246 : mj_ins 178 246 = some (.iconst 3) := by decide +kernel
set_option maxRecDepth 100000 in
theorem ji_178_247 : mj_ins 178 247 = some (.putfield 95) := by decide +kernel
set_option maxRecDepth 100000 in
theorem jf_178_95 : mj_fld 178 95 = some (11, 9, .int, true) := by decide +kernel
set_option maxRecDepth 100000 in
theorem pf_9 : sx_fd sx_y63.2.2 9 = some (0, 0, 255) := by decide +kernel
set_option maxRecDepth 100000 in
theorem ji_178_250 : mj_ins 178 250 = some (.aload_n 0) := by decide +kernel
set_option maxRecDepth 100000 in
theorem ji_178_251 : mj_ins 178 251 = some (.dup) := by decide +kernel
set_option maxRecDepth 100000 in
theorem ji_178_252 : mj_ins 178 252 = some (.getfield 85) := by decide +kernel
set_option maxRecDepth 100000 in
theorem ji_178_255 : mj_ins 178 255 = some (.iconst 1) := by decide +kernel
set_option maxRecDepth 100000 in
theorem ji_178_256 : mj_ins 178 256 = some (.iadd) := by decide +kernel
set_option maxRecDepth 100000 in
theorem ji_178_257 : mj_ins 178 257 = some (.putfield 85) := by decide +kernel
set_option maxRecDepth 100000 in
theorem ji_178_260 : mj_ins 178 260 = some (.iload_n 1) := by decide +kernel
set_option maxRecDepth 100000 in
theorem ji_178_261 : mj_ins 178 261 = some (.bipush 60) := by decide +kernel
set_option maxRecDepth 100000 in
theorem ji_178_263 : mj_ins 178 263 = some (.if_icmp .eq 9) := by decide +kernel
set_option maxRecDepth 100000 in
theorem ji_178_272 : mj_ins 178 272 = some (.aload_n 0) := by decide +kernel
set_option maxRecDepth 100000 in
theorem ji_178_273 : mj_ins 178 273 = some (.aload_n 0) := by decide +kernel
set_option maxRecDepth 100000 in
theorem ji_178_274 : mj_ins 178 274 = some (.getfield 85) := by decide +kernel
set_option maxRecDepth 100000 in
theorem ji_178_277 : mj_ins 178 277 = some (.invokevirtual 88) := by decide +kernel
set_option maxRecDepth 100000 in
theorem ji_178_280 : mj_ins 178 280 = some (.bipush 61) := by decide +kernel
set_option maxRecDepth 100000 in
theorem ji_178_282 : mj_ins 178 282 = some (.if_icmp .ne 28) := by decide +kernel
set_option maxRecDepth 100000 in
theorem ji_178_285 : mj_ins 178 285 = some (.aload_n 0) := by decide +kernel
set_option maxRecDepth 100000 in
theorem ji_178_286 : mj_ins 178 286 = some (.iload_n 1) := by decide +kernel
set_option maxRecDepth 100000 in
theorem ji_178_287 : mj_ins 178 287 = some (.bipush 60) := by decide +kernel
set_option maxRecDepth 100000 in
theorem ji_178_289 : mj_ins 178 289 = some (.if_icmp .ne 7) := by decide +kernel
set_option maxRecDepth 100000 in
theorem ji_178_296 : mj_ins 178 296 = some (.iconst 5) := by decide +kernel
set_option maxRecDepth 100000 in
theorem ji_178_297 : mj_ins 178 297 = some (.putfield 95) := by decide +kernel
set_option maxRecDepth 100000 in
theorem ji_178_300 : mj_ins 178 300 = some (.aload_n 0) := by decide +kernel
set_option maxRecDepth 100000 in
theorem ji_178_301 : mj_ins 178 301 = some (.dup) := by decide +kernel
set_option maxRecDepth 100000 in
theorem ji_178_302 : mj_ins 178 302 = some (.getfield 85) := by decide +kernel
set_option maxRecDepth 100000 in
theorem ji_178_305 : mj_ins 178 305 = some (.iconst 1) := by decide +kernel
set_option maxRecDepth 100000 in
theorem ji_178_306 : mj_ins 178 306 = some (.iadd) := by decide +kernel
set_option maxRecDepth 100000 in
theorem ji_178_307 : mj_ins 178 307 = some (.putfield 85) := by decide +kernel
set_option maxRecDepth 100000 in
theorem ji_178_292 : mj_ins 178 292 = some (.iconst 4) := by decide +kernel
set_option maxRecDepth 100000 in
theorem ji_178_293 : mj_ins 178 293 = some (.goto 4) := by decide +kernel
set_option maxRecDepth 100000 in
theorem ji_178_266 : mj_ins 178 266 = some (.iload_n 1) := by decide +kernel
set_option maxRecDepth 100000 in
theorem ji_178_267 : mj_ins 178 267 = some (.bipush 62) := by decide +kernel
set_option maxRecDepth 100000 in
theorem ji_178_269 : mj_ins 178 269 = some (.if_icmp .ne 41) := by decide +kernel
set_option maxRecDepth 100000 in
theorem ji_178_242 : mj_ins 178 242 = some (.iload_n 1) := by decide +kernel
set_option maxRecDepth 100000 in
theorem ji_178_243 : mj_ins 178 243 = some (.goto 4) := by decide +kernel
set_option maxRecDepth 100000 in
theorem ji_178_158 : mj_ins 178 158 = some (.aload_n 0) := by decide +kernel
set_option maxRecDepth 100000 in
theorem ji_178_159 : mj_ins 178 159 = some (.iconst 2) := by decide +kernel
set_option maxRecDepth 100000 in
theorem ji_178_160 : mj_ins 178 160 = some (.putfield 95) := by decide +kernel
set_option maxRecDepth 100000 in
theorem ji_178_163 : mj_ins 178 163 = some (.aload_n 0) := by decide +kernel
set_option maxRecDepth 100000 in
theorem ji_178_164 : mj_ins 178 164 = some (.lconst 0) := by decide +kernel
set_option maxRecDepth 100000 in
theorem ji_178_165 : mj_ins 178 165 = some (.putfield 109) := by decide +kernel
set_option maxRecDepth 100000 in
theorem ji_178_75 : mj_ins 178 75 = some (.aload_n 0) := by decide +kernel
set_option maxRecDepth 100000 in
theorem ji_178_76 : mj_ins 178 76 = some (.iconst 1) := by decide +kernel
set_option maxRecDepth 100000 in
theorem ji_178_77 : mj_ins 178 77 = some (.putfield 95) := by decide +kernel
set_option maxRecDepth 100000 in
theorem ji_178_80 : mj_ins 178 80 = some (.aload_n 0) := by decide +kernel
set_option maxRecDepth 100000 in
theorem ji_178_81 : mj_ins 178 81 = some (.iconst 0) := by decide +kernel
set_option maxRecDepth 100000 in
theorem ji_178_82 : mj_ins 178 82 = some (.putfield 102) := by decide +kernel
set_option maxRecDepth 100000 in
theorem ji_178_60 : mj_ins 178 60 = some (.aload_n 0) := by decide +kernel
set_option maxRecDepth 100000 in
theorem ji_178_61 : mj_ins 178 61 = some (.iconst 0) := by decide +kernel
set_option maxRecDepth 100000 in
theorem ji_178_62 : mj_ins 178 62 = some (.putfield 95) := by decide +kernel
set_option maxRecDepth 100000 in
theorem ji_178_65 : mj_ins 178 65 = some (.goto 245) := by decide +kernel
theorem ws_next85 {d : Nat} {h0 : mj_H} {a P T : Nat} {φ0 : Nat → Int} {pl ts : List Value} {lx : Option Value} : ∀ (n : Nat) (h : mj_H) (φ : Nat → Int), pv h0 h a P T φ pl ts → nx_f φ0 φ → φ0 7 ≤ φ 7 → (300 : Int) - φ 7 < n → φ 9 = 1 → (0 ≤ φ 10 ∧ φ 10 ≤ 999999) → (φ0 7 + 1 ≤ φ 7 ∨ (48 ≤ bt (tpe h0 a) (φ 4) (φ 7) ∧ bt (tpe h0 a) (φ 4) (φ 7) ≤ 57)) → wp_R (d + 1) 178 85 [some (.ref a), lx] [] h (nx_Q h0 a P T φ0 pl ts) := by
  intro n
  induction n with
  | zero =>
    intro h φ V _ _ hn _ _ _
    have := pv_b V (k := 7) (lo := 0) (hi := 300) (by decide) (by decide)
    omega
  | succ n ih =>
    intro h φ V hfr hat hn hk hnum hor
    have b4 := pv_b V (k := 4) (lo := 0) (hi := 300) (by decide) (by decide)
    have b7 := pv_b V (k := 7) (lo := 0) (hi := 300) (by decide) (by decide)
    refine wp_s (pc' := 86) ji_178_85 rfl rfl rfl ?_
    refine wp_s (pc' := 87) ji_178_86 rfl rfl rfl ?_
    refine pv_gi V ji_178_87 jf_178_85 (by decide) pf_7 (y := φ 7) rfl (fun l1 u2 => ?_)
    refine pv_vc V ji_178_90 jc_178_88 jk_179 (rest := []) rfl (Nat.le_of_ble_eq_true rfl) rfl (by rw [jn_179]; rfl) (ws_byteAt V (tp := φ 4) (k := φ 7) rfl (by omega)) (fun v h R => ?_)
    obtain ⟨rfl, rfl⟩ := R
    show wp_R (d + 1) 178 93 [some (.ref a), lx] [wp_i (bt (tpe h0 a) (φ 4) (φ 7))] h _
    have q3 := bt_b V (tp := φ 4) (k := φ 7) rfl (by omega)
    refine wp_sc (as := [wp_i (bt (tpe h0 a) (φ 4) (φ 7))]) (rest := []) ji_178_93 jc_178_98 (Nat.le_of_ble_eq_true rfl) rfl (Nat.le_of_ble_eq_true rfl) rfl (by rw [jn_180]; rfl) (ws_isFigure (c := bt (tpe h0 a) (φ 4) (φ 7)) (by omega)) (fun v h R => ?_)
    obtain ⟨rfl, y4, rfl, q5, q6⟩ := R
    show wp_R (d + 1) 178 96 [some (.ref a), lx] [wp_i y4] h _
    refine wp_if (t := 310) ji_178_96 rfl (by omega) (fun (hb7 : (y4 : Int) = 0) => ?_) (fun (hb7 : ¬ ((y4 : Int) = 0)) => ?_)
    · exact wp_rv ji_178_310 jr_178 ⟨rfl, _, V, (fun k h7 h8 h9 h10 => by first | exact hfr k h7 h8 h9 h10 | (simp only [pv_u, h7, h8, h9, h10, if_false]; exact hfr k h7 h8 h9 h10)), (show φ0 7 ≤ φ 7 by omega), (show ¬ (φ 9 : Int) = 0 → φ0 7 + 1 ≤ φ 7 by omega)⟩
    · refine wp_s (pc' := 100) ji_178_99 rfl rfl rfl ?_
      refine wp_s (pc' := 101) ji_178_100 rfl rfl rfl ?_
      refine pv_gi V ji_178_101 jf_178_102 (by decide) pf_10 (y := φ 10) rfl (fun l8 u9 => ?_)
      refine wp_ldi (n := 99999) ji_178_104 jl_178_105 rfl ?_
      refine wp_icmp (t := 116) ji_178_106 rfl (by omega) (by omega) (fun (hb10 : (φ 10 : Int) ≤ 99999) => ?_) (fun (hb10 : ¬ ((φ 10 : Int) ≤ 99999)) => ?_)
      · refine wp_bp ji_178_116 rfl ?_
        refine wp_s (pc' := 119) ji_178_118 rfl rfl rfl ?_
        refine pv_gi V ji_178_119 jf_178_102 (by decide) pf_10 (y := φ 10) rfl (fun l11 u12 => ?_)
        refine wp_imul (x := 10) (y := φ 10) (z := 10 * (φ 10)) ji_178_122 (by omega) ?_
        refine wp_s (pc' := 124) ji_178_123 rfl rfl rfl ?_
        refine wp_s (pc' := 125) ji_178_124 rfl rfl rfl ?_
        refine pv_gi V ji_178_125 jf_178_85 (by decide) pf_7 (y := φ 7) rfl (fun l13 u14 => ?_)
        refine pv_vc V ji_178_128 jc_178_88 jk_179 (rest := [wp_i (10 * (φ 10)), .ref a]) rfl (Nat.le_of_ble_eq_true rfl) rfl (by rw [jn_179]; rfl) (ws_byteAt V (tp := φ 4) (k := φ 7) rfl (by omega)) (fun v h R => ?_)
        obtain ⟨rfl, rfl⟩ := R
        show wp_R (d + 1) 178 131 [some (.ref a), lx] [wp_i (bt (tpe h0 a) (φ 4) (φ 7)), wp_i (10 * (φ 10)), .ref a] h _
        have q15 := bt_b V (tp := φ 4) (k := φ 7) rfl (by omega)
        refine wp_iadd (x := 10 * (φ 10)) (y := bt (tpe h0 a) (φ 4) (φ 7)) (z := 10 * (φ 10) + (bt (tpe h0 a) (φ 4) (φ 7))) ji_178_131 (by omega) ?_
        refine wp_bp ji_178_132 rfl ?_
        refine wp_isub (x := 10 * (φ 10) + (bt (tpe h0 a) (φ 4) (φ 7))) (y := 48) (z := 10 * (φ 10) + (bt (tpe h0 a) (φ 4) (φ 7)) - 48) ji_178_134 (by omega) ?_
        refine pv_pi V ji_178_135 jf_178_102 (by decide) pf_10 (by decide) (by decide) (by decide) (by omega) (by omega) (by omega) rfl rfl (fun h V => ?_)
        refine wp_s (pc' := 139) ji_178_138 rfl rfl rfl ?_
        refine wp_s (pc' := 140) ji_178_139 rfl rfl rfl ?_
        refine pv_gi V ji_178_140 jf_178_85 (by decide) pf_7 (y := φ 7) rfl (fun l16 u17 => ?_)
        refine wp_s (pc' := 144) ji_178_143 rfl rfl rfl ?_
        refine wp_iadd (x := φ 7) (y := 1) (z := φ 7 + 1) ji_178_144 (by omega) ?_
        refine pv_pi V ji_178_145 jf_178_85 (by decide) pf_7 (by decide) (by decide) (by decide) (by omega) (by omega) (by omega) rfl rfl (fun h V => ?_)
        refine wp_goto (t := 85) ji_178_148 rfl ?_
        exact ih _ _ V (fun k h7 h8 h9 h10 => by first | exact hfr k h7 h8 h9 h10 | (simp only [pv_u, h7, h8, h9, h10, if_false]; exact hfr k h7 h8 h9 h10)) (show φ0 7 ≤ φ 7 + 1 by omega) (show (300 : Int) - (φ 7 + 1) < n by omega) hk (show (0 : Int) ≤ 10 * (φ 10) + (bt (tpe h0 a) (φ 4) (φ 7)) - 48 ∧ 10 * (φ 10) + (bt (tpe h0 a) (φ 4) (φ 7)) - 48 ≤ 999999 by omega) (Or.inl (show φ0 7 + 1 ≤ φ 7 + 1 by omega))
      · refine wp_s (pc' := 110) ji_178_109 rfl rfl rfl ?_
        refine pv_gi V ji_178_110 jf_178_102 (by decide) pf_10 (y := φ 10) rfl (fun l18 u19 => ?_)
        refine wp_goto (t := 135) ji_178_113 rfl ?_
        refine pv_pi V ji_178_135 jf_178_102 (by decide) pf_10 (by decide) (by decide) (by decide) (by omega) (by omega) (by omega) rfl rfl (fun h V => ?_)
        refine wp_s (pc' := 139) ji_178_138 rfl rfl rfl ?_
        refine wp_s (pc' := 140) ji_178_139 rfl rfl rfl ?_
        refine pv_gi V ji_178_140 jf_178_85 (by decide) pf_7 (y := φ 7) rfl (fun l20 u21 => ?_)
        refine wp_s (pc' := 144) ji_178_143 rfl rfl rfl ?_
        refine wp_iadd (x := φ 7) (y := 1) (z := φ 7 + 1) ji_178_144 (by omega) ?_
        refine pv_pi V ji_178_145 jf_178_85 (by decide) pf_7 (by decide) (by decide) (by decide) (by omega) (by omega) (by omega) rfl rfl (fun h V => ?_)
        refine wp_goto (t := 85) ji_178_148 rfl ?_
        exact ih _ _ V (fun k h7 h8 h9 h10 => by first | exact hfr k h7 h8 h9 h10 | (simp only [pv_u, h7, h8, h9, h10, if_false]; exact hfr k h7 h8 h9 h10)) (show φ0 7 ≤ φ 7 + 1 by omega) (show (300 : Int) - (φ 7 + 1) < n by omega) hk (show (0 : Int) ≤ φ 10 ∧ φ 10 ≤ 999999 by omega) (Or.inl (show φ0 7 + 1 ≤ φ 7 + 1 by omega))
theorem ws_next168 {d : Nat} {h0 : mj_H} {a P T : Nat} {φ0 : Nat → Int} {pl ts : List Value} {lx : Option Value} : ∀ (n : Nat) (h : mj_H) (φ : Nat → Int), pv h0 h a P T φ pl ts → nx_f φ0 φ → φ0 7 ≤ φ 7 → (300 : Int) - φ 7 < n → φ 9 = 2 → (φ0 7 + 1 ≤ φ 7 ∨ (97 ≤ bt (tpe h0 a) (φ 4) (φ 7) ∧ bt (tpe h0 a) (φ 4) (φ 7) ≤ 122 ∨ 65 ≤ bt (tpe h0 a) (φ 4) (φ 7) ∧ bt (tpe h0 a) (φ 4) (φ 7) ≤ 90)) → wp_R (d + 1) 178 168 [some (.ref a), lx] [] h (nx_Q h0 a P T φ0 pl ts) := by
  intro n
  induction n with
  | zero =>
    intro h φ V _ _ hn _ _
    have := pv_b V (k := 7) (lo := 0) (hi := 300) (by decide) (by decide)
    omega
  | succ n ih =>
    intro h φ V hfr hat hn hk hor
    have b4 := pv_b V (k := 4) (lo := 0) (hi := 300) (by decide) (by decide)
    have b7 := pv_b V (k := 7) (lo := 0) (hi := 300) (by decide) (by decide)
    refine wp_s (pc' := 169) ji_178_168 rfl rfl rfl ?_
    refine wp_s (pc' := 170) ji_178_169 rfl rfl rfl ?_
    refine pv_gi V ji_178_170 jf_178_85 (by decide) pf_7 (y := φ 7) rfl (fun l1 u2 => ?_)
    refine pv_vc V ji_178_173 jc_178_88 jk_179 (rest := []) rfl (Nat.le_of_ble_eq_true rfl) rfl (by rw [jn_179]; rfl) (ws_byteAt V (tp := φ 4) (k := φ 7) rfl (by omega)) (fun v h R => ?_)
    obtain ⟨rfl, rfl⟩ := R
    show wp_R (d + 1) 178 176 [some (.ref a), lx] [wp_i (bt (tpe h0 a) (φ 4) (φ 7))] h _
    have q3 := bt_b V (tp := φ 4) (k := φ 7) rfl (by omega)
    refine wp_sc (as := [wp_i (bt (tpe h0 a) (φ 4) (φ 7))]) (rest := []) ji_178_176 jc_178_106 (Nat.le_of_ble_eq_true rfl) rfl (Nat.le_of_ble_eq_true rfl) rfl (by rw [jn_181]; rfl) (ws_isLetter (c := bt (tpe h0 a) (φ 4) (φ 7)) (by omega)) (fun v h R => ?_)
    obtain ⟨rfl, y4, rfl, q5, q6⟩ := R
    show wp_R (d + 1) 178 179 [some (.ref a), lx] [wp_i y4] h _
    refine wp_if (t := 310) ji_178_179 rfl (by omega) (fun (hb7 : (y4 : Int) = 0) => ?_) (fun (hb7 : ¬ ((y4 : Int) = 0)) => ?_)
    · exact wp_rv ji_178_310 jr_178 ⟨rfl, _, V, (fun k h7 h8 h9 h10 => by first | exact hfr k h7 h8 h9 h10 | (simp only [pv_u, h7, h8, h9, h10, if_false]; exact hfr k h7 h8 h9 h10)), (show φ0 7 ≤ φ 7 by omega), (show ¬ (φ 9 : Int) = 0 → φ0 7 + 1 ≤ φ 7 by omega)⟩
    · refine wp_s (pc' := 183) ji_178_182 rfl rfl rfl ?_
      refine wp_s (pc' := 184) ji_178_183 rfl rfl rfl ?_
      refine pv_gl V ji_178_184 jf_178_109 (fun z7 => ?_)
      refine wp_bp ji_178_187 rfl ?_
      refine wp_s (pc' := 190) ji_178_189 rfl rfl rfl (wp_gl (fun z9 => ?_))
      refine wp_s (pc' := 191) ji_178_190 rfl rfl rfl (wp_gl (fun z10 => ?_))
      refine wp_s (pc' := 192) ji_178_191 rfl rfl rfl ?_
      refine wp_ifz (t := 201) ji_178_192 rfl ?_ ?_
      · refine wp_s (pc' := 202) ji_178_201 rfl rfl rfl ?_
        refine pv_gl V ji_178_202 jf_178_109 (fun z10 => ?_)
        refine wp_bp ji_178_205 rfl ?_
        refine wp_s (pc' := 208) ji_178_207 rfl rfl rfl (wp_gl (fun z12 => ?_))
        refine wp_s (pc' := 209) ji_178_208 rfl rfl rfl ?_
        refine wp_s (pc' := 210) ji_178_209 rfl rfl rfl ?_
        refine pv_gi V ji_178_210 jf_178_85 (by decide) pf_7 (y := φ 7) rfl (fun l13 u14 => ?_)
        refine pv_vc V ji_178_213 jc_178_88 jk_179 (rest := [.long z12, .ref a]) rfl (Nat.le_of_ble_eq_true rfl) rfl (by rw [jn_179]; rfl) (ws_byteAt V (tp := φ 4) (k := φ 7) rfl (by omega)) (fun v h R => ?_)
        obtain ⟨rfl, rfl⟩ := R
        show wp_R (d + 1) 178 216 [some (.ref a), lx] [wp_i (bt (tpe h0 a) (φ 4) (φ 7)), .long z12, .ref a] h _
        have q15 := bt_b V (tp := φ 4) (k := φ 7) rfl (by omega)
        refine wp_s (pc' := 217) ji_178_216 rfl rfl rfl (wp_gl (fun z16 => ?_))
        refine wp_s (pc' := 218) ji_178_217 rfl rfl rfl (wp_gl (fun z17 => ?_))
        refine pv_pl V ji_178_218 jf_178_109 (fun h V => ?_)
        refine wp_s (pc' := 222) ji_178_221 rfl rfl rfl ?_
        refine wp_s (pc' := 223) ji_178_222 rfl rfl rfl ?_
        refine pv_gi V ji_178_223 jf_178_85 (by decide) pf_7 (y := φ 7) rfl (fun l18 u19 => ?_)
        refine wp_s (pc' := 227) ji_178_226 rfl rfl rfl ?_
        refine wp_iadd (x := φ 7) (y := 1) (z := φ 7 + 1) ji_178_227 (by omega) ?_
        refine pv_pi V ji_178_228 jf_178_85 (by decide) pf_7 (by decide) (by decide) (by decide) (by omega) (by omega) (by omega) rfl rfl (fun h V => ?_)
        refine wp_goto (t := 168) ji_178_231 rfl ?_
        exact ih _ _ V (fun k h7 h8 h9 h10 => by first | exact hfr k h7 h8 h9 h10 | (simp only [pv_u, h7, h8, h9, h10, if_false]; exact hfr k h7 h8 h9 h10)) (show φ0 7 ≤ φ 7 + 1 by omega) (show (300 : Int) - (φ 7 + 1) < n by omega) hk (Or.inl (show φ0 7 + 1 ≤ φ 7 + 1 by omega))
      · refine wp_ld2 ji_178_195 jl_178_113 (fun z20 => ?_)
        refine wp_goto (t := 218) ji_178_198 rfl ?_
        refine pv_pl V ji_178_218 jf_178_109 (fun h V => ?_)
        refine wp_s (pc' := 222) ji_178_221 rfl rfl rfl ?_
        refine wp_s (pc' := 223) ji_178_222 rfl rfl rfl ?_
        refine pv_gi V ji_178_223 jf_178_85 (by decide) pf_7 (y := φ 7) rfl (fun l21 u22 => ?_)
        refine wp_s (pc' := 227) ji_178_226 rfl rfl rfl ?_
        refine wp_iadd (x := φ 7) (y := 1) (z := φ 7 + 1) ji_178_227 (by omega) ?_
        refine pv_pi V ji_178_228 jf_178_85 (by decide) pf_7 (by decide) (by decide) (by decide) (by omega) (by omega) (by omega) rfl rfl (fun h V => ?_)
        refine wp_goto (t := 168) ji_178_231 rfl ?_
        exact ih _ _ V (fun k h7 h8 h9 h10 => by first | exact hfr k h7 h8 h9 h10 | (simp only [pv_u, h7, h8, h9, h10, if_false]; exact hfr k h7 h8 h9 h10)) (show φ0 7 ≤ φ 7 + 1 by omega) (show (300 : Int) - (φ 7 + 1) < n by omega) hk (Or.inl (show φ0 7 + 1 ≤ φ 7 + 1 by omega))
theorem ws_next0 {d : Nat} {h0 : mj_H} {a P T : Nat} {φ0 : Nat → Int} {pl ts : List Value} {lx : Option Value} : ∀ (n : Nat) (h : mj_H) (φ : Nat → Int), pv h0 h a P T φ pl ts → nx_f φ0 φ → φ0 7 ≤ φ 7 → (300 : Int) - φ 7 < n → wp_R (d + 1) 178 0 [some (.ref a), none] [] h (nx_Q h0 a P T φ0 pl ts) := by
  intro n
  induction n with
  | zero =>
    intro h φ V _ _ hn
    have := pv_b V (k := 7) (lo := 0) (hi := 300) (by decide) (by decide)
    omega
  | succ n ih =>
    intro h φ V hfr hat hn
    have b4 := pv_b V (k := 4) (lo := 0) (hi := 300) (by decide) (by decide)
    have b7 := pv_b V (k := 7) (lo := 0) (hi := 300) (by decide) (by decide)
    refine wp_s (pc' := 1) ji_178_0 rfl rfl rfl ?_
    refine wp_s (pc' := 2) ji_178_1 rfl rfl rfl ?_
    refine pv_gi V ji_178_2 jf_178_85 (by decide) pf_7 (y := φ 7) rfl (fun l1 u2 => ?_)
    refine pv_vc V ji_178_5 jc_178_88 jk_179 (rest := []) rfl (Nat.le_of_ble_eq_true rfl) rfl (by rw [jn_179]; rfl) (ws_byteAt V (tp := φ 4) (k := φ 7) rfl (by omega)) (fun v h R => ?_)
    obtain ⟨rfl, rfl⟩ := R
    show wp_R (d + 1) 178 8 [some (.ref a), none] [wp_i (bt (tpe h0 a) (φ 4) (φ 7))] h _
    have q3 := bt_b V (tp := φ 4) (k := φ 7) rfl (by omega)
    refine wp_bp ji_178_8 rfl ?_
    refine wp_icmp (t := 26) ji_178_10 rfl (by omega) (by omega) (fun (hb4 : (bt (tpe h0 a) (φ 4) (φ 7) : Int) = 32) => ?_) (fun (hb4 : ¬ ((bt (tpe h0 a) (φ 4) (φ 7) : Int) = 32)) => ?_)
    · refine wp_s (pc' := 27) ji_178_26 rfl rfl rfl ?_
      refine wp_s (pc' := 28) ji_178_27 rfl rfl rfl ?_
      refine pv_gi V ji_178_28 jf_178_85 (by decide) pf_7 (y := φ 7) rfl (fun l5 u6 => ?_)
      refine wp_s (pc' := 32) ji_178_31 rfl rfl rfl ?_
      refine wp_iadd (x := φ 7) (y := 1) (z := φ 7 + 1) ji_178_32 (by omega) ?_
      refine pv_pi V ji_178_33 jf_178_85 (by decide) pf_7 (by decide) (by decide) (by decide) (by omega) (by omega) (by omega) rfl rfl (fun h V => ?_)
      refine wp_goto (t := 0) ji_178_36 rfl ?_
      exact ih _ _ V (fun k h7 h8 h9 h10 => by first | exact hfr k h7 h8 h9 h10 | (simp only [pv_u, h7, h8, h9, h10, if_false]; exact hfr k h7 h8 h9 h10)) (show φ0 7 ≤ φ 7 + 1 by omega) (show (300 : Int) - (φ 7 + 1) < n by omega)
    · refine wp_s (pc' := 14) ji_178_13 rfl rfl rfl ?_
      refine wp_s (pc' := 15) ji_178_14 rfl rfl rfl ?_
      refine pv_gi V ji_178_15 jf_178_85 (by decide) pf_7 (y := φ 7) rfl (fun l7 u8 => ?_)
      refine pv_vc V ji_178_18 jc_178_88 jk_179 (rest := []) rfl (Nat.le_of_ble_eq_true rfl) rfl (by rw [jn_179]; rfl) (ws_byteAt V (tp := φ 4) (k := φ 7) rfl (by omega)) (fun v h R => ?_)
      obtain ⟨rfl, rfl⟩ := R
      show wp_R (d + 1) 178 21 [some (.ref a), none] [wp_i (bt (tpe h0 a) (φ 4) (φ 7))] h _
      have q9 := bt_b V (tp := φ 4) (k := φ 7) rfl (by omega)
      refine wp_bp ji_178_21 rfl ?_
      refine wp_icmp (t := 39) ji_178_23 rfl (by omega) (by omega) (fun (hb10 : ¬ (bt (tpe h0 a) (φ 4) (φ 7) : Int) = 10) => ?_) (fun (hb10 : ¬ (¬ (bt (tpe h0 a) (φ 4) (φ 7) : Int) = 10)) => ?_)
      · refine wp_s (pc' := 40) ji_178_39 rfl rfl rfl ?_
        refine wp_s (pc' := 41) ji_178_40 rfl rfl rfl ?_
        refine pv_gi V ji_178_41 jf_178_85 (by decide) pf_7 (y := φ 7) rfl (fun l11 u12 => ?_)
        refine pv_pi V ji_178_44 jf_178_92 (by decide) pf_8 (by decide) (by decide) (by decide) (by omega) (by omega) (by omega) rfl rfl (fun h V => ?_)
        refine wp_s (pc' := 48) ji_178_47 rfl rfl rfl ?_
        refine wp_s (pc' := 49) ji_178_48 rfl rfl rfl ?_
        refine pv_gi V ji_178_49 jf_178_85 (by decide) pf_7 (y := φ 7) rfl (fun l13 u14 => ?_)
        refine pv_vc V ji_178_52 jc_178_88 jk_179 (rest := []) rfl (Nat.le_of_ble_eq_true rfl) rfl (by rw [jn_179]; rfl) (ws_byteAt V (tp := φ 4) (k := φ 7) rfl (by omega)) (fun v h R => ?_)
        obtain ⟨rfl, rfl⟩ := R
        show wp_R (d + 1) 178 55 [some (.ref a), none] [wp_i (bt (tpe h0 a) (φ 4) (φ 7))] h _
        have q15 := bt_b V (tp := φ 4) (k := φ 7) rfl (by omega)
        refine wp_s (pc' := 56) (lv' := [some (.ref a), some (wp_i (bt (tpe h0 a) (φ 4) (φ 7)))]) ji_178_55 rfl rfl rfl ?_
        refine wp_s (pc' := 57) ji_178_56 rfl rfl rfl ?_
        refine wp_if (t := 68) ji_178_57 rfl (by omega) (fun (hb16 : (0 : Int) ≤ (bt (tpe h0 a) (φ 4) (φ 7))) => ?_) (fun (hb16 : ¬ ((0 : Int) ≤ (bt (tpe h0 a) (φ 4) (φ 7)))) => ?_)
        · refine wp_s (pc' := 69) ji_178_68 rfl rfl rfl ?_
          refine wp_sc (as := [wp_i (bt (tpe h0 a) (φ 4) (φ 7))]) (rest := []) ji_178_69 jc_178_98 (Nat.le_of_ble_eq_true rfl) rfl (Nat.le_of_ble_eq_true rfl) rfl (by rw [jn_180]; rfl) (ws_isFigure (c := bt (tpe h0 a) (φ 4) (φ 7)) (by omega)) (fun v h R => ?_)
          obtain ⟨rfl, y17, rfl, q18, q19⟩ := R
          show wp_R (d + 1) 178 72 [some (.ref a), some (wp_i (bt (tpe h0 a) (φ 4) (φ 7)))] [wp_i y17] h _
          refine wp_if (t := 151) ji_178_72 rfl (by omega) (fun (hb20 : (y17 : Int) = 0) => ?_) (fun (hb20 : ¬ ((y17 : Int) = 0)) => ?_)
          · refine wp_s (pc' := 152) ji_178_151 rfl rfl rfl ?_
            refine wp_sc (as := [wp_i (bt (tpe h0 a) (φ 4) (φ 7))]) (rest := []) ji_178_152 jc_178_106 (Nat.le_of_ble_eq_true rfl) rfl (Nat.le_of_ble_eq_true rfl) rfl (by rw [jn_181]; rfl) (ws_isLetter (c := bt (tpe h0 a) (φ 4) (φ 7)) (by omega)) (fun v h R => ?_)
            obtain ⟨rfl, y21, rfl, q22, q23⟩ := R
            show wp_R (d + 1) 178 155 [some (.ref a), some (wp_i (bt (tpe h0 a) (φ 4) (φ 7)))] [wp_i y21] h _
            refine wp_if (t := 234) ji_178_155 rfl (by omega) (fun (hb24 : (y21 : Int) = 0) => ?_) (fun (hb24 : ¬ ((y21 : Int) = 0)) => ?_)
            · refine wp_s (pc' := 235) ji_178_234 rfl rfl rfl ?_
              refine wp_s (pc' := 236) ji_178_235 rfl rfl rfl ?_
              refine wp_sc (as := [wp_i (bt (tpe h0 a) (φ 4) (φ 7))]) (rest := [.ref a]) ji_178_236 jc_178_115 (Nat.le_of_ble_eq_true rfl) rfl (Nat.le_of_ble_eq_true rfl) rfl (by rw [jn_182]; rfl) (ws_isSign (c := bt (tpe h0 a) (φ 4) (φ 7)) (by omega)) (fun v h R => ?_)
              obtain ⟨rfl, y25, rfl, q26⟩ := R
              show wp_R (d + 1) 178 239 [some (.ref a), some (wp_i (bt (tpe h0 a) (φ 4) (φ 7)))] [wp_i y25, .ref a] h _
              refine wp_if (t := 246) ji_178_239 rfl (by omega) (fun (hb27 : (y25 : Int) = 0) => ?_) (fun (hb27 : ¬ ((y25 : Int) = 0)) => ?_)
              · refine wp_s (pc' := 247) ji_178_246 rfl rfl rfl ?_
                refine pv_pi V ji_178_247 jf_178_95 (by decide) pf_9 (by decide) (by decide) (by decide) (by omega) (by omega) (by omega) rfl rfl (fun h V => ?_)
                refine wp_s (pc' := 251) ji_178_250 rfl rfl rfl ?_
                refine wp_s (pc' := 252) ji_178_251 rfl rfl rfl ?_
                refine pv_gi V ji_178_252 jf_178_85 (by decide) pf_7 (y := φ 7) rfl (fun l28 u29 => ?_)
                refine wp_s (pc' := 256) ji_178_255 rfl rfl rfl ?_
                refine wp_iadd (x := φ 7) (y := 1) (z := φ 7 + 1) ji_178_256 (by omega) ?_
                refine pv_pi V ji_178_257 jf_178_85 (by decide) pf_7 (by decide) (by decide) (by decide) (by omega) (by omega) (by omega) rfl rfl (fun h V => ?_)
                refine wp_s (pc' := 261) ji_178_260 rfl rfl rfl ?_
                refine wp_bp ji_178_261 rfl ?_
                refine wp_icmp (t := 272) ji_178_263 rfl (by omega) (by omega) (fun (hb30 : (bt (tpe h0 a) (φ 4) (φ 7) : Int) = 60) => ?_) (fun (hb30 : ¬ ((bt (tpe h0 a) (φ 4) (φ 7) : Int) = 60)) => ?_)
                · refine wp_s (pc' := 273) ji_178_272 rfl rfl rfl ?_
                  refine wp_s (pc' := 274) ji_178_273 rfl rfl rfl ?_
                  refine pv_gi V ji_178_274 jf_178_85 (by decide) pf_7 (y := φ 7 + 1) rfl (fun l31 u32 => ?_)
                  refine pv_vc V ji_178_277 jc_178_88 jk_179 (rest := []) rfl (Nat.le_of_ble_eq_true rfl) rfl (by rw [jn_179]; rfl) (ws_byteAt V (tp := φ 4) (k := φ 7 + 1) rfl (by omega)) (fun v h R => ?_)
                  obtain ⟨rfl, rfl⟩ := R
                  show wp_R (d + 1) 178 280 [some (.ref a), some (wp_i (bt (tpe h0 a) (φ 4) (φ 7)))] [wp_i (bt (tpe h0 a) (φ 4) (φ 7 + 1))] h _
                  have q33 := bt_b V (tp := φ 4) (k := φ 7 + 1) rfl (by omega)
                  refine wp_bp ji_178_280 rfl ?_
                  refine wp_icmp (t := 310) ji_178_282 rfl (by omega) (by omega) (fun (hb34 : ¬ (bt (tpe h0 a) (φ 4) (φ 7 + 1) : Int) = 61) => ?_) (fun (hb34 : ¬ (¬ (bt (tpe h0 a) (φ 4) (φ 7 + 1) : Int) = 61)) => ?_)
                  · exact wp_rv ji_178_310 jr_178 ⟨rfl, _, V, (fun k h7 h8 h9 h10 => by first | exact hfr k h7 h8 h9 h10 | (simp only [pv_u, h7, h8, h9, h10, if_false]; exact hfr k h7 h8 h9 h10)), (show φ0 7 ≤ φ 7 + 1 by omega), (show ¬ (3 : Int) = 0 → φ0 7 + 1 ≤ φ 7 + 1 by omega)⟩
                  · refine wp_s (pc' := 286) ji_178_285 rfl rfl rfl ?_
                    refine wp_s (pc' := 287) ji_178_286 rfl rfl rfl ?_
                    refine wp_bp ji_178_287 rfl ?_
                    refine wp_icmp (t := 296) ji_178_289 rfl (by omega) (by omega) (fun (hb35 : ¬ (bt (tpe h0 a) (φ 4) (φ 7) : Int) = 60) => ?_) (fun (hb35 : ¬ (¬ (bt (tpe h0 a) (φ 4) (φ 7) : Int) = 60)) => ?_)
                    · refine wp_s (pc' := 297) ji_178_296 rfl rfl rfl ?_
                      refine pv_pi V ji_178_297 jf_178_95 (by decide) pf_9 (by decide) (by decide) (by decide) (by omega) (by omega) (by omega) rfl rfl (fun h V => ?_)
                      refine wp_s (pc' := 301) ji_178_300 rfl rfl rfl ?_
                      refine wp_s (pc' := 302) ji_178_301 rfl rfl rfl ?_
                      refine pv_gi V ji_178_302 jf_178_85 (by decide) pf_7 (y := φ 7 + 1) rfl (fun l36 u37 => ?_)
                      refine wp_s (pc' := 306) ji_178_305 rfl rfl rfl ?_
                      refine wp_iadd (x := φ 7 + 1) (y := 1) (z := φ 7 + 1 + 1) ji_178_306 (by omega) ?_
                      refine pv_pi V ji_178_307 jf_178_85 (by decide) pf_7 (by decide) (by decide) (by decide) (by omega) (by omega) (by omega) rfl rfl (fun h V => ?_)
                      exact wp_rv ji_178_310 jr_178 ⟨rfl, _, V, (fun k h7 h8 h9 h10 => by first | exact hfr k h7 h8 h9 h10 | (simp only [pv_u, h7, h8, h9, h10, if_false]; exact hfr k h7 h8 h9 h10)), (show φ0 7 ≤ φ 7 + 1 + 1 by omega), (show ¬ (5 : Int) = 0 → φ0 7 + 1 ≤ φ 7 + 1 + 1 by omega)⟩
                    · refine wp_s (pc' := 293) ji_178_292 rfl rfl rfl ?_
                      refine wp_goto (t := 297) ji_178_293 rfl ?_
                      refine pv_pi V ji_178_297 jf_178_95 (by decide) pf_9 (by decide) (by decide) (by decide) (by omega) (by omega) (by omega) rfl rfl (fun h V => ?_)
                      refine wp_s (pc' := 301) ji_178_300 rfl rfl rfl ?_
                      refine wp_s (pc' := 302) ji_178_301 rfl rfl rfl ?_
                      refine pv_gi V ji_178_302 jf_178_85 (by decide) pf_7 (y := φ 7 + 1) rfl (fun l38 u39 => ?_)
                      refine wp_s (pc' := 306) ji_178_305 rfl rfl rfl ?_
                      refine wp_iadd (x := φ 7 + 1) (y := 1) (z := φ 7 + 1 + 1) ji_178_306 (by omega) ?_
                      refine pv_pi V ji_178_307 jf_178_85 (by decide) pf_7 (by decide) (by decide) (by decide) (by omega) (by omega) (by omega) rfl rfl (fun h V => ?_)
                      exact wp_rv ji_178_310 jr_178 ⟨rfl, _, V, (fun k h7 h8 h9 h10 => by first | exact hfr k h7 h8 h9 h10 | (simp only [pv_u, h7, h8, h9, h10, if_false]; exact hfr k h7 h8 h9 h10)), (show φ0 7 ≤ φ 7 + 1 + 1 by omega), (show ¬ (4 : Int) = 0 → φ0 7 + 1 ≤ φ 7 + 1 + 1 by omega)⟩
                · refine wp_s (pc' := 267) ji_178_266 rfl rfl rfl ?_
                  refine wp_bp ji_178_267 rfl ?_
                  refine wp_icmp (t := 310) ji_178_269 rfl (by omega) (by omega) (fun (hb40 : ¬ (bt (tpe h0 a) (φ 4) (φ 7) : Int) = 62) => ?_) (fun (hb40 : ¬ (¬ (bt (tpe h0 a) (φ 4) (φ 7) : Int) = 62)) => ?_)
                  · exact wp_rv ji_178_310 jr_178 ⟨rfl, _, V, (fun k h7 h8 h9 h10 => by first | exact hfr k h7 h8 h9 h10 | (simp only [pv_u, h7, h8, h9, h10, if_false]; exact hfr k h7 h8 h9 h10)), (show φ0 7 ≤ φ 7 + 1 by omega), (show ¬ (3 : Int) = 0 → φ0 7 + 1 ≤ φ 7 + 1 by omega)⟩
                  · refine wp_s (pc' := 273) ji_178_272 rfl rfl rfl ?_
                    refine wp_s (pc' := 274) ji_178_273 rfl rfl rfl ?_
                    refine pv_gi V ji_178_274 jf_178_85 (by decide) pf_7 (y := φ 7 + 1) rfl (fun l41 u42 => ?_)
                    refine pv_vc V ji_178_277 jc_178_88 jk_179 (rest := []) rfl (Nat.le_of_ble_eq_true rfl) rfl (by rw [jn_179]; rfl) (ws_byteAt V (tp := φ 4) (k := φ 7 + 1) rfl (by omega)) (fun v h R => ?_)
                    obtain ⟨rfl, rfl⟩ := R
                    show wp_R (d + 1) 178 280 [some (.ref a), some (wp_i (bt (tpe h0 a) (φ 4) (φ 7)))] [wp_i (bt (tpe h0 a) (φ 4) (φ 7 + 1))] h _
                    have q43 := bt_b V (tp := φ 4) (k := φ 7 + 1) rfl (by omega)
                    refine wp_bp ji_178_280 rfl ?_
                    refine wp_icmp (t := 310) ji_178_282 rfl (by omega) (by omega) (fun (hb44 : ¬ (bt (tpe h0 a) (φ 4) (φ 7 + 1) : Int) = 61) => ?_) (fun (hb44 : ¬ (¬ (bt (tpe h0 a) (φ 4) (φ 7 + 1) : Int) = 61)) => ?_)
                    · exact wp_rv ji_178_310 jr_178 ⟨rfl, _, V, (fun k h7 h8 h9 h10 => by first | exact hfr k h7 h8 h9 h10 | (simp only [pv_u, h7, h8, h9, h10, if_false]; exact hfr k h7 h8 h9 h10)), (show φ0 7 ≤ φ 7 + 1 by omega), (show ¬ (3 : Int) = 0 → φ0 7 + 1 ≤ φ 7 + 1 by omega)⟩
                    · refine wp_s (pc' := 286) ji_178_285 rfl rfl rfl ?_
                      refine wp_s (pc' := 287) ji_178_286 rfl rfl rfl ?_
                      refine wp_bp ji_178_287 rfl ?_
                      refine wp_icmp (t := 296) ji_178_289 rfl (by omega) (by omega) (fun (hb45 : ¬ (bt (tpe h0 a) (φ 4) (φ 7) : Int) = 60) => ?_) (fun (hb45 : ¬ (¬ (bt (tpe h0 a) (φ 4) (φ 7) : Int) = 60)) => ?_)
                      · refine wp_s (pc' := 297) ji_178_296 rfl rfl rfl ?_
                        refine pv_pi V ji_178_297 jf_178_95 (by decide) pf_9 (by decide) (by decide) (by decide) (by omega) (by omega) (by omega) rfl rfl (fun h V => ?_)
                        refine wp_s (pc' := 301) ji_178_300 rfl rfl rfl ?_
                        refine wp_s (pc' := 302) ji_178_301 rfl rfl rfl ?_
                        refine pv_gi V ji_178_302 jf_178_85 (by decide) pf_7 (y := φ 7 + 1) rfl (fun l46 u47 => ?_)
                        refine wp_s (pc' := 306) ji_178_305 rfl rfl rfl ?_
                        refine wp_iadd (x := φ 7 + 1) (y := 1) (z := φ 7 + 1 + 1) ji_178_306 (by omega) ?_
                        refine pv_pi V ji_178_307 jf_178_85 (by decide) pf_7 (by decide) (by decide) (by decide) (by omega) (by omega) (by omega) rfl rfl (fun h V => ?_)
                        exact wp_rv ji_178_310 jr_178 ⟨rfl, _, V, (fun k h7 h8 h9 h10 => by first | exact hfr k h7 h8 h9 h10 | (simp only [pv_u, h7, h8, h9, h10, if_false]; exact hfr k h7 h8 h9 h10)), (show φ0 7 ≤ φ 7 + 1 + 1 by omega), (show ¬ (5 : Int) = 0 → φ0 7 + 1 ≤ φ 7 + 1 + 1 by omega)⟩
                      · refine wp_s (pc' := 293) ji_178_292 rfl rfl rfl ?_
                        refine wp_goto (t := 297) ji_178_293 rfl ?_
                        refine pv_pi V ji_178_297 jf_178_95 (by decide) pf_9 (by decide) (by decide) (by decide) (by omega) (by omega) (by omega) rfl rfl (fun h V => ?_)
                        refine wp_s (pc' := 301) ji_178_300 rfl rfl rfl ?_
                        refine wp_s (pc' := 302) ji_178_301 rfl rfl rfl ?_
                        refine pv_gi V ji_178_302 jf_178_85 (by decide) pf_7 (y := φ 7 + 1) rfl (fun l48 u49 => ?_)
                        refine wp_s (pc' := 306) ji_178_305 rfl rfl rfl ?_
                        refine wp_iadd (x := φ 7 + 1) (y := 1) (z := φ 7 + 1 + 1) ji_178_306 (by omega) ?_
                        refine pv_pi V ji_178_307 jf_178_85 (by decide) pf_7 (by decide) (by decide) (by decide) (by omega) (by omega) (by omega) rfl rfl (fun h V => ?_)
                        exact wp_rv ji_178_310 jr_178 ⟨rfl, _, V, (fun k h7 h8 h9 h10 => by first | exact hfr k h7 h8 h9 h10 | (simp only [pv_u, h7, h8, h9, h10, if_false]; exact hfr k h7 h8 h9 h10)), (show φ0 7 ≤ φ 7 + 1 + 1 by omega), (show ¬ (4 : Int) = 0 → φ0 7 + 1 ≤ φ 7 + 1 + 1 by omega)⟩
              · refine wp_s (pc' := 243) ji_178_242 rfl rfl rfl ?_
                refine wp_goto (t := 247) ji_178_243 rfl ?_
                refine pv_pi V ji_178_247 jf_178_95 (by decide) pf_9 (by decide) (by decide) (by decide) (by omega) (by omega) (by omega) rfl rfl (fun h V => ?_)
                refine wp_s (pc' := 251) ji_178_250 rfl rfl rfl ?_
                refine wp_s (pc' := 252) ji_178_251 rfl rfl rfl ?_
                refine pv_gi V ji_178_252 jf_178_85 (by decide) pf_7 (y := φ 7) rfl (fun l50 u51 => ?_)
                refine wp_s (pc' := 256) ji_178_255 rfl rfl rfl ?_
                refine wp_iadd (x := φ 7) (y := 1) (z := φ 7 + 1) ji_178_256 (by omega) ?_
                refine pv_pi V ji_178_257 jf_178_85 (by decide) pf_7 (by decide) (by decide) (by decide) (by omega) (by omega) (by omega) rfl rfl (fun h V => ?_)
                refine wp_s (pc' := 261) ji_178_260 rfl rfl rfl ?_
                refine wp_bp ji_178_261 rfl ?_
                refine wp_icmp (t := 272) ji_178_263 rfl (by omega) (by omega) (fun (hb52 : (bt (tpe h0 a) (φ 4) (φ 7) : Int) = 60) => ?_) (fun (hb52 : ¬ ((bt (tpe h0 a) (φ 4) (φ 7) : Int) = 60)) => ?_)
                · refine wp_s (pc' := 273) ji_178_272 rfl rfl rfl ?_
                  refine wp_s (pc' := 274) ji_178_273 rfl rfl rfl ?_
                  refine pv_gi V ji_178_274 jf_178_85 (by decide) pf_7 (y := φ 7 + 1) rfl (fun l53 u54 => ?_)
                  refine pv_vc V ji_178_277 jc_178_88 jk_179 (rest := []) rfl (Nat.le_of_ble_eq_true rfl) rfl (by rw [jn_179]; rfl) (ws_byteAt V (tp := φ 4) (k := φ 7 + 1) rfl (by omega)) (fun v h R => ?_)
                  obtain ⟨rfl, rfl⟩ := R
                  show wp_R (d + 1) 178 280 [some (.ref a), some (wp_i (bt (tpe h0 a) (φ 4) (φ 7)))] [wp_i (bt (tpe h0 a) (φ 4) (φ 7 + 1))] h _
                  have q55 := bt_b V (tp := φ 4) (k := φ 7 + 1) rfl (by omega)
                  refine wp_bp ji_178_280 rfl ?_
                  refine wp_icmp (t := 310) ji_178_282 rfl (by omega) (by omega) (fun (hb56 : ¬ (bt (tpe h0 a) (φ 4) (φ 7 + 1) : Int) = 61) => ?_) (fun (hb56 : ¬ (¬ (bt (tpe h0 a) (φ 4) (φ 7 + 1) : Int) = 61)) => ?_)
                  · exact wp_rv ji_178_310 jr_178 ⟨rfl, _, V, (fun k h7 h8 h9 h10 => by first | exact hfr k h7 h8 h9 h10 | (simp only [pv_u, h7, h8, h9, h10, if_false]; exact hfr k h7 h8 h9 h10)), (show φ0 7 ≤ φ 7 + 1 by omega), (show ¬ (bt (tpe h0 a) (φ 4) (φ 7) : Int) = 0 → φ0 7 + 1 ≤ φ 7 + 1 by omega)⟩
                  · refine wp_s (pc' := 286) ji_178_285 rfl rfl rfl ?_
                    refine wp_s (pc' := 287) ji_178_286 rfl rfl rfl ?_
                    refine wp_bp ji_178_287 rfl ?_
                    refine wp_icmp (t := 296) ji_178_289 rfl (by omega) (by omega) (fun (hb57 : ¬ (bt (tpe h0 a) (φ 4) (φ 7) : Int) = 60) => ?_) (fun (hb57 : ¬ (¬ (bt (tpe h0 a) (φ 4) (φ 7) : Int) = 60)) => ?_)
                    · refine wp_s (pc' := 297) ji_178_296 rfl rfl rfl ?_
                      refine pv_pi V ji_178_297 jf_178_95 (by decide) pf_9 (by decide) (by decide) (by decide) (by omega) (by omega) (by omega) rfl rfl (fun h V => ?_)
                      refine wp_s (pc' := 301) ji_178_300 rfl rfl rfl ?_
                      refine wp_s (pc' := 302) ji_178_301 rfl rfl rfl ?_
                      refine pv_gi V ji_178_302 jf_178_85 (by decide) pf_7 (y := φ 7 + 1) rfl (fun l58 u59 => ?_)
                      refine wp_s (pc' := 306) ji_178_305 rfl rfl rfl ?_
                      refine wp_iadd (x := φ 7 + 1) (y := 1) (z := φ 7 + 1 + 1) ji_178_306 (by omega) ?_
                      refine pv_pi V ji_178_307 jf_178_85 (by decide) pf_7 (by decide) (by decide) (by decide) (by omega) (by omega) (by omega) rfl rfl (fun h V => ?_)
                      exact wp_rv ji_178_310 jr_178 ⟨rfl, _, V, (fun k h7 h8 h9 h10 => by first | exact hfr k h7 h8 h9 h10 | (simp only [pv_u, h7, h8, h9, h10, if_false]; exact hfr k h7 h8 h9 h10)), (show φ0 7 ≤ φ 7 + 1 + 1 by omega), (show ¬ (5 : Int) = 0 → φ0 7 + 1 ≤ φ 7 + 1 + 1 by omega)⟩
                    · refine wp_s (pc' := 293) ji_178_292 rfl rfl rfl ?_
                      refine wp_goto (t := 297) ji_178_293 rfl ?_
                      refine pv_pi V ji_178_297 jf_178_95 (by decide) pf_9 (by decide) (by decide) (by decide) (by omega) (by omega) (by omega) rfl rfl (fun h V => ?_)
                      refine wp_s (pc' := 301) ji_178_300 rfl rfl rfl ?_
                      refine wp_s (pc' := 302) ji_178_301 rfl rfl rfl ?_
                      refine pv_gi V ji_178_302 jf_178_85 (by decide) pf_7 (y := φ 7 + 1) rfl (fun l60 u61 => ?_)
                      refine wp_s (pc' := 306) ji_178_305 rfl rfl rfl ?_
                      refine wp_iadd (x := φ 7 + 1) (y := 1) (z := φ 7 + 1 + 1) ji_178_306 (by omega) ?_
                      refine pv_pi V ji_178_307 jf_178_85 (by decide) pf_7 (by decide) (by decide) (by decide) (by omega) (by omega) (by omega) rfl rfl (fun h V => ?_)
                      exact wp_rv ji_178_310 jr_178 ⟨rfl, _, V, (fun k h7 h8 h9 h10 => by first | exact hfr k h7 h8 h9 h10 | (simp only [pv_u, h7, h8, h9, h10, if_false]; exact hfr k h7 h8 h9 h10)), (show φ0 7 ≤ φ 7 + 1 + 1 by omega), (show ¬ (4 : Int) = 0 → φ0 7 + 1 ≤ φ 7 + 1 + 1 by omega)⟩
                · refine wp_s (pc' := 267) ji_178_266 rfl rfl rfl ?_
                  refine wp_bp ji_178_267 rfl ?_
                  refine wp_icmp (t := 310) ji_178_269 rfl (by omega) (by omega) (fun (hb62 : ¬ (bt (tpe h0 a) (φ 4) (φ 7) : Int) = 62) => ?_) (fun (hb62 : ¬ (¬ (bt (tpe h0 a) (φ 4) (φ 7) : Int) = 62)) => ?_)
                  · exact wp_rv ji_178_310 jr_178 ⟨rfl, _, V, (fun k h7 h8 h9 h10 => by first | exact hfr k h7 h8 h9 h10 | (simp only [pv_u, h7, h8, h9, h10, if_false]; exact hfr k h7 h8 h9 h10)), (show φ0 7 ≤ φ 7 + 1 by omega), (show ¬ (bt (tpe h0 a) (φ 4) (φ 7) : Int) = 0 → φ0 7 + 1 ≤ φ 7 + 1 by omega)⟩
                  · refine wp_s (pc' := 273) ji_178_272 rfl rfl rfl ?_
                    refine wp_s (pc' := 274) ji_178_273 rfl rfl rfl ?_
                    refine pv_gi V ji_178_274 jf_178_85 (by decide) pf_7 (y := φ 7 + 1) rfl (fun l63 u64 => ?_)
                    refine pv_vc V ji_178_277 jc_178_88 jk_179 (rest := []) rfl (Nat.le_of_ble_eq_true rfl) rfl (by rw [jn_179]; rfl) (ws_byteAt V (tp := φ 4) (k := φ 7 + 1) rfl (by omega)) (fun v h R => ?_)
                    obtain ⟨rfl, rfl⟩ := R
                    show wp_R (d + 1) 178 280 [some (.ref a), some (wp_i (bt (tpe h0 a) (φ 4) (φ 7)))] [wp_i (bt (tpe h0 a) (φ 4) (φ 7 + 1))] h _
                    have q65 := bt_b V (tp := φ 4) (k := φ 7 + 1) rfl (by omega)
                    refine wp_bp ji_178_280 rfl ?_
                    refine wp_icmp (t := 310) ji_178_282 rfl (by omega) (by omega) (fun (hb66 : ¬ (bt (tpe h0 a) (φ 4) (φ 7 + 1) : Int) = 61) => ?_) (fun (hb66 : ¬ (¬ (bt (tpe h0 a) (φ 4) (φ 7 + 1) : Int) = 61)) => ?_)
                    · exact wp_rv ji_178_310 jr_178 ⟨rfl, _, V, (fun k h7 h8 h9 h10 => by first | exact hfr k h7 h8 h9 h10 | (simp only [pv_u, h7, h8, h9, h10, if_false]; exact hfr k h7 h8 h9 h10)), (show φ0 7 ≤ φ 7 + 1 by omega), (show ¬ (bt (tpe h0 a) (φ 4) (φ 7) : Int) = 0 → φ0 7 + 1 ≤ φ 7 + 1 by omega)⟩
                    · refine wp_s (pc' := 286) ji_178_285 rfl rfl rfl ?_
                      refine wp_s (pc' := 287) ji_178_286 rfl rfl rfl ?_
                      refine wp_bp ji_178_287 rfl ?_
                      refine wp_icmp (t := 296) ji_178_289 rfl (by omega) (by omega) (fun (hb67 : ¬ (bt (tpe h0 a) (φ 4) (φ 7) : Int) = 60) => ?_) (fun (hb67 : ¬ (¬ (bt (tpe h0 a) (φ 4) (φ 7) : Int) = 60)) => ?_)
                      · refine wp_s (pc' := 297) ji_178_296 rfl rfl rfl ?_
                        refine pv_pi V ji_178_297 jf_178_95 (by decide) pf_9 (by decide) (by decide) (by decide) (by omega) (by omega) (by omega) rfl rfl (fun h V => ?_)
                        refine wp_s (pc' := 301) ji_178_300 rfl rfl rfl ?_
                        refine wp_s (pc' := 302) ji_178_301 rfl rfl rfl ?_
                        refine pv_gi V ji_178_302 jf_178_85 (by decide) pf_7 (y := φ 7 + 1) rfl (fun l68 u69 => ?_)
                        refine wp_s (pc' := 306) ji_178_305 rfl rfl rfl ?_
                        refine wp_iadd (x := φ 7 + 1) (y := 1) (z := φ 7 + 1 + 1) ji_178_306 (by omega) ?_
                        refine pv_pi V ji_178_307 jf_178_85 (by decide) pf_7 (by decide) (by decide) (by decide) (by omega) (by omega) (by omega) rfl rfl (fun h V => ?_)
                        exact wp_rv ji_178_310 jr_178 ⟨rfl, _, V, (fun k h7 h8 h9 h10 => by first | exact hfr k h7 h8 h9 h10 | (simp only [pv_u, h7, h8, h9, h10, if_false]; exact hfr k h7 h8 h9 h10)), (show φ0 7 ≤ φ 7 + 1 + 1 by omega), (show ¬ (5 : Int) = 0 → φ0 7 + 1 ≤ φ 7 + 1 + 1 by omega)⟩
                      · refine wp_s (pc' := 293) ji_178_292 rfl rfl rfl ?_
                        refine wp_goto (t := 297) ji_178_293 rfl ?_
                        refine pv_pi V ji_178_297 jf_178_95 (by decide) pf_9 (by decide) (by decide) (by decide) (by omega) (by omega) (by omega) rfl rfl (fun h V => ?_)
                        refine wp_s (pc' := 301) ji_178_300 rfl rfl rfl ?_
                        refine wp_s (pc' := 302) ji_178_301 rfl rfl rfl ?_
                        refine pv_gi V ji_178_302 jf_178_85 (by decide) pf_7 (y := φ 7 + 1) rfl (fun l70 u71 => ?_)
                        refine wp_s (pc' := 306) ji_178_305 rfl rfl rfl ?_
                        refine wp_iadd (x := φ 7 + 1) (y := 1) (z := φ 7 + 1 + 1) ji_178_306 (by omega) ?_
                        refine pv_pi V ji_178_307 jf_178_85 (by decide) pf_7 (by decide) (by decide) (by decide) (by omega) (by omega) (by omega) rfl rfl (fun h V => ?_)
                        exact wp_rv ji_178_310 jr_178 ⟨rfl, _, V, (fun k h7 h8 h9 h10 => by first | exact hfr k h7 h8 h9 h10 | (simp only [pv_u, h7, h8, h9, h10, if_false]; exact hfr k h7 h8 h9 h10)), (show φ0 7 ≤ φ 7 + 1 + 1 by omega), (show ¬ (4 : Int) = 0 → φ0 7 + 1 ≤ φ 7 + 1 + 1 by omega)⟩
            · refine wp_s (pc' := 159) ji_178_158 rfl rfl rfl ?_
              refine wp_s (pc' := 160) ji_178_159 rfl rfl rfl ?_
              refine pv_pi V ji_178_160 jf_178_95 (by decide) pf_9 (by decide) (by decide) (by decide) (by omega) (by omega) (by omega) rfl rfl (fun h V => ?_)
              refine wp_s (pc' := 164) ji_178_163 rfl rfl rfl ?_
              refine wp_s (pc' := 165) ji_178_164 rfl rfl rfl (wp_gl (fun z72 => ?_))
              refine pv_pl V ji_178_165 jf_178_109 (fun h V => ?_)
              exact ws_next168 (300 - φ 7 + 1).toNat _ _ V (fun k h7 h8 h9 h10 => by first | exact hfr k h7 h8 h9 h10 | (simp only [pv_u, h7, h8, h9, h10, if_false]; exact hfr k h7 h8 h9 h10)) (show φ0 7 ≤ φ 7 by omega) (show (300 : Int) - φ 7 < ((300 - φ 7 + 1).toNat : Int) by omega) rfl (Or.inr (show (97 ≤ bt (tpe h0 a) (φ 4) (φ 7) ∧ bt (tpe h0 a) (φ 4) (φ 7) ≤ 122 ∨ 65 ≤ bt (tpe h0 a) (φ 4) (φ 7) ∧ bt (tpe h0 a) (φ 4) (φ 7) ≤ 90) by omega))
          · refine wp_s (pc' := 76) ji_178_75 rfl rfl rfl ?_
            refine wp_s (pc' := 77) ji_178_76 rfl rfl rfl ?_
            refine pv_pi V ji_178_77 jf_178_95 (by decide) pf_9 (by decide) (by decide) (by decide) (by omega) (by omega) (by omega) rfl rfl (fun h V => ?_)
            refine wp_s (pc' := 81) ji_178_80 rfl rfl rfl ?_
            refine wp_s (pc' := 82) ji_178_81 rfl rfl rfl ?_
            refine pv_pi V ji_178_82 jf_178_102 (by decide) pf_10 (by decide) (by decide) (by decide) (by omega) (by omega) (by omega) rfl rfl (fun h V => ?_)
            exact ws_next85 (300 - φ 7 + 1).toNat _ _ V (fun k h7 h8 h9 h10 => by first | exact hfr k h7 h8 h9 h10 | (simp only [pv_u, h7, h8, h9, h10, if_false]; exact hfr k h7 h8 h9 h10)) (show φ0 7 ≤ φ 7 by omega) (show (300 : Int) - φ 7 < ((300 - φ 7 + 1).toNat : Int) by omega) rfl (show (0 : Int) ≤ 0 ∧ (0 : Int) ≤ 999999 by omega) (Or.inr (show 48 ≤ bt (tpe h0 a) (φ 4) (φ 7) ∧ bt (tpe h0 a) (φ 4) (φ 7) ≤ 57 by omega))
        · refine wp_s (pc' := 61) ji_178_60 rfl rfl rfl ?_
          refine wp_s (pc' := 62) ji_178_61 rfl rfl rfl ?_
          refine pv_pi V ji_178_62 jf_178_95 (by decide) pf_9 (by decide) (by decide) (by decide) (by omega) (by omega) (by omega) rfl rfl (fun h V => ?_)
          refine wp_goto (t := 310) ji_178_65 rfl ?_
          exact wp_rv ji_178_310 jr_178 ⟨rfl, _, V, (fun k h7 h8 h9 h10 => by first | exact hfr k h7 h8 h9 h10 | (simp only [pv_u, h7, h8, h9, h10, if_false]; exact hfr k h7 h8 h9 h10)), (show φ0 7 ≤ φ 7 by omega), (show ¬ (0 : Int) = 0 → φ0 7 + 1 ≤ φ 7 by omega)⟩
      · refine wp_s (pc' := 27) ji_178_26 rfl rfl rfl ?_
        refine wp_s (pc' := 28) ji_178_27 rfl rfl rfl ?_
        refine pv_gi V ji_178_28 jf_178_85 (by decide) pf_7 (y := φ 7) rfl (fun l73 u74 => ?_)
        refine wp_s (pc' := 32) ji_178_31 rfl rfl rfl ?_
        refine wp_iadd (x := φ 7) (y := 1) (z := φ 7 + 1) ji_178_32 (by omega) ?_
        refine pv_pi V ji_178_33 jf_178_85 (by decide) pf_7 (by decide) (by decide) (by decide) (by omega) (by omega) (by omega) rfl rfl (fun h V => ?_)
        refine wp_goto (t := 0) ji_178_36 rfl ?_
        exact ih _ _ V (fun k h7 h8 h9 h10 => by first | exact hfr k h7 h8 h9 h10 | (simp only [pv_u, h7, h8, h9, h10, if_false]; exact hfr k h7 h8 h9 h10)) (show φ0 7 ≤ φ 7 + 1 by omega) (show (300 : Int) - (φ 7 + 1) < n by omega)
theorem ws_next {d : Nat} {h0 h : mj_H} {a P T : Nat} {φ : Nat → Int} {pl ts : List Value} (hd : 1 ≤ d) (V : pv h0 h a P T φ pl ts) : wp_R d 178 0 [some (.ref a), none] [] h (nx_Q h0 a P T φ pl ts) := by
  obtain ⟨e, rfl⟩ : ∃ e, d = e + 1 := ⟨d - 1, by omega⟩
  exact ws_next0 (lx := none) (300 - φ 7 + 1).toNat h φ V (fun _ _ _ _ _ => rfl) (Int.le_refl _) (by omega)
