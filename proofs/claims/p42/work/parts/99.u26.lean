/-! -/
/-! -/
set_option maxRecDepth 100000 in
theorem ji_233_47 : mj_ins 233 47 = some (.iload 6) := by decide +kernel
set_option maxRecDepth 100000 in
theorem ji_233_49 : mj_ins 233 49 = some (.aload_n 0) := by decide +kernel
set_option maxRecDepth 100000 in
theorem ji_233_50 : mj_ins 233 50 = some (.getfield 16) := by decide +kernel
set_option maxRecDepth 100000 in
theorem jf_233_16 : mj_fld 233 16 = some (11, 2, (.array .int), false) := by decide +kernel
set_option maxRecDepth 100000 in
theorem ji_233_53 : mj_ins 233 53 = some (.iload_n 2) := by decide +kernel
set_option maxRecDepth 100000 in
theorem ji_233_54 : mj_ins 233 54 = some (.iconst 2) := by decide +kernel
set_option maxRecDepth 100000 in
theorem ji_233_55 : mj_ins 233 55 = some (.iadd) := by decide +kernel
set_option maxRecDepth 100000 in
theorem ji_233_56 : mj_ins 233 56 = some (.iaload) := by decide +kernel
set_option maxRecDepth 100000 in
theorem sq_141 : sh_T[141]? = some (1000, [], 2820, 0) := by decide +kernel
set_option maxRecDepth 100000 in
theorem ji_233_57 : mj_ins 233 57 = some (.if_icmp .ge 338) := by decide +kernel
set_option maxRecDepth 100000 in
theorem ji_233_60 : mj_ins 233 60 = some (.aload_n 0) := by decide +kernel
set_option maxRecDepth 100000 in
theorem ji_233_61 : mj_ins 233 61 = some (.getfield 16) := by decide +kernel
set_option maxRecDepth 100000 in
theorem ji_233_64 : mj_ins 233 64 = some (.iload_n 3) := by decide +kernel
set_option maxRecDepth 100000 in
theorem ji_233_65 : mj_ins 233 65 = some (.iconst 2) := by decide +kernel
set_option maxRecDepth 100000 in
theorem ji_233_66 : mj_ins 233 66 = some (.iload 6) := by decide +kernel
set_option maxRecDepth 100000 in
theorem ji_233_68 : mj_ins 233 68 = some (.imul) := by decide +kernel
set_option maxRecDepth 100000 in
theorem ji_233_69 : mj_ins 233 69 = some (.iadd) := by decide +kernel
set_option maxRecDepth 100000 in
theorem ji_233_70 : mj_ins 233 70 = some (.iaload) := by decide +kernel
set_option maxRecDepth 100000 in
theorem ji_233_71 : mj_ins 233 71 = some (.istore 7) := by decide +kernel
set_option maxRecDepth 100000 in
theorem ji_233_73 : mj_ins 233 73 = some (.aload_n 0) := by decide +kernel
set_option maxRecDepth 100000 in
theorem ji_233_74 : mj_ins 233 74 = some (.getfield 16) := by decide +kernel
set_option maxRecDepth 100000 in
theorem ji_233_77 : mj_ins 233 77 = some (.iload_n 3) := by decide +kernel
set_option maxRecDepth 100000 in
theorem ji_233_78 : mj_ins 233 78 = some (.iconst 2) := by decide +kernel
set_option maxRecDepth 100000 in
theorem ji_233_79 : mj_ins 233 79 = some (.iload 6) := by decide +kernel
set_option maxRecDepth 100000 in
theorem ji_233_81 : mj_ins 233 81 = some (.imul) := by decide +kernel
set_option maxRecDepth 100000 in
theorem ji_233_82 : mj_ins 233 82 = some (.iadd) := by decide +kernel
set_option maxRecDepth 100000 in
theorem ji_233_83 : mj_ins 233 83 = some (.iconst 1) := by decide +kernel
set_option maxRecDepth 100000 in
theorem ji_233_84 : mj_ins 233 84 = some (.iadd) := by decide +kernel
set_option maxRecDepth 100000 in
theorem ji_233_85 : mj_ins 233 85 = some (.iaload) := by decide +kernel
set_option maxRecDepth 100000 in
theorem ji_233_86 : mj_ins 233 86 = some (.istore 8) := by decide +kernel
set_option maxRecDepth 100000 in
theorem ji_233_88 : mj_ins 233 88 = some (.iload 7) := by decide +kernel
set_option maxRecDepth 100000 in
theorem ji_233_90 : mj_ins 233 90 = some (.iconst 1) := by decide +kernel
set_option maxRecDepth 100000 in
theorem ji_233_91 : mj_ins 233 91 = some (.if_icmp .gt 35) := by decide +kernel
set_option maxRecDepth 100000 in
theorem ji_233_94 : mj_ins 233 94 = some (.aload_n 0) := by decide +kernel
set_option maxRecDepth 100000 in
theorem ji_233_95 : mj_ins 233 95 = some (.getfield 35) := by decide +kernel
set_option maxRecDepth 100000 in
theorem jf_233_35 : mj_fld 233 35 = some (11, 23, (.array .long), false) := by decide +kernel
set_option maxRecDepth 100000 in
theorem ji_233_98 : mj_ins 233 98 = some (.iload 4) := by decide +kernel
set_option maxRecDepth 100000 in
theorem ji_233_100 : mj_ins 233 100 = some (.iload 7) := by decide +kernel
set_option maxRecDepth 100000 in
theorem ji_233_102 : mj_ins 233 102 = some (.ifCond .ne 9) := by decide +kernel
set_option maxRecDepth 100000 in
theorem ji_233_105 : mj_ins 233 105 = some (.iload 8) := by decide +kernel
set_option maxRecDepth 100000 in
theorem ji_233_107 : mj_ins 233 107 = some (.i2l) := by decide +kernel
set_option maxRecDepth 100000 in
theorem ji_233_108 : mj_ins 233 108 = some (.goto 11) := by decide +kernel
set_option maxRecDepth 100000 in
theorem ji_233_119 : mj_ins 233 119 = some (.lastore) := by decide +kernel
set_option maxRecDepth 100000 in
theorem ji_233_120 : mj_ins 233 120 = some (.iinc 4 1) := by decide +kernel
set_option maxRecDepth 100000 in
theorem ji_233_123 : mj_ins 233 123 = some (.goto 266) := by decide +kernel
set_option maxRecDepth 100000 in
theorem ji_233_389 : mj_ins 233 389 = some (.iinc 6 1) := by decide +kernel
set_option maxRecDepth 100000 in
theorem ji_233_392 : mj_ins 233 392 = some (.goto (-345)) := by decide +kernel
set_option maxRecDepth 100000 in
theorem ji_233_111 : mj_ins 233 111 = some (.aload_n 0) := by decide +kernel
set_option maxRecDepth 100000 in
theorem ji_233_112 : mj_ins 233 112 = some (.getfield 32) := by decide +kernel
set_option maxRecDepth 100000 in
theorem jf_233_32 : mj_fld 233 32 = some (11, 22, (.array .int), false) := by decide +kernel
set_option maxRecDepth 100000 in
theorem ji_233_115 : mj_ins 233 115 = some (.iload 8) := by decide +kernel
set_option maxRecDepth 100000 in
theorem ji_233_117 : mj_ins 233 117 = some (.iaload) := by decide +kernel
set_option maxRecDepth 100000 in
theorem ji_233_118 : mj_ins 233 118 = some (.i2l) := by decide +kernel
set_option maxRecDepth 100000 in
theorem ji_233_126 : mj_ins 233 126 = some (.iload 7) := by decide +kernel
set_option maxRecDepth 100000 in
theorem ji_233_128 : mj_ins 233 128 = some (.iconst 2) := by decide +kernel
set_option maxRecDepth 100000 in
theorem ji_233_129 : mj_ins 233 129 = some (.if_icmp .ne 33) := by decide +kernel
set_option maxRecDepth 100000 in
theorem ji_233_162 : mj_ins 233 162 = some (.iload 7) := by decide +kernel
set_option maxRecDepth 100000 in
theorem ji_233_164 : mj_ins 233 164 = some (.iconst 3) := by decide +kernel
set_option maxRecDepth 100000 in
theorem ji_233_165 : mj_ins 233 165 = some (.if_icmp .ne 25) := by decide +kernel
set_option maxRecDepth 100000 in
theorem ji_233_168 : mj_ins 233 168 = some (.aload_n 0) := by decide +kernel
set_option maxRecDepth 100000 in
theorem ji_233_169 : mj_ins 233 169 = some (.getfield 35) := by decide +kernel
set_option maxRecDepth 100000 in
theorem ji_233_172 : mj_ins 233 172 = some (.iload 4) := by decide +kernel
set_option maxRecDepth 100000 in
theorem ji_233_174 : mj_ins 233 174 = some (.iconst 1) := by decide +kernel
set_option maxRecDepth 100000 in
theorem ji_233_175 : mj_ins 233 175 = some (.isub) := by decide +kernel
set_option maxRecDepth 100000 in
theorem ji_233_176 : mj_ins 233 176 = some (.aload_n 0) := by decide +kernel
set_option maxRecDepth 100000 in
theorem ji_233_177 : mj_ins 233 177 = some (.getfield 35) := by decide +kernel
set_option maxRecDepth 100000 in
theorem ji_233_180 : mj_ins 233 180 = some (.iload 4) := by decide +kernel
set_option maxRecDepth 100000 in
theorem ji_233_182 : mj_ins 233 182 = some (.iconst 1) := by decide +kernel
set_option maxRecDepth 100000 in
theorem ji_233_183 : mj_ins 233 183 = some (.isub) := by decide +kernel
set_option maxRecDepth 100000 in
theorem ji_233_184 : mj_ins 233 184 = some (.laload) := by decide +kernel
set_option maxRecDepth 100000 in
theorem ji_233_185 : mj_ins 233 185 = some (.lneg) := by decide +kernel
set_option maxRecDepth 100000 in
theorem ji_233_186 : mj_ins 233 186 = some (.lastore) := by decide +kernel
set_option maxRecDepth 100000 in
theorem ji_233_187 : mj_ins 233 187 = some (.goto 202) := by decide +kernel
set_option maxRecDepth 100000 in
theorem ji_233_190 : mj_ins 233 190 = some (.iload 7) := by decide +kernel
set_option maxRecDepth 100000 in
theorem ji_233_192 : mj_ins 233 192 = some (.bipush 10) := by decide +kernel
set_option maxRecDepth 100000 in
theorem ji_233_194 : mj_ins 233 194 = some (.if_icmp .ge 39) := by decide +kernel
set_option maxRecDepth 100000 in
theorem ji_233_197 : mj_ins 233 197 = some (.iinc 4 (-1)) := by decide +kernel
set_option maxRecDepth 100000 in
theorem ji_233_200 : mj_ins 233 200 = some (.aload_n 0) := by decide +kernel
set_option maxRecDepth 100000 in
theorem ji_233_201 : mj_ins 233 201 = some (.getfield 35) := by decide +kernel
set_option maxRecDepth 100000 in
theorem ji_233_204 : mj_ins 233 204 = some (.iload 4) := by decide +kernel
set_option maxRecDepth 100000 in
theorem ji_233_206 : mj_ins 233 206 = some (.iconst 1) := by decide +kernel
set_option maxRecDepth 100000 in
theorem ji_233_207 : mj_ins 233 207 = some (.isub) := by decide +kernel
set_option maxRecDepth 100000 in
theorem ji_233_208 : mj_ins 233 208 = some (.iload 7) := by decide +kernel
set_option maxRecDepth 100000 in
theorem ji_233_210 : mj_ins 233 210 = some (.aload_n 0) := by decide +kernel
set_option maxRecDepth 100000 in
theorem ji_233_211 : mj_ins 233 211 = some (.getfield 35) := by decide +kernel
set_option maxRecDepth 100000 in
theorem ji_233_214 : mj_ins 233 214 = some (.iload 4) := by decide +kernel
set_option maxRecDepth 100000 in
theorem ji_233_216 : mj_ins 233 216 = some (.iconst 1) := by decide +kernel
set_option maxRecDepth 100000 in
theorem ji_233_217 : mj_ins 233 217 = some (.isub) := by decide +kernel
set_option maxRecDepth 100000 in
theorem ji_233_218 : mj_ins 233 218 = some (.laload) := by decide +kernel
set_option maxRecDepth 100000 in
theorem ji_233_219 : mj_ins 233 219 = some (.aload_n 0) := by decide +kernel
set_option maxRecDepth 100000 in
theorem ji_233_220 : mj_ins 233 220 = some (.getfield 35) := by decide +kernel
set_option maxRecDepth 100000 in
theorem ji_233_223 : mj_ins 233 223 = some (.iload 4) := by decide +kernel
set_option maxRecDepth 100000 in
theorem ji_233_225 : mj_ins 233 225 = some (.laload) := by decide +kernel
set_option maxRecDepth 100000 in
theorem ji_233_226 : mj_ins 233 226 = some (.invokestatic 268) := by decide +kernel
set_option maxRecDepth 100000 in
theorem jc_233_268 : mj_cal 233 268 = some (1, 235, 3) := by decide +kernel
set_option maxRecDepth 100000 in
theorem jn_235 : mj_nl 235 = 5 := by decide +kernel
set_option maxRecDepth 100000 in
theorem ji_233_229 : mj_ins 233 229 = some (.lastore) := by decide +kernel
set_option maxRecDepth 100000 in
theorem ji_233_230 : mj_ins 233 230 = some (.goto 159) := by decide +kernel
set_option maxRecDepth 100000 in
theorem ji_233_233 : mj_ins 233 233 = some (.iload 7) := by decide +kernel
set_option maxRecDepth 100000 in
theorem ji_233_235 : mj_ins 233 235 = some (.bipush 20) := by decide +kernel
set_option maxRecDepth 100000 in
theorem ji_233_237 : mj_ins 233 237 = some (.if_icmp .ge 40) := by decide +kernel
set_option maxRecDepth 100000 in
theorem ji_233_240 : mj_ins 233 240 = some (.iinc 4 (-2)) := by decide +kernel
set_option maxRecDepth 100000 in
theorem ji_233_243 : mj_ins 233 243 = some (.aload_n 0) := by decide +kernel
set_option maxRecDepth 100000 in
theorem ji_233_244 : mj_ins 233 244 = some (.getfield 39) := by decide +kernel
set_option maxRecDepth 100000 in
theorem jf_233_39 : mj_fld 233 39 = some (11, 24, (.array .boolean), false) := by decide +kernel
set_option maxRecDepth 100000 in
theorem ji_233_247 : mj_ins 233 247 = some (.iload 5) := by decide +kernel
set_option maxRecDepth 100000 in
theorem ji_233_249 : mj_ins 233 249 = some (.iload 7) := by decide +kernel
set_option maxRecDepth 100000 in
theorem ji_233_251 : mj_ins 233 251 = some (.aload_n 0) := by decide +kernel
set_option maxRecDepth 100000 in
theorem ji_233_252 : mj_ins 233 252 = some (.getfield 35) := by decide +kernel
set_option maxRecDepth 100000 in
theorem ji_233_255 : mj_ins 233 255 = some (.iload 4) := by decide +kernel
set_option maxRecDepth 100000 in
theorem ji_233_257 : mj_ins 233 257 = some (.laload) := by decide +kernel
set_option maxRecDepth 100000 in
theorem ji_233_258 : mj_ins 233 258 = some (.aload_n 0) := by decide +kernel
set_option maxRecDepth 100000 in
theorem ji_233_259 : mj_ins 233 259 = some (.getfield 35) := by decide +kernel
set_option maxRecDepth 100000 in
theorem ji_233_262 : mj_ins 233 262 = some (.iload 4) := by decide +kernel
set_option maxRecDepth 100000 in
theorem ji_233_264 : mj_ins 233 264 = some (.iconst 1) := by decide +kernel
set_option maxRecDepth 100000 in
theorem ji_233_265 : mj_ins 233 265 = some (.iadd) := by decide +kernel
set_option maxRecDepth 100000 in
theorem ji_233_266 : mj_ins 233 266 = some (.laload) := by decide +kernel
set_option maxRecDepth 100000 in
theorem ji_233_267 : mj_ins 233 267 = some (.invokestatic 272) := by decide +kernel
set_option maxRecDepth 100000 in
theorem jc_233_272 : mj_cal 233 272 = some (1, 237, 3) := by decide +kernel
set_option maxRecDepth 100000 in
theorem jn_237 : mj_nl 237 = 5 := by decide +kernel
set_option maxRecDepth 100000 in
theorem ji_233_270 : mj_ins 233 270 = some (.bastore) := by decide +kernel
set_option maxRecDepth 100000 in
theorem sq_146 : sh_T[146]? = some (1001, [], 330, 0) := by decide +kernel
set_option maxRecDepth 100000 in
theorem ji_233_271 : mj_ins 233 271 = some (.iinc 5 1) := by decide +kernel
set_option maxRecDepth 100000 in
theorem ji_233_274 : mj_ins 233 274 = some (.goto 115) := by decide +kernel
set_option maxRecDepth 100000 in
theorem ji_233_132 : mj_ins 233 132 = some (.iload 4) := by decide +kernel
set_option maxRecDepth 100000 in
theorem ji_233_134 : mj_ins 233 134 = some (.iload 8) := by decide +kernel
set_option maxRecDepth 100000 in
theorem ji_233_136 : mj_ins 233 136 = some (.iconst 1) := by decide +kernel
set_option maxRecDepth 100000 in
theorem ji_233_137 : mj_ins 233 137 = some (.iadd) := by decide +kernel
set_option maxRecDepth 100000 in
theorem ji_233_138 : mj_ins 233 138 = some (.isub) := by decide +kernel
set_option maxRecDepth 100000 in
theorem ji_233_139 : mj_ins 233 139 = some (.istore 4) := by decide +kernel
set_option maxRecDepth 100000 in
theorem ji_233_141 : mj_ins 233 141 = some (.aload_n 0) := by decide +kernel
set_option maxRecDepth 100000 in
theorem ji_233_142 : mj_ins 233 142 = some (.getfield 39) := by decide +kernel
set_option maxRecDepth 100000 in
theorem ji_233_145 : mj_ins 233 145 = some (.iload 5) := by decide +kernel
set_option maxRecDepth 100000 in
theorem ji_233_147 : mj_ins 233 147 = some (.aload_n 0) := by decide +kernel
set_option maxRecDepth 100000 in
theorem ji_233_148 : mj_ins 233 148 = some (.iload 4) := by decide +kernel
set_option maxRecDepth 100000 in
theorem ji_233_150 : mj_ins 233 150 = some (.iload 8) := by decide +kernel
set_option maxRecDepth 100000 in
theorem ji_233_152 : mj_ins 233 152 = some (.invokevirtual 265) := by decide +kernel
set_option maxRecDepth 100000 in
theorem jc_233_265 : mj_cal 233 265 = some (2, 234, 2) := by decide +kernel
set_option maxRecDepth 100000 in
theorem jn_234 : mj_nl 234 = 5 := by decide +kernel
set_option maxRecDepth 100000 in
theorem jk_234 : mj_cls 234 = 11 := by decide +kernel
set_option maxRecDepth 100000 in
theorem ji_233_155 : mj_ins 233 155 = some (.bastore) := by decide +kernel
set_option maxRecDepth 100000 in
theorem ji_233_156 : mj_ins 233 156 = some (.iinc 5 1) := by decide +kernel
set_option maxRecDepth 100000 in
theorem ji_233_159 : mj_ins 233 159 = some (.goto 230) := by decide +kernel
set_option maxRecDepth 100000 in
theorem ji_233_277 : mj_ins 233 277 = some (.iload 7) := by decide +kernel
set_option maxRecDepth 100000 in
theorem ji_233_279 : mj_ins 233 279 = some (.bipush 20) := by decide +kernel
set_option maxRecDepth 100000 in
theorem ji_233_281 : mj_ins 233 281 = some (.if_icmp .ne 32) := by decide +kernel
set_option maxRecDepth 100000 in
theorem ji_233_284 : mj_ins 233 284 = some (.aload_n 0) := by decide +kernel
set_option maxRecDepth 100000 in
theorem ji_233_285 : mj_ins 233 285 = some (.getfield 39) := by decide +kernel
set_option maxRecDepth 100000 in
theorem ji_233_288 : mj_ins 233 288 = some (.iload 5) := by decide +kernel
set_option maxRecDepth 100000 in
theorem ji_233_290 : mj_ins 233 290 = some (.iconst 1) := by decide +kernel
set_option maxRecDepth 100000 in
theorem ji_233_291 : mj_ins 233 291 = some (.isub) := by decide +kernel
set_option maxRecDepth 100000 in
theorem ji_233_292 : mj_ins 233 292 = some (.aload_n 0) := by decide +kernel
set_option maxRecDepth 100000 in
theorem ji_233_293 : mj_ins 233 293 = some (.getfield 39) := by decide +kernel
set_option maxRecDepth 100000 in
theorem ji_233_296 : mj_ins 233 296 = some (.iload 5) := by decide +kernel
set_option maxRecDepth 100000 in
theorem ji_233_298 : mj_ins 233 298 = some (.iconst 1) := by decide +kernel
set_option maxRecDepth 100000 in
theorem ji_233_299 : mj_ins 233 299 = some (.isub) := by decide +kernel
set_option maxRecDepth 100000 in
theorem ji_233_300 : mj_ins 233 300 = some (.baload) := by decide +kernel
set_option maxRecDepth 100000 in
theorem ji_233_301 : mj_ins 233 301 = some (.ifCond .ne 7) := by decide +kernel
set_option maxRecDepth 100000 in
theorem ji_233_308 : mj_ins 233 308 = some (.iconst 0) := by decide +kernel
set_option maxRecDepth 100000 in
theorem ji_233_309 : mj_ins 233 309 = some (.bastore) := by decide +kernel
set_option maxRecDepth 100000 in
theorem ji_233_310 : mj_ins 233 310 = some (.goto 79) := by decide +kernel
set_option maxRecDepth 100000 in
theorem ji_233_304 : mj_ins 233 304 = some (.iconst 1) := by decide +kernel
set_option maxRecDepth 100000 in
theorem ji_233_305 : mj_ins 233 305 = some (.goto 4) := by decide +kernel
set_option maxRecDepth 100000 in
theorem ji_233_313 : mj_ins 233 313 = some (.iinc 5 (-1)) := by decide +kernel
set_option maxRecDepth 100000 in
theorem ji_233_316 : mj_ins 233 316 = some (.aload_n 0) := by decide +kernel
set_option maxRecDepth 100000 in
theorem ji_233_317 : mj_ins 233 317 = some (.getfield 39) := by decide +kernel
set_option maxRecDepth 100000 in
theorem ji_233_320 : mj_ins 233 320 = some (.iload 5) := by decide +kernel
set_option maxRecDepth 100000 in
theorem ji_233_322 : mj_ins 233 322 = some (.iconst 1) := by decide +kernel
set_option maxRecDepth 100000 in
theorem ji_233_323 : mj_ins 233 323 = some (.isub) := by decide +kernel
set_option maxRecDepth 100000 in
theorem ji_233_324 : mj_ins 233 324 = some (.iload 7) := by decide +kernel
set_option maxRecDepth 100000 in
theorem ji_233_326 : mj_ins 233 326 = some (.bipush 21) := by decide +kernel
set_option maxRecDepth 100000 in
theorem ji_233_328 : mj_ins 233 328 = some (.if_icmp .ne 33) := by decide +kernel
set_option maxRecDepth 100000 in
theorem ji_233_331 : mj_ins 233 331 = some (.aload_n 0) := by decide +kernel
set_option maxRecDepth 100000 in
theorem ji_233_332 : mj_ins 233 332 = some (.getfield 39) := by decide +kernel
set_option maxRecDepth 100000 in
theorem ji_233_335 : mj_ins 233 335 = some (.iload 5) := by decide +kernel
set_option maxRecDepth 100000 in
theorem ji_233_337 : mj_ins 233 337 = some (.iconst 1) := by decide +kernel
set_option maxRecDepth 100000 in
theorem ji_233_338 : mj_ins 233 338 = some (.isub) := by decide +kernel
set_option maxRecDepth 100000 in
theorem ji_233_339 : mj_ins 233 339 = some (.baload) := by decide +kernel
set_option maxRecDepth 100000 in
theorem ji_233_340 : mj_ins 233 340 = some (.ifCond .eq 17) := by decide +kernel
set_option maxRecDepth 100000 in
theorem ji_233_357 : mj_ins 233 357 = some (.iconst 0) := by decide +kernel
set_option maxRecDepth 100000 in
theorem ji_233_358 : mj_ins 233 358 = some (.goto 30) := by decide +kernel
set_option maxRecDepth 100000 in
theorem ji_233_388 : mj_ins 233 388 = some (.bastore) := by decide +kernel
set_option maxRecDepth 100000 in
theorem ji_233_343 : mj_ins 233 343 = some (.aload_n 0) := by decide +kernel
set_option maxRecDepth 100000 in
theorem ji_233_344 : mj_ins 233 344 = some (.getfield 39) := by decide +kernel
set_option maxRecDepth 100000 in
theorem ji_233_347 : mj_ins 233 347 = some (.iload 5) := by decide +kernel
set_option maxRecDepth 100000 in
theorem ji_233_349 : mj_ins 233 349 = some (.baload) := by decide +kernel
set_option maxRecDepth 100000 in
theorem ji_233_350 : mj_ins 233 350 = some (.ifCond .eq 7) := by decide +kernel
set_option maxRecDepth 100000 in
theorem ji_233_353 : mj_ins 233 353 = some (.iconst 1) := by decide +kernel
set_option maxRecDepth 100000 in
theorem ji_233_354 : mj_ins 233 354 = some (.goto 34) := by decide +kernel
set_option maxRecDepth 100000 in
theorem ji_233_361 : mj_ins 233 361 = some (.aload_n 0) := by decide +kernel
set_option maxRecDepth 100000 in
theorem ji_233_362 : mj_ins 233 362 = some (.getfield 39) := by decide +kernel
set_option maxRecDepth 100000 in
theorem ji_233_365 : mj_ins 233 365 = some (.iload 5) := by decide +kernel
set_option maxRecDepth 100000 in
theorem ji_233_367 : mj_ins 233 367 = some (.iconst 1) := by decide +kernel
set_option maxRecDepth 100000 in
theorem ji_233_368 : mj_ins 233 368 = some (.isub) := by decide +kernel
set_option maxRecDepth 100000 in
theorem ji_233_369 : mj_ins 233 369 = some (.baload) := by decide +kernel
set_option maxRecDepth 100000 in
theorem ji_233_370 : mj_ins 233 370 = some (.ifCond .ne 13) := by decide +kernel
set_option maxRecDepth 100000 in
theorem ji_233_383 : mj_ins 233 383 = some (.iconst 1) := by decide +kernel
set_option maxRecDepth 100000 in
theorem ji_233_384 : mj_ins 233 384 = some (.goto 4) := by decide +kernel
set_option maxRecDepth 100000 in
theorem ji_233_373 : mj_ins 233 373 = some (.aload_n 0) := by decide +kernel
set_option maxRecDepth 100000 in
theorem ji_233_374 : mj_ins 233 374 = some (.getfield 39) := by decide +kernel
set_option maxRecDepth 100000 in
theorem ji_233_377 : mj_ins 233 377 = some (.iload 5) := by decide +kernel
set_option maxRecDepth 100000 in
theorem ji_233_379 : mj_ins 233 379 = some (.baload) := by decide +kernel
set_option maxRecDepth 100000 in
theorem ji_233_380 : mj_ins 233 380 = some (.ifCond .eq 7) := by decide +kernel
set_option maxRecDepth 100000 in
theorem ji_233_387 : mj_ins 233 387 = some (.iconst 0) := by decide +kernel
/-! the reference's work, an item; laid by program (wp_u26.py) -/
theorem uc_233_0 {nn d : Nat} {h : mj_H} {s : sg_} {Q : Option Value → mj_H → Prop} (C : CS0 h s) {ci c b i v : Int} {l7 l8 : Option Value} (hc : 0 ≤ c ∧ c ≤ 2817) (hb : 0 ≤ b ∧ 0 ≤ i ∧ i ≤ 1000 ∧ b ≤ 2820) (hu : i < s 141 (c + 2)) (ho : s 141 (b + 2 * i) = 0) (hv : s 141 (b + 2 * i + 1) = v) {k q : Int} (hk : 0 ≤ k ∧ k < 330) (hq0 : 0 ≤ q ∧ q < 330) (hr : ∀ h1 : mj_H, CS0 h1 (up s 145 k v) → wl_R nn (d + 2) 233 47 [some (.ref 138), some (wp_i ci), some (wp_i c), some (wp_i b), some (wp_i (k + 1)), some (wp_i (q)), some (wp_i (i + 1)), some (wp_i 0), some (wp_i v)] [] h1 Q) : wl_R (nn + 1) (d + 2) 233 47 [some (.ref 138), some (wp_i ci), some (wp_i c), some (wp_i b), some (wp_i k), some (wp_i q), some (wp_i i), l7, l8] [] h Q := by
  refine wl_s1 (pc' := 49) ji_233_47 rfl rfl rfl ?_
  refine wl_s (pc' := 50) ji_233_49 rfl rfl rfl ?_
  refine c0_gr (r := 141) (k := 2) C (by decide) sq_138 rfl ji_233_50 jf_233_16 ?_
  refine wl_s (pc' := 54) ji_233_53 rfl rfl rfl ?_
  refine wl_s (pc' := 55) ji_233_54 rfl rfl rfl ?_
  refine wl_iadd (x := c) (y := 2) (z := c + 2) ji_233_55 (by omega) ?_
  refine c0_l (x := c + 2) C (by decide) sq_141 (by omega) ji_233_56 (fun ld10 ld11 ld12 => ?_)
  refine wl_icmp (t := 395) ji_233_57 rfl (by omega) (by omega) (fun (hb2 : (s 141 (c + 2) : Int) ≤ i) => (by exfalso; omega)) (fun (hb2 : ¬ ((s 141 (c + 2) : Int) ≤ i)) => ?_)
  refine wl_s (pc' := 61) ji_233_60 rfl rfl rfl ?_
  refine c0_gr (r := 141) (k := 2) C (by decide) sq_138 rfl ji_233_61 jf_233_16 ?_
  refine wl_s (pc' := 65) ji_233_64 rfl rfl rfl ?_
  refine wl_s (pc' := 66) ji_233_65 rfl rfl rfl ?_
  refine wl_s (pc' := 68) ji_233_66 rfl rfl rfl ?_
  refine wl_imul (x := 2) (y := i) (z := 2 * i) ji_233_68 (by omega) ?_
  refine wl_iadd (x := b) (y := 2 * i) (z := b + (2 * i)) ji_233_69 (by omega) ?_
  refine c0_l (x := b + (2 * i)) C (by decide) sq_141 (by omega) ji_233_70 (fun ld30 ld31 ld32 => ?_)
  rw [ho] at ld32 ⊢
  refine wl_s (pc' := 73) (lv' := [some (.ref 138), some (wp_i ci), some (wp_i c), some (wp_i b), some (wp_i k), some (wp_i q), some (wp_i i), some (wp_i 0), l8]) ji_233_71 rfl rfl rfl ?_
  refine wl_s (pc' := 74) ji_233_73 rfl rfl rfl ?_
  refine c0_gr (r := 141) (k := 2) C (by decide) sq_138 rfl ji_233_74 jf_233_16 ?_
  refine wl_s (pc' := 78) ji_233_77 rfl rfl rfl ?_
  refine wl_s (pc' := 79) ji_233_78 rfl rfl rfl ?_
  refine wl_s (pc' := 81) ji_233_79 rfl rfl rfl ?_
  refine wl_imul (x := 2) (y := i) (z := 2 * i) ji_233_81 (by omega) ?_
  refine wl_iadd (x := b) (y := 2 * i) (z := b + (2 * i)) ji_233_82 (by omega) ?_
  refine wl_s (pc' := 84) ji_233_83 rfl rfl rfl ?_
  refine wl_iadd (x := b + (2 * i)) (y := 1) (z := b + (2 * i) + 1) ji_233_84 (by omega) ?_
  refine c0_l (x := b + (2 * i) + 1) C (by decide) sq_141 (by omega) ji_233_85 (fun ld40 ld41 ld42 => ?_)
  rw [hv] at ld42 ⊢
  refine wl_s (pc' := 88) (lv' := [some (.ref 138), some (wp_i ci), some (wp_i c), some (wp_i b), some (wp_i k), some (wp_i q), some (wp_i i), some (wp_i 0), some (wp_i v)]) ji_233_86 rfl rfl rfl ?_
  refine wl_s (pc' := 90) ji_233_88 rfl rfl rfl ?_
  refine wl_s (pc' := 91) ji_233_90 rfl rfl rfl ?_
  refine wl_icmp (t := 126) ji_233_91 rfl (by omega) (by omega) (fun (hb5 : (1 : Int) < 0) => (by exfalso; omega)) (fun (hb5 : ¬ ((1 : Int) < 0)) => ?_)
  refine wl_s (pc' := 95) ji_233_94 rfl rfl rfl ?_
  refine c0_gr (r := 145) (k := 23) C (by decide) sq_138 rfl ji_233_95 jf_233_35 ?_
  refine wl_s (pc' := 100) ji_233_98 rfl rfl rfl ?_
  refine wl_s (pc' := 102) ji_233_100 rfl rfl rfl ?_
  refine wl_if (t := 111) ji_233_102 rfl (by omega) (fun (hb6 : ¬ (0 : Int) = 0) => (by exfalso; omega)) (fun (hb6 : ¬ (¬ (0 : Int) = 0)) => ?_)
  refine wl_s (pc' := 107) ji_233_105 rfl rfl rfl ?_
  refine wl_i2g (x := v) ji_233_107 (by omega) ?_
  refine wl_goto (t := 119) ji_233_108 rfl ?_
  refine c0_sl (x := k) (y := v) C (by decide) sq_145 (by omega) ji_233_119 (fun h st70 st71 C => ?_)
  obtain ⟨s8, es8⟩ : ∃ z9_, up s 145 k v = z9_ := ⟨_, rfl⟩
  rw [es8] at C
  refine wl_iinc (x := k) (z := k + 1) (lv' := [some (.ref 138), some (wp_i ci), some (wp_i c), some (wp_i b), some (wp_i (k + 1)), some (wp_i q), some (wp_i i), some (wp_i 0), some (wp_i v)]) ji_233_120 rfl (Nat.le_of_ble_eq_true rfl) (by omega) rfl ?_
  refine wl_goto (t := 389) ji_233_123 rfl ?_
  refine wl_iinc (x := i) (z := i + 1) (lv' := [some (.ref 138), some (wp_i ci), some (wp_i c), some (wp_i b), some (wp_i (k + 1)), some (wp_i q), some (wp_i (i + 1)), some (wp_i 0), some (wp_i v)]) ji_233_389 rfl (Nat.le_of_ble_eq_true rfl) (by omega) rfl ?_
  refine wl_goto (t := 47) ji_233_392 rfl ?_
  exact hr _ (c0_mono C (by rw [← es8]))
theorem uc_233_1 {nn d : Nat} {h : mj_H} {s : sg_} {Q : Option Value → mj_H → Prop} (C : CS0 h s) {ci c b i v : Int} {l7 l8 : Option Value} (hc : 0 ≤ c ∧ c ≤ 2817) (hb : 0 ≤ b ∧ 0 ≤ i ∧ i ≤ 1000 ∧ b ≤ 2820) (hu : i < s 141 (c + 2)) (ho : s 141 (b + 2 * i) = 1) (hv : s 141 (b + 2 * i + 1) = v) {k q : Int} (hk : 0 ≤ k ∧ k < 330) (hq0 : 0 ≤ q ∧ q < 330) (hr : ∀ h1 : mj_H, CS0 h1 (up s 145 k (s 144 v)) → wl_R nn (d + 2) 233 47 [some (.ref 138), some (wp_i ci), some (wp_i c), some (wp_i b), some (wp_i (k + 1)), some (wp_i (q)), some (wp_i (i + 1)), some (wp_i 1), some (wp_i v)] [] h1 Q) : wl_R (nn + 1) (d + 2) 233 47 [some (.ref 138), some (wp_i ci), some (wp_i c), some (wp_i b), some (wp_i k), some (wp_i q), some (wp_i i), l7, l8] [] h Q := by
  refine wl_s1 (pc' := 49) ji_233_47 rfl rfl rfl ?_
  refine wl_s (pc' := 50) ji_233_49 rfl rfl rfl ?_
  refine c0_gr (r := 141) (k := 2) C (by decide) sq_138 rfl ji_233_50 jf_233_16 ?_
  refine wl_s (pc' := 54) ji_233_53 rfl rfl rfl ?_
  refine wl_s (pc' := 55) ji_233_54 rfl rfl rfl ?_
  refine wl_iadd (x := c) (y := 2) (z := c + 2) ji_233_55 (by omega) ?_
  refine c0_l (x := c + 2) C (by decide) sq_141 (by omega) ji_233_56 (fun ld10 ld11 ld12 => ?_)
  refine wl_icmp (t := 395) ji_233_57 rfl (by omega) (by omega) (fun (hb2 : (s 141 (c + 2) : Int) ≤ i) => (by exfalso; omega)) (fun (hb2 : ¬ ((s 141 (c + 2) : Int) ≤ i)) => ?_)
  refine wl_s (pc' := 61) ji_233_60 rfl rfl rfl ?_
  refine c0_gr (r := 141) (k := 2) C (by decide) sq_138 rfl ji_233_61 jf_233_16 ?_
  refine wl_s (pc' := 65) ji_233_64 rfl rfl rfl ?_
  refine wl_s (pc' := 66) ji_233_65 rfl rfl rfl ?_
  refine wl_s (pc' := 68) ji_233_66 rfl rfl rfl ?_
  refine wl_imul (x := 2) (y := i) (z := 2 * i) ji_233_68 (by omega) ?_
  refine wl_iadd (x := b) (y := 2 * i) (z := b + (2 * i)) ji_233_69 (by omega) ?_
  refine c0_l (x := b + (2 * i)) C (by decide) sq_141 (by omega) ji_233_70 (fun ld30 ld31 ld32 => ?_)
  rw [ho] at ld32 ⊢
  refine wl_s (pc' := 73) (lv' := [some (.ref 138), some (wp_i ci), some (wp_i c), some (wp_i b), some (wp_i k), some (wp_i q), some (wp_i i), some (wp_i 1), l8]) ji_233_71 rfl rfl rfl ?_
  refine wl_s (pc' := 74) ji_233_73 rfl rfl rfl ?_
  refine c0_gr (r := 141) (k := 2) C (by decide) sq_138 rfl ji_233_74 jf_233_16 ?_
  refine wl_s (pc' := 78) ji_233_77 rfl rfl rfl ?_
  refine wl_s (pc' := 79) ji_233_78 rfl rfl rfl ?_
  refine wl_s (pc' := 81) ji_233_79 rfl rfl rfl ?_
  refine wl_imul (x := 2) (y := i) (z := 2 * i) ji_233_81 (by omega) ?_
  refine wl_iadd (x := b) (y := 2 * i) (z := b + (2 * i)) ji_233_82 (by omega) ?_
  refine wl_s (pc' := 84) ji_233_83 rfl rfl rfl ?_
  refine wl_iadd (x := b + (2 * i)) (y := 1) (z := b + (2 * i) + 1) ji_233_84 (by omega) ?_
  refine c0_l (x := b + (2 * i) + 1) C (by decide) sq_141 (by omega) ji_233_85 (fun ld40 ld41 ld42 => ?_)
  rw [hv] at ld42 ⊢
  refine wl_s (pc' := 88) (lv' := [some (.ref 138), some (wp_i ci), some (wp_i c), some (wp_i b), some (wp_i k), some (wp_i q), some (wp_i i), some (wp_i 1), some (wp_i v)]) ji_233_86 rfl rfl rfl ?_
  refine wl_s (pc' := 90) ji_233_88 rfl rfl rfl ?_
  refine wl_s (pc' := 91) ji_233_90 rfl rfl rfl ?_
  refine wl_icmp (t := 126) ji_233_91 rfl (by omega) (by omega) (fun (hb5 : (1 : Int) < 1) => (by exfalso; omega)) (fun (hb5 : ¬ ((1 : Int) < 1)) => ?_)
  refine wl_s (pc' := 95) ji_233_94 rfl rfl rfl ?_
  refine c0_gr (r := 145) (k := 23) C (by decide) sq_138 rfl ji_233_95 jf_233_35 ?_
  refine wl_s (pc' := 100) ji_233_98 rfl rfl rfl ?_
  refine wl_s (pc' := 102) ji_233_100 rfl rfl rfl ?_
  refine wl_if (t := 111) ji_233_102 rfl (by omega) (fun (hb6 : ¬ (1 : Int) = 0) => ?_) (fun (hb6 : ¬ (¬ (1 : Int) = 0)) => (by exfalso; omega))
  refine wl_s (pc' := 112) ji_233_111 rfl rfl rfl ?_
  refine c0_gr (r := 144) (k := 22) C (by decide) sq_138 rfl ji_233_112 jf_233_32 ?_
  refine wl_s (pc' := 117) ji_233_115 rfl rfl rfl ?_
  refine c0_l (x := v) C (by decide) sq_144 (by omega) ji_233_117 (fun ld70 ld71 ld72 => ?_)
  refine wl_i2g (x := s 144 v) ji_233_118 (by omega) ?_
  refine c0_sl (x := k) (y := s 144 v) C (by decide) sq_145 (by omega) ji_233_119 (fun h st80 st81 C => ?_)
  obtain ⟨s9, es9⟩ : ∃ z9_, up s 145 k (s 144 v) = z9_ := ⟨_, rfl⟩
  rw [es9] at C
  refine wl_iinc (x := k) (z := k + 1) (lv' := [some (.ref 138), some (wp_i ci), some (wp_i c), some (wp_i b), some (wp_i (k + 1)), some (wp_i q), some (wp_i i), some (wp_i 1), some (wp_i v)]) ji_233_120 rfl (Nat.le_of_ble_eq_true rfl) (by omega) rfl ?_
  refine wl_goto (t := 389) ji_233_123 rfl ?_
  refine wl_iinc (x := i) (z := i + 1) (lv' := [some (.ref 138), some (wp_i ci), some (wp_i c), some (wp_i b), some (wp_i (k + 1)), some (wp_i q), some (wp_i (i + 1)), some (wp_i 1), some (wp_i v)]) ji_233_389 rfl (Nat.le_of_ble_eq_true rfl) (by omega) rfl ?_
  refine wl_goto (t := 47) ji_233_392 rfl ?_
  exact hr _ (c0_mono C (by rw [← es9]))
theorem uc_233_3 {nn d : Nat} {h : mj_H} {s : sg_} {Q : Option Value → mj_H → Prop} (C : CS0 h s) {ci c b i v : Int} {l7 l8 : Option Value} (hc : 0 ≤ c ∧ c ≤ 2817) (hb : 0 ≤ b ∧ 0 ≤ i ∧ i ≤ 1000 ∧ b ≤ 2820) (hu : i < s 141 (c + 2)) (ho : s 141 (b + 2 * i) = 3) (hv : s 141 (b + 2 * i + 1) = v) {k q : Int} (hk : 0 ≤ k ∧ k < 330) (hq0 : 0 ≤ q ∧ q < 330) {x1 : Int} (hx1 : s 145 k = x1) (hr : ∀ h1 : mj_H, CS0 h1 (up s 145 k (-x1)) → wl_R nn (d + 2) 233 47 [some (.ref 138), some (wp_i ci), some (wp_i c), some (wp_i b), some (wp_i (k + 1)), some (wp_i (q)), some (wp_i (i + 1)), some (wp_i 3), some (wp_i v)] [] h1 Q) : wl_R (nn + 1) (d + 2) 233 47 [some (.ref 138), some (wp_i ci), some (wp_i c), some (wp_i b), some (wp_i (k + 1)), some (wp_i q), some (wp_i i), l7, l8] [] h Q := by
  refine wl_s1 (pc' := 49) ji_233_47 rfl rfl rfl ?_
  refine wl_s (pc' := 50) ji_233_49 rfl rfl rfl ?_
  refine c0_gr (r := 141) (k := 2) C (by decide) sq_138 rfl ji_233_50 jf_233_16 ?_
  refine wl_s (pc' := 54) ji_233_53 rfl rfl rfl ?_
  refine wl_s (pc' := 55) ji_233_54 rfl rfl rfl ?_
  refine wl_iadd (x := c) (y := 2) (z := c + 2) ji_233_55 (by omega) ?_
  refine c0_l (x := c + 2) C (by decide) sq_141 (by omega) ji_233_56 (fun ld10 ld11 ld12 => ?_)
  refine wl_icmp (t := 395) ji_233_57 rfl (by omega) (by omega) (fun (hb2 : (s 141 (c + 2) : Int) ≤ i) => (by exfalso; omega)) (fun (hb2 : ¬ ((s 141 (c + 2) : Int) ≤ i)) => ?_)
  refine wl_s (pc' := 61) ji_233_60 rfl rfl rfl ?_
  refine c0_gr (r := 141) (k := 2) C (by decide) sq_138 rfl ji_233_61 jf_233_16 ?_
  refine wl_s (pc' := 65) ji_233_64 rfl rfl rfl ?_
  refine wl_s (pc' := 66) ji_233_65 rfl rfl rfl ?_
  refine wl_s (pc' := 68) ji_233_66 rfl rfl rfl ?_
  refine wl_imul (x := 2) (y := i) (z := 2 * i) ji_233_68 (by omega) ?_
  refine wl_iadd (x := b) (y := 2 * i) (z := b + (2 * i)) ji_233_69 (by omega) ?_
  refine c0_l (x := b + (2 * i)) C (by decide) sq_141 (by omega) ji_233_70 (fun ld30 ld31 ld32 => ?_)
  rw [ho] at ld32 ⊢
  refine wl_s (pc' := 73) (lv' := [some (.ref 138), some (wp_i ci), some (wp_i c), some (wp_i b), some (wp_i (k + 1)), some (wp_i q), some (wp_i i), some (wp_i 3), l8]) ji_233_71 rfl rfl rfl ?_
  refine wl_s (pc' := 74) ji_233_73 rfl rfl rfl ?_
  refine c0_gr (r := 141) (k := 2) C (by decide) sq_138 rfl ji_233_74 jf_233_16 ?_
  refine wl_s (pc' := 78) ji_233_77 rfl rfl rfl ?_
  refine wl_s (pc' := 79) ji_233_78 rfl rfl rfl ?_
  refine wl_s (pc' := 81) ji_233_79 rfl rfl rfl ?_
  refine wl_imul (x := 2) (y := i) (z := 2 * i) ji_233_81 (by omega) ?_
  refine wl_iadd (x := b) (y := 2 * i) (z := b + (2 * i)) ji_233_82 (by omega) ?_
  refine wl_s (pc' := 84) ji_233_83 rfl rfl rfl ?_
  refine wl_iadd (x := b + (2 * i)) (y := 1) (z := b + (2 * i) + 1) ji_233_84 (by omega) ?_
  refine c0_l (x := b + (2 * i) + 1) C (by decide) sq_141 (by omega) ji_233_85 (fun ld40 ld41 ld42 => ?_)
  rw [hv] at ld42 ⊢
  refine wl_s (pc' := 88) (lv' := [some (.ref 138), some (wp_i ci), some (wp_i c), some (wp_i b), some (wp_i (k + 1)), some (wp_i q), some (wp_i i), some (wp_i 3), some (wp_i v)]) ji_233_86 rfl rfl rfl ?_
  refine wl_s (pc' := 90) ji_233_88 rfl rfl rfl ?_
  refine wl_s (pc' := 91) ji_233_90 rfl rfl rfl ?_
  refine wl_icmp (t := 126) ji_233_91 rfl (by omega) (by omega) (fun (hb5 : (1 : Int) < 3) => ?_) (fun (hb5 : ¬ ((1 : Int) < 3)) => (by exfalso; omega))
  refine wl_s (pc' := 128) ji_233_126 rfl rfl rfl ?_
  refine wl_s (pc' := 129) ji_233_128 rfl rfl rfl ?_
  refine wl_icmp (t := 162) ji_233_129 rfl (by omega) (by omega) (fun (hb6 : ¬ (3 : Int) = 2) => ?_) (fun (hb6 : ¬ (¬ (3 : Int) = 2)) => (by exfalso; omega))
  refine wl_s (pc' := 164) ji_233_162 rfl rfl rfl ?_
  refine wl_s (pc' := 165) ji_233_164 rfl rfl rfl ?_
  refine wl_icmp (t := 190) ji_233_165 rfl (by omega) (by omega) (fun (hb7 : ¬ (3 : Int) = 3) => (by exfalso; omega)) (fun (hb7 : ¬ (¬ (3 : Int) = 3)) => ?_)
  refine wl_s (pc' := 169) ji_233_168 rfl rfl rfl ?_
  refine c0_gr (r := 145) (k := 23) C (by decide) sq_138 rfl ji_233_169 jf_233_35 ?_
  refine wl_s (pc' := 174) ji_233_172 rfl rfl rfl ?_
  refine wl_s (pc' := 175) ji_233_174 rfl rfl rfl ?_
  refine wl_isub (x := k + 1) (y := 1) (z := k) ji_233_175 (by omega) ?_
  refine wl_s (pc' := 177) ji_233_176 rfl rfl rfl ?_
  refine c0_gr (r := 145) (k := 23) C (by decide) sq_138 rfl ji_233_177 jf_233_35 ?_
  refine wl_s (pc' := 182) ji_233_180 rfl rfl rfl ?_
  refine wl_s (pc' := 183) ji_233_182 rfl rfl rfl ?_
  refine wl_isub (x := k + 1) (y := 1) (z := k) ji_233_183 (by omega) ?_
  refine c0_ll (x := k) C (by decide) sq_145 (by omega) ji_233_184 (fun ld80 ld81 => ?_)
  rw [hx1]
  refine wl_lneg (x := x1) ji_233_185 ?_
  refine c0_sl (x := k) (y := -x1) C (by decide) sq_145 (by omega) ji_233_186 (fun h st90 st91 C => ?_)
  obtain ⟨s10, es10⟩ : ∃ z9_, up s 145 k (-x1) = z9_ := ⟨_, rfl⟩
  rw [es10] at C
  refine wl_goto (t := 389) ji_233_187 rfl ?_
  refine wl_iinc (x := i) (z := i + 1) (lv' := [some (.ref 138), some (wp_i ci), some (wp_i c), some (wp_i b), some (wp_i (k + 1)), some (wp_i q), some (wp_i (i + 1)), some (wp_i 3), some (wp_i v)]) ji_233_389 rfl (Nat.le_of_ble_eq_true rfl) (by omega) rfl ?_
  refine wl_goto (t := 47) ji_233_392 rfl ?_
  exact hr _ (c0_mono C (by rw [← es10]))
theorem uc_233_4 {nn d : Nat} {h : mj_H} {s : sg_} {Q : Option Value → mj_H → Prop} (C : CS0 h s) {ci c b i v : Int} {l7 l8 : Option Value} (hc : 0 ≤ c ∧ c ≤ 2817) (hb : 0 ≤ b ∧ 0 ≤ i ∧ i ≤ 1000 ∧ b ≤ 2820) (hu : i < s 141 (c + 2)) (ho : s 141 (b + 2 * i) = 4) (hv : s 141 (b + 2 * i + 1) = v) {k q : Int} (hk : 0 ≤ k ∧ k < 330) (hq0 : 0 ≤ q ∧ q < 330) {x1 y1 : Int} (hx1 : s 145 k = x1) (hy1 : s 145 (k + 1) = y1) (rx : wp_r x1) (ry : wp_r y1) (hr : ∀ h1 : mj_H, CS0 h1 (up s 145 k (clp (x1 + y1))) → wl_R nn (d + 2) 233 47 [some (.ref 138), some (wp_i ci), some (wp_i c), some (wp_i b), some (wp_i (k + 1)), some (wp_i (q)), some (wp_i (i + 1)), some (wp_i 4), some (wp_i v)] [] h1 Q) : wl_R (nn + 1) (d + 2) 233 47 [some (.ref 138), some (wp_i ci), some (wp_i c), some (wp_i b), some (wp_i (k + 2)), some (wp_i q), some (wp_i i), l7, l8] [] h Q := by
  refine wl_s1 (pc' := 49) ji_233_47 rfl rfl rfl ?_
  refine wl_s (pc' := 50) ji_233_49 rfl rfl rfl ?_
  refine c0_gr (r := 141) (k := 2) C (by decide) sq_138 rfl ji_233_50 jf_233_16 ?_
  refine wl_s (pc' := 54) ji_233_53 rfl rfl rfl ?_
  refine wl_s (pc' := 55) ji_233_54 rfl rfl rfl ?_
  refine wl_iadd (x := c) (y := 2) (z := c + 2) ji_233_55 (by omega) ?_
  refine c0_l (x := c + 2) C (by decide) sq_141 (by omega) ji_233_56 (fun ld10 ld11 ld12 => ?_)
  refine wl_icmp (t := 395) ji_233_57 rfl (by omega) (by omega) (fun (hb2 : (s 141 (c + 2) : Int) ≤ i) => (by exfalso; omega)) (fun (hb2 : ¬ ((s 141 (c + 2) : Int) ≤ i)) => ?_)
  refine wl_s (pc' := 61) ji_233_60 rfl rfl rfl ?_
  refine c0_gr (r := 141) (k := 2) C (by decide) sq_138 rfl ji_233_61 jf_233_16 ?_
  refine wl_s (pc' := 65) ji_233_64 rfl rfl rfl ?_
  refine wl_s (pc' := 66) ji_233_65 rfl rfl rfl ?_
  refine wl_s (pc' := 68) ji_233_66 rfl rfl rfl ?_
  refine wl_imul (x := 2) (y := i) (z := 2 * i) ji_233_68 (by omega) ?_
  refine wl_iadd (x := b) (y := 2 * i) (z := b + (2 * i)) ji_233_69 (by omega) ?_
  refine c0_l (x := b + (2 * i)) C (by decide) sq_141 (by omega) ji_233_70 (fun ld30 ld31 ld32 => ?_)
  rw [ho] at ld32 ⊢
  refine wl_s (pc' := 73) (lv' := [some (.ref 138), some (wp_i ci), some (wp_i c), some (wp_i b), some (wp_i (k + 2)), some (wp_i q), some (wp_i i), some (wp_i 4), l8]) ji_233_71 rfl rfl rfl ?_
  refine wl_s (pc' := 74) ji_233_73 rfl rfl rfl ?_
  refine c0_gr (r := 141) (k := 2) C (by decide) sq_138 rfl ji_233_74 jf_233_16 ?_
  refine wl_s (pc' := 78) ji_233_77 rfl rfl rfl ?_
  refine wl_s (pc' := 79) ji_233_78 rfl rfl rfl ?_
  refine wl_s (pc' := 81) ji_233_79 rfl rfl rfl ?_
  refine wl_imul (x := 2) (y := i) (z := 2 * i) ji_233_81 (by omega) ?_
  refine wl_iadd (x := b) (y := 2 * i) (z := b + (2 * i)) ji_233_82 (by omega) ?_
  refine wl_s (pc' := 84) ji_233_83 rfl rfl rfl ?_
  refine wl_iadd (x := b + (2 * i)) (y := 1) (z := b + (2 * i) + 1) ji_233_84 (by omega) ?_
  refine c0_l (x := b + (2 * i) + 1) C (by decide) sq_141 (by omega) ji_233_85 (fun ld40 ld41 ld42 => ?_)
  rw [hv] at ld42 ⊢
  refine wl_s (pc' := 88) (lv' := [some (.ref 138), some (wp_i ci), some (wp_i c), some (wp_i b), some (wp_i (k + 2)), some (wp_i q), some (wp_i i), some (wp_i 4), some (wp_i v)]) ji_233_86 rfl rfl rfl ?_
  refine wl_s (pc' := 90) ji_233_88 rfl rfl rfl ?_
  refine wl_s (pc' := 91) ji_233_90 rfl rfl rfl ?_
  refine wl_icmp (t := 126) ji_233_91 rfl (by omega) (by omega) (fun (hb5 : (1 : Int) < 4) => ?_) (fun (hb5 : ¬ ((1 : Int) < 4)) => (by exfalso; omega))
  refine wl_s (pc' := 128) ji_233_126 rfl rfl rfl ?_
  refine wl_s (pc' := 129) ji_233_128 rfl rfl rfl ?_
  refine wl_icmp (t := 162) ji_233_129 rfl (by omega) (by omega) (fun (hb6 : ¬ (4 : Int) = 2) => ?_) (fun (hb6 : ¬ (¬ (4 : Int) = 2)) => (by exfalso; omega))
  refine wl_s (pc' := 164) ji_233_162 rfl rfl rfl ?_
  refine wl_s (pc' := 165) ji_233_164 rfl rfl rfl ?_
  refine wl_icmp (t := 190) ji_233_165 rfl (by omega) (by omega) (fun (hb7 : ¬ (4 : Int) = 3) => ?_) (fun (hb7 : ¬ (¬ (4 : Int) = 3)) => (by exfalso; omega))
  refine wl_s (pc' := 192) ji_233_190 rfl rfl rfl ?_
  refine wl_bp ji_233_192 rfl ?_
  refine wl_icmp (t := 233) ji_233_194 rfl (by omega) (by omega) (fun (hb8 : (10 : Int) ≤ 4) => (by exfalso; omega)) (fun (hb8 : ¬ ((10 : Int) ≤ 4)) => ?_)
  refine wl_iinc (x := k + 2) (z := k + 1) (lv' := [some (.ref 138), some (wp_i ci), some (wp_i c), some (wp_i b), some (wp_i (k + 1)), some (wp_i q), some (wp_i i), some (wp_i 4), some (wp_i v)]) ji_233_197 rfl (Nat.le_of_ble_eq_true rfl) (by omega) rfl ?_
  refine wl_s (pc' := 201) ji_233_200 rfl rfl rfl ?_
  refine c0_gr (r := 145) (k := 23) C (by decide) sq_138 rfl ji_233_201 jf_233_35 ?_
  refine wl_s (pc' := 206) ji_233_204 rfl rfl rfl ?_
  refine wl_s (pc' := 207) ji_233_206 rfl rfl rfl ?_
  refine wl_isub (x := k + 1) (y := 1) (z := k) ji_233_207 (by omega) ?_
  refine wl_s (pc' := 210) ji_233_208 rfl rfl rfl ?_
  refine wl_s (pc' := 211) ji_233_210 rfl rfl rfl ?_
  refine c0_gr (r := 145) (k := 23) C (by decide) sq_138 rfl ji_233_211 jf_233_35 ?_
  refine wl_s (pc' := 216) ji_233_214 rfl rfl rfl ?_
  refine wl_s (pc' := 217) ji_233_216 rfl rfl rfl ?_
  refine wl_isub (x := k + 1) (y := 1) (z := k) ji_233_217 (by omega) ?_
  refine c0_ll (x := k) C (by decide) sq_145 (by omega) ji_233_218 (fun ld90 ld91 => ?_)
  rw [hx1]
  refine wl_s (pc' := 220) ji_233_219 rfl rfl rfl ?_
  refine c0_gr (r := 145) (k := 23) C (by decide) sq_138 rfl ji_233_220 jf_233_35 ?_
  refine wl_s (pc' := 225) ji_233_223 rfl rfl rfl ?_
  refine c0_ll (x := k + 1) C (by decide) sq_145 (by omega) ji_233_225 (fun ld100 ld101 => ?_)
  rw [hy1]
  refine wl_sc (d := d + 1) (as := [wp_i 4, wl_L x1, wl_L y1]) (rest := [wp_i k, .ref 145]) ji_233_226 jc_233_268 (Nat.le_of_ble_eq_true rfl) rfl (Nat.le_of_ble_eq_true rfl) rfl (by rw [jn_235]; rfl) (uc_235_4 (d := d) (a := x1) (b := y1) rx ry) (fun v1 h11 R => ?_)
  obtain ⟨rfl, rfl⟩ := R
  obtain ⟨cv, ecv⟩ : ∃ z9_, clp (x1 + y1) = z9_ := ⟨_, rfl⟩
  rw [ecv]
  show wl_R _ _ 233 229 [some (.ref 138), some (wp_i ci), some (wp_i c), some (wp_i b), some (wp_i (k + 1)), some (wp_i q), some (wp_i i), some (wp_i 4), some (wp_i v)] [wl_L cv, wp_i k, .ref 145] _ _
  refine c0_sl (x := k) (y := cv) C (by decide) sq_145 (by omega) ji_233_229 (fun h st120 st121 C => ?_)
  obtain ⟨s13, es13⟩ : ∃ z9_, up s 145 k cv = z9_ := ⟨_, rfl⟩
  rw [es13] at C
  refine wl_goto (t := 389) ji_233_230 rfl ?_
  refine wl_iinc (x := i) (z := i + 1) (lv' := [some (.ref 138), some (wp_i ci), some (wp_i c), some (wp_i b), some (wp_i (k + 1)), some (wp_i q), some (wp_i (i + 1)), some (wp_i 4), some (wp_i v)]) ji_233_389 rfl (Nat.le_of_ble_eq_true rfl) (by omega) rfl ?_
  refine wl_goto (t := 47) ji_233_392 rfl ?_
  exact hr _ (c0_mono C (by rw [← es13, ← ecv]))
theorem uc_233_5 {nn d : Nat} {h : mj_H} {s : sg_} {Q : Option Value → mj_H → Prop} (C : CS0 h s) {ci c b i v : Int} {l7 l8 : Option Value} (hc : 0 ≤ c ∧ c ≤ 2817) (hb : 0 ≤ b ∧ 0 ≤ i ∧ i ≤ 1000 ∧ b ≤ 2820) (hu : i < s 141 (c + 2)) (ho : s 141 (b + 2 * i) = 5) (hv : s 141 (b + 2 * i + 1) = v) {k q : Int} (hk : 0 ≤ k ∧ k < 330) (hq0 : 0 ≤ q ∧ q < 330) {x1 y1 : Int} (hx1 : s 145 k = x1) (hy1 : s 145 (k + 1) = y1) (rx : wp_r x1) (ry : wp_r y1) (hr : ∀ h1 : mj_H, CS0 h1 (up s 145 k (clp (x1 - y1))) → wl_R nn (d + 2) 233 47 [some (.ref 138), some (wp_i ci), some (wp_i c), some (wp_i b), some (wp_i (k + 1)), some (wp_i (q)), some (wp_i (i + 1)), some (wp_i 5), some (wp_i v)] [] h1 Q) : wl_R (nn + 1) (d + 2) 233 47 [some (.ref 138), some (wp_i ci), some (wp_i c), some (wp_i b), some (wp_i (k + 2)), some (wp_i q), some (wp_i i), l7, l8] [] h Q := by
  refine wl_s1 (pc' := 49) ji_233_47 rfl rfl rfl ?_
  refine wl_s (pc' := 50) ji_233_49 rfl rfl rfl ?_
  refine c0_gr (r := 141) (k := 2) C (by decide) sq_138 rfl ji_233_50 jf_233_16 ?_
  refine wl_s (pc' := 54) ji_233_53 rfl rfl rfl ?_
  refine wl_s (pc' := 55) ji_233_54 rfl rfl rfl ?_
  refine wl_iadd (x := c) (y := 2) (z := c + 2) ji_233_55 (by omega) ?_
  refine c0_l (x := c + 2) C (by decide) sq_141 (by omega) ji_233_56 (fun ld10 ld11 ld12 => ?_)
  refine wl_icmp (t := 395) ji_233_57 rfl (by omega) (by omega) (fun (hb2 : (s 141 (c + 2) : Int) ≤ i) => (by exfalso; omega)) (fun (hb2 : ¬ ((s 141 (c + 2) : Int) ≤ i)) => ?_)
  refine wl_s (pc' := 61) ji_233_60 rfl rfl rfl ?_
  refine c0_gr (r := 141) (k := 2) C (by decide) sq_138 rfl ji_233_61 jf_233_16 ?_
  refine wl_s (pc' := 65) ji_233_64 rfl rfl rfl ?_
  refine wl_s (pc' := 66) ji_233_65 rfl rfl rfl ?_
  refine wl_s (pc' := 68) ji_233_66 rfl rfl rfl ?_
  refine wl_imul (x := 2) (y := i) (z := 2 * i) ji_233_68 (by omega) ?_
  refine wl_iadd (x := b) (y := 2 * i) (z := b + (2 * i)) ji_233_69 (by omega) ?_
  refine c0_l (x := b + (2 * i)) C (by decide) sq_141 (by omega) ji_233_70 (fun ld30 ld31 ld32 => ?_)
  rw [ho] at ld32 ⊢
  refine wl_s (pc' := 73) (lv' := [some (.ref 138), some (wp_i ci), some (wp_i c), some (wp_i b), some (wp_i (k + 2)), some (wp_i q), some (wp_i i), some (wp_i 5), l8]) ji_233_71 rfl rfl rfl ?_
  refine wl_s (pc' := 74) ji_233_73 rfl rfl rfl ?_
  refine c0_gr (r := 141) (k := 2) C (by decide) sq_138 rfl ji_233_74 jf_233_16 ?_
  refine wl_s (pc' := 78) ji_233_77 rfl rfl rfl ?_
  refine wl_s (pc' := 79) ji_233_78 rfl rfl rfl ?_
  refine wl_s (pc' := 81) ji_233_79 rfl rfl rfl ?_
  refine wl_imul (x := 2) (y := i) (z := 2 * i) ji_233_81 (by omega) ?_
  refine wl_iadd (x := b) (y := 2 * i) (z := b + (2 * i)) ji_233_82 (by omega) ?_
  refine wl_s (pc' := 84) ji_233_83 rfl rfl rfl ?_
  refine wl_iadd (x := b + (2 * i)) (y := 1) (z := b + (2 * i) + 1) ji_233_84 (by omega) ?_
  refine c0_l (x := b + (2 * i) + 1) C (by decide) sq_141 (by omega) ji_233_85 (fun ld40 ld41 ld42 => ?_)
  rw [hv] at ld42 ⊢
  refine wl_s (pc' := 88) (lv' := [some (.ref 138), some (wp_i ci), some (wp_i c), some (wp_i b), some (wp_i (k + 2)), some (wp_i q), some (wp_i i), some (wp_i 5), some (wp_i v)]) ji_233_86 rfl rfl rfl ?_
  refine wl_s (pc' := 90) ji_233_88 rfl rfl rfl ?_
  refine wl_s (pc' := 91) ji_233_90 rfl rfl rfl ?_
  refine wl_icmp (t := 126) ji_233_91 rfl (by omega) (by omega) (fun (hb5 : (1 : Int) < 5) => ?_) (fun (hb5 : ¬ ((1 : Int) < 5)) => (by exfalso; omega))
  refine wl_s (pc' := 128) ji_233_126 rfl rfl rfl ?_
  refine wl_s (pc' := 129) ji_233_128 rfl rfl rfl ?_
  refine wl_icmp (t := 162) ji_233_129 rfl (by omega) (by omega) (fun (hb6 : ¬ (5 : Int) = 2) => ?_) (fun (hb6 : ¬ (¬ (5 : Int) = 2)) => (by exfalso; omega))
  refine wl_s (pc' := 164) ji_233_162 rfl rfl rfl ?_
  refine wl_s (pc' := 165) ji_233_164 rfl rfl rfl ?_
  refine wl_icmp (t := 190) ji_233_165 rfl (by omega) (by omega) (fun (hb7 : ¬ (5 : Int) = 3) => ?_) (fun (hb7 : ¬ (¬ (5 : Int) = 3)) => (by exfalso; omega))
  refine wl_s (pc' := 192) ji_233_190 rfl rfl rfl ?_
  refine wl_bp ji_233_192 rfl ?_
  refine wl_icmp (t := 233) ji_233_194 rfl (by omega) (by omega) (fun (hb8 : (10 : Int) ≤ 5) => (by exfalso; omega)) (fun (hb8 : ¬ ((10 : Int) ≤ 5)) => ?_)
  refine wl_iinc (x := k + 2) (z := k + 1) (lv' := [some (.ref 138), some (wp_i ci), some (wp_i c), some (wp_i b), some (wp_i (k + 1)), some (wp_i q), some (wp_i i), some (wp_i 5), some (wp_i v)]) ji_233_197 rfl (Nat.le_of_ble_eq_true rfl) (by omega) rfl ?_
  refine wl_s (pc' := 201) ji_233_200 rfl rfl rfl ?_
  refine c0_gr (r := 145) (k := 23) C (by decide) sq_138 rfl ji_233_201 jf_233_35 ?_
  refine wl_s (pc' := 206) ji_233_204 rfl rfl rfl ?_
  refine wl_s (pc' := 207) ji_233_206 rfl rfl rfl ?_
  refine wl_isub (x := k + 1) (y := 1) (z := k) ji_233_207 (by omega) ?_
  refine wl_s (pc' := 210) ji_233_208 rfl rfl rfl ?_
  refine wl_s (pc' := 211) ji_233_210 rfl rfl rfl ?_
  refine c0_gr (r := 145) (k := 23) C (by decide) sq_138 rfl ji_233_211 jf_233_35 ?_
  refine wl_s (pc' := 216) ji_233_214 rfl rfl rfl ?_
  refine wl_s (pc' := 217) ji_233_216 rfl rfl rfl ?_
  refine wl_isub (x := k + 1) (y := 1) (z := k) ji_233_217 (by omega) ?_
  refine c0_ll (x := k) C (by decide) sq_145 (by omega) ji_233_218 (fun ld90 ld91 => ?_)
  rw [hx1]
  refine wl_s (pc' := 220) ji_233_219 rfl rfl rfl ?_
  refine c0_gr (r := 145) (k := 23) C (by decide) sq_138 rfl ji_233_220 jf_233_35 ?_
  refine wl_s (pc' := 225) ji_233_223 rfl rfl rfl ?_
  refine c0_ll (x := k + 1) C (by decide) sq_145 (by omega) ji_233_225 (fun ld100 ld101 => ?_)
  rw [hy1]
  refine wl_sc (d := d + 1) (as := [wp_i 5, wl_L x1, wl_L y1]) (rest := [wp_i k, .ref 145]) ji_233_226 jc_233_268 (Nat.le_of_ble_eq_true rfl) rfl (Nat.le_of_ble_eq_true rfl) rfl (by rw [jn_235]; rfl) (uc_235_5 (d := d) (a := x1) (b := y1) rx ry) (fun v1 h11 R => ?_)
  obtain ⟨rfl, rfl⟩ := R
  obtain ⟨cv, ecv⟩ : ∃ z9_, clp (x1 - y1) = z9_ := ⟨_, rfl⟩
  rw [ecv]
  show wl_R _ _ 233 229 [some (.ref 138), some (wp_i ci), some (wp_i c), some (wp_i b), some (wp_i (k + 1)), some (wp_i q), some (wp_i i), some (wp_i 5), some (wp_i v)] [wl_L cv, wp_i k, .ref 145] _ _
  refine c0_sl (x := k) (y := cv) C (by decide) sq_145 (by omega) ji_233_229 (fun h st120 st121 C => ?_)
  obtain ⟨s13, es13⟩ : ∃ z9_, up s 145 k cv = z9_ := ⟨_, rfl⟩
  rw [es13] at C
  refine wl_goto (t := 389) ji_233_230 rfl ?_
  refine wl_iinc (x := i) (z := i + 1) (lv' := [some (.ref 138), some (wp_i ci), some (wp_i c), some (wp_i b), some (wp_i (k + 1)), some (wp_i q), some (wp_i (i + 1)), some (wp_i 5), some (wp_i v)]) ji_233_389 rfl (Nat.le_of_ble_eq_true rfl) (by omega) rfl ?_
  refine wl_goto (t := 47) ji_233_392 rfl ?_
  exact hr _ (c0_mono C (by rw [← es13, ← ecv]))
theorem uc_233_6 {nn d : Nat} {h : mj_H} {s : sg_} {Q : Option Value → mj_H → Prop} (C : CS0 h s) {ci c b i v : Int} {l7 l8 : Option Value} (hc : 0 ≤ c ∧ c ≤ 2817) (hb : 0 ≤ b ∧ 0 ≤ i ∧ i ≤ 1000 ∧ b ≤ 2820) (hu : i < s 141 (c + 2)) (ho : s 141 (b + 2 * i) = 6) (hv : s 141 (b + 2 * i + 1) = v) {k q : Int} (hk : 0 ≤ k ∧ k < 330) (hq0 : 0 ≤ q ∧ q < 330) {x1 y1 : Int} (hx1 : s 145 k = x1) (hy1 : s 145 (k + 1) = y1) (rx : wp_r x1) (ry : wp_r y1) (hr : ∀ h1 : mj_H, CS0 h1 (up s 145 k (clp (x1 * y1))) → wl_R nn (d + 2) 233 47 [some (.ref 138), some (wp_i ci), some (wp_i c), some (wp_i b), some (wp_i (k + 1)), some (wp_i (q)), some (wp_i (i + 1)), some (wp_i 6), some (wp_i v)] [] h1 Q) : wl_R (nn + 1) (d + 2) 233 47 [some (.ref 138), some (wp_i ci), some (wp_i c), some (wp_i b), some (wp_i (k + 2)), some (wp_i q), some (wp_i i), l7, l8] [] h Q := by
  refine wl_s1 (pc' := 49) ji_233_47 rfl rfl rfl ?_
  refine wl_s (pc' := 50) ji_233_49 rfl rfl rfl ?_
  refine c0_gr (r := 141) (k := 2) C (by decide) sq_138 rfl ji_233_50 jf_233_16 ?_
  refine wl_s (pc' := 54) ji_233_53 rfl rfl rfl ?_
  refine wl_s (pc' := 55) ji_233_54 rfl rfl rfl ?_
  refine wl_iadd (x := c) (y := 2) (z := c + 2) ji_233_55 (by omega) ?_
  refine c0_l (x := c + 2) C (by decide) sq_141 (by omega) ji_233_56 (fun ld10 ld11 ld12 => ?_)
  refine wl_icmp (t := 395) ji_233_57 rfl (by omega) (by omega) (fun (hb2 : (s 141 (c + 2) : Int) ≤ i) => (by exfalso; omega)) (fun (hb2 : ¬ ((s 141 (c + 2) : Int) ≤ i)) => ?_)
  refine wl_s (pc' := 61) ji_233_60 rfl rfl rfl ?_
  refine c0_gr (r := 141) (k := 2) C (by decide) sq_138 rfl ji_233_61 jf_233_16 ?_
  refine wl_s (pc' := 65) ji_233_64 rfl rfl rfl ?_
  refine wl_s (pc' := 66) ji_233_65 rfl rfl rfl ?_
  refine wl_s (pc' := 68) ji_233_66 rfl rfl rfl ?_
  refine wl_imul (x := 2) (y := i) (z := 2 * i) ji_233_68 (by omega) ?_
  refine wl_iadd (x := b) (y := 2 * i) (z := b + (2 * i)) ji_233_69 (by omega) ?_
  refine c0_l (x := b + (2 * i)) C (by decide) sq_141 (by omega) ji_233_70 (fun ld30 ld31 ld32 => ?_)
  rw [ho] at ld32 ⊢
  refine wl_s (pc' := 73) (lv' := [some (.ref 138), some (wp_i ci), some (wp_i c), some (wp_i b), some (wp_i (k + 2)), some (wp_i q), some (wp_i i), some (wp_i 6), l8]) ji_233_71 rfl rfl rfl ?_
  refine wl_s (pc' := 74) ji_233_73 rfl rfl rfl ?_
  refine c0_gr (r := 141) (k := 2) C (by decide) sq_138 rfl ji_233_74 jf_233_16 ?_
  refine wl_s (pc' := 78) ji_233_77 rfl rfl rfl ?_
  refine wl_s (pc' := 79) ji_233_78 rfl rfl rfl ?_
  refine wl_s (pc' := 81) ji_233_79 rfl rfl rfl ?_
  refine wl_imul (x := 2) (y := i) (z := 2 * i) ji_233_81 (by omega) ?_
  refine wl_iadd (x := b) (y := 2 * i) (z := b + (2 * i)) ji_233_82 (by omega) ?_
  refine wl_s (pc' := 84) ji_233_83 rfl rfl rfl ?_
  refine wl_iadd (x := b + (2 * i)) (y := 1) (z := b + (2 * i) + 1) ji_233_84 (by omega) ?_
  refine c0_l (x := b + (2 * i) + 1) C (by decide) sq_141 (by omega) ji_233_85 (fun ld40 ld41 ld42 => ?_)
  rw [hv] at ld42 ⊢
  refine wl_s (pc' := 88) (lv' := [some (.ref 138), some (wp_i ci), some (wp_i c), some (wp_i b), some (wp_i (k + 2)), some (wp_i q), some (wp_i i), some (wp_i 6), some (wp_i v)]) ji_233_86 rfl rfl rfl ?_
  refine wl_s (pc' := 90) ji_233_88 rfl rfl rfl ?_
  refine wl_s (pc' := 91) ji_233_90 rfl rfl rfl ?_
  refine wl_icmp (t := 126) ji_233_91 rfl (by omega) (by omega) (fun (hb5 : (1 : Int) < 6) => ?_) (fun (hb5 : ¬ ((1 : Int) < 6)) => (by exfalso; omega))
  refine wl_s (pc' := 128) ji_233_126 rfl rfl rfl ?_
  refine wl_s (pc' := 129) ji_233_128 rfl rfl rfl ?_
  refine wl_icmp (t := 162) ji_233_129 rfl (by omega) (by omega) (fun (hb6 : ¬ (6 : Int) = 2) => ?_) (fun (hb6 : ¬ (¬ (6 : Int) = 2)) => (by exfalso; omega))
  refine wl_s (pc' := 164) ji_233_162 rfl rfl rfl ?_
  refine wl_s (pc' := 165) ji_233_164 rfl rfl rfl ?_
  refine wl_icmp (t := 190) ji_233_165 rfl (by omega) (by omega) (fun (hb7 : ¬ (6 : Int) = 3) => ?_) (fun (hb7 : ¬ (¬ (6 : Int) = 3)) => (by exfalso; omega))
  refine wl_s (pc' := 192) ji_233_190 rfl rfl rfl ?_
  refine wl_bp ji_233_192 rfl ?_
  refine wl_icmp (t := 233) ji_233_194 rfl (by omega) (by omega) (fun (hb8 : (10 : Int) ≤ 6) => (by exfalso; omega)) (fun (hb8 : ¬ ((10 : Int) ≤ 6)) => ?_)
  refine wl_iinc (x := k + 2) (z := k + 1) (lv' := [some (.ref 138), some (wp_i ci), some (wp_i c), some (wp_i b), some (wp_i (k + 1)), some (wp_i q), some (wp_i i), some (wp_i 6), some (wp_i v)]) ji_233_197 rfl (Nat.le_of_ble_eq_true rfl) (by omega) rfl ?_
  refine wl_s (pc' := 201) ji_233_200 rfl rfl rfl ?_
  refine c0_gr (r := 145) (k := 23) C (by decide) sq_138 rfl ji_233_201 jf_233_35 ?_
  refine wl_s (pc' := 206) ji_233_204 rfl rfl rfl ?_
  refine wl_s (pc' := 207) ji_233_206 rfl rfl rfl ?_
  refine wl_isub (x := k + 1) (y := 1) (z := k) ji_233_207 (by omega) ?_
  refine wl_s (pc' := 210) ji_233_208 rfl rfl rfl ?_
  refine wl_s (pc' := 211) ji_233_210 rfl rfl rfl ?_
  refine c0_gr (r := 145) (k := 23) C (by decide) sq_138 rfl ji_233_211 jf_233_35 ?_
  refine wl_s (pc' := 216) ji_233_214 rfl rfl rfl ?_
  refine wl_s (pc' := 217) ji_233_216 rfl rfl rfl ?_
  refine wl_isub (x := k + 1) (y := 1) (z := k) ji_233_217 (by omega) ?_
  refine c0_ll (x := k) C (by decide) sq_145 (by omega) ji_233_218 (fun ld90 ld91 => ?_)
  rw [hx1]
  refine wl_s (pc' := 220) ji_233_219 rfl rfl rfl ?_
  refine c0_gr (r := 145) (k := 23) C (by decide) sq_138 rfl ji_233_220 jf_233_35 ?_
  refine wl_s (pc' := 225) ji_233_223 rfl rfl rfl ?_
  refine c0_ll (x := k + 1) C (by decide) sq_145 (by omega) ji_233_225 (fun ld100 ld101 => ?_)
  rw [hy1]
  refine wl_sc (d := d + 1) (as := [wp_i 6, wl_L x1, wl_L y1]) (rest := [wp_i k, .ref 145]) ji_233_226 jc_233_268 (Nat.le_of_ble_eq_true rfl) rfl (Nat.le_of_ble_eq_true rfl) rfl (by rw [jn_235]; rfl) (uc_235_6 (d := d) (a := x1) (b := y1) rx ry) (fun v1 h11 R => ?_)
  obtain ⟨rfl, rfl⟩ := R
  obtain ⟨cv, ecv⟩ : ∃ z9_, clp (x1 * y1) = z9_ := ⟨_, rfl⟩
  rw [ecv]
  show wl_R _ _ 233 229 [some (.ref 138), some (wp_i ci), some (wp_i c), some (wp_i b), some (wp_i (k + 1)), some (wp_i q), some (wp_i i), some (wp_i 6), some (wp_i v)] [wl_L cv, wp_i k, .ref 145] _ _
  refine c0_sl (x := k) (y := cv) C (by decide) sq_145 (by omega) ji_233_229 (fun h st120 st121 C => ?_)
  obtain ⟨s13, es13⟩ : ∃ z9_, up s 145 k cv = z9_ := ⟨_, rfl⟩
  rw [es13] at C
  refine wl_goto (t := 389) ji_233_230 rfl ?_
  refine wl_iinc (x := i) (z := i + 1) (lv' := [some (.ref 138), some (wp_i ci), some (wp_i c), some (wp_i b), some (wp_i (k + 1)), some (wp_i q), some (wp_i (i + 1)), some (wp_i 6), some (wp_i v)]) ji_233_389 rfl (Nat.le_of_ble_eq_true rfl) (by omega) rfl ?_
  refine wl_goto (t := 47) ji_233_392 rfl ?_
  exact hr _ (c0_mono C (by rw [← es13, ← ecv]))
theorem uc_233_7 {nn d : Nat} {h : mj_H} {s : sg_} {Q : Option Value → mj_H → Prop} (C : CS0 h s) {ci c b i v : Int} {l7 l8 : Option Value} (hc : 0 ≤ c ∧ c ≤ 2817) (hb : 0 ≤ b ∧ 0 ≤ i ∧ i ≤ 1000 ∧ b ≤ 2820) (hu : i < s 141 (c + 2)) (ho : s 141 (b + 2 * i) = 7) (hv : s 141 (b + 2 * i + 1) = v) {k q : Int} (hk : 0 ≤ k ∧ k < 330) (hq0 : 0 ≤ q ∧ q < 330) {x1 y1 : Int} (hx1 : s 145 k = x1) (hy1 : s 145 (k + 1) = y1) (rx : wp_r x1) (ry : wp_r y1) (hr : ∀ h1 : mj_H, CS0 h1 (up s 145 k (clp (if y1 = 0 then 0 else x1.tdiv y1))) → wl_R nn (d + 2) 233 47 [some (.ref 138), some (wp_i ci), some (wp_i c), some (wp_i b), some (wp_i (k + 1)), some (wp_i (q)), some (wp_i (i + 1)), some (wp_i 7), some (wp_i v)] [] h1 Q) : wl_R (nn + 1) (d + 2) 233 47 [some (.ref 138), some (wp_i ci), some (wp_i c), some (wp_i b), some (wp_i (k + 2)), some (wp_i q), some (wp_i i), l7, l8] [] h Q := by
  refine wl_s1 (pc' := 49) ji_233_47 rfl rfl rfl ?_
  refine wl_s (pc' := 50) ji_233_49 rfl rfl rfl ?_
  refine c0_gr (r := 141) (k := 2) C (by decide) sq_138 rfl ji_233_50 jf_233_16 ?_
  refine wl_s (pc' := 54) ji_233_53 rfl rfl rfl ?_
  refine wl_s (pc' := 55) ji_233_54 rfl rfl rfl ?_
  refine wl_iadd (x := c) (y := 2) (z := c + 2) ji_233_55 (by omega) ?_
  refine c0_l (x := c + 2) C (by decide) sq_141 (by omega) ji_233_56 (fun ld10 ld11 ld12 => ?_)
  refine wl_icmp (t := 395) ji_233_57 rfl (by omega) (by omega) (fun (hb2 : (s 141 (c + 2) : Int) ≤ i) => (by exfalso; omega)) (fun (hb2 : ¬ ((s 141 (c + 2) : Int) ≤ i)) => ?_)
  refine wl_s (pc' := 61) ji_233_60 rfl rfl rfl ?_
  refine c0_gr (r := 141) (k := 2) C (by decide) sq_138 rfl ji_233_61 jf_233_16 ?_
  refine wl_s (pc' := 65) ji_233_64 rfl rfl rfl ?_
  refine wl_s (pc' := 66) ji_233_65 rfl rfl rfl ?_
  refine wl_s (pc' := 68) ji_233_66 rfl rfl rfl ?_
  refine wl_imul (x := 2) (y := i) (z := 2 * i) ji_233_68 (by omega) ?_
  refine wl_iadd (x := b) (y := 2 * i) (z := b + (2 * i)) ji_233_69 (by omega) ?_
  refine c0_l (x := b + (2 * i)) C (by decide) sq_141 (by omega) ji_233_70 (fun ld30 ld31 ld32 => ?_)
  rw [ho] at ld32 ⊢
  refine wl_s (pc' := 73) (lv' := [some (.ref 138), some (wp_i ci), some (wp_i c), some (wp_i b), some (wp_i (k + 2)), some (wp_i q), some (wp_i i), some (wp_i 7), l8]) ji_233_71 rfl rfl rfl ?_
  refine wl_s (pc' := 74) ji_233_73 rfl rfl rfl ?_
  refine c0_gr (r := 141) (k := 2) C (by decide) sq_138 rfl ji_233_74 jf_233_16 ?_
  refine wl_s (pc' := 78) ji_233_77 rfl rfl rfl ?_
  refine wl_s (pc' := 79) ji_233_78 rfl rfl rfl ?_
  refine wl_s (pc' := 81) ji_233_79 rfl rfl rfl ?_
  refine wl_imul (x := 2) (y := i) (z := 2 * i) ji_233_81 (by omega) ?_
  refine wl_iadd (x := b) (y := 2 * i) (z := b + (2 * i)) ji_233_82 (by omega) ?_
  refine wl_s (pc' := 84) ji_233_83 rfl rfl rfl ?_
  refine wl_iadd (x := b + (2 * i)) (y := 1) (z := b + (2 * i) + 1) ji_233_84 (by omega) ?_
  refine c0_l (x := b + (2 * i) + 1) C (by decide) sq_141 (by omega) ji_233_85 (fun ld40 ld41 ld42 => ?_)
  rw [hv] at ld42 ⊢
  refine wl_s (pc' := 88) (lv' := [some (.ref 138), some (wp_i ci), some (wp_i c), some (wp_i b), some (wp_i (k + 2)), some (wp_i q), some (wp_i i), some (wp_i 7), some (wp_i v)]) ji_233_86 rfl rfl rfl ?_
  refine wl_s (pc' := 90) ji_233_88 rfl rfl rfl ?_
  refine wl_s (pc' := 91) ji_233_90 rfl rfl rfl ?_
  refine wl_icmp (t := 126) ji_233_91 rfl (by omega) (by omega) (fun (hb5 : (1 : Int) < 7) => ?_) (fun (hb5 : ¬ ((1 : Int) < 7)) => (by exfalso; omega))
  refine wl_s (pc' := 128) ji_233_126 rfl rfl rfl ?_
  refine wl_s (pc' := 129) ji_233_128 rfl rfl rfl ?_
  refine wl_icmp (t := 162) ji_233_129 rfl (by omega) (by omega) (fun (hb6 : ¬ (7 : Int) = 2) => ?_) (fun (hb6 : ¬ (¬ (7 : Int) = 2)) => (by exfalso; omega))
  refine wl_s (pc' := 164) ji_233_162 rfl rfl rfl ?_
  refine wl_s (pc' := 165) ji_233_164 rfl rfl rfl ?_
  refine wl_icmp (t := 190) ji_233_165 rfl (by omega) (by omega) (fun (hb7 : ¬ (7 : Int) = 3) => ?_) (fun (hb7 : ¬ (¬ (7 : Int) = 3)) => (by exfalso; omega))
  refine wl_s (pc' := 192) ji_233_190 rfl rfl rfl ?_
  refine wl_bp ji_233_192 rfl ?_
  refine wl_icmp (t := 233) ji_233_194 rfl (by omega) (by omega) (fun (hb8 : (10 : Int) ≤ 7) => (by exfalso; omega)) (fun (hb8 : ¬ ((10 : Int) ≤ 7)) => ?_)
  refine wl_iinc (x := k + 2) (z := k + 1) (lv' := [some (.ref 138), some (wp_i ci), some (wp_i c), some (wp_i b), some (wp_i (k + 1)), some (wp_i q), some (wp_i i), some (wp_i 7), some (wp_i v)]) ji_233_197 rfl (Nat.le_of_ble_eq_true rfl) (by omega) rfl ?_
  refine wl_s (pc' := 201) ji_233_200 rfl rfl rfl ?_
  refine c0_gr (r := 145) (k := 23) C (by decide) sq_138 rfl ji_233_201 jf_233_35 ?_
  refine wl_s (pc' := 206) ji_233_204 rfl rfl rfl ?_
  refine wl_s (pc' := 207) ji_233_206 rfl rfl rfl ?_
  refine wl_isub (x := k + 1) (y := 1) (z := k) ji_233_207 (by omega) ?_
  refine wl_s (pc' := 210) ji_233_208 rfl rfl rfl ?_
  refine wl_s (pc' := 211) ji_233_210 rfl rfl rfl ?_
  refine c0_gr (r := 145) (k := 23) C (by decide) sq_138 rfl ji_233_211 jf_233_35 ?_
  refine wl_s (pc' := 216) ji_233_214 rfl rfl rfl ?_
  refine wl_s (pc' := 217) ji_233_216 rfl rfl rfl ?_
  refine wl_isub (x := k + 1) (y := 1) (z := k) ji_233_217 (by omega) ?_
  refine c0_ll (x := k) C (by decide) sq_145 (by omega) ji_233_218 (fun ld90 ld91 => ?_)
  rw [hx1]
  refine wl_s (pc' := 220) ji_233_219 rfl rfl rfl ?_
  refine c0_gr (r := 145) (k := 23) C (by decide) sq_138 rfl ji_233_220 jf_233_35 ?_
  refine wl_s (pc' := 225) ji_233_223 rfl rfl rfl ?_
  refine c0_ll (x := k + 1) C (by decide) sq_145 (by omega) ji_233_225 (fun ld100 ld101 => ?_)
  rw [hy1]
  refine wl_sc (d := d + 1) (as := [wp_i 7, wl_L x1, wl_L y1]) (rest := [wp_i k, .ref 145]) ji_233_226 jc_233_268 (Nat.le_of_ble_eq_true rfl) rfl (Nat.le_of_ble_eq_true rfl) rfl (by rw [jn_235]; rfl) (uc_235_7 (d := d) (a := x1) (b := y1) rx ry) (fun v1 h11 R => ?_)
  obtain ⟨rfl, rfl⟩ := R
  obtain ⟨cv, ecv⟩ : ∃ z9_, clp (if y1 = 0 then 0 else x1.tdiv y1) = z9_ := ⟨_, rfl⟩
  rw [ecv]
  show wl_R _ _ 233 229 [some (.ref 138), some (wp_i ci), some (wp_i c), some (wp_i b), some (wp_i (k + 1)), some (wp_i q), some (wp_i i), some (wp_i 7), some (wp_i v)] [wl_L cv, wp_i k, .ref 145] _ _
  refine c0_sl (x := k) (y := cv) C (by decide) sq_145 (by omega) ji_233_229 (fun h st120 st121 C => ?_)
  obtain ⟨s13, es13⟩ : ∃ z9_, up s 145 k cv = z9_ := ⟨_, rfl⟩
  rw [es13] at C
  refine wl_goto (t := 389) ji_233_230 rfl ?_
  refine wl_iinc (x := i) (z := i + 1) (lv' := [some (.ref 138), some (wp_i ci), some (wp_i c), some (wp_i b), some (wp_i (k + 1)), some (wp_i q), some (wp_i (i + 1)), some (wp_i 7), some (wp_i v)]) ji_233_389 rfl (Nat.le_of_ble_eq_true rfl) (by omega) rfl ?_
  refine wl_goto (t := 47) ji_233_392 rfl ?_
  exact hr _ (c0_mono C (by rw [← es13, ← ecv]))
theorem uc_233_10 {nn d : Nat} {h : mj_H} {s : sg_} {Q : Option Value → mj_H → Prop} (C : CS0 h s) {ci c b i v : Int} {l7 l8 : Option Value} (hc : 0 ≤ c ∧ c ≤ 2817) (hb : 0 ≤ b ∧ 0 ≤ i ∧ i ≤ 1000 ∧ b ≤ 2820) (hu : i < s 141 (c + 2)) (ho : s 141 (b + 2 * i) = 10) (hv : s 141 (b + 2 * i + 1) = v) {k q : Int} (hk : 0 ≤ k ∧ k < 330) (hq0 : 0 ≤ q ∧ q < 330) {x1 y1 : Int} (hx1 : s 145 k = x1) (hy1 : s 145 (k + 1) = y1) (rx : wp_r x1) (ry : wp_r y1) (hr : ∀ (h1 : mj_H) (y : Int), (y = 0 ∨ y = 1) → (y = 1 ↔ x1 < y1) → CS0 h1 (up s 146 q y) → wl_R nn (d + 2) 233 47 [some (.ref 138), some (wp_i ci), some (wp_i c), some (wp_i b), some (wp_i (k)), some (wp_i (q + 1)), some (wp_i (i + 1)), some (wp_i 10), some (wp_i v)] [] h1 Q) : wl_R (nn + 1) (d + 2) 233 47 [some (.ref 138), some (wp_i ci), some (wp_i c), some (wp_i b), some (wp_i (k + 2)), some (wp_i q), some (wp_i i), l7, l8] [] h Q := by
  refine wl_s1 (pc' := 49) ji_233_47 rfl rfl rfl ?_
  refine wl_s (pc' := 50) ji_233_49 rfl rfl rfl ?_
  refine c0_gr (r := 141) (k := 2) C (by decide) sq_138 rfl ji_233_50 jf_233_16 ?_
  refine wl_s (pc' := 54) ji_233_53 rfl rfl rfl ?_
  refine wl_s (pc' := 55) ji_233_54 rfl rfl rfl ?_
  refine wl_iadd (x := c) (y := 2) (z := c + 2) ji_233_55 (by omega) ?_
  refine c0_l (x := c + 2) C (by decide) sq_141 (by omega) ji_233_56 (fun ld10 ld11 ld12 => ?_)
  refine wl_icmp (t := 395) ji_233_57 rfl (by omega) (by omega) (fun (hb2 : (s 141 (c + 2) : Int) ≤ i) => (by exfalso; omega)) (fun (hb2 : ¬ ((s 141 (c + 2) : Int) ≤ i)) => ?_)
  refine wl_s (pc' := 61) ji_233_60 rfl rfl rfl ?_
  refine c0_gr (r := 141) (k := 2) C (by decide) sq_138 rfl ji_233_61 jf_233_16 ?_
  refine wl_s (pc' := 65) ji_233_64 rfl rfl rfl ?_
  refine wl_s (pc' := 66) ji_233_65 rfl rfl rfl ?_
  refine wl_s (pc' := 68) ji_233_66 rfl rfl rfl ?_
  refine wl_imul (x := 2) (y := i) (z := 2 * i) ji_233_68 (by omega) ?_
  refine wl_iadd (x := b) (y := 2 * i) (z := b + (2 * i)) ji_233_69 (by omega) ?_
  refine c0_l (x := b + (2 * i)) C (by decide) sq_141 (by omega) ji_233_70 (fun ld30 ld31 ld32 => ?_)
  rw [ho] at ld32 ⊢
  refine wl_s (pc' := 73) (lv' := [some (.ref 138), some (wp_i ci), some (wp_i c), some (wp_i b), some (wp_i (k + 2)), some (wp_i q), some (wp_i i), some (wp_i 10), l8]) ji_233_71 rfl rfl rfl ?_
  refine wl_s (pc' := 74) ji_233_73 rfl rfl rfl ?_
  refine c0_gr (r := 141) (k := 2) C (by decide) sq_138 rfl ji_233_74 jf_233_16 ?_
  refine wl_s (pc' := 78) ji_233_77 rfl rfl rfl ?_
  refine wl_s (pc' := 79) ji_233_78 rfl rfl rfl ?_
  refine wl_s (pc' := 81) ji_233_79 rfl rfl rfl ?_
  refine wl_imul (x := 2) (y := i) (z := 2 * i) ji_233_81 (by omega) ?_
  refine wl_iadd (x := b) (y := 2 * i) (z := b + (2 * i)) ji_233_82 (by omega) ?_
  refine wl_s (pc' := 84) ji_233_83 rfl rfl rfl ?_
  refine wl_iadd (x := b + (2 * i)) (y := 1) (z := b + (2 * i) + 1) ji_233_84 (by omega) ?_
  refine c0_l (x := b + (2 * i) + 1) C (by decide) sq_141 (by omega) ji_233_85 (fun ld40 ld41 ld42 => ?_)
  rw [hv] at ld42 ⊢
  refine wl_s (pc' := 88) (lv' := [some (.ref 138), some (wp_i ci), some (wp_i c), some (wp_i b), some (wp_i (k + 2)), some (wp_i q), some (wp_i i), some (wp_i 10), some (wp_i v)]) ji_233_86 rfl rfl rfl ?_
  refine wl_s (pc' := 90) ji_233_88 rfl rfl rfl ?_
  refine wl_s (pc' := 91) ji_233_90 rfl rfl rfl ?_
  refine wl_icmp (t := 126) ji_233_91 rfl (by omega) (by omega) (fun (hb5 : (1 : Int) < 10) => ?_) (fun (hb5 : ¬ ((1 : Int) < 10)) => (by exfalso; omega))
  refine wl_s (pc' := 128) ji_233_126 rfl rfl rfl ?_
  refine wl_s (pc' := 129) ji_233_128 rfl rfl rfl ?_
  refine wl_icmp (t := 162) ji_233_129 rfl (by omega) (by omega) (fun (hb6 : ¬ (10 : Int) = 2) => ?_) (fun (hb6 : ¬ (¬ (10 : Int) = 2)) => (by exfalso; omega))
  refine wl_s (pc' := 164) ji_233_162 rfl rfl rfl ?_
  refine wl_s (pc' := 165) ji_233_164 rfl rfl rfl ?_
  refine wl_icmp (t := 190) ji_233_165 rfl (by omega) (by omega) (fun (hb7 : ¬ (10 : Int) = 3) => ?_) (fun (hb7 : ¬ (¬ (10 : Int) = 3)) => (by exfalso; omega))
  refine wl_s (pc' := 192) ji_233_190 rfl rfl rfl ?_
  refine wl_bp ji_233_192 rfl ?_
  refine wl_icmp (t := 233) ji_233_194 rfl (by omega) (by omega) (fun (hb8 : (10 : Int) ≤ 10) => ?_) (fun (hb8 : ¬ ((10 : Int) ≤ 10)) => (by exfalso; omega))
  refine wl_s (pc' := 235) ji_233_233 rfl rfl rfl ?_
  refine wl_bp ji_233_235 rfl ?_
  refine wl_icmp (t := 277) ji_233_237 rfl (by omega) (by omega) (fun (hb9 : (20 : Int) ≤ 10) => (by exfalso; omega)) (fun (hb9 : ¬ ((20 : Int) ≤ 10)) => ?_)
  refine wl_iinc (x := k + 2) (z := k) (lv' := [some (.ref 138), some (wp_i ci), some (wp_i c), some (wp_i b), some (wp_i k), some (wp_i q), some (wp_i i), some (wp_i 10), some (wp_i v)]) ji_233_240 rfl (Nat.le_of_ble_eq_true rfl) (by omega) rfl ?_
  refine wl_s (pc' := 244) ji_233_243 rfl rfl rfl ?_
  refine c0_gr (r := 146) (k := 24) C (by decide) sq_138 rfl ji_233_244 jf_233_39 ?_
  refine wl_s (pc' := 249) ji_233_247 rfl rfl rfl ?_
  refine wl_s (pc' := 251) ji_233_249 rfl rfl rfl ?_
  refine wl_s (pc' := 252) ji_233_251 rfl rfl rfl ?_
  refine c0_gr (r := 145) (k := 23) C (by decide) sq_138 rfl ji_233_252 jf_233_35 ?_
  refine wl_s (pc' := 257) ji_233_255 rfl rfl rfl ?_
  refine c0_ll (x := k) C (by decide) sq_145 (by omega) ji_233_257 (fun ld100 ld101 => ?_)
  rw [hx1]
  refine wl_s (pc' := 259) ji_233_258 rfl rfl rfl ?_
  refine c0_gr (r := 145) (k := 23) C (by decide) sq_138 rfl ji_233_259 jf_233_35 ?_
  refine wl_s (pc' := 264) ji_233_262 rfl rfl rfl ?_
  refine wl_s (pc' := 265) ji_233_264 rfl rfl rfl ?_
  refine wl_iadd (x := k) (y := 1) (z := k + 1) ji_233_265 (by omega) ?_
  refine c0_ll (x := k + 1) C (by decide) sq_145 (by omega) ji_233_266 (fun ld110 ld111 => ?_)
  rw [hy1]
  refine wl_sc (d := d + 1) (as := [wp_i 10, wl_L x1, wl_L y1]) (rest := [wp_i q, .ref 146]) ji_233_267 jc_233_272 (Nat.le_of_ble_eq_true rfl) rfl (Nat.le_of_ble_eq_true rfl) rfl (by rw [jn_237]; rfl) (uc_237_10 (d := d + 1) (a := x1) (b := y1) rx ry) (fun v1 h12 R => ?_)
  obtain ⟨rfl, y13, rfl, hy13a, hy13b⟩ := R
  show wl_R _ _ 233 270 [some (.ref 138), some (wp_i ci), some (wp_i c), some (wp_i b), some (wp_i k), some (wp_i q), some (wp_i i), some (wp_i 10), some (wp_i v)] [wp_i y13, wp_i q, .ref 146] _ _
  refine c0_sb (x := q) (y := y13) C (by decide) sq_146 (by omega) (by omega) ji_233_270 (fun h st140 st141 C => ?_)
  obtain ⟨s15, es15⟩ : ∃ z9_, up s 146 q y13 = z9_ := ⟨_, rfl⟩
  rw [es15] at C
  refine wl_iinc (x := q) (z := q + 1) (lv' := [some (.ref 138), some (wp_i ci), some (wp_i c), some (wp_i b), some (wp_i k), some (wp_i (q + 1)), some (wp_i i), some (wp_i 10), some (wp_i v)]) ji_233_271 rfl (Nat.le_of_ble_eq_true rfl) (by omega) rfl ?_
  refine wl_goto (t := 389) ji_233_274 rfl ?_
  refine wl_iinc (x := i) (z := i + 1) (lv' := [some (.ref 138), some (wp_i ci), some (wp_i c), some (wp_i b), some (wp_i k), some (wp_i (q + 1)), some (wp_i (i + 1)), some (wp_i 10), some (wp_i v)]) ji_233_389 rfl (Nat.le_of_ble_eq_true rfl) (by omega) rfl ?_
  refine wl_goto (t := 47) ji_233_392 rfl ?_
  exact hr _ y13 hy13a hy13b (c0_mono C (by rw [← es15]))
theorem uc_233_11 {nn d : Nat} {h : mj_H} {s : sg_} {Q : Option Value → mj_H → Prop} (C : CS0 h s) {ci c b i v : Int} {l7 l8 : Option Value} (hc : 0 ≤ c ∧ c ≤ 2817) (hb : 0 ≤ b ∧ 0 ≤ i ∧ i ≤ 1000 ∧ b ≤ 2820) (hu : i < s 141 (c + 2)) (ho : s 141 (b + 2 * i) = 11) (hv : s 141 (b + 2 * i + 1) = v) {k q : Int} (hk : 0 ≤ k ∧ k < 330) (hq0 : 0 ≤ q ∧ q < 330) {x1 y1 : Int} (hx1 : s 145 k = x1) (hy1 : s 145 (k + 1) = y1) (rx : wp_r x1) (ry : wp_r y1) (hr : ∀ (h1 : mj_H) (y : Int), (y = 0 ∨ y = 1) → (y = 1 ↔ x1 ≤ y1) → CS0 h1 (up s 146 q y) → wl_R nn (d + 2) 233 47 [some (.ref 138), some (wp_i ci), some (wp_i c), some (wp_i b), some (wp_i (k)), some (wp_i (q + 1)), some (wp_i (i + 1)), some (wp_i 11), some (wp_i v)] [] h1 Q) : wl_R (nn + 1) (d + 2) 233 47 [some (.ref 138), some (wp_i ci), some (wp_i c), some (wp_i b), some (wp_i (k + 2)), some (wp_i q), some (wp_i i), l7, l8] [] h Q := by
  refine wl_s1 (pc' := 49) ji_233_47 rfl rfl rfl ?_
  refine wl_s (pc' := 50) ji_233_49 rfl rfl rfl ?_
  refine c0_gr (r := 141) (k := 2) C (by decide) sq_138 rfl ji_233_50 jf_233_16 ?_
  refine wl_s (pc' := 54) ji_233_53 rfl rfl rfl ?_
  refine wl_s (pc' := 55) ji_233_54 rfl rfl rfl ?_
  refine wl_iadd (x := c) (y := 2) (z := c + 2) ji_233_55 (by omega) ?_
  refine c0_l (x := c + 2) C (by decide) sq_141 (by omega) ji_233_56 (fun ld10 ld11 ld12 => ?_)
  refine wl_icmp (t := 395) ji_233_57 rfl (by omega) (by omega) (fun (hb2 : (s 141 (c + 2) : Int) ≤ i) => (by exfalso; omega)) (fun (hb2 : ¬ ((s 141 (c + 2) : Int) ≤ i)) => ?_)
  refine wl_s (pc' := 61) ji_233_60 rfl rfl rfl ?_
  refine c0_gr (r := 141) (k := 2) C (by decide) sq_138 rfl ji_233_61 jf_233_16 ?_
  refine wl_s (pc' := 65) ji_233_64 rfl rfl rfl ?_
  refine wl_s (pc' := 66) ji_233_65 rfl rfl rfl ?_
  refine wl_s (pc' := 68) ji_233_66 rfl rfl rfl ?_
  refine wl_imul (x := 2) (y := i) (z := 2 * i) ji_233_68 (by omega) ?_
  refine wl_iadd (x := b) (y := 2 * i) (z := b + (2 * i)) ji_233_69 (by omega) ?_
  refine c0_l (x := b + (2 * i)) C (by decide) sq_141 (by omega) ji_233_70 (fun ld30 ld31 ld32 => ?_)
  rw [ho] at ld32 ⊢
  refine wl_s (pc' := 73) (lv' := [some (.ref 138), some (wp_i ci), some (wp_i c), some (wp_i b), some (wp_i (k + 2)), some (wp_i q), some (wp_i i), some (wp_i 11), l8]) ji_233_71 rfl rfl rfl ?_
  refine wl_s (pc' := 74) ji_233_73 rfl rfl rfl ?_
  refine c0_gr (r := 141) (k := 2) C (by decide) sq_138 rfl ji_233_74 jf_233_16 ?_
  refine wl_s (pc' := 78) ji_233_77 rfl rfl rfl ?_
  refine wl_s (pc' := 79) ji_233_78 rfl rfl rfl ?_
  refine wl_s (pc' := 81) ji_233_79 rfl rfl rfl ?_
  refine wl_imul (x := 2) (y := i) (z := 2 * i) ji_233_81 (by omega) ?_
  refine wl_iadd (x := b) (y := 2 * i) (z := b + (2 * i)) ji_233_82 (by omega) ?_
  refine wl_s (pc' := 84) ji_233_83 rfl rfl rfl ?_
  refine wl_iadd (x := b + (2 * i)) (y := 1) (z := b + (2 * i) + 1) ji_233_84 (by omega) ?_
  refine c0_l (x := b + (2 * i) + 1) C (by decide) sq_141 (by omega) ji_233_85 (fun ld40 ld41 ld42 => ?_)
  rw [hv] at ld42 ⊢
  refine wl_s (pc' := 88) (lv' := [some (.ref 138), some (wp_i ci), some (wp_i c), some (wp_i b), some (wp_i (k + 2)), some (wp_i q), some (wp_i i), some (wp_i 11), some (wp_i v)]) ji_233_86 rfl rfl rfl ?_
  refine wl_s (pc' := 90) ji_233_88 rfl rfl rfl ?_
  refine wl_s (pc' := 91) ji_233_90 rfl rfl rfl ?_
  refine wl_icmp (t := 126) ji_233_91 rfl (by omega) (by omega) (fun (hb5 : (1 : Int) < 11) => ?_) (fun (hb5 : ¬ ((1 : Int) < 11)) => (by exfalso; omega))
  refine wl_s (pc' := 128) ji_233_126 rfl rfl rfl ?_
  refine wl_s (pc' := 129) ji_233_128 rfl rfl rfl ?_
  refine wl_icmp (t := 162) ji_233_129 rfl (by omega) (by omega) (fun (hb6 : ¬ (11 : Int) = 2) => ?_) (fun (hb6 : ¬ (¬ (11 : Int) = 2)) => (by exfalso; omega))
  refine wl_s (pc' := 164) ji_233_162 rfl rfl rfl ?_
  refine wl_s (pc' := 165) ji_233_164 rfl rfl rfl ?_
  refine wl_icmp (t := 190) ji_233_165 rfl (by omega) (by omega) (fun (hb7 : ¬ (11 : Int) = 3) => ?_) (fun (hb7 : ¬ (¬ (11 : Int) = 3)) => (by exfalso; omega))
  refine wl_s (pc' := 192) ji_233_190 rfl rfl rfl ?_
  refine wl_bp ji_233_192 rfl ?_
  refine wl_icmp (t := 233) ji_233_194 rfl (by omega) (by omega) (fun (hb8 : (10 : Int) ≤ 11) => ?_) (fun (hb8 : ¬ ((10 : Int) ≤ 11)) => (by exfalso; omega))
  refine wl_s (pc' := 235) ji_233_233 rfl rfl rfl ?_
  refine wl_bp ji_233_235 rfl ?_
  refine wl_icmp (t := 277) ji_233_237 rfl (by omega) (by omega) (fun (hb9 : (20 : Int) ≤ 11) => (by exfalso; omega)) (fun (hb9 : ¬ ((20 : Int) ≤ 11)) => ?_)
  refine wl_iinc (x := k + 2) (z := k) (lv' := [some (.ref 138), some (wp_i ci), some (wp_i c), some (wp_i b), some (wp_i k), some (wp_i q), some (wp_i i), some (wp_i 11), some (wp_i v)]) ji_233_240 rfl (Nat.le_of_ble_eq_true rfl) (by omega) rfl ?_
  refine wl_s (pc' := 244) ji_233_243 rfl rfl rfl ?_
  refine c0_gr (r := 146) (k := 24) C (by decide) sq_138 rfl ji_233_244 jf_233_39 ?_
  refine wl_s (pc' := 249) ji_233_247 rfl rfl rfl ?_
  refine wl_s (pc' := 251) ji_233_249 rfl rfl rfl ?_
  refine wl_s (pc' := 252) ji_233_251 rfl rfl rfl ?_
  refine c0_gr (r := 145) (k := 23) C (by decide) sq_138 rfl ji_233_252 jf_233_35 ?_
  refine wl_s (pc' := 257) ji_233_255 rfl rfl rfl ?_
  refine c0_ll (x := k) C (by decide) sq_145 (by omega) ji_233_257 (fun ld100 ld101 => ?_)
  rw [hx1]
  refine wl_s (pc' := 259) ji_233_258 rfl rfl rfl ?_
  refine c0_gr (r := 145) (k := 23) C (by decide) sq_138 rfl ji_233_259 jf_233_35 ?_
  refine wl_s (pc' := 264) ji_233_262 rfl rfl rfl ?_
  refine wl_s (pc' := 265) ji_233_264 rfl rfl rfl ?_
  refine wl_iadd (x := k) (y := 1) (z := k + 1) ji_233_265 (by omega) ?_
  refine c0_ll (x := k + 1) C (by decide) sq_145 (by omega) ji_233_266 (fun ld110 ld111 => ?_)
  rw [hy1]
  refine wl_sc (d := d + 1) (as := [wp_i 11, wl_L x1, wl_L y1]) (rest := [wp_i q, .ref 146]) ji_233_267 jc_233_272 (Nat.le_of_ble_eq_true rfl) rfl (Nat.le_of_ble_eq_true rfl) rfl (by rw [jn_237]; rfl) (uc_237_11 (d := d + 1) (a := x1) (b := y1) rx ry) (fun v1 h12 R => ?_)
  obtain ⟨rfl, y13, rfl, hy13a, hy13b⟩ := R
  show wl_R _ _ 233 270 [some (.ref 138), some (wp_i ci), some (wp_i c), some (wp_i b), some (wp_i k), some (wp_i q), some (wp_i i), some (wp_i 11), some (wp_i v)] [wp_i y13, wp_i q, .ref 146] _ _
  refine c0_sb (x := q) (y := y13) C (by decide) sq_146 (by omega) (by omega) ji_233_270 (fun h st140 st141 C => ?_)
  obtain ⟨s15, es15⟩ : ∃ z9_, up s 146 q y13 = z9_ := ⟨_, rfl⟩
  rw [es15] at C
  refine wl_iinc (x := q) (z := q + 1) (lv' := [some (.ref 138), some (wp_i ci), some (wp_i c), some (wp_i b), some (wp_i k), some (wp_i (q + 1)), some (wp_i i), some (wp_i 11), some (wp_i v)]) ji_233_271 rfl (Nat.le_of_ble_eq_true rfl) (by omega) rfl ?_
  refine wl_goto (t := 389) ji_233_274 rfl ?_
  refine wl_iinc (x := i) (z := i + 1) (lv' := [some (.ref 138), some (wp_i ci), some (wp_i c), some (wp_i b), some (wp_i k), some (wp_i (q + 1)), some (wp_i (i + 1)), some (wp_i 11), some (wp_i v)]) ji_233_389 rfl (Nat.le_of_ble_eq_true rfl) (by omega) rfl ?_
  refine wl_goto (t := 47) ji_233_392 rfl ?_
  exact hr _ y13 hy13a hy13b (c0_mono C (by rw [← es15]))
theorem uc_233_12 {nn d : Nat} {h : mj_H} {s : sg_} {Q : Option Value → mj_H → Prop} (C : CS0 h s) {ci c b i v : Int} {l7 l8 : Option Value} (hc : 0 ≤ c ∧ c ≤ 2817) (hb : 0 ≤ b ∧ 0 ≤ i ∧ i ≤ 1000 ∧ b ≤ 2820) (hu : i < s 141 (c + 2)) (ho : s 141 (b + 2 * i) = 12) (hv : s 141 (b + 2 * i + 1) = v) {k q : Int} (hk : 0 ≤ k ∧ k < 330) (hq0 : 0 ≤ q ∧ q < 330) {x1 y1 : Int} (hx1 : s 145 k = x1) (hy1 : s 145 (k + 1) = y1) (rx : wp_r x1) (ry : wp_r y1) (hr : ∀ (h1 : mj_H) (y : Int), (y = 0 ∨ y = 1) → (y = 1 ↔ y1 < x1) → CS0 h1 (up s 146 q y) → wl_R nn (d + 2) 233 47 [some (.ref 138), some (wp_i ci), some (wp_i c), some (wp_i b), some (wp_i (k)), some (wp_i (q + 1)), some (wp_i (i + 1)), some (wp_i 12), some (wp_i v)] [] h1 Q) : wl_R (nn + 1) (d + 2) 233 47 [some (.ref 138), some (wp_i ci), some (wp_i c), some (wp_i b), some (wp_i (k + 2)), some (wp_i q), some (wp_i i), l7, l8] [] h Q := by
  refine wl_s1 (pc' := 49) ji_233_47 rfl rfl rfl ?_
  refine wl_s (pc' := 50) ji_233_49 rfl rfl rfl ?_
  refine c0_gr (r := 141) (k := 2) C (by decide) sq_138 rfl ji_233_50 jf_233_16 ?_
  refine wl_s (pc' := 54) ji_233_53 rfl rfl rfl ?_
  refine wl_s (pc' := 55) ji_233_54 rfl rfl rfl ?_
  refine wl_iadd (x := c) (y := 2) (z := c + 2) ji_233_55 (by omega) ?_
  refine c0_l (x := c + 2) C (by decide) sq_141 (by omega) ji_233_56 (fun ld10 ld11 ld12 => ?_)
  refine wl_icmp (t := 395) ji_233_57 rfl (by omega) (by omega) (fun (hb2 : (s 141 (c + 2) : Int) ≤ i) => (by exfalso; omega)) (fun (hb2 : ¬ ((s 141 (c + 2) : Int) ≤ i)) => ?_)
  refine wl_s (pc' := 61) ji_233_60 rfl rfl rfl ?_
  refine c0_gr (r := 141) (k := 2) C (by decide) sq_138 rfl ji_233_61 jf_233_16 ?_
  refine wl_s (pc' := 65) ji_233_64 rfl rfl rfl ?_
  refine wl_s (pc' := 66) ji_233_65 rfl rfl rfl ?_
  refine wl_s (pc' := 68) ji_233_66 rfl rfl rfl ?_
  refine wl_imul (x := 2) (y := i) (z := 2 * i) ji_233_68 (by omega) ?_
  refine wl_iadd (x := b) (y := 2 * i) (z := b + (2 * i)) ji_233_69 (by omega) ?_
  refine c0_l (x := b + (2 * i)) C (by decide) sq_141 (by omega) ji_233_70 (fun ld30 ld31 ld32 => ?_)
  rw [ho] at ld32 ⊢
  refine wl_s (pc' := 73) (lv' := [some (.ref 138), some (wp_i ci), some (wp_i c), some (wp_i b), some (wp_i (k + 2)), some (wp_i q), some (wp_i i), some (wp_i 12), l8]) ji_233_71 rfl rfl rfl ?_
  refine wl_s (pc' := 74) ji_233_73 rfl rfl rfl ?_
  refine c0_gr (r := 141) (k := 2) C (by decide) sq_138 rfl ji_233_74 jf_233_16 ?_
  refine wl_s (pc' := 78) ji_233_77 rfl rfl rfl ?_
  refine wl_s (pc' := 79) ji_233_78 rfl rfl rfl ?_
  refine wl_s (pc' := 81) ji_233_79 rfl rfl rfl ?_
  refine wl_imul (x := 2) (y := i) (z := 2 * i) ji_233_81 (by omega) ?_
  refine wl_iadd (x := b) (y := 2 * i) (z := b + (2 * i)) ji_233_82 (by omega) ?_
  refine wl_s (pc' := 84) ji_233_83 rfl rfl rfl ?_
  refine wl_iadd (x := b + (2 * i)) (y := 1) (z := b + (2 * i) + 1) ji_233_84 (by omega) ?_
  refine c0_l (x := b + (2 * i) + 1) C (by decide) sq_141 (by omega) ji_233_85 (fun ld40 ld41 ld42 => ?_)
  rw [hv] at ld42 ⊢
  refine wl_s (pc' := 88) (lv' := [some (.ref 138), some (wp_i ci), some (wp_i c), some (wp_i b), some (wp_i (k + 2)), some (wp_i q), some (wp_i i), some (wp_i 12), some (wp_i v)]) ji_233_86 rfl rfl rfl ?_
  refine wl_s (pc' := 90) ji_233_88 rfl rfl rfl ?_
  refine wl_s (pc' := 91) ji_233_90 rfl rfl rfl ?_
  refine wl_icmp (t := 126) ji_233_91 rfl (by omega) (by omega) (fun (hb5 : (1 : Int) < 12) => ?_) (fun (hb5 : ¬ ((1 : Int) < 12)) => (by exfalso; omega))
  refine wl_s (pc' := 128) ji_233_126 rfl rfl rfl ?_
  refine wl_s (pc' := 129) ji_233_128 rfl rfl rfl ?_
  refine wl_icmp (t := 162) ji_233_129 rfl (by omega) (by omega) (fun (hb6 : ¬ (12 : Int) = 2) => ?_) (fun (hb6 : ¬ (¬ (12 : Int) = 2)) => (by exfalso; omega))
  refine wl_s (pc' := 164) ji_233_162 rfl rfl rfl ?_
  refine wl_s (pc' := 165) ji_233_164 rfl rfl rfl ?_
  refine wl_icmp (t := 190) ji_233_165 rfl (by omega) (by omega) (fun (hb7 : ¬ (12 : Int) = 3) => ?_) (fun (hb7 : ¬ (¬ (12 : Int) = 3)) => (by exfalso; omega))
  refine wl_s (pc' := 192) ji_233_190 rfl rfl rfl ?_
  refine wl_bp ji_233_192 rfl ?_
  refine wl_icmp (t := 233) ji_233_194 rfl (by omega) (by omega) (fun (hb8 : (10 : Int) ≤ 12) => ?_) (fun (hb8 : ¬ ((10 : Int) ≤ 12)) => (by exfalso; omega))
  refine wl_s (pc' := 235) ji_233_233 rfl rfl rfl ?_
  refine wl_bp ji_233_235 rfl ?_
  refine wl_icmp (t := 277) ji_233_237 rfl (by omega) (by omega) (fun (hb9 : (20 : Int) ≤ 12) => (by exfalso; omega)) (fun (hb9 : ¬ ((20 : Int) ≤ 12)) => ?_)
  refine wl_iinc (x := k + 2) (z := k) (lv' := [some (.ref 138), some (wp_i ci), some (wp_i c), some (wp_i b), some (wp_i k), some (wp_i q), some (wp_i i), some (wp_i 12), some (wp_i v)]) ji_233_240 rfl (Nat.le_of_ble_eq_true rfl) (by omega) rfl ?_
  refine wl_s (pc' := 244) ji_233_243 rfl rfl rfl ?_
  refine c0_gr (r := 146) (k := 24) C (by decide) sq_138 rfl ji_233_244 jf_233_39 ?_
  refine wl_s (pc' := 249) ji_233_247 rfl rfl rfl ?_
  refine wl_s (pc' := 251) ji_233_249 rfl rfl rfl ?_
  refine wl_s (pc' := 252) ji_233_251 rfl rfl rfl ?_
  refine c0_gr (r := 145) (k := 23) C (by decide) sq_138 rfl ji_233_252 jf_233_35 ?_
  refine wl_s (pc' := 257) ji_233_255 rfl rfl rfl ?_
  refine c0_ll (x := k) C (by decide) sq_145 (by omega) ji_233_257 (fun ld100 ld101 => ?_)
  rw [hx1]
  refine wl_s (pc' := 259) ji_233_258 rfl rfl rfl ?_
  refine c0_gr (r := 145) (k := 23) C (by decide) sq_138 rfl ji_233_259 jf_233_35 ?_
  refine wl_s (pc' := 264) ji_233_262 rfl rfl rfl ?_
  refine wl_s (pc' := 265) ji_233_264 rfl rfl rfl ?_
  refine wl_iadd (x := k) (y := 1) (z := k + 1) ji_233_265 (by omega) ?_
  refine c0_ll (x := k + 1) C (by decide) sq_145 (by omega) ji_233_266 (fun ld110 ld111 => ?_)
  rw [hy1]
  refine wl_sc (d := d + 1) (as := [wp_i 12, wl_L x1, wl_L y1]) (rest := [wp_i q, .ref 146]) ji_233_267 jc_233_272 (Nat.le_of_ble_eq_true rfl) rfl (Nat.le_of_ble_eq_true rfl) rfl (by rw [jn_237]; rfl) (uc_237_12 (d := d + 1) (a := x1) (b := y1) rx ry) (fun v1 h12 R => ?_)
  obtain ⟨rfl, y13, rfl, hy13a, hy13b⟩ := R
  show wl_R _ _ 233 270 [some (.ref 138), some (wp_i ci), some (wp_i c), some (wp_i b), some (wp_i k), some (wp_i q), some (wp_i i), some (wp_i 12), some (wp_i v)] [wp_i y13, wp_i q, .ref 146] _ _
  refine c0_sb (x := q) (y := y13) C (by decide) sq_146 (by omega) (by omega) ji_233_270 (fun h st140 st141 C => ?_)
  obtain ⟨s15, es15⟩ : ∃ z9_, up s 146 q y13 = z9_ := ⟨_, rfl⟩
  rw [es15] at C
  refine wl_iinc (x := q) (z := q + 1) (lv' := [some (.ref 138), some (wp_i ci), some (wp_i c), some (wp_i b), some (wp_i k), some (wp_i (q + 1)), some (wp_i i), some (wp_i 12), some (wp_i v)]) ji_233_271 rfl (Nat.le_of_ble_eq_true rfl) (by omega) rfl ?_
  refine wl_goto (t := 389) ji_233_274 rfl ?_
  refine wl_iinc (x := i) (z := i + 1) (lv' := [some (.ref 138), some (wp_i ci), some (wp_i c), some (wp_i b), some (wp_i k), some (wp_i (q + 1)), some (wp_i (i + 1)), some (wp_i 12), some (wp_i v)]) ji_233_389 rfl (Nat.le_of_ble_eq_true rfl) (by omega) rfl ?_
  refine wl_goto (t := 47) ji_233_392 rfl ?_
  exact hr _ y13 hy13a hy13b (c0_mono C (by rw [← es15]))
theorem uc_233_13 {nn d : Nat} {h : mj_H} {s : sg_} {Q : Option Value → mj_H → Prop} (C : CS0 h s) {ci c b i v : Int} {l7 l8 : Option Value} (hc : 0 ≤ c ∧ c ≤ 2817) (hb : 0 ≤ b ∧ 0 ≤ i ∧ i ≤ 1000 ∧ b ≤ 2820) (hu : i < s 141 (c + 2)) (ho : s 141 (b + 2 * i) = 13) (hv : s 141 (b + 2 * i + 1) = v) {k q : Int} (hk : 0 ≤ k ∧ k < 330) (hq0 : 0 ≤ q ∧ q < 330) {x1 y1 : Int} (hx1 : s 145 k = x1) (hy1 : s 145 (k + 1) = y1) (rx : wp_r x1) (ry : wp_r y1) (hr : ∀ (h1 : mj_H) (y : Int), (y = 0 ∨ y = 1) → (y = 1 ↔ y1 ≤ x1) → CS0 h1 (up s 146 q y) → wl_R nn (d + 2) 233 47 [some (.ref 138), some (wp_i ci), some (wp_i c), some (wp_i b), some (wp_i (k)), some (wp_i (q + 1)), some (wp_i (i + 1)), some (wp_i 13), some (wp_i v)] [] h1 Q) : wl_R (nn + 1) (d + 2) 233 47 [some (.ref 138), some (wp_i ci), some (wp_i c), some (wp_i b), some (wp_i (k + 2)), some (wp_i q), some (wp_i i), l7, l8] [] h Q := by
  refine wl_s1 (pc' := 49) ji_233_47 rfl rfl rfl ?_
  refine wl_s (pc' := 50) ji_233_49 rfl rfl rfl ?_
  refine c0_gr (r := 141) (k := 2) C (by decide) sq_138 rfl ji_233_50 jf_233_16 ?_
  refine wl_s (pc' := 54) ji_233_53 rfl rfl rfl ?_
  refine wl_s (pc' := 55) ji_233_54 rfl rfl rfl ?_
  refine wl_iadd (x := c) (y := 2) (z := c + 2) ji_233_55 (by omega) ?_
  refine c0_l (x := c + 2) C (by decide) sq_141 (by omega) ji_233_56 (fun ld10 ld11 ld12 => ?_)
  refine wl_icmp (t := 395) ji_233_57 rfl (by omega) (by omega) (fun (hb2 : (s 141 (c + 2) : Int) ≤ i) => (by exfalso; omega)) (fun (hb2 : ¬ ((s 141 (c + 2) : Int) ≤ i)) => ?_)
  refine wl_s (pc' := 61) ji_233_60 rfl rfl rfl ?_
  refine c0_gr (r := 141) (k := 2) C (by decide) sq_138 rfl ji_233_61 jf_233_16 ?_
  refine wl_s (pc' := 65) ji_233_64 rfl rfl rfl ?_
  refine wl_s (pc' := 66) ji_233_65 rfl rfl rfl ?_
  refine wl_s (pc' := 68) ji_233_66 rfl rfl rfl ?_
  refine wl_imul (x := 2) (y := i) (z := 2 * i) ji_233_68 (by omega) ?_
  refine wl_iadd (x := b) (y := 2 * i) (z := b + (2 * i)) ji_233_69 (by omega) ?_
  refine c0_l (x := b + (2 * i)) C (by decide) sq_141 (by omega) ji_233_70 (fun ld30 ld31 ld32 => ?_)
  rw [ho] at ld32 ⊢
  refine wl_s (pc' := 73) (lv' := [some (.ref 138), some (wp_i ci), some (wp_i c), some (wp_i b), some (wp_i (k + 2)), some (wp_i q), some (wp_i i), some (wp_i 13), l8]) ji_233_71 rfl rfl rfl ?_
  refine wl_s (pc' := 74) ji_233_73 rfl rfl rfl ?_
  refine c0_gr (r := 141) (k := 2) C (by decide) sq_138 rfl ji_233_74 jf_233_16 ?_
  refine wl_s (pc' := 78) ji_233_77 rfl rfl rfl ?_
  refine wl_s (pc' := 79) ji_233_78 rfl rfl rfl ?_
  refine wl_s (pc' := 81) ji_233_79 rfl rfl rfl ?_
  refine wl_imul (x := 2) (y := i) (z := 2 * i) ji_233_81 (by omega) ?_
  refine wl_iadd (x := b) (y := 2 * i) (z := b + (2 * i)) ji_233_82 (by omega) ?_
  refine wl_s (pc' := 84) ji_233_83 rfl rfl rfl ?_
  refine wl_iadd (x := b + (2 * i)) (y := 1) (z := b + (2 * i) + 1) ji_233_84 (by omega) ?_
  refine c0_l (x := b + (2 * i) + 1) C (by decide) sq_141 (by omega) ji_233_85 (fun ld40 ld41 ld42 => ?_)
  rw [hv] at ld42 ⊢
  refine wl_s (pc' := 88) (lv' := [some (.ref 138), some (wp_i ci), some (wp_i c), some (wp_i b), some (wp_i (k + 2)), some (wp_i q), some (wp_i i), some (wp_i 13), some (wp_i v)]) ji_233_86 rfl rfl rfl ?_
  refine wl_s (pc' := 90) ji_233_88 rfl rfl rfl ?_
  refine wl_s (pc' := 91) ji_233_90 rfl rfl rfl ?_
  refine wl_icmp (t := 126) ji_233_91 rfl (by omega) (by omega) (fun (hb5 : (1 : Int) < 13) => ?_) (fun (hb5 : ¬ ((1 : Int) < 13)) => (by exfalso; omega))
  refine wl_s (pc' := 128) ji_233_126 rfl rfl rfl ?_
  refine wl_s (pc' := 129) ji_233_128 rfl rfl rfl ?_
  refine wl_icmp (t := 162) ji_233_129 rfl (by omega) (by omega) (fun (hb6 : ¬ (13 : Int) = 2) => ?_) (fun (hb6 : ¬ (¬ (13 : Int) = 2)) => (by exfalso; omega))
  refine wl_s (pc' := 164) ji_233_162 rfl rfl rfl ?_
  refine wl_s (pc' := 165) ji_233_164 rfl rfl rfl ?_
  refine wl_icmp (t := 190) ji_233_165 rfl (by omega) (by omega) (fun (hb7 : ¬ (13 : Int) = 3) => ?_) (fun (hb7 : ¬ (¬ (13 : Int) = 3)) => (by exfalso; omega))
  refine wl_s (pc' := 192) ji_233_190 rfl rfl rfl ?_
  refine wl_bp ji_233_192 rfl ?_
  refine wl_icmp (t := 233) ji_233_194 rfl (by omega) (by omega) (fun (hb8 : (10 : Int) ≤ 13) => ?_) (fun (hb8 : ¬ ((10 : Int) ≤ 13)) => (by exfalso; omega))
  refine wl_s (pc' := 235) ji_233_233 rfl rfl rfl ?_
  refine wl_bp ji_233_235 rfl ?_
  refine wl_icmp (t := 277) ji_233_237 rfl (by omega) (by omega) (fun (hb9 : (20 : Int) ≤ 13) => (by exfalso; omega)) (fun (hb9 : ¬ ((20 : Int) ≤ 13)) => ?_)
  refine wl_iinc (x := k + 2) (z := k) (lv' := [some (.ref 138), some (wp_i ci), some (wp_i c), some (wp_i b), some (wp_i k), some (wp_i q), some (wp_i i), some (wp_i 13), some (wp_i v)]) ji_233_240 rfl (Nat.le_of_ble_eq_true rfl) (by omega) rfl ?_
  refine wl_s (pc' := 244) ji_233_243 rfl rfl rfl ?_
  refine c0_gr (r := 146) (k := 24) C (by decide) sq_138 rfl ji_233_244 jf_233_39 ?_
  refine wl_s (pc' := 249) ji_233_247 rfl rfl rfl ?_
  refine wl_s (pc' := 251) ji_233_249 rfl rfl rfl ?_
  refine wl_s (pc' := 252) ji_233_251 rfl rfl rfl ?_
  refine c0_gr (r := 145) (k := 23) C (by decide) sq_138 rfl ji_233_252 jf_233_35 ?_
  refine wl_s (pc' := 257) ji_233_255 rfl rfl rfl ?_
  refine c0_ll (x := k) C (by decide) sq_145 (by omega) ji_233_257 (fun ld100 ld101 => ?_)
  rw [hx1]
  refine wl_s (pc' := 259) ji_233_258 rfl rfl rfl ?_
  refine c0_gr (r := 145) (k := 23) C (by decide) sq_138 rfl ji_233_259 jf_233_35 ?_
  refine wl_s (pc' := 264) ji_233_262 rfl rfl rfl ?_
  refine wl_s (pc' := 265) ji_233_264 rfl rfl rfl ?_
  refine wl_iadd (x := k) (y := 1) (z := k + 1) ji_233_265 (by omega) ?_
  refine c0_ll (x := k + 1) C (by decide) sq_145 (by omega) ji_233_266 (fun ld110 ld111 => ?_)
  rw [hy1]
  refine wl_sc (d := d + 1) (as := [wp_i 13, wl_L x1, wl_L y1]) (rest := [wp_i q, .ref 146]) ji_233_267 jc_233_272 (Nat.le_of_ble_eq_true rfl) rfl (Nat.le_of_ble_eq_true rfl) rfl (by rw [jn_237]; rfl) (uc_237_13 (d := d + 1) (a := x1) (b := y1) rx ry) (fun v1 h12 R => ?_)
  obtain ⟨rfl, y13, rfl, hy13a, hy13b⟩ := R
  show wl_R _ _ 233 270 [some (.ref 138), some (wp_i ci), some (wp_i c), some (wp_i b), some (wp_i k), some (wp_i q), some (wp_i i), some (wp_i 13), some (wp_i v)] [wp_i y13, wp_i q, .ref 146] _ _
  refine c0_sb (x := q) (y := y13) C (by decide) sq_146 (by omega) (by omega) ji_233_270 (fun h st140 st141 C => ?_)
  obtain ⟨s15, es15⟩ : ∃ z9_, up s 146 q y13 = z9_ := ⟨_, rfl⟩
  rw [es15] at C
  refine wl_iinc (x := q) (z := q + 1) (lv' := [some (.ref 138), some (wp_i ci), some (wp_i c), some (wp_i b), some (wp_i k), some (wp_i (q + 1)), some (wp_i i), some (wp_i 13), some (wp_i v)]) ji_233_271 rfl (Nat.le_of_ble_eq_true rfl) (by omega) rfl ?_
  refine wl_goto (t := 389) ji_233_274 rfl ?_
  refine wl_iinc (x := i) (z := i + 1) (lv' := [some (.ref 138), some (wp_i ci), some (wp_i c), some (wp_i b), some (wp_i k), some (wp_i (q + 1)), some (wp_i (i + 1)), some (wp_i 13), some (wp_i v)]) ji_233_389 rfl (Nat.le_of_ble_eq_true rfl) (by omega) rfl ?_
  refine wl_goto (t := 47) ji_233_392 rfl ?_
  exact hr _ y13 hy13a hy13b (c0_mono C (by rw [← es15]))
theorem uc_233_14 {nn d : Nat} {h : mj_H} {s : sg_} {Q : Option Value → mj_H → Prop} (C : CS0 h s) {ci c b i v : Int} {l7 l8 : Option Value} (hc : 0 ≤ c ∧ c ≤ 2817) (hb : 0 ≤ b ∧ 0 ≤ i ∧ i ≤ 1000 ∧ b ≤ 2820) (hu : i < s 141 (c + 2)) (ho : s 141 (b + 2 * i) = 14) (hv : s 141 (b + 2 * i + 1) = v) {k q : Int} (hk : 0 ≤ k ∧ k < 330) (hq0 : 0 ≤ q ∧ q < 330) {x1 y1 : Int} (hx1 : s 145 k = x1) (hy1 : s 145 (k + 1) = y1) (rx : wp_r x1) (ry : wp_r y1) (hr : ∀ (h1 : mj_H) (y : Int), (y = 0 ∨ y = 1) → (y = 1 ↔ x1 = y1) → CS0 h1 (up s 146 q y) → wl_R nn (d + 2) 233 47 [some (.ref 138), some (wp_i ci), some (wp_i c), some (wp_i b), some (wp_i (k)), some (wp_i (q + 1)), some (wp_i (i + 1)), some (wp_i 14), some (wp_i v)] [] h1 Q) : wl_R (nn + 1) (d + 2) 233 47 [some (.ref 138), some (wp_i ci), some (wp_i c), some (wp_i b), some (wp_i (k + 2)), some (wp_i q), some (wp_i i), l7, l8] [] h Q := by
  refine wl_s1 (pc' := 49) ji_233_47 rfl rfl rfl ?_
  refine wl_s (pc' := 50) ji_233_49 rfl rfl rfl ?_
  refine c0_gr (r := 141) (k := 2) C (by decide) sq_138 rfl ji_233_50 jf_233_16 ?_
  refine wl_s (pc' := 54) ji_233_53 rfl rfl rfl ?_
  refine wl_s (pc' := 55) ji_233_54 rfl rfl rfl ?_
  refine wl_iadd (x := c) (y := 2) (z := c + 2) ji_233_55 (by omega) ?_
  refine c0_l (x := c + 2) C (by decide) sq_141 (by omega) ji_233_56 (fun ld10 ld11 ld12 => ?_)
  refine wl_icmp (t := 395) ji_233_57 rfl (by omega) (by omega) (fun (hb2 : (s 141 (c + 2) : Int) ≤ i) => (by exfalso; omega)) (fun (hb2 : ¬ ((s 141 (c + 2) : Int) ≤ i)) => ?_)
  refine wl_s (pc' := 61) ji_233_60 rfl rfl rfl ?_
  refine c0_gr (r := 141) (k := 2) C (by decide) sq_138 rfl ji_233_61 jf_233_16 ?_
  refine wl_s (pc' := 65) ji_233_64 rfl rfl rfl ?_
  refine wl_s (pc' := 66) ji_233_65 rfl rfl rfl ?_
  refine wl_s (pc' := 68) ji_233_66 rfl rfl rfl ?_
  refine wl_imul (x := 2) (y := i) (z := 2 * i) ji_233_68 (by omega) ?_
  refine wl_iadd (x := b) (y := 2 * i) (z := b + (2 * i)) ji_233_69 (by omega) ?_
  refine c0_l (x := b + (2 * i)) C (by decide) sq_141 (by omega) ji_233_70 (fun ld30 ld31 ld32 => ?_)
  rw [ho] at ld32 ⊢
  refine wl_s (pc' := 73) (lv' := [some (.ref 138), some (wp_i ci), some (wp_i c), some (wp_i b), some (wp_i (k + 2)), some (wp_i q), some (wp_i i), some (wp_i 14), l8]) ji_233_71 rfl rfl rfl ?_
  refine wl_s (pc' := 74) ji_233_73 rfl rfl rfl ?_
  refine c0_gr (r := 141) (k := 2) C (by decide) sq_138 rfl ji_233_74 jf_233_16 ?_
  refine wl_s (pc' := 78) ji_233_77 rfl rfl rfl ?_
  refine wl_s (pc' := 79) ji_233_78 rfl rfl rfl ?_
  refine wl_s (pc' := 81) ji_233_79 rfl rfl rfl ?_
  refine wl_imul (x := 2) (y := i) (z := 2 * i) ji_233_81 (by omega) ?_
  refine wl_iadd (x := b) (y := 2 * i) (z := b + (2 * i)) ji_233_82 (by omega) ?_
  refine wl_s (pc' := 84) ji_233_83 rfl rfl rfl ?_
  refine wl_iadd (x := b + (2 * i)) (y := 1) (z := b + (2 * i) + 1) ji_233_84 (by omega) ?_
  refine c0_l (x := b + (2 * i) + 1) C (by decide) sq_141 (by omega) ji_233_85 (fun ld40 ld41 ld42 => ?_)
  rw [hv] at ld42 ⊢
  refine wl_s (pc' := 88) (lv' := [some (.ref 138), some (wp_i ci), some (wp_i c), some (wp_i b), some (wp_i (k + 2)), some (wp_i q), some (wp_i i), some (wp_i 14), some (wp_i v)]) ji_233_86 rfl rfl rfl ?_
  refine wl_s (pc' := 90) ji_233_88 rfl rfl rfl ?_
  refine wl_s (pc' := 91) ji_233_90 rfl rfl rfl ?_
  refine wl_icmp (t := 126) ji_233_91 rfl (by omega) (by omega) (fun (hb5 : (1 : Int) < 14) => ?_) (fun (hb5 : ¬ ((1 : Int) < 14)) => (by exfalso; omega))
  refine wl_s (pc' := 128) ji_233_126 rfl rfl rfl ?_
  refine wl_s (pc' := 129) ji_233_128 rfl rfl rfl ?_
  refine wl_icmp (t := 162) ji_233_129 rfl (by omega) (by omega) (fun (hb6 : ¬ (14 : Int) = 2) => ?_) (fun (hb6 : ¬ (¬ (14 : Int) = 2)) => (by exfalso; omega))
  refine wl_s (pc' := 164) ji_233_162 rfl rfl rfl ?_
  refine wl_s (pc' := 165) ji_233_164 rfl rfl rfl ?_
  refine wl_icmp (t := 190) ji_233_165 rfl (by omega) (by omega) (fun (hb7 : ¬ (14 : Int) = 3) => ?_) (fun (hb7 : ¬ (¬ (14 : Int) = 3)) => (by exfalso; omega))
  refine wl_s (pc' := 192) ji_233_190 rfl rfl rfl ?_
  refine wl_bp ji_233_192 rfl ?_
  refine wl_icmp (t := 233) ji_233_194 rfl (by omega) (by omega) (fun (hb8 : (10 : Int) ≤ 14) => ?_) (fun (hb8 : ¬ ((10 : Int) ≤ 14)) => (by exfalso; omega))
  refine wl_s (pc' := 235) ji_233_233 rfl rfl rfl ?_
  refine wl_bp ji_233_235 rfl ?_
  refine wl_icmp (t := 277) ji_233_237 rfl (by omega) (by omega) (fun (hb9 : (20 : Int) ≤ 14) => (by exfalso; omega)) (fun (hb9 : ¬ ((20 : Int) ≤ 14)) => ?_)
  refine wl_iinc (x := k + 2) (z := k) (lv' := [some (.ref 138), some (wp_i ci), some (wp_i c), some (wp_i b), some (wp_i k), some (wp_i q), some (wp_i i), some (wp_i 14), some (wp_i v)]) ji_233_240 rfl (Nat.le_of_ble_eq_true rfl) (by omega) rfl ?_
  refine wl_s (pc' := 244) ji_233_243 rfl rfl rfl ?_
  refine c0_gr (r := 146) (k := 24) C (by decide) sq_138 rfl ji_233_244 jf_233_39 ?_
  refine wl_s (pc' := 249) ji_233_247 rfl rfl rfl ?_
  refine wl_s (pc' := 251) ji_233_249 rfl rfl rfl ?_
  refine wl_s (pc' := 252) ji_233_251 rfl rfl rfl ?_
  refine c0_gr (r := 145) (k := 23) C (by decide) sq_138 rfl ji_233_252 jf_233_35 ?_
  refine wl_s (pc' := 257) ji_233_255 rfl rfl rfl ?_
  refine c0_ll (x := k) C (by decide) sq_145 (by omega) ji_233_257 (fun ld100 ld101 => ?_)
  rw [hx1]
  refine wl_s (pc' := 259) ji_233_258 rfl rfl rfl ?_
  refine c0_gr (r := 145) (k := 23) C (by decide) sq_138 rfl ji_233_259 jf_233_35 ?_
  refine wl_s (pc' := 264) ji_233_262 rfl rfl rfl ?_
  refine wl_s (pc' := 265) ji_233_264 rfl rfl rfl ?_
  refine wl_iadd (x := k) (y := 1) (z := k + 1) ji_233_265 (by omega) ?_
  refine c0_ll (x := k + 1) C (by decide) sq_145 (by omega) ji_233_266 (fun ld110 ld111 => ?_)
  rw [hy1]
  refine wl_sc (d := d + 1) (as := [wp_i 14, wl_L x1, wl_L y1]) (rest := [wp_i q, .ref 146]) ji_233_267 jc_233_272 (Nat.le_of_ble_eq_true rfl) rfl (Nat.le_of_ble_eq_true rfl) rfl (by rw [jn_237]; rfl) (uc_237_14 (d := d + 1) (a := x1) (b := y1) rx ry) (fun v1 h12 R => ?_)
  obtain ⟨rfl, y13, rfl, hy13a, hy13b⟩ := R
  show wl_R _ _ 233 270 [some (.ref 138), some (wp_i ci), some (wp_i c), some (wp_i b), some (wp_i k), some (wp_i q), some (wp_i i), some (wp_i 14), some (wp_i v)] [wp_i y13, wp_i q, .ref 146] _ _
  refine c0_sb (x := q) (y := y13) C (by decide) sq_146 (by omega) (by omega) ji_233_270 (fun h st140 st141 C => ?_)
  obtain ⟨s15, es15⟩ : ∃ z9_, up s 146 q y13 = z9_ := ⟨_, rfl⟩
  rw [es15] at C
  refine wl_iinc (x := q) (z := q + 1) (lv' := [some (.ref 138), some (wp_i ci), some (wp_i c), some (wp_i b), some (wp_i k), some (wp_i (q + 1)), some (wp_i i), some (wp_i 14), some (wp_i v)]) ji_233_271 rfl (Nat.le_of_ble_eq_true rfl) (by omega) rfl ?_
  refine wl_goto (t := 389) ji_233_274 rfl ?_
  refine wl_iinc (x := i) (z := i + 1) (lv' := [some (.ref 138), some (wp_i ci), some (wp_i c), some (wp_i b), some (wp_i k), some (wp_i (q + 1)), some (wp_i (i + 1)), some (wp_i 14), some (wp_i v)]) ji_233_389 rfl (Nat.le_of_ble_eq_true rfl) (by omega) rfl ?_
  refine wl_goto (t := 47) ji_233_392 rfl ?_
  exact hr _ y13 hy13a hy13b (c0_mono C (by rw [← es15]))
theorem uc_233_15 {nn d : Nat} {h : mj_H} {s : sg_} {Q : Option Value → mj_H → Prop} (C : CS0 h s) {ci c b i v : Int} {l7 l8 : Option Value} (hc : 0 ≤ c ∧ c ≤ 2817) (hb : 0 ≤ b ∧ 0 ≤ i ∧ i ≤ 1000 ∧ b ≤ 2820) (hu : i < s 141 (c + 2)) (ho : s 141 (b + 2 * i) = 15) (hv : s 141 (b + 2 * i + 1) = v) {k q : Int} (hk : 0 ≤ k ∧ k < 330) (hq0 : 0 ≤ q ∧ q < 330) {x1 y1 : Int} (hx1 : s 145 k = x1) (hy1 : s 145 (k + 1) = y1) (rx : wp_r x1) (ry : wp_r y1) (hr : ∀ (h1 : mj_H) (y : Int), (y = 0 ∨ y = 1) → (y = 1 ↔ ¬ x1 = y1) → CS0 h1 (up s 146 q y) → wl_R nn (d + 2) 233 47 [some (.ref 138), some (wp_i ci), some (wp_i c), some (wp_i b), some (wp_i (k)), some (wp_i (q + 1)), some (wp_i (i + 1)), some (wp_i 15), some (wp_i v)] [] h1 Q) : wl_R (nn + 1) (d + 2) 233 47 [some (.ref 138), some (wp_i ci), some (wp_i c), some (wp_i b), some (wp_i (k + 2)), some (wp_i q), some (wp_i i), l7, l8] [] h Q := by
  refine wl_s1 (pc' := 49) ji_233_47 rfl rfl rfl ?_
  refine wl_s (pc' := 50) ji_233_49 rfl rfl rfl ?_
  refine c0_gr (r := 141) (k := 2) C (by decide) sq_138 rfl ji_233_50 jf_233_16 ?_
  refine wl_s (pc' := 54) ji_233_53 rfl rfl rfl ?_
  refine wl_s (pc' := 55) ji_233_54 rfl rfl rfl ?_
  refine wl_iadd (x := c) (y := 2) (z := c + 2) ji_233_55 (by omega) ?_
  refine c0_l (x := c + 2) C (by decide) sq_141 (by omega) ji_233_56 (fun ld10 ld11 ld12 => ?_)
  refine wl_icmp (t := 395) ji_233_57 rfl (by omega) (by omega) (fun (hb2 : (s 141 (c + 2) : Int) ≤ i) => (by exfalso; omega)) (fun (hb2 : ¬ ((s 141 (c + 2) : Int) ≤ i)) => ?_)
  refine wl_s (pc' := 61) ji_233_60 rfl rfl rfl ?_
  refine c0_gr (r := 141) (k := 2) C (by decide) sq_138 rfl ji_233_61 jf_233_16 ?_
  refine wl_s (pc' := 65) ji_233_64 rfl rfl rfl ?_
  refine wl_s (pc' := 66) ji_233_65 rfl rfl rfl ?_
  refine wl_s (pc' := 68) ji_233_66 rfl rfl rfl ?_
  refine wl_imul (x := 2) (y := i) (z := 2 * i) ji_233_68 (by omega) ?_
  refine wl_iadd (x := b) (y := 2 * i) (z := b + (2 * i)) ji_233_69 (by omega) ?_
  refine c0_l (x := b + (2 * i)) C (by decide) sq_141 (by omega) ji_233_70 (fun ld30 ld31 ld32 => ?_)
  rw [ho] at ld32 ⊢
  refine wl_s (pc' := 73) (lv' := [some (.ref 138), some (wp_i ci), some (wp_i c), some (wp_i b), some (wp_i (k + 2)), some (wp_i q), some (wp_i i), some (wp_i 15), l8]) ji_233_71 rfl rfl rfl ?_
  refine wl_s (pc' := 74) ji_233_73 rfl rfl rfl ?_
  refine c0_gr (r := 141) (k := 2) C (by decide) sq_138 rfl ji_233_74 jf_233_16 ?_
  refine wl_s (pc' := 78) ji_233_77 rfl rfl rfl ?_
  refine wl_s (pc' := 79) ji_233_78 rfl rfl rfl ?_
  refine wl_s (pc' := 81) ji_233_79 rfl rfl rfl ?_
  refine wl_imul (x := 2) (y := i) (z := 2 * i) ji_233_81 (by omega) ?_
  refine wl_iadd (x := b) (y := 2 * i) (z := b + (2 * i)) ji_233_82 (by omega) ?_
  refine wl_s (pc' := 84) ji_233_83 rfl rfl rfl ?_
  refine wl_iadd (x := b + (2 * i)) (y := 1) (z := b + (2 * i) + 1) ji_233_84 (by omega) ?_
  refine c0_l (x := b + (2 * i) + 1) C (by decide) sq_141 (by omega) ji_233_85 (fun ld40 ld41 ld42 => ?_)
  rw [hv] at ld42 ⊢
  refine wl_s (pc' := 88) (lv' := [some (.ref 138), some (wp_i ci), some (wp_i c), some (wp_i b), some (wp_i (k + 2)), some (wp_i q), some (wp_i i), some (wp_i 15), some (wp_i v)]) ji_233_86 rfl rfl rfl ?_
  refine wl_s (pc' := 90) ji_233_88 rfl rfl rfl ?_
  refine wl_s (pc' := 91) ji_233_90 rfl rfl rfl ?_
  refine wl_icmp (t := 126) ji_233_91 rfl (by omega) (by omega) (fun (hb5 : (1 : Int) < 15) => ?_) (fun (hb5 : ¬ ((1 : Int) < 15)) => (by exfalso; omega))
  refine wl_s (pc' := 128) ji_233_126 rfl rfl rfl ?_
  refine wl_s (pc' := 129) ji_233_128 rfl rfl rfl ?_
  refine wl_icmp (t := 162) ji_233_129 rfl (by omega) (by omega) (fun (hb6 : ¬ (15 : Int) = 2) => ?_) (fun (hb6 : ¬ (¬ (15 : Int) = 2)) => (by exfalso; omega))
  refine wl_s (pc' := 164) ji_233_162 rfl rfl rfl ?_
  refine wl_s (pc' := 165) ji_233_164 rfl rfl rfl ?_
  refine wl_icmp (t := 190) ji_233_165 rfl (by omega) (by omega) (fun (hb7 : ¬ (15 : Int) = 3) => ?_) (fun (hb7 : ¬ (¬ (15 : Int) = 3)) => (by exfalso; omega))
  refine wl_s (pc' := 192) ji_233_190 rfl rfl rfl ?_
  refine wl_bp ji_233_192 rfl ?_
  refine wl_icmp (t := 233) ji_233_194 rfl (by omega) (by omega) (fun (hb8 : (10 : Int) ≤ 15) => ?_) (fun (hb8 : ¬ ((10 : Int) ≤ 15)) => (by exfalso; omega))
  refine wl_s (pc' := 235) ji_233_233 rfl rfl rfl ?_
  refine wl_bp ji_233_235 rfl ?_
  refine wl_icmp (t := 277) ji_233_237 rfl (by omega) (by omega) (fun (hb9 : (20 : Int) ≤ 15) => (by exfalso; omega)) (fun (hb9 : ¬ ((20 : Int) ≤ 15)) => ?_)
  refine wl_iinc (x := k + 2) (z := k) (lv' := [some (.ref 138), some (wp_i ci), some (wp_i c), some (wp_i b), some (wp_i k), some (wp_i q), some (wp_i i), some (wp_i 15), some (wp_i v)]) ji_233_240 rfl (Nat.le_of_ble_eq_true rfl) (by omega) rfl ?_
  refine wl_s (pc' := 244) ji_233_243 rfl rfl rfl ?_
  refine c0_gr (r := 146) (k := 24) C (by decide) sq_138 rfl ji_233_244 jf_233_39 ?_
  refine wl_s (pc' := 249) ji_233_247 rfl rfl rfl ?_
  refine wl_s (pc' := 251) ji_233_249 rfl rfl rfl ?_
  refine wl_s (pc' := 252) ji_233_251 rfl rfl rfl ?_
  refine c0_gr (r := 145) (k := 23) C (by decide) sq_138 rfl ji_233_252 jf_233_35 ?_
  refine wl_s (pc' := 257) ji_233_255 rfl rfl rfl ?_
  refine c0_ll (x := k) C (by decide) sq_145 (by omega) ji_233_257 (fun ld100 ld101 => ?_)
  rw [hx1]
  refine wl_s (pc' := 259) ji_233_258 rfl rfl rfl ?_
  refine c0_gr (r := 145) (k := 23) C (by decide) sq_138 rfl ji_233_259 jf_233_35 ?_
  refine wl_s (pc' := 264) ji_233_262 rfl rfl rfl ?_
  refine wl_s (pc' := 265) ji_233_264 rfl rfl rfl ?_
  refine wl_iadd (x := k) (y := 1) (z := k + 1) ji_233_265 (by omega) ?_
  refine c0_ll (x := k + 1) C (by decide) sq_145 (by omega) ji_233_266 (fun ld110 ld111 => ?_)
  rw [hy1]
  refine wl_sc (d := d + 1) (as := [wp_i 15, wl_L x1, wl_L y1]) (rest := [wp_i q, .ref 146]) ji_233_267 jc_233_272 (Nat.le_of_ble_eq_true rfl) rfl (Nat.le_of_ble_eq_true rfl) rfl (by rw [jn_237]; rfl) (uc_237_15 (d := d + 1) (a := x1) (b := y1) rx ry) (fun v1 h12 R => ?_)
  obtain ⟨rfl, y13, rfl, hy13a, hy13b⟩ := R
  show wl_R _ _ 233 270 [some (.ref 138), some (wp_i ci), some (wp_i c), some (wp_i b), some (wp_i k), some (wp_i q), some (wp_i i), some (wp_i 15), some (wp_i v)] [wp_i y13, wp_i q, .ref 146] _ _
  refine c0_sb (x := q) (y := y13) C (by decide) sq_146 (by omega) (by omega) ji_233_270 (fun h st140 st141 C => ?_)
  obtain ⟨s15, es15⟩ : ∃ z9_, up s 146 q y13 = z9_ := ⟨_, rfl⟩
  rw [es15] at C
  refine wl_iinc (x := q) (z := q + 1) (lv' := [some (.ref 138), some (wp_i ci), some (wp_i c), some (wp_i b), some (wp_i k), some (wp_i (q + 1)), some (wp_i i), some (wp_i 15), some (wp_i v)]) ji_233_271 rfl (Nat.le_of_ble_eq_true rfl) (by omega) rfl ?_
  refine wl_goto (t := 389) ji_233_274 rfl ?_
  refine wl_iinc (x := i) (z := i + 1) (lv' := [some (.ref 138), some (wp_i ci), some (wp_i c), some (wp_i b), some (wp_i k), some (wp_i (q + 1)), some (wp_i (i + 1)), some (wp_i 15), some (wp_i v)]) ji_233_389 rfl (Nat.le_of_ble_eq_true rfl) (by omega) rfl ?_
  refine wl_goto (t := 47) ji_233_392 rfl ?_
  exact hr _ y13 hy13a hy13b (c0_mono C (by rw [← es15]))
theorem uc_233_2 {nn d : Nat} {h : mj_H} {s : sg_} {Q : Option Value → mj_H → Prop} (C : CS0 h s) {ci c b i n : Int} {l7 l8 : Option Value} (hc : 0 ≤ c ∧ c ≤ 2817) (hb : 0 ≤ b ∧ 0 ≤ i ∧ i ≤ 1000 ∧ b ≤ 2820) (hu : i < s 141 (c + 2)) (ho : s 141 (b + 2 * i) = 2) (hv : s 141 (b + 2 * i + 1) = n) {k q : Int} (hk : 0 ≤ k ∧ k < 330) (hq0 : 0 ≤ q ∧ q < 330) (hn : 0 ≤ n) (ht : k + 1 + n ≤ 330) (hq : ∀ j, k ≤ j → j < k + 1 + n → wl_q (s 145 j)) (hr : ∀ (h1 : mj_H) (y : Int), (y = 0 ∨ y = 1) → (y = 1 ↔ ∃ j, k < j ∧ j < k + 1 + n ∧ s 145 j = s 145 k) → CS0 h1 (up s 146 q y) → wl_R nn (d + 2) 233 47 [some (.ref 138), some (wp_i ci), some (wp_i c), some (wp_i b), some (wp_i (k)), some (wp_i (q + 1)), some (wp_i (i + 1)), some (wp_i 2), some (wp_i n)] [] h1 Q) : wl_R (nn + 1) (d + 2) 233 47 [some (.ref 138), some (wp_i ci), some (wp_i c), some (wp_i b), some (wp_i (k + 1 + n)), some (wp_i q), some (wp_i i), l7, l8] [] h Q := by
  refine wl_s1 (pc' := 49) ji_233_47 rfl rfl rfl ?_
  refine wl_s (pc' := 50) ji_233_49 rfl rfl rfl ?_
  refine c0_gr (r := 141) (k := 2) C (by decide) sq_138 rfl ji_233_50 jf_233_16 ?_
  refine wl_s (pc' := 54) ji_233_53 rfl rfl rfl ?_
  refine wl_s (pc' := 55) ji_233_54 rfl rfl rfl ?_
  refine wl_iadd (x := c) (y := 2) (z := c + 2) ji_233_55 (by omega) ?_
  refine c0_l (x := c + 2) C (by decide) sq_141 (by omega) ji_233_56 (fun ld10 ld11 ld12 => ?_)
  refine wl_icmp (t := 395) ji_233_57 rfl (by omega) (by omega) (fun (hb2 : (s 141 (c + 2) : Int) ≤ i) => (by exfalso; omega)) (fun (hb2 : ¬ ((s 141 (c + 2) : Int) ≤ i)) => ?_)
  refine wl_s (pc' := 61) ji_233_60 rfl rfl rfl ?_
  refine c0_gr (r := 141) (k := 2) C (by decide) sq_138 rfl ji_233_61 jf_233_16 ?_
  refine wl_s (pc' := 65) ji_233_64 rfl rfl rfl ?_
  refine wl_s (pc' := 66) ji_233_65 rfl rfl rfl ?_
  refine wl_s (pc' := 68) ji_233_66 rfl rfl rfl ?_
  refine wl_imul (x := 2) (y := i) (z := 2 * i) ji_233_68 (by omega) ?_
  refine wl_iadd (x := b) (y := 2 * i) (z := b + (2 * i)) ji_233_69 (by omega) ?_
  refine c0_l (x := b + (2 * i)) C (by decide) sq_141 (by omega) ji_233_70 (fun ld30 ld31 ld32 => ?_)
  rw [ho] at ld32 ⊢
  refine wl_s (pc' := 73) (lv' := [some (.ref 138), some (wp_i ci), some (wp_i c), some (wp_i b), some (wp_i (k + 1 + n)), some (wp_i q), some (wp_i i), some (wp_i 2), l8]) ji_233_71 rfl rfl rfl ?_
  refine wl_s (pc' := 74) ji_233_73 rfl rfl rfl ?_
  refine c0_gr (r := 141) (k := 2) C (by decide) sq_138 rfl ji_233_74 jf_233_16 ?_
  refine wl_s (pc' := 78) ji_233_77 rfl rfl rfl ?_
  refine wl_s (pc' := 79) ji_233_78 rfl rfl rfl ?_
  refine wl_s (pc' := 81) ji_233_79 rfl rfl rfl ?_
  refine wl_imul (x := 2) (y := i) (z := 2 * i) ji_233_81 (by omega) ?_
  refine wl_iadd (x := b) (y := 2 * i) (z := b + (2 * i)) ji_233_82 (by omega) ?_
  refine wl_s (pc' := 84) ji_233_83 rfl rfl rfl ?_
  refine wl_iadd (x := b + (2 * i)) (y := 1) (z := b + (2 * i) + 1) ji_233_84 (by omega) ?_
  refine c0_l (x := b + (2 * i) + 1) C (by decide) sq_141 (by omega) ji_233_85 (fun ld40 ld41 ld42 => ?_)
  rw [hv] at ld42 ⊢
  refine wl_s (pc' := 88) (lv' := [some (.ref 138), some (wp_i ci), some (wp_i c), some (wp_i b), some (wp_i (k + 1 + n)), some (wp_i q), some (wp_i i), some (wp_i 2), some (wp_i n)]) ji_233_86 rfl rfl rfl ?_
  refine wl_s (pc' := 90) ji_233_88 rfl rfl rfl ?_
  refine wl_s (pc' := 91) ji_233_90 rfl rfl rfl ?_
  refine wl_icmp (t := 126) ji_233_91 rfl (by omega) (by omega) (fun (hb5 : (1 : Int) < 2) => ?_) (fun (hb5 : ¬ ((1 : Int) < 2)) => (by exfalso; omega))
  refine wl_s (pc' := 128) ji_233_126 rfl rfl rfl ?_
  refine wl_s (pc' := 129) ji_233_128 rfl rfl rfl ?_
  refine wl_icmp (t := 162) ji_233_129 rfl (by omega) (by omega) (fun (hb6 : ¬ (2 : Int) = 2) => (by exfalso; omega)) (fun (hb6 : ¬ (¬ (2 : Int) = 2)) => ?_)
  refine wl_s (pc' := 134) ji_233_132 rfl rfl rfl ?_
  refine wl_s (pc' := 136) ji_233_134 rfl rfl rfl ?_
  refine wl_s (pc' := 137) ji_233_136 rfl rfl rfl ?_
  refine wl_iadd (x := n) (y := 1) (z := n + 1) ji_233_137 (by omega) ?_
  refine wl_isub (x := k + 1 + n) (y := n + 1) (z := k) ji_233_138 (by omega) ?_
  refine wl_s (pc' := 141) (lv' := [some (.ref 138), some (wp_i ci), some (wp_i c), some (wp_i b), some (wp_i k), some (wp_i q), some (wp_i i), some (wp_i 2), some (wp_i n)]) ji_233_139 rfl rfl rfl ?_
  refine wl_s (pc' := 142) ji_233_141 rfl rfl rfl ?_
  refine c0_gr (r := 146) (k := 24) C (by decide) sq_138 rfl ji_233_142 jf_233_39 ?_
  refine wl_s (pc' := 147) ji_233_145 rfl rfl rfl ?_
  refine wl_s (pc' := 148) ji_233_147 rfl rfl rfl ?_
  refine wl_s (pc' := 150) ji_233_148 rfl rfl rfl ?_
  refine wl_s (pc' := 152) ji_233_150 rfl rfl rfl ?_
  obtain ⟨q8, hq8⟩ := c0_c C (by decide) sq_138
  refine wl_vc (d := d + 1) (as := [.ref 138, wp_i k, wp_i n]) (rest := [wp_i q, .ref 146]) ji_233_152 jc_233_265 rfl hq8 jk_234.symm (Nat.le_of_ble_eq_true rfl) rfl (by rw [jn_234]; rfl) (uc_234 (d := d + 1) C (k := k) (n := n) (by omega) (by omega) (by omega) hq) (fun v1 h7 R => ?_)
  obtain ⟨rfl, y9, rfl, hy9a, hy9b⟩ := R
  show wl_R _ _ 233 155 [some (.ref 138), some (wp_i ci), some (wp_i c), some (wp_i b), some (wp_i k), some (wp_i q), some (wp_i i), some (wp_i 2), some (wp_i n)] [wp_i y9, wp_i q, .ref 146] _ _
  refine c0_sb (x := q) (y := y9) C (by decide) sq_146 (by omega) (by omega) ji_233_155 (fun h st100 st101 C => ?_)
  obtain ⟨s11, es11⟩ : ∃ z9_, up s 146 q y9 = z9_ := ⟨_, rfl⟩
  rw [es11] at C
  refine wl_iinc (x := q) (z := q + 1) (lv' := [some (.ref 138), some (wp_i ci), some (wp_i c), some (wp_i b), some (wp_i k), some (wp_i (q + 1)), some (wp_i i), some (wp_i 2), some (wp_i n)]) ji_233_156 rfl (Nat.le_of_ble_eq_true rfl) (by omega) rfl ?_
  refine wl_goto (t := 389) ji_233_159 rfl ?_
  refine wl_iinc (x := i) (z := i + 1) (lv' := [some (.ref 138), some (wp_i ci), some (wp_i c), some (wp_i b), some (wp_i k), some (wp_i (q + 1)), some (wp_i (i + 1)), some (wp_i 2), some (wp_i n)]) ji_233_389 rfl (Nat.le_of_ble_eq_true rfl) (by omega) rfl ?_
  refine wl_goto (t := 47) ji_233_392 rfl ?_
  exact hr _ y9 hy9a hy9b (c0_mono C (by rw [← es11]))
theorem uc_233_20 {nn d : Nat} {h : mj_H} {s : sg_} {Q : Option Value → mj_H → Prop} (C : CS0 h s) {ci c b i v : Int} {l7 l8 : Option Value} (hc : 0 ≤ c ∧ c ≤ 2817) (hb : 0 ≤ b ∧ 0 ≤ i ∧ i ≤ 1000 ∧ b ≤ 2820) (hu : i < s 141 (c + 2)) (ho : s 141 (b + 2 * i) = 20) (hv : s 141 (b + 2 * i + 1) = v) {k q : Int} (hk : 0 ≤ k ∧ k < 330) (hq0 : 0 ≤ q ∧ q < 330) {z1 : Int} (hz1 : s 146 q = z1) (hr : ∀ (h1 : mj_H) (y : Int), (y = 0 ∨ y = 1) → (y = 1 ↔ z1 = 0) → CS0 h1 (up s 146 q y) → wl_R nn (d + 2) 233 47 [some (.ref 138), some (wp_i ci), some (wp_i c), some (wp_i b), some (wp_i k), some (wp_i (q + 1)), some (wp_i (i + 1)), some (wp_i 20), some (wp_i v)] [] h1 Q) : wl_R (nn + 1) (d + 2) 233 47 [some (.ref 138), some (wp_i ci), some (wp_i c), some (wp_i b), some (wp_i k), some (wp_i (q + 1)), some (wp_i i), l7, l8] [] h Q := by
  refine wl_s1 (pc' := 49) ji_233_47 rfl rfl rfl ?_
  refine wl_s (pc' := 50) ji_233_49 rfl rfl rfl ?_
  refine c0_gr (r := 141) (k := 2) C (by decide) sq_138 rfl ji_233_50 jf_233_16 ?_
  refine wl_s (pc' := 54) ji_233_53 rfl rfl rfl ?_
  refine wl_s (pc' := 55) ji_233_54 rfl rfl rfl ?_
  refine wl_iadd (x := c) (y := 2) (z := c + 2) ji_233_55 (by omega) ?_
  refine c0_l (x := c + 2) C (by decide) sq_141 (by omega) ji_233_56 (fun ld10 ld11 ld12 => ?_)
  refine wl_icmp (t := 395) ji_233_57 rfl (by omega) (by omega) (fun (hb2 : (s 141 (c + 2) : Int) ≤ i) => (by exfalso; omega)) (fun (hb2 : ¬ ((s 141 (c + 2) : Int) ≤ i)) => ?_)
  refine wl_s (pc' := 61) ji_233_60 rfl rfl rfl ?_
  refine c0_gr (r := 141) (k := 2) C (by decide) sq_138 rfl ji_233_61 jf_233_16 ?_
  refine wl_s (pc' := 65) ji_233_64 rfl rfl rfl ?_
  refine wl_s (pc' := 66) ji_233_65 rfl rfl rfl ?_
  refine wl_s (pc' := 68) ji_233_66 rfl rfl rfl ?_
  refine wl_imul (x := 2) (y := i) (z := 2 * i) ji_233_68 (by omega) ?_
  refine wl_iadd (x := b) (y := 2 * i) (z := b + (2 * i)) ji_233_69 (by omega) ?_
  refine c0_l (x := b + (2 * i)) C (by decide) sq_141 (by omega) ji_233_70 (fun ld30 ld31 ld32 => ?_)
  rw [ho] at ld32 ⊢
  refine wl_s (pc' := 73) (lv' := [some (.ref 138), some (wp_i ci), some (wp_i c), some (wp_i b), some (wp_i k), some (wp_i (q + 1)), some (wp_i i), some (wp_i 20), l8]) ji_233_71 rfl rfl rfl ?_
  refine wl_s (pc' := 74) ji_233_73 rfl rfl rfl ?_
  refine c0_gr (r := 141) (k := 2) C (by decide) sq_138 rfl ji_233_74 jf_233_16 ?_
  refine wl_s (pc' := 78) ji_233_77 rfl rfl rfl ?_
  refine wl_s (pc' := 79) ji_233_78 rfl rfl rfl ?_
  refine wl_s (pc' := 81) ji_233_79 rfl rfl rfl ?_
  refine wl_imul (x := 2) (y := i) (z := 2 * i) ji_233_81 (by omega) ?_
  refine wl_iadd (x := b) (y := 2 * i) (z := b + (2 * i)) ji_233_82 (by omega) ?_
  refine wl_s (pc' := 84) ji_233_83 rfl rfl rfl ?_
  refine wl_iadd (x := b + (2 * i)) (y := 1) (z := b + (2 * i) + 1) ji_233_84 (by omega) ?_
  refine c0_l (x := b + (2 * i) + 1) C (by decide) sq_141 (by omega) ji_233_85 (fun ld40 ld41 ld42 => ?_)
  rw [hv] at ld42 ⊢
  refine wl_s (pc' := 88) (lv' := [some (.ref 138), some (wp_i ci), some (wp_i c), some (wp_i b), some (wp_i k), some (wp_i (q + 1)), some (wp_i i), some (wp_i 20), some (wp_i v)]) ji_233_86 rfl rfl rfl ?_
  refine wl_s (pc' := 90) ji_233_88 rfl rfl rfl ?_
  refine wl_s (pc' := 91) ji_233_90 rfl rfl rfl ?_
  refine wl_icmp (t := 126) ji_233_91 rfl (by omega) (by omega) (fun (hb5 : (1 : Int) < 20) => ?_) (fun (hb5 : ¬ ((1 : Int) < 20)) => (by exfalso; omega))
  refine wl_s (pc' := 128) ji_233_126 rfl rfl rfl ?_
  refine wl_s (pc' := 129) ji_233_128 rfl rfl rfl ?_
  refine wl_icmp (t := 162) ji_233_129 rfl (by omega) (by omega) (fun (hb6 : ¬ (20 : Int) = 2) => ?_) (fun (hb6 : ¬ (¬ (20 : Int) = 2)) => (by exfalso; omega))
  refine wl_s (pc' := 164) ji_233_162 rfl rfl rfl ?_
  refine wl_s (pc' := 165) ji_233_164 rfl rfl rfl ?_
  refine wl_icmp (t := 190) ji_233_165 rfl (by omega) (by omega) (fun (hb7 : ¬ (20 : Int) = 3) => ?_) (fun (hb7 : ¬ (¬ (20 : Int) = 3)) => (by exfalso; omega))
  refine wl_s (pc' := 192) ji_233_190 rfl rfl rfl ?_
  refine wl_bp ji_233_192 rfl ?_
  refine wl_icmp (t := 233) ji_233_194 rfl (by omega) (by omega) (fun (hb8 : (10 : Int) ≤ 20) => ?_) (fun (hb8 : ¬ ((10 : Int) ≤ 20)) => (by exfalso; omega))
  refine wl_s (pc' := 235) ji_233_233 rfl rfl rfl ?_
  refine wl_bp ji_233_235 rfl ?_
  refine wl_icmp (t := 277) ji_233_237 rfl (by omega) (by omega) (fun (hb9 : (20 : Int) ≤ 20) => ?_) (fun (hb9 : ¬ ((20 : Int) ≤ 20)) => (by exfalso; omega))
  refine wl_s (pc' := 279) ji_233_277 rfl rfl rfl ?_
  refine wl_bp ji_233_279 rfl ?_
  refine wl_icmp (t := 313) ji_233_281 rfl (by omega) (by omega) (fun (hb10 : ¬ (20 : Int) = 20) => (by exfalso; omega)) (fun (hb10 : ¬ (¬ (20 : Int) = 20)) => ?_)
  refine wl_s (pc' := 285) ji_233_284 rfl rfl rfl ?_
  refine c0_gr (r := 146) (k := 24) C (by decide) sq_138 rfl ji_233_285 jf_233_39 ?_
  refine wl_s (pc' := 290) ji_233_288 rfl rfl rfl ?_
  refine wl_s (pc' := 291) ji_233_290 rfl rfl rfl ?_
  refine wl_isub (x := q + 1) (y := 1) (z := q) ji_233_291 (by omega) ?_
  refine wl_s (pc' := 293) ji_233_292 rfl rfl rfl ?_
  refine c0_gr (r := 146) (k := 24) C (by decide) sq_138 rfl ji_233_293 jf_233_39 ?_
  refine wl_s (pc' := 298) ji_233_296 rfl rfl rfl ?_
  refine wl_s (pc' := 299) ji_233_298 rfl rfl rfl ?_
  refine wl_isub (x := q + 1) (y := 1) (z := q) ji_233_299 (by omega) ?_
  refine c0_lb (x := q) C (by decide) sq_146 (by omega) ji_233_300 (fun ld110 ld111 ld112 => ?_)
  rw [hz1] at ld112 ⊢
  refine wl_if (t := 308) ji_233_301 rfl (by omega) (fun (hb12 : ¬ (z1 : Int) = 0) => ?_) (fun (hb12 : ¬ (¬ (z1 : Int) = 0)) => ?_)
  · refine wl_s (pc' := 309) ji_233_308 rfl rfl rfl ?_
    refine c0_sb (x := q) (y := 0) C (by decide) sq_146 (by omega) (by omega) ji_233_309 (fun h st130 st131 C => ?_)
    obtain ⟨s14, es14⟩ : ∃ z9_, up s 146 q 0 = z9_ := ⟨_, rfl⟩
    rw [es14] at C
    refine wl_goto (t := 389) ji_233_310 rfl ?_
    refine wl_iinc (x := i) (z := i + 1) (lv' := [some (.ref 138), some (wp_i ci), some (wp_i c), some (wp_i b), some (wp_i k), some (wp_i (q + 1)), some (wp_i (i + 1)), some (wp_i 20), some (wp_i v)]) ji_233_389 rfl (Nat.le_of_ble_eq_true rfl) (by omega) rfl ?_
    refine wl_goto (t := 47) ji_233_392 rfl ?_
    exact hr _ 0 (by omega) (by omega) (c0_mono C (by rw [← es14]))
  · refine wl_s (pc' := 305) ji_233_304 rfl rfl rfl ?_
    refine wl_goto (t := 309) ji_233_305 rfl ?_
    refine c0_sb (x := q) (y := 1) C (by decide) sq_146 (by omega) (by omega) ji_233_309 (fun h st150 st151 C => ?_)
    obtain ⟨s16, es16⟩ : ∃ z9_, up s 146 q 1 = z9_ := ⟨_, rfl⟩
    rw [es16] at C
    refine wl_goto (t := 389) ji_233_310 rfl ?_
    refine wl_iinc (x := i) (z := i + 1) (lv' := [some (.ref 138), some (wp_i ci), some (wp_i c), some (wp_i b), some (wp_i k), some (wp_i (q + 1)), some (wp_i (i + 1)), some (wp_i 20), some (wp_i v)]) ji_233_389 rfl (Nat.le_of_ble_eq_true rfl) (by omega) rfl ?_
    refine wl_goto (t := 47) ji_233_392 rfl ?_
    exact hr _ 1 (by omega) (by omega) (c0_mono C (by rw [← es16]))
theorem uc_233_21 {nn d : Nat} {h : mj_H} {s : sg_} {Q : Option Value → mj_H → Prop} (C : CS0 h s) {ci c b i v : Int} {l7 l8 : Option Value} (hc : 0 ≤ c ∧ c ≤ 2817) (hb : 0 ≤ b ∧ 0 ≤ i ∧ i ≤ 1000 ∧ b ≤ 2820) (hu : i < s 141 (c + 2)) (ho : s 141 (b + 2 * i) = 21) (hv : s 141 (b + 2 * i + 1) = v) {k q : Int} (hk : 0 ≤ k ∧ k < 330) (hq0 : 0 ≤ q ∧ q < 330) {z1 z2 : Int} (hz1 : s 146 q = z1) (hz2 : s 146 (q + 1) = z2) (hr : ∀ (h1 : mj_H) (y : Int), (y = 0 ∨ y = 1) → (y = 1 ↔ ¬ z1 = 0 ∧ ¬ z2 = 0) → CS0 h1 (up s 146 q y) → wl_R nn (d + 2) 233 47 [some (.ref 138), some (wp_i ci), some (wp_i c), some (wp_i b), some (wp_i k), some (wp_i (q + 1)), some (wp_i (i + 1)), some (wp_i 21), some (wp_i v)] [] h1 Q) : wl_R (nn + 1) (d + 2) 233 47 [some (.ref 138), some (wp_i ci), some (wp_i c), some (wp_i b), some (wp_i k), some (wp_i (q + 2)), some (wp_i i), l7, l8] [] h Q := by
  refine wl_s1 (pc' := 49) ji_233_47 rfl rfl rfl ?_
  refine wl_s (pc' := 50) ji_233_49 rfl rfl rfl ?_
  refine c0_gr (r := 141) (k := 2) C (by decide) sq_138 rfl ji_233_50 jf_233_16 ?_
  refine wl_s (pc' := 54) ji_233_53 rfl rfl rfl ?_
  refine wl_s (pc' := 55) ji_233_54 rfl rfl rfl ?_
  refine wl_iadd (x := c) (y := 2) (z := c + 2) ji_233_55 (by omega) ?_
  refine c0_l (x := c + 2) C (by decide) sq_141 (by omega) ji_233_56 (fun ld10 ld11 ld12 => ?_)
  refine wl_icmp (t := 395) ji_233_57 rfl (by omega) (by omega) (fun (hb2 : (s 141 (c + 2) : Int) ≤ i) => (by exfalso; omega)) (fun (hb2 : ¬ ((s 141 (c + 2) : Int) ≤ i)) => ?_)
  refine wl_s (pc' := 61) ji_233_60 rfl rfl rfl ?_
  refine c0_gr (r := 141) (k := 2) C (by decide) sq_138 rfl ji_233_61 jf_233_16 ?_
  refine wl_s (pc' := 65) ji_233_64 rfl rfl rfl ?_
  refine wl_s (pc' := 66) ji_233_65 rfl rfl rfl ?_
  refine wl_s (pc' := 68) ji_233_66 rfl rfl rfl ?_
  refine wl_imul (x := 2) (y := i) (z := 2 * i) ji_233_68 (by omega) ?_
  refine wl_iadd (x := b) (y := 2 * i) (z := b + (2 * i)) ji_233_69 (by omega) ?_
  refine c0_l (x := b + (2 * i)) C (by decide) sq_141 (by omega) ji_233_70 (fun ld30 ld31 ld32 => ?_)
  rw [ho] at ld32 ⊢
  refine wl_s (pc' := 73) (lv' := [some (.ref 138), some (wp_i ci), some (wp_i c), some (wp_i b), some (wp_i k), some (wp_i (q + 2)), some (wp_i i), some (wp_i 21), l8]) ji_233_71 rfl rfl rfl ?_
  refine wl_s (pc' := 74) ji_233_73 rfl rfl rfl ?_
  refine c0_gr (r := 141) (k := 2) C (by decide) sq_138 rfl ji_233_74 jf_233_16 ?_
  refine wl_s (pc' := 78) ji_233_77 rfl rfl rfl ?_
  refine wl_s (pc' := 79) ji_233_78 rfl rfl rfl ?_
  refine wl_s (pc' := 81) ji_233_79 rfl rfl rfl ?_
  refine wl_imul (x := 2) (y := i) (z := 2 * i) ji_233_81 (by omega) ?_
  refine wl_iadd (x := b) (y := 2 * i) (z := b + (2 * i)) ji_233_82 (by omega) ?_
  refine wl_s (pc' := 84) ji_233_83 rfl rfl rfl ?_
  refine wl_iadd (x := b + (2 * i)) (y := 1) (z := b + (2 * i) + 1) ji_233_84 (by omega) ?_
  refine c0_l (x := b + (2 * i) + 1) C (by decide) sq_141 (by omega) ji_233_85 (fun ld40 ld41 ld42 => ?_)
  rw [hv] at ld42 ⊢
  refine wl_s (pc' := 88) (lv' := [some (.ref 138), some (wp_i ci), some (wp_i c), some (wp_i b), some (wp_i k), some (wp_i (q + 2)), some (wp_i i), some (wp_i 21), some (wp_i v)]) ji_233_86 rfl rfl rfl ?_
  refine wl_s (pc' := 90) ji_233_88 rfl rfl rfl ?_
  refine wl_s (pc' := 91) ji_233_90 rfl rfl rfl ?_
  refine wl_icmp (t := 126) ji_233_91 rfl (by omega) (by omega) (fun (hb5 : (1 : Int) < 21) => ?_) (fun (hb5 : ¬ ((1 : Int) < 21)) => (by exfalso; omega))
  refine wl_s (pc' := 128) ji_233_126 rfl rfl rfl ?_
  refine wl_s (pc' := 129) ji_233_128 rfl rfl rfl ?_
  refine wl_icmp (t := 162) ji_233_129 rfl (by omega) (by omega) (fun (hb6 : ¬ (21 : Int) = 2) => ?_) (fun (hb6 : ¬ (¬ (21 : Int) = 2)) => (by exfalso; omega))
  refine wl_s (pc' := 164) ji_233_162 rfl rfl rfl ?_
  refine wl_s (pc' := 165) ji_233_164 rfl rfl rfl ?_
  refine wl_icmp (t := 190) ji_233_165 rfl (by omega) (by omega) (fun (hb7 : ¬ (21 : Int) = 3) => ?_) (fun (hb7 : ¬ (¬ (21 : Int) = 3)) => (by exfalso; omega))
  refine wl_s (pc' := 192) ji_233_190 rfl rfl rfl ?_
  refine wl_bp ji_233_192 rfl ?_
  refine wl_icmp (t := 233) ji_233_194 rfl (by omega) (by omega) (fun (hb8 : (10 : Int) ≤ 21) => ?_) (fun (hb8 : ¬ ((10 : Int) ≤ 21)) => (by exfalso; omega))
  refine wl_s (pc' := 235) ji_233_233 rfl rfl rfl ?_
  refine wl_bp ji_233_235 rfl ?_
  refine wl_icmp (t := 277) ji_233_237 rfl (by omega) (by omega) (fun (hb9 : (20 : Int) ≤ 21) => ?_) (fun (hb9 : ¬ ((20 : Int) ≤ 21)) => (by exfalso; omega))
  refine wl_s (pc' := 279) ji_233_277 rfl rfl rfl ?_
  refine wl_bp ji_233_279 rfl ?_
  refine wl_icmp (t := 313) ji_233_281 rfl (by omega) (by omega) (fun (hb10 : ¬ (21 : Int) = 20) => ?_) (fun (hb10 : ¬ (¬ (21 : Int) = 20)) => (by exfalso; omega))
  refine wl_iinc (x := q + 2) (z := q + 1) (lv' := [some (.ref 138), some (wp_i ci), some (wp_i c), some (wp_i b), some (wp_i k), some (wp_i (q + 1)), some (wp_i i), some (wp_i 21), some (wp_i v)]) ji_233_313 rfl (Nat.le_of_ble_eq_true rfl) (by omega) rfl ?_
  refine wl_s (pc' := 317) ji_233_316 rfl rfl rfl ?_
  refine c0_gr (r := 146) (k := 24) C (by decide) sq_138 rfl ji_233_317 jf_233_39 ?_
  refine wl_s (pc' := 322) ji_233_320 rfl rfl rfl ?_
  refine wl_s (pc' := 323) ji_233_322 rfl rfl rfl ?_
  refine wl_isub (x := q + 1) (y := 1) (z := q) ji_233_323 (by omega) ?_
  refine wl_s (pc' := 326) ji_233_324 rfl rfl rfl ?_
  refine wl_bp ji_233_326 rfl ?_
  refine wl_icmp (t := 361) ji_233_328 rfl (by omega) (by omega) (fun (hb11 : ¬ (21 : Int) = 21) => (by exfalso; omega)) (fun (hb11 : ¬ (¬ (21 : Int) = 21)) => ?_)
  refine wl_s (pc' := 332) ji_233_331 rfl rfl rfl ?_
  refine c0_gr (r := 146) (k := 24) C (by decide) sq_138 rfl ji_233_332 jf_233_39 ?_
  refine wl_s (pc' := 337) ji_233_335 rfl rfl rfl ?_
  refine wl_s (pc' := 338) ji_233_337 rfl rfl rfl ?_
  refine wl_isub (x := q + 1) (y := 1) (z := q) ji_233_338 (by omega) ?_
  refine c0_lb (x := q) C (by decide) sq_146 (by omega) ji_233_339 (fun ld120 ld121 ld122 => ?_)
  rw [hz1] at ld122 ⊢
  refine wl_if (t := 357) ji_233_340 rfl (by omega) (fun (hb13 : (z1 : Int) = 0) => ?_) (fun (hb13 : ¬ ((z1 : Int) = 0)) => ?_)
  · refine wl_s (pc' := 358) ji_233_357 rfl rfl rfl ?_
    refine wl_goto (t := 388) ji_233_358 rfl ?_
    refine c0_sb (x := q) (y := 0) C (by decide) sq_146 (by omega) (by omega) ji_233_388 (fun h st140 st141 C => ?_)
    obtain ⟨s15, es15⟩ : ∃ z9_, up s 146 q 0 = z9_ := ⟨_, rfl⟩
    rw [es15] at C
    refine wl_iinc (x := i) (z := i + 1) (lv' := [some (.ref 138), some (wp_i ci), some (wp_i c), some (wp_i b), some (wp_i k), some (wp_i (q + 1)), some (wp_i (i + 1)), some (wp_i 21), some (wp_i v)]) ji_233_389 rfl (Nat.le_of_ble_eq_true rfl) (by omega) rfl ?_
    refine wl_goto (t := 47) ji_233_392 rfl ?_
    exact hr _ 0 (by omega) (by omega) (c0_mono C (by rw [← es15]))
  · refine wl_s (pc' := 344) ji_233_343 rfl rfl rfl ?_
    refine c0_gr (r := 146) (k := 24) C (by decide) sq_138 rfl ji_233_344 jf_233_39 ?_
    refine wl_s (pc' := 349) ji_233_347 rfl rfl rfl ?_
    refine c0_lb (x := q + 1) C (by decide) sq_146 (by omega) ji_233_349 (fun ld160 ld161 ld162 => ?_)
    rw [hz2] at ld162 ⊢
    refine wl_if (t := 357) ji_233_350 rfl (by omega) (fun (hb17 : (z2 : Int) = 0) => ?_) (fun (hb17 : ¬ ((z2 : Int) = 0)) => ?_)
    · refine wl_s (pc' := 358) ji_233_357 rfl rfl rfl ?_
      refine wl_goto (t := 388) ji_233_358 rfl ?_
      refine c0_sb (x := q) (y := 0) C (by decide) sq_146 (by omega) (by omega) ji_233_388 (fun h st180 st181 C => ?_)
      obtain ⟨s19, es19⟩ : ∃ z9_, up s 146 q 0 = z9_ := ⟨_, rfl⟩
      rw [es19] at C
      refine wl_iinc (x := i) (z := i + 1) (lv' := [some (.ref 138), some (wp_i ci), some (wp_i c), some (wp_i b), some (wp_i k), some (wp_i (q + 1)), some (wp_i (i + 1)), some (wp_i 21), some (wp_i v)]) ji_233_389 rfl (Nat.le_of_ble_eq_true rfl) (by omega) rfl ?_
      refine wl_goto (t := 47) ji_233_392 rfl ?_
      exact hr _ 0 (by omega) (by omega) (c0_mono C (by rw [← es19]))
    · refine wl_s (pc' := 354) ji_233_353 rfl rfl rfl ?_
      refine wl_goto (t := 388) ji_233_354 rfl ?_
      refine c0_sb (x := q) (y := 1) C (by decide) sq_146 (by omega) (by omega) ji_233_388 (fun h st200 st201 C => ?_)
      obtain ⟨s21, es21⟩ : ∃ z9_, up s 146 q 1 = z9_ := ⟨_, rfl⟩
      rw [es21] at C
      refine wl_iinc (x := i) (z := i + 1) (lv' := [some (.ref 138), some (wp_i ci), some (wp_i c), some (wp_i b), some (wp_i k), some (wp_i (q + 1)), some (wp_i (i + 1)), some (wp_i 21), some (wp_i v)]) ji_233_389 rfl (Nat.le_of_ble_eq_true rfl) (by omega) rfl ?_
      refine wl_goto (t := 47) ji_233_392 rfl ?_
      exact hr _ 1 (by omega) (by omega) (c0_mono C (by rw [← es21]))
theorem uc_233_22 {nn d : Nat} {h : mj_H} {s : sg_} {Q : Option Value → mj_H → Prop} (C : CS0 h s) {ci c b i v : Int} {l7 l8 : Option Value} (hc : 0 ≤ c ∧ c ≤ 2817) (hb : 0 ≤ b ∧ 0 ≤ i ∧ i ≤ 1000 ∧ b ≤ 2820) (hu : i < s 141 (c + 2)) (ho : s 141 (b + 2 * i) = 22) (hv : s 141 (b + 2 * i + 1) = v) {k q : Int} (hk : 0 ≤ k ∧ k < 330) (hq0 : 0 ≤ q ∧ q < 330) {z1 z2 : Int} (hz1 : s 146 q = z1) (hz2 : s 146 (q + 1) = z2) (hr : ∀ (h1 : mj_H) (y : Int), (y = 0 ∨ y = 1) → (y = 1 ↔ ¬ z1 = 0 ∨ ¬ z2 = 0) → CS0 h1 (up s 146 q y) → wl_R nn (d + 2) 233 47 [some (.ref 138), some (wp_i ci), some (wp_i c), some (wp_i b), some (wp_i k), some (wp_i (q + 1)), some (wp_i (i + 1)), some (wp_i 22), some (wp_i v)] [] h1 Q) : wl_R (nn + 1) (d + 2) 233 47 [some (.ref 138), some (wp_i ci), some (wp_i c), some (wp_i b), some (wp_i k), some (wp_i (q + 2)), some (wp_i i), l7, l8] [] h Q := by
  refine wl_s1 (pc' := 49) ji_233_47 rfl rfl rfl ?_
  refine wl_s (pc' := 50) ji_233_49 rfl rfl rfl ?_
  refine c0_gr (r := 141) (k := 2) C (by decide) sq_138 rfl ji_233_50 jf_233_16 ?_
  refine wl_s (pc' := 54) ji_233_53 rfl rfl rfl ?_
  refine wl_s (pc' := 55) ji_233_54 rfl rfl rfl ?_
  refine wl_iadd (x := c) (y := 2) (z := c + 2) ji_233_55 (by omega) ?_
  refine c0_l (x := c + 2) C (by decide) sq_141 (by omega) ji_233_56 (fun ld10 ld11 ld12 => ?_)
  refine wl_icmp (t := 395) ji_233_57 rfl (by omega) (by omega) (fun (hb2 : (s 141 (c + 2) : Int) ≤ i) => (by exfalso; omega)) (fun (hb2 : ¬ ((s 141 (c + 2) : Int) ≤ i)) => ?_)
  refine wl_s (pc' := 61) ji_233_60 rfl rfl rfl ?_
  refine c0_gr (r := 141) (k := 2) C (by decide) sq_138 rfl ji_233_61 jf_233_16 ?_
  refine wl_s (pc' := 65) ji_233_64 rfl rfl rfl ?_
  refine wl_s (pc' := 66) ji_233_65 rfl rfl rfl ?_
  refine wl_s (pc' := 68) ji_233_66 rfl rfl rfl ?_
  refine wl_imul (x := 2) (y := i) (z := 2 * i) ji_233_68 (by omega) ?_
  refine wl_iadd (x := b) (y := 2 * i) (z := b + (2 * i)) ji_233_69 (by omega) ?_
  refine c0_l (x := b + (2 * i)) C (by decide) sq_141 (by omega) ji_233_70 (fun ld30 ld31 ld32 => ?_)
  rw [ho] at ld32 ⊢
  refine wl_s (pc' := 73) (lv' := [some (.ref 138), some (wp_i ci), some (wp_i c), some (wp_i b), some (wp_i k), some (wp_i (q + 2)), some (wp_i i), some (wp_i 22), l8]) ji_233_71 rfl rfl rfl ?_
  refine wl_s (pc' := 74) ji_233_73 rfl rfl rfl ?_
  refine c0_gr (r := 141) (k := 2) C (by decide) sq_138 rfl ji_233_74 jf_233_16 ?_
  refine wl_s (pc' := 78) ji_233_77 rfl rfl rfl ?_
  refine wl_s (pc' := 79) ji_233_78 rfl rfl rfl ?_
  refine wl_s (pc' := 81) ji_233_79 rfl rfl rfl ?_
  refine wl_imul (x := 2) (y := i) (z := 2 * i) ji_233_81 (by omega) ?_
  refine wl_iadd (x := b) (y := 2 * i) (z := b + (2 * i)) ji_233_82 (by omega) ?_
  refine wl_s (pc' := 84) ji_233_83 rfl rfl rfl ?_
  refine wl_iadd (x := b + (2 * i)) (y := 1) (z := b + (2 * i) + 1) ji_233_84 (by omega) ?_
  refine c0_l (x := b + (2 * i) + 1) C (by decide) sq_141 (by omega) ji_233_85 (fun ld40 ld41 ld42 => ?_)
  rw [hv] at ld42 ⊢
  refine wl_s (pc' := 88) (lv' := [some (.ref 138), some (wp_i ci), some (wp_i c), some (wp_i b), some (wp_i k), some (wp_i (q + 2)), some (wp_i i), some (wp_i 22), some (wp_i v)]) ji_233_86 rfl rfl rfl ?_
  refine wl_s (pc' := 90) ji_233_88 rfl rfl rfl ?_
  refine wl_s (pc' := 91) ji_233_90 rfl rfl rfl ?_
  refine wl_icmp (t := 126) ji_233_91 rfl (by omega) (by omega) (fun (hb5 : (1 : Int) < 22) => ?_) (fun (hb5 : ¬ ((1 : Int) < 22)) => (by exfalso; omega))
  refine wl_s (pc' := 128) ji_233_126 rfl rfl rfl ?_
  refine wl_s (pc' := 129) ji_233_128 rfl rfl rfl ?_
  refine wl_icmp (t := 162) ji_233_129 rfl (by omega) (by omega) (fun (hb6 : ¬ (22 : Int) = 2) => ?_) (fun (hb6 : ¬ (¬ (22 : Int) = 2)) => (by exfalso; omega))
  refine wl_s (pc' := 164) ji_233_162 rfl rfl rfl ?_
  refine wl_s (pc' := 165) ji_233_164 rfl rfl rfl ?_
  refine wl_icmp (t := 190) ji_233_165 rfl (by omega) (by omega) (fun (hb7 : ¬ (22 : Int) = 3) => ?_) (fun (hb7 : ¬ (¬ (22 : Int) = 3)) => (by exfalso; omega))
  refine wl_s (pc' := 192) ji_233_190 rfl rfl rfl ?_
  refine wl_bp ji_233_192 rfl ?_
  refine wl_icmp (t := 233) ji_233_194 rfl (by omega) (by omega) (fun (hb8 : (10 : Int) ≤ 22) => ?_) (fun (hb8 : ¬ ((10 : Int) ≤ 22)) => (by exfalso; omega))
  refine wl_s (pc' := 235) ji_233_233 rfl rfl rfl ?_
  refine wl_bp ji_233_235 rfl ?_
  refine wl_icmp (t := 277) ji_233_237 rfl (by omega) (by omega) (fun (hb9 : (20 : Int) ≤ 22) => ?_) (fun (hb9 : ¬ ((20 : Int) ≤ 22)) => (by exfalso; omega))
  refine wl_s (pc' := 279) ji_233_277 rfl rfl rfl ?_
  refine wl_bp ji_233_279 rfl ?_
  refine wl_icmp (t := 313) ji_233_281 rfl (by omega) (by omega) (fun (hb10 : ¬ (22 : Int) = 20) => ?_) (fun (hb10 : ¬ (¬ (22 : Int) = 20)) => (by exfalso; omega))
  refine wl_iinc (x := q + 2) (z := q + 1) (lv' := [some (.ref 138), some (wp_i ci), some (wp_i c), some (wp_i b), some (wp_i k), some (wp_i (q + 1)), some (wp_i i), some (wp_i 22), some (wp_i v)]) ji_233_313 rfl (Nat.le_of_ble_eq_true rfl) (by omega) rfl ?_
  refine wl_s (pc' := 317) ji_233_316 rfl rfl rfl ?_
  refine c0_gr (r := 146) (k := 24) C (by decide) sq_138 rfl ji_233_317 jf_233_39 ?_
  refine wl_s (pc' := 322) ji_233_320 rfl rfl rfl ?_
  refine wl_s (pc' := 323) ji_233_322 rfl rfl rfl ?_
  refine wl_isub (x := q + 1) (y := 1) (z := q) ji_233_323 (by omega) ?_
  refine wl_s (pc' := 326) ji_233_324 rfl rfl rfl ?_
  refine wl_bp ji_233_326 rfl ?_
  refine wl_icmp (t := 361) ji_233_328 rfl (by omega) (by omega) (fun (hb11 : ¬ (22 : Int) = 21) => ?_) (fun (hb11 : ¬ (¬ (22 : Int) = 21)) => (by exfalso; omega))
  refine wl_s (pc' := 362) ji_233_361 rfl rfl rfl ?_
  refine c0_gr (r := 146) (k := 24) C (by decide) sq_138 rfl ji_233_362 jf_233_39 ?_
  refine wl_s (pc' := 367) ji_233_365 rfl rfl rfl ?_
  refine wl_s (pc' := 368) ji_233_367 rfl rfl rfl ?_
  refine wl_isub (x := q + 1) (y := 1) (z := q) ji_233_368 (by omega) ?_
  refine c0_lb (x := q) C (by decide) sq_146 (by omega) ji_233_369 (fun ld120 ld121 ld122 => ?_)
  rw [hz1] at ld122 ⊢
  refine wl_if (t := 383) ji_233_370 rfl (by omega) (fun (hb13 : ¬ (z1 : Int) = 0) => ?_) (fun (hb13 : ¬ (¬ (z1 : Int) = 0)) => ?_)
  · refine wl_s (pc' := 384) ji_233_383 rfl rfl rfl ?_
    refine wl_goto (t := 388) ji_233_384 rfl ?_
    refine c0_sb (x := q) (y := 1) C (by decide) sq_146 (by omega) (by omega) ji_233_388 (fun h st140 st141 C => ?_)
    obtain ⟨s15, es15⟩ : ∃ z9_, up s 146 q 1 = z9_ := ⟨_, rfl⟩
    rw [es15] at C
    refine wl_iinc (x := i) (z := i + 1) (lv' := [some (.ref 138), some (wp_i ci), some (wp_i c), some (wp_i b), some (wp_i k), some (wp_i (q + 1)), some (wp_i (i + 1)), some (wp_i 22), some (wp_i v)]) ji_233_389 rfl (Nat.le_of_ble_eq_true rfl) (by omega) rfl ?_
    refine wl_goto (t := 47) ji_233_392 rfl ?_
    exact hr _ 1 (by omega) (by omega) (c0_mono C (by rw [← es15]))
  · refine wl_s (pc' := 374) ji_233_373 rfl rfl rfl ?_
    refine c0_gr (r := 146) (k := 24) C (by decide) sq_138 rfl ji_233_374 jf_233_39 ?_
    refine wl_s (pc' := 379) ji_233_377 rfl rfl rfl ?_
    refine c0_lb (x := q + 1) C (by decide) sq_146 (by omega) ji_233_379 (fun ld160 ld161 ld162 => ?_)
    rw [hz2] at ld162 ⊢
    refine wl_if (t := 387) ji_233_380 rfl (by omega) (fun (hb17 : (z2 : Int) = 0) => ?_) (fun (hb17 : ¬ ((z2 : Int) = 0)) => ?_)
    · refine wl_s (pc' := 388) ji_233_387 rfl rfl rfl ?_
      refine c0_sb (x := q) (y := 0) C (by decide) sq_146 (by omega) (by omega) ji_233_388 (fun h st180 st181 C => ?_)
      obtain ⟨s19, es19⟩ : ∃ z9_, up s 146 q 0 = z9_ := ⟨_, rfl⟩
      rw [es19] at C
      refine wl_iinc (x := i) (z := i + 1) (lv' := [some (.ref 138), some (wp_i ci), some (wp_i c), some (wp_i b), some (wp_i k), some (wp_i (q + 1)), some (wp_i (i + 1)), some (wp_i 22), some (wp_i v)]) ji_233_389 rfl (Nat.le_of_ble_eq_true rfl) (by omega) rfl ?_
      refine wl_goto (t := 47) ji_233_392 rfl ?_
      exact hr _ 0 (by omega) (by omega) (c0_mono C (by rw [← es19]))
    · refine wl_s (pc' := 384) ji_233_383 rfl rfl rfl ?_
      refine wl_goto (t := 388) ji_233_384 rfl ?_
      refine c0_sb (x := q) (y := 1) C (by decide) sq_146 (by omega) (by omega) ji_233_388 (fun h st200 st201 C => ?_)
      obtain ⟨s21, es21⟩ : ∃ z9_, up s 146 q 1 = z9_ := ⟨_, rfl⟩
      rw [es21] at C
      refine wl_iinc (x := i) (z := i + 1) (lv' := [some (.ref 138), some (wp_i ci), some (wp_i c), some (wp_i b), some (wp_i k), some (wp_i (q + 1)), some (wp_i (i + 1)), some (wp_i 22), some (wp_i v)]) ji_233_389 rfl (Nat.le_of_ble_eq_true rfl) (by omega) rfl ?_
      refine wl_goto (t := 47) ji_233_392 rfl ?_
      exact hr _ 1 (by omega) (by omega) (c0_mono C (by rw [← es21]))
