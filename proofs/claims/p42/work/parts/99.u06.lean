/-! -/
/-! -/
set_option maxRecDepth 100000 in
theorem ji_67_20 : mj_ins 67 20 = some (.iload 5) := by decide +kernel
set_option maxRecDepth 100000 in
theorem ji_67_22 : mj_ins 67 22 = some (.iload_n 2) := by decide +kernel
set_option maxRecDepth 100000 in
theorem ji_67_23 : mj_ins 67 23 = some (.if_icmp .ge 28) := by decide +kernel
set_option maxRecDepth 100000 in
theorem ji_67_51 : mj_ins 67 51 = some (.aload_n 0) := by decide +kernel
set_option maxRecDepth 100000 in
theorem ji_67_52 : mj_ins 67 52 = some (.getfield 39) := by decide +kernel
set_option maxRecDepth 100000 in
theorem jf_67_39 : mj_fld 67 39 = some (1, 8, (.array .int), false) := by decide +kernel
set_option maxRecDepth 100000 in
theorem ji_67_55 : mj_ins 67 55 = some (.iload_n 3) := by decide +kernel
set_option maxRecDepth 100000 in
theorem ji_67_56 : mj_ins 67 56 = some (.iload 4) := by decide +kernel
set_option maxRecDepth 100000 in
theorem ji_67_58 : mj_ins 67 58 = some (.iastore) := by decide +kernel
set_option maxRecDepth 100000 in
theorem sq_10 : sh_T[10]? = some (1000, [], 64, 0) := by decide +kernel
set_option maxRecDepth 100000 in
theorem ji_67_59 : mj_ins 67 59 = some (.iload_n 3) := by decide +kernel
set_option maxRecDepth 100000 in
theorem ji_67_60 : mj_ins 67 60 = some (.iconst 1) := by decide +kernel
set_option maxRecDepth 100000 in
theorem ji_67_61 : mj_ins 67 61 = some (.iadd) := by decide +kernel
set_option maxRecDepth 100000 in
theorem ji_67_62 : mj_ins 67 62 = some (.ireturn) := by decide +kernel
set_option maxRecDepth 100000 in
theorem jr_67 : mj_ret 67 = some .int := by decide +kernel
set_option maxRecDepth 100000 in
theorem ji_67_26 : mj_ins 67 26 = some (.aload_n 0) := by decide +kernel
set_option maxRecDepth 100000 in
theorem ji_67_27 : mj_ins 67 27 = some (.getfield 39) := by decide +kernel
set_option maxRecDepth 100000 in
theorem ji_67_30 : mj_ins 67 30 = some (.iload 5) := by decide +kernel
set_option maxRecDepth 100000 in
theorem ji_67_32 : mj_ins 67 32 = some (.iaload) := by decide +kernel
set_option maxRecDepth 100000 in
theorem ji_67_33 : mj_ins 67 33 = some (.aload_n 0) := by decide +kernel
set_option maxRecDepth 100000 in
theorem ji_67_34 : mj_ins 67 34 = some (.getfield 39) := by decide +kernel
set_option maxRecDepth 100000 in
theorem ji_67_37 : mj_ins 67 37 = some (.iload_n 3) := by decide +kernel
set_option maxRecDepth 100000 in
theorem ji_67_38 : mj_ins 67 38 = some (.iaload) := by decide +kernel
set_option maxRecDepth 100000 in
theorem ji_67_39 : mj_ins 67 39 = some (.if_icmp .ne 6) := by decide +kernel
set_option maxRecDepth 100000 in
theorem ji_67_45 : mj_ins 67 45 = some (.iinc 5 1) := by decide +kernel
set_option maxRecDepth 100000 in
theorem ji_67_48 : mj_ins 67 48 = some (.goto (-28)) := by decide +kernel
set_option maxRecDepth 100000 in
theorem ji_67_42 : mj_ins 67 42 = some (.iconst 1) := by decide +kernel
set_option maxRecDepth 100000 in
theorem ji_67_43 : mj_ins 67 43 = some (.istore 4) := by decide +kernel
set_option maxRecDepth 100000 in
theorem ji_67_0 : mj_ins 67 0 = some (.iload_n 2) := by decide +kernel
set_option maxRecDepth 100000 in
theorem ji_67_1 : mj_ins 67 1 = some (.iload_n 1) := by decide +kernel
set_option maxRecDepth 100000 in
theorem ji_67_2 : mj_ins 67 2 = some (.isub) := by decide +kernel
set_option maxRecDepth 100000 in
theorem ji_67_3 : mj_ins 67 3 = some (.iconst 1) := by decide +kernel
set_option maxRecDepth 100000 in
theorem ji_67_4 : mj_ins 67 4 = some (.isub) := by decide +kernel
set_option maxRecDepth 100000 in
theorem ji_67_5 : mj_ins 67 5 = some (.istore_n 3) := by decide +kernel
set_option maxRecDepth 100000 in
theorem ji_67_6 : mj_ins 67 6 = some (.iload_n 3) := by decide +kernel
set_option maxRecDepth 100000 in
theorem ji_67_7 : mj_ins 67 7 = some (.ifCond .ge 5) := by decide +kernel
set_option maxRecDepth 100000 in
theorem ji_67_12 : mj_ins 67 12 = some (.iconst 0) := by decide +kernel
set_option maxRecDepth 100000 in
theorem ji_67_13 : mj_ins 67 13 = some (.istore 4) := by decide +kernel
set_option maxRecDepth 100000 in
theorem ji_67_15 : mj_ins 67 15 = some (.iload_n 3) := by decide +kernel
set_option maxRecDepth 100000 in
theorem ji_67_16 : mj_ins 67 16 = some (.iconst 1) := by decide +kernel
set_option maxRecDepth 100000 in
theorem ji_67_17 : mj_ins 67 17 = some (.iadd) := by decide +kernel
set_option maxRecDepth 100000 in
theorem ji_67_18 : mj_ins 67 18 = some (.istore 5) := by decide +kernel
set_option maxRecDepth 100000 in
theorem ji_66_0 : mj_ins 66 0 = some (.iload_n 1) := by decide +kernel
set_option maxRecDepth 100000 in
theorem ji_66_1 : mj_ins 66 1 = some (.sipush 30000) := by decide +kernel
set_option maxRecDepth 100000 in
theorem ji_66_4 : mj_ins 66 4 = some (.if_icmp .le 14) := by decide +kernel
set_option maxRecDepth 100000 in
theorem ji_66_18 : mj_ins 66 18 = some (.iload_n 1) := by decide +kernel
set_option maxRecDepth 100000 in
theorem ji_66_19 : mj_ins 66 19 = some (.sipush 20000) := by decide +kernel
set_option maxRecDepth 100000 in
theorem ji_66_22 : mj_ins 66 22 = some (.isub) := by decide +kernel
set_option maxRecDepth 100000 in
theorem ji_66_23 : mj_ins 66 23 = some (.istore_n 3) := by decide +kernel
set_option maxRecDepth 100000 in
theorem ji_66_24 : mj_ins 66 24 = some (.iload_n 3) := by decide +kernel
set_option maxRecDepth 100000 in
theorem ji_66_25 : mj_ins 66 25 = some (.bipush 110) := by decide +kernel
set_option maxRecDepth 100000 in
theorem ji_66_27 : mj_ins 66 27 = some (.if_icmp .eq 9) := by decide +kernel
set_option maxRecDepth 100000 in
theorem ji_66_36 : mj_ins 66 36 = some (.iconst 1) := by decide +kernel
set_option maxRecDepth 100000 in
theorem ji_66_37 : mj_ins 66 37 = some (.goto 4) := by decide +kernel
set_option maxRecDepth 100000 in
theorem ji_66_41 : mj_ins 66 41 = some (.istore 4) := by decide +kernel
set_option maxRecDepth 100000 in
theorem ji_66_43 : mj_ins 66 43 = some (.iload_n 2) := by decide +kernel
set_option maxRecDepth 100000 in
theorem ji_66_44 : mj_ins 66 44 = some (.iload 4) := by decide +kernel
set_option maxRecDepth 100000 in
theorem ji_66_46 : mj_ins 66 46 = some (.if_icmp .ge 5) := by decide +kernel
set_option maxRecDepth 100000 in
theorem ji_66_51 : mj_ins 66 51 = some (.aload_n 0) := by decide +kernel
set_option maxRecDepth 100000 in
theorem ji_66_52 : mj_ins 66 52 = some (.getfield 39) := by decide +kernel
set_option maxRecDepth 100000 in
theorem jf_66_39 : mj_fld 66 39 = some (1, 8, (.array .int), false) := by decide +kernel
set_option maxRecDepth 100000 in
theorem ji_66_55 : mj_ins 66 55 = some (.iload_n 2) := by decide +kernel
set_option maxRecDepth 100000 in
theorem ji_66_56 : mj_ins 66 56 = some (.iload 4) := by decide +kernel
set_option maxRecDepth 100000 in
theorem ji_66_58 : mj_ins 66 58 = some (.isub) := by decide +kernel
set_option maxRecDepth 100000 in
theorem ji_66_59 : mj_ins 66 59 = some (.iaload) := by decide +kernel
set_option maxRecDepth 100000 in
theorem ji_66_60 : mj_ins 66 60 = some (.i2l) := by decide +kernel
set_option maxRecDepth 100000 in
theorem ji_66_61 : mj_ins 66 61 = some (.lstore 5) := by decide +kernel
set_option maxRecDepth 100000 in
theorem ji_66_63 : mj_ins 66 63 = some (.aload_n 0) := by decide +kernel
set_option maxRecDepth 100000 in
theorem ji_66_64 : mj_ins 66 64 = some (.getfield 39) := by decide +kernel
set_option maxRecDepth 100000 in
theorem ji_66_67 : mj_ins 66 67 = some (.iload_n 2) := by decide +kernel
set_option maxRecDepth 100000 in
theorem ji_66_68 : mj_ins 66 68 = some (.iconst 1) := by decide +kernel
set_option maxRecDepth 100000 in
theorem ji_66_69 : mj_ins 66 69 = some (.isub) := by decide +kernel
set_option maxRecDepth 100000 in
theorem ji_66_70 : mj_ins 66 70 = some (.iaload) := by decide +kernel
set_option maxRecDepth 100000 in
theorem ji_66_71 : mj_ins 66 71 = some (.i2l) := by decide +kernel
set_option maxRecDepth 100000 in
theorem ji_66_72 : mj_ins 66 72 = some (.lstore 7) := by decide +kernel
set_option maxRecDepth 100000 in
theorem ji_66_74 : mj_ins 66 74 = some (.lconst 0) := by decide +kernel
set_option maxRecDepth 100000 in
theorem ji_66_75 : mj_ins 66 75 = some (.lstore 9) := by decide +kernel
set_option maxRecDepth 100000 in
theorem ji_66_77 : mj_ins 66 77 = some (.iload_n 3) := by decide +kernel
set_option maxRecDepth 100000 in
theorem ji_66_78 : mj_ins 66 78 = some (.lookupswitch 318 #[(33, 130), (35, 213), (38, 139), (42, 287), (43, 267), (45, 277), (47, 297), (60, 159), (61, 195), (62, 177), (103, 249), (108, 231), (110, 122), (124, 149)]) := by decide +kernel
set_option maxRecDepth 100000 in
theorem ji_66_200 : mj_ins 66 200 = some (.lload 7) := by decide +kernel
set_option maxRecDepth 100000 in
theorem ji_66_202 : mj_ins 66 202 = some (.lneg) := by decide +kernel
set_option maxRecDepth 100000 in
theorem ji_66_203 : mj_ins 66 203 = some (.lstore 9) := by decide +kernel
set_option maxRecDepth 100000 in
theorem ji_66_205 : mj_ins 66 205 = some (.goto 191) := by decide +kernel
set_option maxRecDepth 100000 in
theorem ji_66_396 : mj_ins 66 396 = some (.aload_n 0) := by decide +kernel
set_option maxRecDepth 100000 in
theorem ji_66_397 : mj_ins 66 397 = some (.getfield 39) := by decide +kernel
set_option maxRecDepth 100000 in
theorem ji_66_400 : mj_ins 66 400 = some (.iload_n 2) := by decide +kernel
set_option maxRecDepth 100000 in
theorem ji_66_401 : mj_ins 66 401 = some (.iload 4) := by decide +kernel
set_option maxRecDepth 100000 in
theorem ji_66_403 : mj_ins 66 403 = some (.isub) := by decide +kernel
set_option maxRecDepth 100000 in
theorem ji_66_404 : mj_ins 66 404 = some (.ldc2_w 76) := by decide +kernel
set_option maxRecDepth 100000 in
theorem jcn_66_76 : mj_con 66 76 = some (.long (-1000000)) := by decide +kernel
set_option maxRecDepth 100000 in
theorem ji_66_407 : mj_ins 66 407 = some (.ldc2_w 78) := by decide +kernel
set_option maxRecDepth 100000 in
theorem jcn_66_78 : mj_con 66 78 = some (.long 1000000) := by decide +kernel
set_option maxRecDepth 100000 in
theorem ji_66_410 : mj_ins 66 410 = some (.lload 9) := by decide +kernel
set_option maxRecDepth 100000 in
theorem ji_66_412 : mj_ins 66 412 = some (.invokestatic 80) := by decide +kernel
set_option maxRecDepth 100000 in
theorem jc_66_80 : mj_cal 66 80 = some (14, 0, 0) := by decide +kernel
set_option maxRecDepth 100000 in
theorem ji_66_415 : mj_ins 66 415 = some (.invokestatic 83) := by decide +kernel
set_option maxRecDepth 100000 in
theorem jc_66_83 : mj_cal 66 83 = some (13, 0, 0) := by decide +kernel
set_option maxRecDepth 100000 in
theorem ji_66_418 : mj_ins 66 418 = some (.l2i) := by decide +kernel
set_option maxRecDepth 100000 in
theorem ji_66_419 : mj_ins 66 419 = some (.iastore) := by decide +kernel
set_option maxRecDepth 100000 in
theorem ji_66_420 : mj_ins 66 420 = some (.iload_n 2) := by decide +kernel
set_option maxRecDepth 100000 in
theorem ji_66_421 : mj_ins 66 421 = some (.iload 4) := by decide +kernel
set_option maxRecDepth 100000 in
theorem ji_66_423 : mj_ins 66 423 = some (.isub) := by decide +kernel
set_option maxRecDepth 100000 in
theorem ji_66_424 : mj_ins 66 424 = some (.iconst 1) := by decide +kernel
set_option maxRecDepth 100000 in
theorem ji_66_425 : mj_ins 66 425 = some (.iadd) := by decide +kernel
set_option maxRecDepth 100000 in
theorem ji_66_426 : mj_ins 66 426 = some (.ireturn) := by decide +kernel
set_option maxRecDepth 100000 in
theorem jr_66 : mj_ret 66 = some .int := by decide +kernel
set_option maxRecDepth 100000 in
theorem ji_66_30 : mj_ins 66 30 = some (.iload_n 3) := by decide +kernel
set_option maxRecDepth 100000 in
theorem ji_66_31 : mj_ins 66 31 = some (.bipush 33) := by decide +kernel
set_option maxRecDepth 100000 in
theorem ji_66_33 : mj_ins 66 33 = some (.if_icmp .ne 7) := by decide +kernel
set_option maxRecDepth 100000 in
theorem ji_66_208 : mj_ins 66 208 = some (.lconst 1) := by decide +kernel
set_option maxRecDepth 100000 in
theorem ji_66_209 : mj_ins 66 209 = some (.lload 7) := by decide +kernel
set_option maxRecDepth 100000 in
theorem ji_66_211 : mj_ins 66 211 = some (.lsub) := by decide +kernel
set_option maxRecDepth 100000 in
theorem ji_66_212 : mj_ins 66 212 = some (.lstore 9) := by decide +kernel
set_option maxRecDepth 100000 in
theorem ji_66_214 : mj_ins 66 214 = some (.goto 182) := by decide +kernel
set_option maxRecDepth 100000 in
theorem ji_66_40 : mj_ins 66 40 = some (.iconst 2) := by decide +kernel
set_option maxRecDepth 100000 in
theorem ji_66_217 : mj_ins 66 217 = some (.lload 5) := by decide +kernel
set_option maxRecDepth 100000 in
theorem ji_66_219 : mj_ins 66 219 = some (.lload 7) := by decide +kernel
set_option maxRecDepth 100000 in
theorem ji_66_221 : mj_ins 66 221 = some (.land) := by decide +kernel
set_option maxRecDepth 100000 in
theorem ji_66_222 : mj_ins 66 222 = some (.lstore 9) := by decide +kernel
set_option maxRecDepth 100000 in
theorem ji_66_224 : mj_ins 66 224 = some (.goto 172) := by decide +kernel
set_option maxRecDepth 100000 in
theorem ji_66_227 : mj_ins 66 227 = some (.lload 5) := by decide +kernel
set_option maxRecDepth 100000 in
theorem ji_66_229 : mj_ins 66 229 = some (.lload 7) := by decide +kernel
set_option maxRecDepth 100000 in
theorem ji_66_231 : mj_ins 66 231 = some (.lor) := by decide +kernel
set_option maxRecDepth 100000 in
theorem ji_66_232 : mj_ins 66 232 = some (.lstore 9) := by decide +kernel
set_option maxRecDepth 100000 in
theorem ji_66_234 : mj_ins 66 234 = some (.goto 162) := by decide +kernel
set_option maxRecDepth 100000 in
theorem ji_66_237 : mj_ins 66 237 = some (.lload 5) := by decide +kernel
set_option maxRecDepth 100000 in
theorem ji_66_239 : mj_ins 66 239 = some (.lload 7) := by decide +kernel
set_option maxRecDepth 100000 in
theorem ji_66_241 : mj_ins 66 241 = some (.lcmp) := by decide +kernel
set_option maxRecDepth 100000 in
theorem ji_66_242 : mj_ins 66 242 = some (.ifCond .ge 7) := by decide +kernel
set_option maxRecDepth 100000 in
theorem ji_66_249 : mj_ins 66 249 = some (.lconst 0) := by decide +kernel
set_option maxRecDepth 100000 in
theorem ji_66_250 : mj_ins 66 250 = some (.lstore 9) := by decide +kernel
set_option maxRecDepth 100000 in
theorem ji_66_252 : mj_ins 66 252 = some (.goto 144) := by decide +kernel
set_option maxRecDepth 100000 in
theorem ji_66_245 : mj_ins 66 245 = some (.lconst 1) := by decide +kernel
set_option maxRecDepth 100000 in
theorem ji_66_246 : mj_ins 66 246 = some (.goto 4) := by decide +kernel
set_option maxRecDepth 100000 in
theorem ji_66_255 : mj_ins 66 255 = some (.lload 5) := by decide +kernel
set_option maxRecDepth 100000 in
theorem ji_66_257 : mj_ins 66 257 = some (.lload 7) := by decide +kernel
set_option maxRecDepth 100000 in
theorem ji_66_259 : mj_ins 66 259 = some (.lcmp) := by decide +kernel
set_option maxRecDepth 100000 in
theorem ji_66_260 : mj_ins 66 260 = some (.ifCond .le 7) := by decide +kernel
set_option maxRecDepth 100000 in
theorem ji_66_267 : mj_ins 66 267 = some (.lconst 0) := by decide +kernel
set_option maxRecDepth 100000 in
theorem ji_66_268 : mj_ins 66 268 = some (.lstore 9) := by decide +kernel
set_option maxRecDepth 100000 in
theorem ji_66_270 : mj_ins 66 270 = some (.goto 126) := by decide +kernel
set_option maxRecDepth 100000 in
theorem ji_66_263 : mj_ins 66 263 = some (.lconst 1) := by decide +kernel
set_option maxRecDepth 100000 in
theorem ji_66_264 : mj_ins 66 264 = some (.goto 4) := by decide +kernel
set_option maxRecDepth 100000 in
theorem ji_66_273 : mj_ins 66 273 = some (.lload 5) := by decide +kernel
set_option maxRecDepth 100000 in
theorem ji_66_275 : mj_ins 66 275 = some (.lload 7) := by decide +kernel
set_option maxRecDepth 100000 in
theorem ji_66_277 : mj_ins 66 277 = some (.lcmp) := by decide +kernel
set_option maxRecDepth 100000 in
theorem ji_66_278 : mj_ins 66 278 = some (.ifCond .ne 7) := by decide +kernel
set_option maxRecDepth 100000 in
theorem ji_66_285 : mj_ins 66 285 = some (.lconst 0) := by decide +kernel
set_option maxRecDepth 100000 in
theorem ji_66_286 : mj_ins 66 286 = some (.lstore 9) := by decide +kernel
set_option maxRecDepth 100000 in
theorem ji_66_288 : mj_ins 66 288 = some (.goto 108) := by decide +kernel
set_option maxRecDepth 100000 in
theorem ji_66_281 : mj_ins 66 281 = some (.lconst 1) := by decide +kernel
set_option maxRecDepth 100000 in
theorem ji_66_282 : mj_ins 66 282 = some (.goto 4) := by decide +kernel
set_option maxRecDepth 100000 in
theorem ji_66_291 : mj_ins 66 291 = some (.lload 5) := by decide +kernel
set_option maxRecDepth 100000 in
theorem ji_66_293 : mj_ins 66 293 = some (.lload 7) := by decide +kernel
set_option maxRecDepth 100000 in
theorem ji_66_295 : mj_ins 66 295 = some (.lcmp) := by decide +kernel
set_option maxRecDepth 100000 in
theorem ji_66_296 : mj_ins 66 296 = some (.ifCond .eq 7) := by decide +kernel
set_option maxRecDepth 100000 in
theorem ji_66_303 : mj_ins 66 303 = some (.lconst 0) := by decide +kernel
set_option maxRecDepth 100000 in
theorem ji_66_304 : mj_ins 66 304 = some (.lstore 9) := by decide +kernel
set_option maxRecDepth 100000 in
theorem ji_66_306 : mj_ins 66 306 = some (.goto 90) := by decide +kernel
set_option maxRecDepth 100000 in
theorem ji_66_299 : mj_ins 66 299 = some (.lconst 1) := by decide +kernel
set_option maxRecDepth 100000 in
theorem ji_66_300 : mj_ins 66 300 = some (.goto 4) := by decide +kernel
set_option maxRecDepth 100000 in
theorem ji_66_309 : mj_ins 66 309 = some (.lload 5) := by decide +kernel
set_option maxRecDepth 100000 in
theorem ji_66_311 : mj_ins 66 311 = some (.lload 7) := by decide +kernel
set_option maxRecDepth 100000 in
theorem ji_66_313 : mj_ins 66 313 = some (.lcmp) := by decide +kernel
set_option maxRecDepth 100000 in
theorem ji_66_314 : mj_ins 66 314 = some (.ifCond .gt 7) := by decide +kernel
set_option maxRecDepth 100000 in
theorem ji_66_321 : mj_ins 66 321 = some (.lconst 0) := by decide +kernel
set_option maxRecDepth 100000 in
theorem ji_66_322 : mj_ins 66 322 = some (.lstore 9) := by decide +kernel
set_option maxRecDepth 100000 in
theorem ji_66_324 : mj_ins 66 324 = some (.goto 72) := by decide +kernel
set_option maxRecDepth 100000 in
theorem ji_66_317 : mj_ins 66 317 = some (.lconst 1) := by decide +kernel
set_option maxRecDepth 100000 in
theorem ji_66_318 : mj_ins 66 318 = some (.goto 4) := by decide +kernel
set_option maxRecDepth 100000 in
theorem ji_66_327 : mj_ins 66 327 = some (.lload 5) := by decide +kernel
set_option maxRecDepth 100000 in
theorem ji_66_329 : mj_ins 66 329 = some (.lload 7) := by decide +kernel
set_option maxRecDepth 100000 in
theorem ji_66_331 : mj_ins 66 331 = some (.lcmp) := by decide +kernel
set_option maxRecDepth 100000 in
theorem ji_66_332 : mj_ins 66 332 = some (.ifCond .lt 7) := by decide +kernel
set_option maxRecDepth 100000 in
theorem ji_66_339 : mj_ins 66 339 = some (.lconst 0) := by decide +kernel
set_option maxRecDepth 100000 in
theorem ji_66_340 : mj_ins 66 340 = some (.lstore 9) := by decide +kernel
set_option maxRecDepth 100000 in
theorem ji_66_342 : mj_ins 66 342 = some (.goto 54) := by decide +kernel
set_option maxRecDepth 100000 in
theorem ji_66_335 : mj_ins 66 335 = some (.lconst 1) := by decide +kernel
set_option maxRecDepth 100000 in
theorem ji_66_336 : mj_ins 66 336 = some (.goto 4) := by decide +kernel
set_option maxRecDepth 100000 in
theorem ji_66_345 : mj_ins 66 345 = some (.lload 5) := by decide +kernel
set_option maxRecDepth 100000 in
theorem ji_66_347 : mj_ins 66 347 = some (.lload 7) := by decide +kernel
set_option maxRecDepth 100000 in
theorem ji_66_349 : mj_ins 66 349 = some (.ladd) := by decide +kernel
set_option maxRecDepth 100000 in
theorem ji_66_350 : mj_ins 66 350 = some (.lstore 9) := by decide +kernel
set_option maxRecDepth 100000 in
theorem ji_66_352 : mj_ins 66 352 = some (.goto 44) := by decide +kernel
set_option maxRecDepth 100000 in
theorem ji_66_355 : mj_ins 66 355 = some (.lload 5) := by decide +kernel
set_option maxRecDepth 100000 in
theorem ji_66_357 : mj_ins 66 357 = some (.lload 7) := by decide +kernel
set_option maxRecDepth 100000 in
theorem ji_66_359 : mj_ins 66 359 = some (.lsub) := by decide +kernel
set_option maxRecDepth 100000 in
theorem ji_66_360 : mj_ins 66 360 = some (.lstore 9) := by decide +kernel
set_option maxRecDepth 100000 in
theorem ji_66_362 : mj_ins 66 362 = some (.goto 34) := by decide +kernel
set_option maxRecDepth 100000 in
theorem ji_66_365 : mj_ins 66 365 = some (.lload 5) := by decide +kernel
set_option maxRecDepth 100000 in
theorem ji_66_367 : mj_ins 66 367 = some (.lload 7) := by decide +kernel
set_option maxRecDepth 100000 in
theorem ji_66_369 : mj_ins 66 369 = some (.lmul) := by decide +kernel
set_option maxRecDepth 100000 in
theorem ji_66_370 : mj_ins 66 370 = some (.lstore 9) := by decide +kernel
set_option maxRecDepth 100000 in
theorem ji_66_372 : mj_ins 66 372 = some (.goto 24) := by decide +kernel
set_option maxRecDepth 100000 in
theorem ji_66_375 : mj_ins 66 375 = some (.lload 7) := by decide +kernel
set_option maxRecDepth 100000 in
theorem ji_66_377 : mj_ins 66 377 = some (.lconst 0) := by decide +kernel
set_option maxRecDepth 100000 in
theorem ji_66_378 : mj_ins 66 378 = some (.lcmp) := by decide +kernel
set_option maxRecDepth 100000 in
theorem ji_66_379 : mj_ins 66 379 = some (.ifCond .ne 7) := by decide +kernel
set_option maxRecDepth 100000 in
theorem ji_66_386 : mj_ins 66 386 = some (.lload 5) := by decide +kernel
set_option maxRecDepth 100000 in
theorem ji_66_388 : mj_ins 66 388 = some (.lload 7) := by decide +kernel
set_option maxRecDepth 100000 in
theorem ji_66_390 : mj_ins 66 390 = some (.ldiv) := by decide +kernel
set_option maxRecDepth 100000 in
theorem ji_66_391 : mj_ins 66 391 = some (.lstore 9) := by decide +kernel
set_option maxRecDepth 100000 in
theorem ji_66_393 : mj_ins 66 393 = some (.goto 3) := by decide +kernel
set_option maxRecDepth 100000 in
theorem ji_66_382 : mj_ins 66 382 = some (.lconst 0) := by decide +kernel
set_option maxRecDepth 100000 in
theorem ji_66_383 : mj_ins 66 383 = some (.goto 8) := by decide +kernel
/-! what a law says, in the class; laid by program (wp_u6.py) -/
theorem c0_mono {h : mj_H} {s s2 : sg_} (C : CS0 h s) (e : s = s2) : CS0 h s2 := e ▸ C
theorem cs_10 {h : mj_H} {s : sg_} (C : CS0 h s) {k : Int} (hk : 0 ≤ k ∧ k < 64) : wp_r (s 10 k) := c0_ri (k := k.toNat) C (by decide) sq_10 (by omega) rfl (by show k.toNat < 0 + 64; omega)
theorem wl_qm {a b : Int} (ha : wp_r a) (hb : wp_r b) : wl_q (a * b) := by
  have h1 : (a * b).natAbs = a.natAbs * b.natAbs := Int.natAbs_mul a b
  have h2 : a.natAbs * b.natAbs ≤ 2147483648 * 2147483648 := Nat.mul_le_mul (by omega) (by omega)
  unfold wl_q
  omega
theorem wl_qt {a b : Int} (ha : wp_r a) : wl_q (a.tdiv b) := by
  have h1 : (a.tdiv b).natAbs ≤ a.natAbs := by rw [Int.natAbs_tdiv]; exact Nat.div_le_self _ _
  unfold wl_q
  omega
/-- what a sign makes of two values -/
def sgv (g a b : Int) : Int := if g = 110 then -b else if g = 33 then 1 - b else if g = 38 then min a b else if g = 124 then max a b else if g = 60 then (if a < b then 1 else 0) else if g = 62 then (if b < a then 1 else 0) else if g = 61 then (if a = b then 1 else 0) else if g = 35 then (if a = b then 0 else 1) else if g = 108 then (if b < a then 0 else 1) else if g = 103 then (if a < b then 0 else 1) else if g = 43 then a + b else if g = 45 then a - b else if g = 42 then a * b else if b = 0 then 0 else a.tdiv b
theorem uc_67l {d : Nat} {h : mj_H} {s : sg_} (C : CS0 h s) {T : Nat} (hT : isT T) {k n : Int} (hk : 0 ≤ k) (hn : 0 ≤ n) (ht : k + 1 + n ≤ 64) : ∀ (nn : Nat) (y i : Int), (k < i ∧ i ≤ k + 1 + n) → (y = 0 ∨ y = 1) → (y = 1 ↔ ∃ j, k < j ∧ j < i ∧ s 10 j = s 10 k) → wl_R nn d 67 20 [some (.ref T), some (wp_i n), some (wp_i (k + 1 + n)), some (wp_i k), some (wp_i y), some (wp_i i)] [] h (fun v1 h1 => v1 = some (wp_i (k + 1)) ∧ ∃ y : Int, (y = 0 ∨ y = 1) ∧ (y = 1 ↔ ∃ j, k < j ∧ j < k + 1 + n ∧ s 10 j = s 10 k) ∧ CS0 h1 (up s 10 k y)) := by
  intro nn
  induction nn with
  | zero => intros; exact wl_0
  | succ nn ih =>
    intro y i hi hy1 hy2
    refine wl_s1 (pc' := 22) ji_67_20 rfl rfl rfl ?_
    refine wl_s (pc' := 23) ji_67_22 rfl rfl rfl ?_
    refine wl_icmp (t := 51) ji_67_23 rfl (by omega) (by omega) (fun (hb1 : (k + 1 + n : Int) ≤ i) => ?_) (fun (hb1 : ¬ ((k + 1 + n : Int) ≤ i)) => ?_)
    · refine wl_s (pc' := 52) ji_67_51 rfl rfl rfl ?_
      refine c0_gr (r := 10) (k := 8) C (Nat.lt_of_lt_of_le (by decide) hT.1) hT.2.1 rfl ji_67_52 jf_67_39 ?_
      refine wl_s (pc' := 56) ji_67_55 rfl rfl rfl ?_
      refine wl_s (pc' := 58) ji_67_56 rfl rfl rfl ?_
      refine c0_s (x := k) (y := y) C (by decide) sq_10 (by omega) (by omega) ji_67_58 (fun h st20 st21 C => ?_)
      obtain ⟨s3, es3⟩ : ∃ z9_, up s 10 k y = z9_ := ⟨_, rfl⟩
      rw [es3] at C
      refine wl_s (pc' := 60) ji_67_59 rfl rfl rfl ?_
      refine wl_s (pc' := 61) ji_67_60 rfl rfl rfl ?_
      refine wl_iadd (x := k) (y := 1) (z := k + 1) ji_67_61 (by omega) ?_
      exact wl_ri ji_67_62 jr_67 rfl (⟨rfl, y, hy1, ⟨fun z => by obtain ⟨j, j1, j2, j3⟩ := hy2.mp z; exact ⟨j, j1, by omega, j3⟩, fun ⟨j, j1, j2, j3⟩ => hy2.mpr ⟨j, j1, by omega, j3⟩⟩, c0_mono C (by rw [← es3])⟩)
    · refine wl_s (pc' := 27) ji_67_26 rfl rfl rfl ?_
      refine c0_gr (r := 10) (k := 8) C (Nat.lt_of_lt_of_le (by decide) hT.1) hT.2.1 rfl ji_67_27 jf_67_39 ?_
      refine wl_s (pc' := 32) ji_67_30 rfl rfl rfl ?_
      refine c0_l (x := i) C (by decide) sq_10 (by omega) ji_67_32 (fun ld40 ld41 ld42 => ?_)
      refine wl_s (pc' := 34) ji_67_33 rfl rfl rfl ?_
      refine c0_gr (r := 10) (k := 8) C (Nat.lt_of_lt_of_le (by decide) hT.1) hT.2.1 rfl ji_67_34 jf_67_39 ?_
      refine wl_s (pc' := 38) ji_67_37 rfl rfl rfl ?_
      refine c0_l (x := k) C (by decide) sq_10 (by omega) ji_67_38 (fun ld50 ld51 ld52 => ?_)
      refine wl_icmp (t := 45) ji_67_39 rfl (by omega) (by omega) (fun (hb6 : ¬ (s 10 i : Int) = (s 10 k)) => ?_) (fun (hb6 : ¬ (¬ (s 10 i : Int) = (s 10 k))) => ?_)
      · refine wl_iinc (x := i) (z := i + 1) (lv' := [some (.ref T), some (wp_i n), some (wp_i (k + 1 + n)), some (wp_i k), some (wp_i y), some (wp_i (i + 1))]) ji_67_45 rfl (Nat.le_of_ble_eq_true rfl) (by omega) rfl ?_
        refine wl_goto (t := 20) ji_67_48 rfl ?_
        exact ih y (i + 1) (by omega) hy1 ⟨fun z => by obtain ⟨j, j1, j2, j3⟩ := hy2.mp z; exact ⟨j, j1, by omega, j3⟩, fun ⟨j, j1, j2, j3⟩ => hy2.mpr ⟨j, j1, by by_cases e : j = i; (rw [e] at j3; omega); omega, j3⟩⟩
      · refine wl_s (pc' := 43) ji_67_42 rfl rfl rfl ?_
        refine wl_s (pc' := 45) (lv' := [some (.ref T), some (wp_i n), some (wp_i (k + 1 + n)), some (wp_i k), some (wp_i 1), some (wp_i i)]) ji_67_43 rfl rfl rfl ?_
        refine wl_iinc (x := i) (z := i + 1) (lv' := [some (.ref T), some (wp_i n), some (wp_i (k + 1 + n)), some (wp_i k), some (wp_i 1), some (wp_i (i + 1))]) ji_67_45 rfl (Nat.le_of_ble_eq_true rfl) (by omega) rfl ?_
        refine wl_goto (t := 20) ji_67_48 rfl ?_
        exact ih 1 (i + 1) (by omega) (Or.inr rfl) ⟨fun _ => ⟨i, by omega, by omega, by omega⟩, fun _ => rfl⟩
theorem uc_67 {nn d : Nat} {h : mj_H} {s : sg_} (C : CS0 h s) {T : Nat} (hT : isT T) {k n : Int} (hk : 0 ≤ k) (hn : 0 ≤ n) (ht : k + 1 + n ≤ 64) : wl_R nn d 67 0 [some (.ref T), some (wp_i n), some (wp_i (k + 1 + n)), none, none, none] [] h (fun v1 h1 => v1 = some (wp_i (k + 1)) ∧ ∃ y : Int, (y = 0 ∨ y = 1) ∧ (y = 1 ↔ ∃ j, k < j ∧ j < k + 1 + n ∧ s 10 j = s 10 k) ∧ CS0 h1 (up s 10 k y)) := by
  refine wl_s (pc' := 1) ji_67_0 rfl rfl rfl ?_
  refine wl_s (pc' := 2) ji_67_1 rfl rfl rfl ?_
  refine wl_isub (x := k + 1 + n) (y := n) (z := k + 1) ji_67_2 (by omega) ?_
  refine wl_s (pc' := 4) ji_67_3 rfl rfl rfl ?_
  refine wl_isub (x := k + 1) (y := 1) (z := k) ji_67_4 (by omega) ?_
  refine wl_s (pc' := 6) (lv' := [some (.ref T), some (wp_i n), some (wp_i (k + 1 + n)), some (wp_i k), none, none]) ji_67_5 rfl rfl rfl ?_
  refine wl_s (pc' := 7) ji_67_6 rfl rfl rfl ?_
  refine wl_if (t := 12) ji_67_7 rfl (by omega) (fun (hb1 : (0 : Int) ≤ k) => ?_) (fun (hb1 : ¬ ((0 : Int) ≤ k)) => (by exfalso; omega))
  refine wl_s (pc' := 13) ji_67_12 rfl rfl rfl ?_
  refine wl_s (pc' := 15) (lv' := [some (.ref T), some (wp_i n), some (wp_i (k + 1 + n)), some (wp_i k), some (wp_i 0), none]) ji_67_13 rfl rfl rfl ?_
  refine wl_s (pc' := 16) ji_67_15 rfl rfl rfl ?_
  refine wl_s (pc' := 17) ji_67_16 rfl rfl rfl ?_
  refine wl_iadd (x := k) (y := 1) (z := k + 1) ji_67_17 (by omega) ?_
  refine wl_s (pc' := 20) (lv' := [some (.ref T), some (wp_i n), some (wp_i (k + 1 + n)), some (wp_i k), some (wp_i 0), some (wp_i (k + 1))]) ji_67_18 rfl rfl rfl ?_
  exact uc_67l C hT hk hn ht nn 0 (k + 1) (by omega) (Or.inl rfl) ⟨fun z => by omega, fun ⟨j, j1, j2, j3⟩ => by omega⟩
theorem uc_66_110 {nn d : Nat} {h : mj_H} {s : sg_} (C : CS0 h s) {T : Nat} (hT : isT T) {k b : Int} (hk : 0 ≤ k ∧ k ≤ 63) (hb : s 10 k = b) : wl_R nn d 66 0 [some (.ref T), some (wp_i 20110), some (wp_i (k + 1)), none, none, none, none, none, none, none, none] [] h (fun v1 h1 => v1 = some (wp_i (k + 1)) ∧ CS0 h1 (up s 10 k (clp (sgv 110 0 b)))) := by
  have rb : wp_r b := hb ▸ cs_10 C (by omega)
  refine wl_s (pc' := 1) ji_66_0 rfl rfl rfl ?_
  refine wl_sp ji_66_1 rfl ?_
  refine wl_icmp (t := 18) ji_66_4 rfl (by omega) (by omega) (fun (hb1 : (20110 : Int) ≤ 30000) => ?_) (fun (hb1 : ¬ ((20110 : Int) ≤ 30000)) => (by exfalso; omega))
  refine wl_s (pc' := 19) ji_66_18 rfl rfl rfl ?_
  refine wl_sp ji_66_19 rfl ?_
  refine wl_isub (x := 20110) (y := 20000) (z := 110) ji_66_22 (by omega) ?_
  refine wl_s (pc' := 24) (lv' := [some (.ref T), some (wp_i 20110), some (wp_i (k + 1)), some (wp_i 110), none, none, none, none, none, none, none]) ji_66_23 rfl rfl rfl ?_
  refine wl_s (pc' := 25) ji_66_24 rfl rfl rfl ?_
  refine wl_bp ji_66_25 rfl ?_
  refine wl_icmp (t := 36) ji_66_27 rfl (by omega) (by omega) (fun (hb2 : (110 : Int) = 110) => ?_) (fun (hb2 : ¬ ((110 : Int) = 110)) => (by exfalso; omega))
  refine wl_s (pc' := 37) ji_66_36 rfl rfl rfl ?_
  refine wl_goto (t := 41) ji_66_37 rfl ?_
  refine wl_s (pc' := 43) (lv' := [some (.ref T), some (wp_i 20110), some (wp_i (k + 1)), some (wp_i 110), some (wp_i 1), none, none, none, none, none, none]) ji_66_41 rfl rfl rfl ?_
  refine wl_s (pc' := 44) ji_66_43 rfl rfl rfl ?_
  refine wl_s (pc' := 46) ji_66_44 rfl rfl rfl ?_
  refine wl_icmp (t := 51) ji_66_46 rfl (by omega) (by omega) (fun (hb3 : (1 : Int) ≤ (k + 1)) => ?_) (fun (hb3 : ¬ ((1 : Int) ≤ (k + 1))) => (by exfalso; omega))
  refine wl_s (pc' := 52) ji_66_51 rfl rfl rfl ?_
  refine c0_gr (r := 10) (k := 8) C (Nat.lt_of_lt_of_le (by decide) hT.1) hT.2.1 rfl ji_66_52 jf_66_39 ?_
  refine wl_s (pc' := 56) ji_66_55 rfl rfl rfl ?_
  refine wl_s (pc' := 58) ji_66_56 rfl rfl rfl ?_
  refine wl_isub (x := k + 1) (y := 1) (z := k) ji_66_58 (by omega) ?_
  refine c0_l (x := k) C (by decide) sq_10 (by omega) ji_66_59 (fun ld40 ld41 ld42 => ?_)
  rw [hb] at ld42 ⊢
  refine wl_i2g (x := b) ji_66_60 (by omega) ?_
  refine wl_s (pc' := 63) (lv' := [some (.ref T), some (wp_i 20110), some (wp_i (k + 1)), some (wp_i 110), some (wp_i 1), some (wl_L b), none, none, none, none, none]) ji_66_61 rfl rfl rfl ?_
  refine wl_s (pc' := 64) ji_66_63 rfl rfl rfl ?_
  refine c0_gr (r := 10) (k := 8) C (Nat.lt_of_lt_of_le (by decide) hT.1) hT.2.1 rfl ji_66_64 jf_66_39 ?_
  refine wl_s (pc' := 68) ji_66_67 rfl rfl rfl ?_
  refine wl_s (pc' := 69) ji_66_68 rfl rfl rfl ?_
  refine wl_isub (x := k + 1) (y := 1) (z := k) ji_66_69 (by omega) ?_
  refine c0_l (x := k) C (by decide) sq_10 (by omega) ji_66_70 (fun ld50 ld51 ld52 => ?_)
  rw [hb] at ld52 ⊢
  refine wl_i2g (x := b) ji_66_71 (by omega) ?_
  refine wl_s (pc' := 74) (lv' := [some (.ref T), some (wp_i 20110), some (wp_i (k + 1)), some (wp_i 110), some (wp_i 1), some (wl_L b), none, some (wl_L b), none, none, none]) ji_66_72 rfl rfl rfl ?_
  refine wl_s (pc' := 75) (st' := [wl_L 0]) ji_66_74 rfl rfl rfl ?_
  refine wl_s (pc' := 77) (lv' := [some (.ref T), some (wp_i 20110), some (wp_i (k + 1)), some (wp_i 110), some (wp_i 1), some (wl_L b), none, some (wl_L b), none, some (wl_L 0), none]) ji_66_75 rfl rfl rfl ?_
  refine wl_s (pc' := 78) ji_66_77 rfl rfl rfl ?_
  refine wl_s (pc' := 200) ji_66_78 rfl rfl rfl ?_
  refine wl_s (pc' := 202) ji_66_200 rfl rfl rfl ?_
  refine wl_lneg (x := b) ji_66_202 ?_
  refine wl_s (pc' := 205) (lv' := [some (.ref T), some (wp_i 20110), some (wp_i (k + 1)), some (wp_i 110), some (wp_i 1), some (wl_L b), none, some (wl_L b), none, some (wl_L (-b)), none]) ji_66_203 rfl rfl rfl ?_
  refine wl_goto (t := 396) ji_66_205 rfl ?_
  refine wl_s (pc' := 397) ji_66_396 rfl rfl rfl ?_
  refine c0_gr (r := 10) (k := 8) C (Nat.lt_of_lt_of_le (by decide) hT.1) hT.2.1 rfl ji_66_397 jf_66_39 ?_
  refine wl_s (pc' := 401) ji_66_400 rfl rfl rfl ?_
  refine wl_s (pc' := 403) ji_66_401 rfl rfl rfl ?_
  refine wl_isub (x := k + 1) (y := 1) (z := k) ji_66_403 (by omega) ?_
  refine wl_lk (n := -1000000) ji_66_404 jcn_66_76 (by decide) ?_
  refine wl_lk (n := 1000000) ji_66_407 jcn_66_78 (by decide) ?_
  refine wl_s (pc' := 412) ji_66_410 rfl rfl rfl ?_
  refine wl_lmn (a := 1000000) (b := -b) ji_66_412 jc_66_80 (Nat.le_of_ble_eq_true rfl) (by unfold wl_q; omega) (by unfold wl_q; omega) ?_
  refine wl_lmx (a := -1000000) (b := min 1000000 (-b)) ji_66_415 jc_66_83 (Nat.le_of_ble_eq_true rfl) (by unfold wl_q; omega) (by unfold wl_q; omega) ?_
  refine wl_l2g (x := max (-1000000) (min 1000000 (-b))) ji_66_418 (by unfold wl_q; omega) ?_
  refine c0_s (x := k) (y := max (-1000000) (min 1000000 (-b))) C (by decide) sq_10 (by omega) (by omega) ji_66_419 (fun h st60 st61 C => ?_)
  obtain ⟨s7, es7⟩ : ∃ z9_, up s 10 k (max (-1000000) (min 1000000 (-b))) = z9_ := ⟨_, rfl⟩
  rw [es7] at C
  refine wl_s (pc' := 421) ji_66_420 rfl rfl rfl ?_
  refine wl_s (pc' := 423) ji_66_421 rfl rfl rfl ?_
  refine wl_isub (x := k + 1) (y := 1) (z := k) ji_66_423 (by omega) ?_
  refine wl_s (pc' := 425) ji_66_424 rfl rfl rfl ?_
  refine wl_iadd (x := k) (y := 1) (z := k + 1) ji_66_425 (by omega) ?_
  exact wl_ri ji_66_426 jr_66 rfl (⟨rfl, c0_mono C (by rw [← es7, show sgv 110 0 b = (-b) from rfl]; rfl)⟩)
theorem uc_66_33 {nn d : Nat} {h : mj_H} {s : sg_} (C : CS0 h s) {T : Nat} (hT : isT T) {k b : Int} (hk : 0 ≤ k ∧ k ≤ 63) (hb : s 10 k = b) : wl_R nn d 66 0 [some (.ref T), some (wp_i 20033), some (wp_i (k + 1)), none, none, none, none, none, none, none, none] [] h (fun v1 h1 => v1 = some (wp_i (k + 1)) ∧ CS0 h1 (up s 10 k (clp (sgv 33 0 b)))) := by
  have rb : wp_r b := hb ▸ cs_10 C (by omega)
  refine wl_s (pc' := 1) ji_66_0 rfl rfl rfl ?_
  refine wl_sp ji_66_1 rfl ?_
  refine wl_icmp (t := 18) ji_66_4 rfl (by omega) (by omega) (fun (hb1 : (20033 : Int) ≤ 30000) => ?_) (fun (hb1 : ¬ ((20033 : Int) ≤ 30000)) => (by exfalso; omega))
  refine wl_s (pc' := 19) ji_66_18 rfl rfl rfl ?_
  refine wl_sp ji_66_19 rfl ?_
  refine wl_isub (x := 20033) (y := 20000) (z := 33) ji_66_22 (by omega) ?_
  refine wl_s (pc' := 24) (lv' := [some (.ref T), some (wp_i 20033), some (wp_i (k + 1)), some (wp_i 33), none, none, none, none, none, none, none]) ji_66_23 rfl rfl rfl ?_
  refine wl_s (pc' := 25) ji_66_24 rfl rfl rfl ?_
  refine wl_bp ji_66_25 rfl ?_
  refine wl_icmp (t := 36) ji_66_27 rfl (by omega) (by omega) (fun (hb2 : (33 : Int) = 110) => (by exfalso; omega)) (fun (hb2 : ¬ ((33 : Int) = 110)) => ?_)
  refine wl_s (pc' := 31) ji_66_30 rfl rfl rfl ?_
  refine wl_bp ji_66_31 rfl ?_
  refine wl_icmp (t := 40) ji_66_33 rfl (by omega) (by omega) (fun (hb3 : ¬ (33 : Int) = 33) => (by exfalso; omega)) (fun (hb3 : ¬ (¬ (33 : Int) = 33)) => ?_)
  refine wl_s (pc' := 37) ji_66_36 rfl rfl rfl ?_
  refine wl_goto (t := 41) ji_66_37 rfl ?_
  refine wl_s (pc' := 43) (lv' := [some (.ref T), some (wp_i 20033), some (wp_i (k + 1)), some (wp_i 33), some (wp_i 1), none, none, none, none, none, none]) ji_66_41 rfl rfl rfl ?_
  refine wl_s (pc' := 44) ji_66_43 rfl rfl rfl ?_
  refine wl_s (pc' := 46) ji_66_44 rfl rfl rfl ?_
  refine wl_icmp (t := 51) ji_66_46 rfl (by omega) (by omega) (fun (hb4 : (1 : Int) ≤ (k + 1)) => ?_) (fun (hb4 : ¬ ((1 : Int) ≤ (k + 1))) => (by exfalso; omega))
  refine wl_s (pc' := 52) ji_66_51 rfl rfl rfl ?_
  refine c0_gr (r := 10) (k := 8) C (Nat.lt_of_lt_of_le (by decide) hT.1) hT.2.1 rfl ji_66_52 jf_66_39 ?_
  refine wl_s (pc' := 56) ji_66_55 rfl rfl rfl ?_
  refine wl_s (pc' := 58) ji_66_56 rfl rfl rfl ?_
  refine wl_isub (x := k + 1) (y := 1) (z := k) ji_66_58 (by omega) ?_
  refine c0_l (x := k) C (by decide) sq_10 (by omega) ji_66_59 (fun ld50 ld51 ld52 => ?_)
  rw [hb] at ld52 ⊢
  refine wl_i2g (x := b) ji_66_60 (by omega) ?_
  refine wl_s (pc' := 63) (lv' := [some (.ref T), some (wp_i 20033), some (wp_i (k + 1)), some (wp_i 33), some (wp_i 1), some (wl_L b), none, none, none, none, none]) ji_66_61 rfl rfl rfl ?_
  refine wl_s (pc' := 64) ji_66_63 rfl rfl rfl ?_
  refine c0_gr (r := 10) (k := 8) C (Nat.lt_of_lt_of_le (by decide) hT.1) hT.2.1 rfl ji_66_64 jf_66_39 ?_
  refine wl_s (pc' := 68) ji_66_67 rfl rfl rfl ?_
  refine wl_s (pc' := 69) ji_66_68 rfl rfl rfl ?_
  refine wl_isub (x := k + 1) (y := 1) (z := k) ji_66_69 (by omega) ?_
  refine c0_l (x := k) C (by decide) sq_10 (by omega) ji_66_70 (fun ld60 ld61 ld62 => ?_)
  rw [hb] at ld62 ⊢
  refine wl_i2g (x := b) ji_66_71 (by omega) ?_
  refine wl_s (pc' := 74) (lv' := [some (.ref T), some (wp_i 20033), some (wp_i (k + 1)), some (wp_i 33), some (wp_i 1), some (wl_L b), none, some (wl_L b), none, none, none]) ji_66_72 rfl rfl rfl ?_
  refine wl_s (pc' := 75) (st' := [wl_L 0]) ji_66_74 rfl rfl rfl ?_
  refine wl_s (pc' := 77) (lv' := [some (.ref T), some (wp_i 20033), some (wp_i (k + 1)), some (wp_i 33), some (wp_i 1), some (wl_L b), none, some (wl_L b), none, some (wl_L 0), none]) ji_66_75 rfl rfl rfl ?_
  refine wl_s (pc' := 78) ji_66_77 rfl rfl rfl ?_
  refine wl_s (pc' := 208) ji_66_78 rfl rfl rfl ?_
  refine wl_s (pc' := 209) (st' := [wl_L 1]) ji_66_208 rfl rfl rfl ?_
  refine wl_s (pc' := 211) ji_66_209 rfl rfl rfl ?_
  refine wl_lsub (x := 1) (y := b) ji_66_211 ?_
  refine wl_s (pc' := 214) (lv' := [some (.ref T), some (wp_i 20033), some (wp_i (k + 1)), some (wp_i 33), some (wp_i 1), some (wl_L b), none, some (wl_L b), none, some (wl_L (1 - b)), none]) ji_66_212 rfl rfl rfl ?_
  refine wl_goto (t := 396) ji_66_214 rfl ?_
  refine wl_s (pc' := 397) ji_66_396 rfl rfl rfl ?_
  refine c0_gr (r := 10) (k := 8) C (Nat.lt_of_lt_of_le (by decide) hT.1) hT.2.1 rfl ji_66_397 jf_66_39 ?_
  refine wl_s (pc' := 401) ji_66_400 rfl rfl rfl ?_
  refine wl_s (pc' := 403) ji_66_401 rfl rfl rfl ?_
  refine wl_isub (x := k + 1) (y := 1) (z := k) ji_66_403 (by omega) ?_
  refine wl_lk (n := -1000000) ji_66_404 jcn_66_76 (by decide) ?_
  refine wl_lk (n := 1000000) ji_66_407 jcn_66_78 (by decide) ?_
  refine wl_s (pc' := 412) ji_66_410 rfl rfl rfl ?_
  refine wl_lmn (a := 1000000) (b := 1 - b) ji_66_412 jc_66_80 (Nat.le_of_ble_eq_true rfl) (by unfold wl_q; omega) (by unfold wl_q; omega) ?_
  refine wl_lmx (a := -1000000) (b := min 1000000 (1 - b)) ji_66_415 jc_66_83 (Nat.le_of_ble_eq_true rfl) (by unfold wl_q; omega) (by unfold wl_q; omega) ?_
  refine wl_l2g (x := max (-1000000) (min 1000000 (1 - b))) ji_66_418 (by unfold wl_q; omega) ?_
  refine c0_s (x := k) (y := max (-1000000) (min 1000000 (1 - b))) C (by decide) sq_10 (by omega) (by omega) ji_66_419 (fun h st70 st71 C => ?_)
  obtain ⟨s8, es8⟩ : ∃ z9_, up s 10 k (max (-1000000) (min 1000000 (1 - b))) = z9_ := ⟨_, rfl⟩
  rw [es8] at C
  refine wl_s (pc' := 421) ji_66_420 rfl rfl rfl ?_
  refine wl_s (pc' := 423) ji_66_421 rfl rfl rfl ?_
  refine wl_isub (x := k + 1) (y := 1) (z := k) ji_66_423 (by omega) ?_
  refine wl_s (pc' := 425) ji_66_424 rfl rfl rfl ?_
  refine wl_iadd (x := k) (y := 1) (z := k + 1) ji_66_425 (by omega) ?_
  exact wl_ri ji_66_426 jr_66 rfl (⟨rfl, c0_mono C (by rw [← es8, show sgv 33 0 b = (1 - b) from rfl]; rfl)⟩)
theorem uc_66_38 {nn d : Nat} {h : mj_H} {s : sg_} (C : CS0 h s) {T : Nat} (hT : isT T) {k a b : Int} (hk : 0 ≤ k ∧ k ≤ 62) (ha : s 10 k = a) (hb : s 10 (k + 1) = b) (h01 : (a = 0 ∨ a = 1) ∧ (b = 0 ∨ b = 1)) : wl_R nn d 66 0 [some (.ref T), some (wp_i 20038), some (wp_i (k + 2)), none, none, none, none, none, none, none, none] [] h (fun v1 h1 => v1 = some (wp_i (k + 1)) ∧ CS0 h1 (up s 10 k (clp (sgv 38 a b)))) := by
  have rb : wp_r b := hb ▸ cs_10 C (by omega)
  have ra : wp_r a := ha ▸ cs_10 C (by omega)
  refine wl_s (pc' := 1) ji_66_0 rfl rfl rfl ?_
  refine wl_sp ji_66_1 rfl ?_
  refine wl_icmp (t := 18) ji_66_4 rfl (by omega) (by omega) (fun (hb1 : (20038 : Int) ≤ 30000) => ?_) (fun (hb1 : ¬ ((20038 : Int) ≤ 30000)) => (by exfalso; omega))
  refine wl_s (pc' := 19) ji_66_18 rfl rfl rfl ?_
  refine wl_sp ji_66_19 rfl ?_
  refine wl_isub (x := 20038) (y := 20000) (z := 38) ji_66_22 (by omega) ?_
  refine wl_s (pc' := 24) (lv' := [some (.ref T), some (wp_i 20038), some (wp_i (k + 2)), some (wp_i 38), none, none, none, none, none, none, none]) ji_66_23 rfl rfl rfl ?_
  refine wl_s (pc' := 25) ji_66_24 rfl rfl rfl ?_
  refine wl_bp ji_66_25 rfl ?_
  refine wl_icmp (t := 36) ji_66_27 rfl (by omega) (by omega) (fun (hb2 : (38 : Int) = 110) => (by exfalso; omega)) (fun (hb2 : ¬ ((38 : Int) = 110)) => ?_)
  refine wl_s (pc' := 31) ji_66_30 rfl rfl rfl ?_
  refine wl_bp ji_66_31 rfl ?_
  refine wl_icmp (t := 40) ji_66_33 rfl (by omega) (by omega) (fun (hb3 : ¬ (38 : Int) = 33) => ?_) (fun (hb3 : ¬ (¬ (38 : Int) = 33)) => (by exfalso; omega))
  refine wl_s (pc' := 41) ji_66_40 rfl rfl rfl ?_
  refine wl_s (pc' := 43) (lv' := [some (.ref T), some (wp_i 20038), some (wp_i (k + 2)), some (wp_i 38), some (wp_i 2), none, none, none, none, none, none]) ji_66_41 rfl rfl rfl ?_
  refine wl_s (pc' := 44) ji_66_43 rfl rfl rfl ?_
  refine wl_s (pc' := 46) ji_66_44 rfl rfl rfl ?_
  refine wl_icmp (t := 51) ji_66_46 rfl (by omega) (by omega) (fun (hb4 : (2 : Int) ≤ (k + 2)) => ?_) (fun (hb4 : ¬ ((2 : Int) ≤ (k + 2))) => (by exfalso; omega))
  refine wl_s (pc' := 52) ji_66_51 rfl rfl rfl ?_
  refine c0_gr (r := 10) (k := 8) C (Nat.lt_of_lt_of_le (by decide) hT.1) hT.2.1 rfl ji_66_52 jf_66_39 ?_
  refine wl_s (pc' := 56) ji_66_55 rfl rfl rfl ?_
  refine wl_s (pc' := 58) ji_66_56 rfl rfl rfl ?_
  refine wl_isub (x := k + 2) (y := 2) (z := k) ji_66_58 (by omega) ?_
  refine c0_l (x := k) C (by decide) sq_10 (by omega) ji_66_59 (fun ld50 ld51 ld52 => ?_)
  rw [ha] at ld52 ⊢
  refine wl_i2g (x := a) ji_66_60 (by omega) ?_
  refine wl_s (pc' := 63) (lv' := [some (.ref T), some (wp_i 20038), some (wp_i (k + 2)), some (wp_i 38), some (wp_i 2), some (wl_L a), none, none, none, none, none]) ji_66_61 rfl rfl rfl ?_
  refine wl_s (pc' := 64) ji_66_63 rfl rfl rfl ?_
  refine c0_gr (r := 10) (k := 8) C (Nat.lt_of_lt_of_le (by decide) hT.1) hT.2.1 rfl ji_66_64 jf_66_39 ?_
  refine wl_s (pc' := 68) ji_66_67 rfl rfl rfl ?_
  refine wl_s (pc' := 69) ji_66_68 rfl rfl rfl ?_
  refine wl_isub (x := k + 2) (y := 1) (z := k + 1) ji_66_69 (by omega) ?_
  refine c0_l (x := k + 1) C (by decide) sq_10 (by omega) ji_66_70 (fun ld60 ld61 ld62 => ?_)
  rw [hb] at ld62 ⊢
  refine wl_i2g (x := b) ji_66_71 (by omega) ?_
  refine wl_s (pc' := 74) (lv' := [some (.ref T), some (wp_i 20038), some (wp_i (k + 2)), some (wp_i 38), some (wp_i 2), some (wl_L a), none, some (wl_L b), none, none, none]) ji_66_72 rfl rfl rfl ?_
  refine wl_s (pc' := 75) (st' := [wl_L 0]) ji_66_74 rfl rfl rfl ?_
  refine wl_s (pc' := 77) (lv' := [some (.ref T), some (wp_i 20038), some (wp_i (k + 2)), some (wp_i 38), some (wp_i 2), some (wl_L a), none, some (wl_L b), none, some (wl_L 0), none]) ji_66_75 rfl rfl rfl ?_
  refine wl_s (pc' := 78) ji_66_77 rfl rfl rfl ?_
  refine wl_s (pc' := 217) ji_66_78 rfl rfl rfl ?_
  refine wl_s (pc' := 219) ji_66_217 rfl rfl rfl ?_
  refine wl_s (pc' := 221) ji_66_219 rfl rfl rfl ?_
  refine wl_land (x := a) (y := b) ji_66_221 (by omega) (by omega) ?_
  refine wl_s (pc' := 224) (lv' := [some (.ref T), some (wp_i 20038), some (wp_i (k + 2)), some (wp_i 38), some (wp_i 2), some (wl_L a), none, some (wl_L b), none, some (wl_L (min a b)), none]) ji_66_222 rfl rfl rfl ?_
  refine wl_goto (t := 396) ji_66_224 rfl ?_
  refine wl_s (pc' := 397) ji_66_396 rfl rfl rfl ?_
  refine c0_gr (r := 10) (k := 8) C (Nat.lt_of_lt_of_le (by decide) hT.1) hT.2.1 rfl ji_66_397 jf_66_39 ?_
  refine wl_s (pc' := 401) ji_66_400 rfl rfl rfl ?_
  refine wl_s (pc' := 403) ji_66_401 rfl rfl rfl ?_
  refine wl_isub (x := k + 2) (y := 2) (z := k) ji_66_403 (by omega) ?_
  refine wl_lk (n := -1000000) ji_66_404 jcn_66_76 (by decide) ?_
  refine wl_lk (n := 1000000) ji_66_407 jcn_66_78 (by decide) ?_
  refine wl_s (pc' := 412) ji_66_410 rfl rfl rfl ?_
  refine wl_lmn (a := 1000000) (b := min a b) ji_66_412 jc_66_80 (Nat.le_of_ble_eq_true rfl) (by unfold wl_q; omega) (by unfold wl_q; omega) ?_
  refine wl_lmx (a := -1000000) (b := min 1000000 (min a b)) ji_66_415 jc_66_83 (Nat.le_of_ble_eq_true rfl) (by unfold wl_q; omega) (by unfold wl_q; omega) ?_
  refine wl_l2g (x := max (-1000000) (min 1000000 (min a b))) ji_66_418 (by unfold wl_q; omega) ?_
  refine c0_s (x := k) (y := max (-1000000) (min 1000000 (min a b))) C (by decide) sq_10 (by omega) (by omega) ji_66_419 (fun h st70 st71 C => ?_)
  obtain ⟨s8, es8⟩ : ∃ z9_, up s 10 k (max (-1000000) (min 1000000 (min a b))) = z9_ := ⟨_, rfl⟩
  rw [es8] at C
  refine wl_s (pc' := 421) ji_66_420 rfl rfl rfl ?_
  refine wl_s (pc' := 423) ji_66_421 rfl rfl rfl ?_
  refine wl_isub (x := k + 2) (y := 2) (z := k) ji_66_423 (by omega) ?_
  refine wl_s (pc' := 425) ji_66_424 rfl rfl rfl ?_
  refine wl_iadd (x := k) (y := 1) (z := k + 1) ji_66_425 (by omega) ?_
  exact wl_ri ji_66_426 jr_66 rfl (⟨rfl, c0_mono C (by rw [← es8, show sgv 38 a b = (min a b) from rfl]; rfl)⟩)
theorem uc_66_124 {nn d : Nat} {h : mj_H} {s : sg_} (C : CS0 h s) {T : Nat} (hT : isT T) {k a b : Int} (hk : 0 ≤ k ∧ k ≤ 62) (ha : s 10 k = a) (hb : s 10 (k + 1) = b) (h01 : (a = 0 ∨ a = 1) ∧ (b = 0 ∨ b = 1)) : wl_R nn d 66 0 [some (.ref T), some (wp_i 20124), some (wp_i (k + 2)), none, none, none, none, none, none, none, none] [] h (fun v1 h1 => v1 = some (wp_i (k + 1)) ∧ CS0 h1 (up s 10 k (clp (sgv 124 a b)))) := by
  have rb : wp_r b := hb ▸ cs_10 C (by omega)
  have ra : wp_r a := ha ▸ cs_10 C (by omega)
  refine wl_s (pc' := 1) ji_66_0 rfl rfl rfl ?_
  refine wl_sp ji_66_1 rfl ?_
  refine wl_icmp (t := 18) ji_66_4 rfl (by omega) (by omega) (fun (hb1 : (20124 : Int) ≤ 30000) => ?_) (fun (hb1 : ¬ ((20124 : Int) ≤ 30000)) => (by exfalso; omega))
  refine wl_s (pc' := 19) ji_66_18 rfl rfl rfl ?_
  refine wl_sp ji_66_19 rfl ?_
  refine wl_isub (x := 20124) (y := 20000) (z := 124) ji_66_22 (by omega) ?_
  refine wl_s (pc' := 24) (lv' := [some (.ref T), some (wp_i 20124), some (wp_i (k + 2)), some (wp_i 124), none, none, none, none, none, none, none]) ji_66_23 rfl rfl rfl ?_
  refine wl_s (pc' := 25) ji_66_24 rfl rfl rfl ?_
  refine wl_bp ji_66_25 rfl ?_
  refine wl_icmp (t := 36) ji_66_27 rfl (by omega) (by omega) (fun (hb2 : (124 : Int) = 110) => (by exfalso; omega)) (fun (hb2 : ¬ ((124 : Int) = 110)) => ?_)
  refine wl_s (pc' := 31) ji_66_30 rfl rfl rfl ?_
  refine wl_bp ji_66_31 rfl ?_
  refine wl_icmp (t := 40) ji_66_33 rfl (by omega) (by omega) (fun (hb3 : ¬ (124 : Int) = 33) => ?_) (fun (hb3 : ¬ (¬ (124 : Int) = 33)) => (by exfalso; omega))
  refine wl_s (pc' := 41) ji_66_40 rfl rfl rfl ?_
  refine wl_s (pc' := 43) (lv' := [some (.ref T), some (wp_i 20124), some (wp_i (k + 2)), some (wp_i 124), some (wp_i 2), none, none, none, none, none, none]) ji_66_41 rfl rfl rfl ?_
  refine wl_s (pc' := 44) ji_66_43 rfl rfl rfl ?_
  refine wl_s (pc' := 46) ji_66_44 rfl rfl rfl ?_
  refine wl_icmp (t := 51) ji_66_46 rfl (by omega) (by omega) (fun (hb4 : (2 : Int) ≤ (k + 2)) => ?_) (fun (hb4 : ¬ ((2 : Int) ≤ (k + 2))) => (by exfalso; omega))
  refine wl_s (pc' := 52) ji_66_51 rfl rfl rfl ?_
  refine c0_gr (r := 10) (k := 8) C (Nat.lt_of_lt_of_le (by decide) hT.1) hT.2.1 rfl ji_66_52 jf_66_39 ?_
  refine wl_s (pc' := 56) ji_66_55 rfl rfl rfl ?_
  refine wl_s (pc' := 58) ji_66_56 rfl rfl rfl ?_
  refine wl_isub (x := k + 2) (y := 2) (z := k) ji_66_58 (by omega) ?_
  refine c0_l (x := k) C (by decide) sq_10 (by omega) ji_66_59 (fun ld50 ld51 ld52 => ?_)
  rw [ha] at ld52 ⊢
  refine wl_i2g (x := a) ji_66_60 (by omega) ?_
  refine wl_s (pc' := 63) (lv' := [some (.ref T), some (wp_i 20124), some (wp_i (k + 2)), some (wp_i 124), some (wp_i 2), some (wl_L a), none, none, none, none, none]) ji_66_61 rfl rfl rfl ?_
  refine wl_s (pc' := 64) ji_66_63 rfl rfl rfl ?_
  refine c0_gr (r := 10) (k := 8) C (Nat.lt_of_lt_of_le (by decide) hT.1) hT.2.1 rfl ji_66_64 jf_66_39 ?_
  refine wl_s (pc' := 68) ji_66_67 rfl rfl rfl ?_
  refine wl_s (pc' := 69) ji_66_68 rfl rfl rfl ?_
  refine wl_isub (x := k + 2) (y := 1) (z := k + 1) ji_66_69 (by omega) ?_
  refine c0_l (x := k + 1) C (by decide) sq_10 (by omega) ji_66_70 (fun ld60 ld61 ld62 => ?_)
  rw [hb] at ld62 ⊢
  refine wl_i2g (x := b) ji_66_71 (by omega) ?_
  refine wl_s (pc' := 74) (lv' := [some (.ref T), some (wp_i 20124), some (wp_i (k + 2)), some (wp_i 124), some (wp_i 2), some (wl_L a), none, some (wl_L b), none, none, none]) ji_66_72 rfl rfl rfl ?_
  refine wl_s (pc' := 75) (st' := [wl_L 0]) ji_66_74 rfl rfl rfl ?_
  refine wl_s (pc' := 77) (lv' := [some (.ref T), some (wp_i 20124), some (wp_i (k + 2)), some (wp_i 124), some (wp_i 2), some (wl_L a), none, some (wl_L b), none, some (wl_L 0), none]) ji_66_75 rfl rfl rfl ?_
  refine wl_s (pc' := 78) ji_66_77 rfl rfl rfl ?_
  refine wl_s (pc' := 227) ji_66_78 rfl rfl rfl ?_
  refine wl_s (pc' := 229) ji_66_227 rfl rfl rfl ?_
  refine wl_s (pc' := 231) ji_66_229 rfl rfl rfl ?_
  refine wl_lor1 (x := a) (y := b) ji_66_231 (by omega) (by omega) ?_
  refine wl_s (pc' := 234) (lv' := [some (.ref T), some (wp_i 20124), some (wp_i (k + 2)), some (wp_i 124), some (wp_i 2), some (wl_L a), none, some (wl_L b), none, some (wl_L (max a b)), none]) ji_66_232 rfl rfl rfl ?_
  refine wl_goto (t := 396) ji_66_234 rfl ?_
  refine wl_s (pc' := 397) ji_66_396 rfl rfl rfl ?_
  refine c0_gr (r := 10) (k := 8) C (Nat.lt_of_lt_of_le (by decide) hT.1) hT.2.1 rfl ji_66_397 jf_66_39 ?_
  refine wl_s (pc' := 401) ji_66_400 rfl rfl rfl ?_
  refine wl_s (pc' := 403) ji_66_401 rfl rfl rfl ?_
  refine wl_isub (x := k + 2) (y := 2) (z := k) ji_66_403 (by omega) ?_
  refine wl_lk (n := -1000000) ji_66_404 jcn_66_76 (by decide) ?_
  refine wl_lk (n := 1000000) ji_66_407 jcn_66_78 (by decide) ?_
  refine wl_s (pc' := 412) ji_66_410 rfl rfl rfl ?_
  refine wl_lmn (a := 1000000) (b := max a b) ji_66_412 jc_66_80 (Nat.le_of_ble_eq_true rfl) (by unfold wl_q; omega) (by unfold wl_q; omega) ?_
  refine wl_lmx (a := -1000000) (b := min 1000000 (max a b)) ji_66_415 jc_66_83 (Nat.le_of_ble_eq_true rfl) (by unfold wl_q; omega) (by unfold wl_q; omega) ?_
  refine wl_l2g (x := max (-1000000) (min 1000000 (max a b))) ji_66_418 (by unfold wl_q; omega) ?_
  refine c0_s (x := k) (y := max (-1000000) (min 1000000 (max a b))) C (by decide) sq_10 (by omega) (by omega) ji_66_419 (fun h st70 st71 C => ?_)
  obtain ⟨s8, es8⟩ : ∃ z9_, up s 10 k (max (-1000000) (min 1000000 (max a b))) = z9_ := ⟨_, rfl⟩
  rw [es8] at C
  refine wl_s (pc' := 421) ji_66_420 rfl rfl rfl ?_
  refine wl_s (pc' := 423) ji_66_421 rfl rfl rfl ?_
  refine wl_isub (x := k + 2) (y := 2) (z := k) ji_66_423 (by omega) ?_
  refine wl_s (pc' := 425) ji_66_424 rfl rfl rfl ?_
  refine wl_iadd (x := k) (y := 1) (z := k + 1) ji_66_425 (by omega) ?_
  exact wl_ri ji_66_426 jr_66 rfl (⟨rfl, c0_mono C (by rw [← es8, show sgv 124 a b = (max a b) from rfl]; rfl)⟩)
theorem uc_66_60 {nn d : Nat} {h : mj_H} {s : sg_} (C : CS0 h s) {T : Nat} (hT : isT T) {k a b : Int} (hk : 0 ≤ k ∧ k ≤ 62) (ha : s 10 k = a) (hb : s 10 (k + 1) = b) : wl_R nn d 66 0 [some (.ref T), some (wp_i 20060), some (wp_i (k + 2)), none, none, none, none, none, none, none, none] [] h (fun v1 h1 => v1 = some (wp_i (k + 1)) ∧ CS0 h1 (up s 10 k (clp (sgv 60 a b)))) := by
  have rb : wp_r b := hb ▸ cs_10 C (by omega)
  have ra : wp_r a := ha ▸ cs_10 C (by omega)
  refine wl_s (pc' := 1) ji_66_0 rfl rfl rfl ?_
  refine wl_sp ji_66_1 rfl ?_
  refine wl_icmp (t := 18) ji_66_4 rfl (by omega) (by omega) (fun (hb1 : (20060 : Int) ≤ 30000) => ?_) (fun (hb1 : ¬ ((20060 : Int) ≤ 30000)) => (by exfalso; omega))
  refine wl_s (pc' := 19) ji_66_18 rfl rfl rfl ?_
  refine wl_sp ji_66_19 rfl ?_
  refine wl_isub (x := 20060) (y := 20000) (z := 60) ji_66_22 (by omega) ?_
  refine wl_s (pc' := 24) (lv' := [some (.ref T), some (wp_i 20060), some (wp_i (k + 2)), some (wp_i 60), none, none, none, none, none, none, none]) ji_66_23 rfl rfl rfl ?_
  refine wl_s (pc' := 25) ji_66_24 rfl rfl rfl ?_
  refine wl_bp ji_66_25 rfl ?_
  refine wl_icmp (t := 36) ji_66_27 rfl (by omega) (by omega) (fun (hb2 : (60 : Int) = 110) => (by exfalso; omega)) (fun (hb2 : ¬ ((60 : Int) = 110)) => ?_)
  refine wl_s (pc' := 31) ji_66_30 rfl rfl rfl ?_
  refine wl_bp ji_66_31 rfl ?_
  refine wl_icmp (t := 40) ji_66_33 rfl (by omega) (by omega) (fun (hb3 : ¬ (60 : Int) = 33) => ?_) (fun (hb3 : ¬ (¬ (60 : Int) = 33)) => (by exfalso; omega))
  refine wl_s (pc' := 41) ji_66_40 rfl rfl rfl ?_
  refine wl_s (pc' := 43) (lv' := [some (.ref T), some (wp_i 20060), some (wp_i (k + 2)), some (wp_i 60), some (wp_i 2), none, none, none, none, none, none]) ji_66_41 rfl rfl rfl ?_
  refine wl_s (pc' := 44) ji_66_43 rfl rfl rfl ?_
  refine wl_s (pc' := 46) ji_66_44 rfl rfl rfl ?_
  refine wl_icmp (t := 51) ji_66_46 rfl (by omega) (by omega) (fun (hb4 : (2 : Int) ≤ (k + 2)) => ?_) (fun (hb4 : ¬ ((2 : Int) ≤ (k + 2))) => (by exfalso; omega))
  refine wl_s (pc' := 52) ji_66_51 rfl rfl rfl ?_
  refine c0_gr (r := 10) (k := 8) C (Nat.lt_of_lt_of_le (by decide) hT.1) hT.2.1 rfl ji_66_52 jf_66_39 ?_
  refine wl_s (pc' := 56) ji_66_55 rfl rfl rfl ?_
  refine wl_s (pc' := 58) ji_66_56 rfl rfl rfl ?_
  refine wl_isub (x := k + 2) (y := 2) (z := k) ji_66_58 (by omega) ?_
  refine c0_l (x := k) C (by decide) sq_10 (by omega) ji_66_59 (fun ld50 ld51 ld52 => ?_)
  rw [ha] at ld52 ⊢
  refine wl_i2g (x := a) ji_66_60 (by omega) ?_
  refine wl_s (pc' := 63) (lv' := [some (.ref T), some (wp_i 20060), some (wp_i (k + 2)), some (wp_i 60), some (wp_i 2), some (wl_L a), none, none, none, none, none]) ji_66_61 rfl rfl rfl ?_
  refine wl_s (pc' := 64) ji_66_63 rfl rfl rfl ?_
  refine c0_gr (r := 10) (k := 8) C (Nat.lt_of_lt_of_le (by decide) hT.1) hT.2.1 rfl ji_66_64 jf_66_39 ?_
  refine wl_s (pc' := 68) ji_66_67 rfl rfl rfl ?_
  refine wl_s (pc' := 69) ji_66_68 rfl rfl rfl ?_
  refine wl_isub (x := k + 2) (y := 1) (z := k + 1) ji_66_69 (by omega) ?_
  refine c0_l (x := k + 1) C (by decide) sq_10 (by omega) ji_66_70 (fun ld60 ld61 ld62 => ?_)
  rw [hb] at ld62 ⊢
  refine wl_i2g (x := b) ji_66_71 (by omega) ?_
  refine wl_s (pc' := 74) (lv' := [some (.ref T), some (wp_i 20060), some (wp_i (k + 2)), some (wp_i 60), some (wp_i 2), some (wl_L a), none, some (wl_L b), none, none, none]) ji_66_72 rfl rfl rfl ?_
  refine wl_s (pc' := 75) (st' := [wl_L 0]) ji_66_74 rfl rfl rfl ?_
  refine wl_s (pc' := 77) (lv' := [some (.ref T), some (wp_i 20060), some (wp_i (k + 2)), some (wp_i 60), some (wp_i 2), some (wl_L a), none, some (wl_L b), none, some (wl_L 0), none]) ji_66_75 rfl rfl rfl ?_
  refine wl_s (pc' := 78) ji_66_77 rfl rfl rfl ?_
  refine wl_s (pc' := 237) ji_66_78 rfl rfl rfl ?_
  refine wl_s (pc' := 239) ji_66_237 rfl rfl rfl ?_
  refine wl_s (pc' := 241) ji_66_239 rfl rfl rfl ?_
  refine wl_lcm (x := a) (y := b) ji_66_241 (by unfold wl_q; omega) (by unfold wl_q; omega) (fun cm7 hcm7r hcm7 => ?_)
  refine wl_if (t := 249) ji_66_242 rfl (by omega) (fun (hb8 : (0 : Int) ≤ cm7) => ?_) (fun (hb8 : ¬ ((0 : Int) ≤ cm7)) => ?_)
  · refine wl_s (pc' := 250) (st' := [wl_L 0]) ji_66_249 rfl rfl rfl ?_
    refine wl_s (pc' := 252) (lv' := [some (.ref T), some (wp_i 20060), some (wp_i (k + 2)), some (wp_i 60), some (wp_i 2), some (wl_L a), none, some (wl_L b), none, some (wl_L 0), none]) ji_66_250 rfl rfl rfl ?_
    refine wl_goto (t := 396) ji_66_252 rfl ?_
    refine wl_s (pc' := 397) ji_66_396 rfl rfl rfl ?_
    refine c0_gr (r := 10) (k := 8) C (Nat.lt_of_lt_of_le (by decide) hT.1) hT.2.1 rfl ji_66_397 jf_66_39 ?_
    refine wl_s (pc' := 401) ji_66_400 rfl rfl rfl ?_
    refine wl_s (pc' := 403) ji_66_401 rfl rfl rfl ?_
    refine wl_isub (x := k + 2) (y := 2) (z := k) ji_66_403 (by omega) ?_
    refine wl_lk (n := -1000000) ji_66_404 jcn_66_76 (by decide) ?_
    refine wl_lk (n := 1000000) ji_66_407 jcn_66_78 (by decide) ?_
    refine wl_s (pc' := 412) ji_66_410 rfl rfl rfl ?_
    refine wl_lmn (a := 1000000) (b := 0) ji_66_412 jc_66_80 (Nat.le_of_ble_eq_true rfl) (by unfold wl_q; omega) (by unfold wl_q; omega) ?_
    refine wl_lmx (a := -1000000) (b := min 1000000 0) ji_66_415 jc_66_83 (Nat.le_of_ble_eq_true rfl) (by unfold wl_q; omega) (by unfold wl_q; omega) ?_
    refine wl_l2g (x := max (-1000000) (min 1000000 0)) ji_66_418 (by unfold wl_q; omega) ?_
    refine c0_s (x := k) (y := max (-1000000) (min 1000000 0)) C (by decide) sq_10 (by omega) (by omega) ji_66_419 (fun h st90 st91 C => ?_)
    obtain ⟨s10, es10⟩ : ∃ z9_, up s 10 k (max (-1000000) (min 1000000 0)) = z9_ := ⟨_, rfl⟩
    rw [es10] at C
    refine wl_s (pc' := 421) ji_66_420 rfl rfl rfl ?_
    refine wl_s (pc' := 423) ji_66_421 rfl rfl rfl ?_
    refine wl_isub (x := k + 2) (y := 2) (z := k) ji_66_423 (by omega) ?_
    refine wl_s (pc' := 425) ji_66_424 rfl rfl rfl ?_
    refine wl_iadd (x := k) (y := 1) (z := k + 1) ji_66_425 (by omega) ?_
    exact wl_ri ji_66_426 jr_66 rfl (⟨rfl, c0_mono C (by rw [← es10, show sgv 60 a b = 0 from by show (if a < b then (1 : Int) else 0) = _; rw [if_neg (by omega)]]; rfl)⟩)
  · refine wl_s (pc' := 246) (st' := [wl_L 1]) ji_66_245 rfl rfl rfl ?_
    refine wl_goto (t := 250) ji_66_246 rfl ?_
    refine wl_s (pc' := 252) (lv' := [some (.ref T), some (wp_i 20060), some (wp_i (k + 2)), some (wp_i 60), some (wp_i 2), some (wl_L a), none, some (wl_L b), none, some (wl_L 1), none]) ji_66_250 rfl rfl rfl ?_
    refine wl_goto (t := 396) ji_66_252 rfl ?_
    refine wl_s (pc' := 397) ji_66_396 rfl rfl rfl ?_
    refine c0_gr (r := 10) (k := 8) C (Nat.lt_of_lt_of_le (by decide) hT.1) hT.2.1 rfl ji_66_397 jf_66_39 ?_
    refine wl_s (pc' := 401) ji_66_400 rfl rfl rfl ?_
    refine wl_s (pc' := 403) ji_66_401 rfl rfl rfl ?_
    refine wl_isub (x := k + 2) (y := 2) (z := k) ji_66_403 (by omega) ?_
    refine wl_lk (n := -1000000) ji_66_404 jcn_66_76 (by decide) ?_
    refine wl_lk (n := 1000000) ji_66_407 jcn_66_78 (by decide) ?_
    refine wl_s (pc' := 412) ji_66_410 rfl rfl rfl ?_
    refine wl_lmn (a := 1000000) (b := 1) ji_66_412 jc_66_80 (Nat.le_of_ble_eq_true rfl) (by unfold wl_q; omega) (by unfold wl_q; omega) ?_
    refine wl_lmx (a := -1000000) (b := min 1000000 1) ji_66_415 jc_66_83 (Nat.le_of_ble_eq_true rfl) (by unfold wl_q; omega) (by unfold wl_q; omega) ?_
    refine wl_l2g (x := max (-1000000) (min 1000000 1)) ji_66_418 (by unfold wl_q; omega) ?_
    refine c0_s (x := k) (y := max (-1000000) (min 1000000 1)) C (by decide) sq_10 (by omega) (by omega) ji_66_419 (fun h st110 st111 C => ?_)
    obtain ⟨s12, es12⟩ : ∃ z9_, up s 10 k (max (-1000000) (min 1000000 1)) = z9_ := ⟨_, rfl⟩
    rw [es12] at C
    refine wl_s (pc' := 421) ji_66_420 rfl rfl rfl ?_
    refine wl_s (pc' := 423) ji_66_421 rfl rfl rfl ?_
    refine wl_isub (x := k + 2) (y := 2) (z := k) ji_66_423 (by omega) ?_
    refine wl_s (pc' := 425) ji_66_424 rfl rfl rfl ?_
    refine wl_iadd (x := k) (y := 1) (z := k + 1) ji_66_425 (by omega) ?_
    exact wl_ri ji_66_426 jr_66 rfl (⟨rfl, c0_mono C (by rw [← es12, show sgv 60 a b = 1 from by show (if a < b then (1 : Int) else 0) = _; rw [if_pos (by omega)]]; rfl)⟩)
theorem uc_66_62 {nn d : Nat} {h : mj_H} {s : sg_} (C : CS0 h s) {T : Nat} (hT : isT T) {k a b : Int} (hk : 0 ≤ k ∧ k ≤ 62) (ha : s 10 k = a) (hb : s 10 (k + 1) = b) : wl_R nn d 66 0 [some (.ref T), some (wp_i 20062), some (wp_i (k + 2)), none, none, none, none, none, none, none, none] [] h (fun v1 h1 => v1 = some (wp_i (k + 1)) ∧ CS0 h1 (up s 10 k (clp (sgv 62 a b)))) := by
  have rb : wp_r b := hb ▸ cs_10 C (by omega)
  have ra : wp_r a := ha ▸ cs_10 C (by omega)
  refine wl_s (pc' := 1) ji_66_0 rfl rfl rfl ?_
  refine wl_sp ji_66_1 rfl ?_
  refine wl_icmp (t := 18) ji_66_4 rfl (by omega) (by omega) (fun (hb1 : (20062 : Int) ≤ 30000) => ?_) (fun (hb1 : ¬ ((20062 : Int) ≤ 30000)) => (by exfalso; omega))
  refine wl_s (pc' := 19) ji_66_18 rfl rfl rfl ?_
  refine wl_sp ji_66_19 rfl ?_
  refine wl_isub (x := 20062) (y := 20000) (z := 62) ji_66_22 (by omega) ?_
  refine wl_s (pc' := 24) (lv' := [some (.ref T), some (wp_i 20062), some (wp_i (k + 2)), some (wp_i 62), none, none, none, none, none, none, none]) ji_66_23 rfl rfl rfl ?_
  refine wl_s (pc' := 25) ji_66_24 rfl rfl rfl ?_
  refine wl_bp ji_66_25 rfl ?_
  refine wl_icmp (t := 36) ji_66_27 rfl (by omega) (by omega) (fun (hb2 : (62 : Int) = 110) => (by exfalso; omega)) (fun (hb2 : ¬ ((62 : Int) = 110)) => ?_)
  refine wl_s (pc' := 31) ji_66_30 rfl rfl rfl ?_
  refine wl_bp ji_66_31 rfl ?_
  refine wl_icmp (t := 40) ji_66_33 rfl (by omega) (by omega) (fun (hb3 : ¬ (62 : Int) = 33) => ?_) (fun (hb3 : ¬ (¬ (62 : Int) = 33)) => (by exfalso; omega))
  refine wl_s (pc' := 41) ji_66_40 rfl rfl rfl ?_
  refine wl_s (pc' := 43) (lv' := [some (.ref T), some (wp_i 20062), some (wp_i (k + 2)), some (wp_i 62), some (wp_i 2), none, none, none, none, none, none]) ji_66_41 rfl rfl rfl ?_
  refine wl_s (pc' := 44) ji_66_43 rfl rfl rfl ?_
  refine wl_s (pc' := 46) ji_66_44 rfl rfl rfl ?_
  refine wl_icmp (t := 51) ji_66_46 rfl (by omega) (by omega) (fun (hb4 : (2 : Int) ≤ (k + 2)) => ?_) (fun (hb4 : ¬ ((2 : Int) ≤ (k + 2))) => (by exfalso; omega))
  refine wl_s (pc' := 52) ji_66_51 rfl rfl rfl ?_
  refine c0_gr (r := 10) (k := 8) C (Nat.lt_of_lt_of_le (by decide) hT.1) hT.2.1 rfl ji_66_52 jf_66_39 ?_
  refine wl_s (pc' := 56) ji_66_55 rfl rfl rfl ?_
  refine wl_s (pc' := 58) ji_66_56 rfl rfl rfl ?_
  refine wl_isub (x := k + 2) (y := 2) (z := k) ji_66_58 (by omega) ?_
  refine c0_l (x := k) C (by decide) sq_10 (by omega) ji_66_59 (fun ld50 ld51 ld52 => ?_)
  rw [ha] at ld52 ⊢
  refine wl_i2g (x := a) ji_66_60 (by omega) ?_
  refine wl_s (pc' := 63) (lv' := [some (.ref T), some (wp_i 20062), some (wp_i (k + 2)), some (wp_i 62), some (wp_i 2), some (wl_L a), none, none, none, none, none]) ji_66_61 rfl rfl rfl ?_
  refine wl_s (pc' := 64) ji_66_63 rfl rfl rfl ?_
  refine c0_gr (r := 10) (k := 8) C (Nat.lt_of_lt_of_le (by decide) hT.1) hT.2.1 rfl ji_66_64 jf_66_39 ?_
  refine wl_s (pc' := 68) ji_66_67 rfl rfl rfl ?_
  refine wl_s (pc' := 69) ji_66_68 rfl rfl rfl ?_
  refine wl_isub (x := k + 2) (y := 1) (z := k + 1) ji_66_69 (by omega) ?_
  refine c0_l (x := k + 1) C (by decide) sq_10 (by omega) ji_66_70 (fun ld60 ld61 ld62 => ?_)
  rw [hb] at ld62 ⊢
  refine wl_i2g (x := b) ji_66_71 (by omega) ?_
  refine wl_s (pc' := 74) (lv' := [some (.ref T), some (wp_i 20062), some (wp_i (k + 2)), some (wp_i 62), some (wp_i 2), some (wl_L a), none, some (wl_L b), none, none, none]) ji_66_72 rfl rfl rfl ?_
  refine wl_s (pc' := 75) (st' := [wl_L 0]) ji_66_74 rfl rfl rfl ?_
  refine wl_s (pc' := 77) (lv' := [some (.ref T), some (wp_i 20062), some (wp_i (k + 2)), some (wp_i 62), some (wp_i 2), some (wl_L a), none, some (wl_L b), none, some (wl_L 0), none]) ji_66_75 rfl rfl rfl ?_
  refine wl_s (pc' := 78) ji_66_77 rfl rfl rfl ?_
  refine wl_s (pc' := 255) ji_66_78 rfl rfl rfl ?_
  refine wl_s (pc' := 257) ji_66_255 rfl rfl rfl ?_
  refine wl_s (pc' := 259) ji_66_257 rfl rfl rfl ?_
  refine wl_lcm (x := a) (y := b) ji_66_259 (by unfold wl_q; omega) (by unfold wl_q; omega) (fun cm7 hcm7r hcm7 => ?_)
  refine wl_if (t := 267) ji_66_260 rfl (by omega) (fun (hb8 : (cm7 : Int) ≤ 0) => ?_) (fun (hb8 : ¬ ((cm7 : Int) ≤ 0)) => ?_)
  · refine wl_s (pc' := 268) (st' := [wl_L 0]) ji_66_267 rfl rfl rfl ?_
    refine wl_s (pc' := 270) (lv' := [some (.ref T), some (wp_i 20062), some (wp_i (k + 2)), some (wp_i 62), some (wp_i 2), some (wl_L a), none, some (wl_L b), none, some (wl_L 0), none]) ji_66_268 rfl rfl rfl ?_
    refine wl_goto (t := 396) ji_66_270 rfl ?_
    refine wl_s (pc' := 397) ji_66_396 rfl rfl rfl ?_
    refine c0_gr (r := 10) (k := 8) C (Nat.lt_of_lt_of_le (by decide) hT.1) hT.2.1 rfl ji_66_397 jf_66_39 ?_
    refine wl_s (pc' := 401) ji_66_400 rfl rfl rfl ?_
    refine wl_s (pc' := 403) ji_66_401 rfl rfl rfl ?_
    refine wl_isub (x := k + 2) (y := 2) (z := k) ji_66_403 (by omega) ?_
    refine wl_lk (n := -1000000) ji_66_404 jcn_66_76 (by decide) ?_
    refine wl_lk (n := 1000000) ji_66_407 jcn_66_78 (by decide) ?_
    refine wl_s (pc' := 412) ji_66_410 rfl rfl rfl ?_
    refine wl_lmn (a := 1000000) (b := 0) ji_66_412 jc_66_80 (Nat.le_of_ble_eq_true rfl) (by unfold wl_q; omega) (by unfold wl_q; omega) ?_
    refine wl_lmx (a := -1000000) (b := min 1000000 0) ji_66_415 jc_66_83 (Nat.le_of_ble_eq_true rfl) (by unfold wl_q; omega) (by unfold wl_q; omega) ?_
    refine wl_l2g (x := max (-1000000) (min 1000000 0)) ji_66_418 (by unfold wl_q; omega) ?_
    refine c0_s (x := k) (y := max (-1000000) (min 1000000 0)) C (by decide) sq_10 (by omega) (by omega) ji_66_419 (fun h st90 st91 C => ?_)
    obtain ⟨s10, es10⟩ : ∃ z9_, up s 10 k (max (-1000000) (min 1000000 0)) = z9_ := ⟨_, rfl⟩
    rw [es10] at C
    refine wl_s (pc' := 421) ji_66_420 rfl rfl rfl ?_
    refine wl_s (pc' := 423) ji_66_421 rfl rfl rfl ?_
    refine wl_isub (x := k + 2) (y := 2) (z := k) ji_66_423 (by omega) ?_
    refine wl_s (pc' := 425) ji_66_424 rfl rfl rfl ?_
    refine wl_iadd (x := k) (y := 1) (z := k + 1) ji_66_425 (by omega) ?_
    exact wl_ri ji_66_426 jr_66 rfl (⟨rfl, c0_mono C (by rw [← es10, show sgv 62 a b = 0 from by show (if b < a then (1 : Int) else 0) = _; rw [if_neg (by omega)]]; rfl)⟩)
  · refine wl_s (pc' := 264) (st' := [wl_L 1]) ji_66_263 rfl rfl rfl ?_
    refine wl_goto (t := 268) ji_66_264 rfl ?_
    refine wl_s (pc' := 270) (lv' := [some (.ref T), some (wp_i 20062), some (wp_i (k + 2)), some (wp_i 62), some (wp_i 2), some (wl_L a), none, some (wl_L b), none, some (wl_L 1), none]) ji_66_268 rfl rfl rfl ?_
    refine wl_goto (t := 396) ji_66_270 rfl ?_
    refine wl_s (pc' := 397) ji_66_396 rfl rfl rfl ?_
    refine c0_gr (r := 10) (k := 8) C (Nat.lt_of_lt_of_le (by decide) hT.1) hT.2.1 rfl ji_66_397 jf_66_39 ?_
    refine wl_s (pc' := 401) ji_66_400 rfl rfl rfl ?_
    refine wl_s (pc' := 403) ji_66_401 rfl rfl rfl ?_
    refine wl_isub (x := k + 2) (y := 2) (z := k) ji_66_403 (by omega) ?_
    refine wl_lk (n := -1000000) ji_66_404 jcn_66_76 (by decide) ?_
    refine wl_lk (n := 1000000) ji_66_407 jcn_66_78 (by decide) ?_
    refine wl_s (pc' := 412) ji_66_410 rfl rfl rfl ?_
    refine wl_lmn (a := 1000000) (b := 1) ji_66_412 jc_66_80 (Nat.le_of_ble_eq_true rfl) (by unfold wl_q; omega) (by unfold wl_q; omega) ?_
    refine wl_lmx (a := -1000000) (b := min 1000000 1) ji_66_415 jc_66_83 (Nat.le_of_ble_eq_true rfl) (by unfold wl_q; omega) (by unfold wl_q; omega) ?_
    refine wl_l2g (x := max (-1000000) (min 1000000 1)) ji_66_418 (by unfold wl_q; omega) ?_
    refine c0_s (x := k) (y := max (-1000000) (min 1000000 1)) C (by decide) sq_10 (by omega) (by omega) ji_66_419 (fun h st110 st111 C => ?_)
    obtain ⟨s12, es12⟩ : ∃ z9_, up s 10 k (max (-1000000) (min 1000000 1)) = z9_ := ⟨_, rfl⟩
    rw [es12] at C
    refine wl_s (pc' := 421) ji_66_420 rfl rfl rfl ?_
    refine wl_s (pc' := 423) ji_66_421 rfl rfl rfl ?_
    refine wl_isub (x := k + 2) (y := 2) (z := k) ji_66_423 (by omega) ?_
    refine wl_s (pc' := 425) ji_66_424 rfl rfl rfl ?_
    refine wl_iadd (x := k) (y := 1) (z := k + 1) ji_66_425 (by omega) ?_
    exact wl_ri ji_66_426 jr_66 rfl (⟨rfl, c0_mono C (by rw [← es12, show sgv 62 a b = 1 from by show (if b < a then (1 : Int) else 0) = _; rw [if_pos (by omega)]]; rfl)⟩)
theorem uc_66_61 {nn d : Nat} {h : mj_H} {s : sg_} (C : CS0 h s) {T : Nat} (hT : isT T) {k a b : Int} (hk : 0 ≤ k ∧ k ≤ 62) (ha : s 10 k = a) (hb : s 10 (k + 1) = b) : wl_R nn d 66 0 [some (.ref T), some (wp_i 20061), some (wp_i (k + 2)), none, none, none, none, none, none, none, none] [] h (fun v1 h1 => v1 = some (wp_i (k + 1)) ∧ CS0 h1 (up s 10 k (clp (sgv 61 a b)))) := by
  have rb : wp_r b := hb ▸ cs_10 C (by omega)
  have ra : wp_r a := ha ▸ cs_10 C (by omega)
  refine wl_s (pc' := 1) ji_66_0 rfl rfl rfl ?_
  refine wl_sp ji_66_1 rfl ?_
  refine wl_icmp (t := 18) ji_66_4 rfl (by omega) (by omega) (fun (hb1 : (20061 : Int) ≤ 30000) => ?_) (fun (hb1 : ¬ ((20061 : Int) ≤ 30000)) => (by exfalso; omega))
  refine wl_s (pc' := 19) ji_66_18 rfl rfl rfl ?_
  refine wl_sp ji_66_19 rfl ?_
  refine wl_isub (x := 20061) (y := 20000) (z := 61) ji_66_22 (by omega) ?_
  refine wl_s (pc' := 24) (lv' := [some (.ref T), some (wp_i 20061), some (wp_i (k + 2)), some (wp_i 61), none, none, none, none, none, none, none]) ji_66_23 rfl rfl rfl ?_
  refine wl_s (pc' := 25) ji_66_24 rfl rfl rfl ?_
  refine wl_bp ji_66_25 rfl ?_
  refine wl_icmp (t := 36) ji_66_27 rfl (by omega) (by omega) (fun (hb2 : (61 : Int) = 110) => (by exfalso; omega)) (fun (hb2 : ¬ ((61 : Int) = 110)) => ?_)
  refine wl_s (pc' := 31) ji_66_30 rfl rfl rfl ?_
  refine wl_bp ji_66_31 rfl ?_
  refine wl_icmp (t := 40) ji_66_33 rfl (by omega) (by omega) (fun (hb3 : ¬ (61 : Int) = 33) => ?_) (fun (hb3 : ¬ (¬ (61 : Int) = 33)) => (by exfalso; omega))
  refine wl_s (pc' := 41) ji_66_40 rfl rfl rfl ?_
  refine wl_s (pc' := 43) (lv' := [some (.ref T), some (wp_i 20061), some (wp_i (k + 2)), some (wp_i 61), some (wp_i 2), none, none, none, none, none, none]) ji_66_41 rfl rfl rfl ?_
  refine wl_s (pc' := 44) ji_66_43 rfl rfl rfl ?_
  refine wl_s (pc' := 46) ji_66_44 rfl rfl rfl ?_
  refine wl_icmp (t := 51) ji_66_46 rfl (by omega) (by omega) (fun (hb4 : (2 : Int) ≤ (k + 2)) => ?_) (fun (hb4 : ¬ ((2 : Int) ≤ (k + 2))) => (by exfalso; omega))
  refine wl_s (pc' := 52) ji_66_51 rfl rfl rfl ?_
  refine c0_gr (r := 10) (k := 8) C (Nat.lt_of_lt_of_le (by decide) hT.1) hT.2.1 rfl ji_66_52 jf_66_39 ?_
  refine wl_s (pc' := 56) ji_66_55 rfl rfl rfl ?_
  refine wl_s (pc' := 58) ji_66_56 rfl rfl rfl ?_
  refine wl_isub (x := k + 2) (y := 2) (z := k) ji_66_58 (by omega) ?_
  refine c0_l (x := k) C (by decide) sq_10 (by omega) ji_66_59 (fun ld50 ld51 ld52 => ?_)
  rw [ha] at ld52 ⊢
  refine wl_i2g (x := a) ji_66_60 (by omega) ?_
  refine wl_s (pc' := 63) (lv' := [some (.ref T), some (wp_i 20061), some (wp_i (k + 2)), some (wp_i 61), some (wp_i 2), some (wl_L a), none, none, none, none, none]) ji_66_61 rfl rfl rfl ?_
  refine wl_s (pc' := 64) ji_66_63 rfl rfl rfl ?_
  refine c0_gr (r := 10) (k := 8) C (Nat.lt_of_lt_of_le (by decide) hT.1) hT.2.1 rfl ji_66_64 jf_66_39 ?_
  refine wl_s (pc' := 68) ji_66_67 rfl rfl rfl ?_
  refine wl_s (pc' := 69) ji_66_68 rfl rfl rfl ?_
  refine wl_isub (x := k + 2) (y := 1) (z := k + 1) ji_66_69 (by omega) ?_
  refine c0_l (x := k + 1) C (by decide) sq_10 (by omega) ji_66_70 (fun ld60 ld61 ld62 => ?_)
  rw [hb] at ld62 ⊢
  refine wl_i2g (x := b) ji_66_71 (by omega) ?_
  refine wl_s (pc' := 74) (lv' := [some (.ref T), some (wp_i 20061), some (wp_i (k + 2)), some (wp_i 61), some (wp_i 2), some (wl_L a), none, some (wl_L b), none, none, none]) ji_66_72 rfl rfl rfl ?_
  refine wl_s (pc' := 75) (st' := [wl_L 0]) ji_66_74 rfl rfl rfl ?_
  refine wl_s (pc' := 77) (lv' := [some (.ref T), some (wp_i 20061), some (wp_i (k + 2)), some (wp_i 61), some (wp_i 2), some (wl_L a), none, some (wl_L b), none, some (wl_L 0), none]) ji_66_75 rfl rfl rfl ?_
  refine wl_s (pc' := 78) ji_66_77 rfl rfl rfl ?_
  refine wl_s (pc' := 273) ji_66_78 rfl rfl rfl ?_
  refine wl_s (pc' := 275) ji_66_273 rfl rfl rfl ?_
  refine wl_s (pc' := 277) ji_66_275 rfl rfl rfl ?_
  refine wl_lcm (x := a) (y := b) ji_66_277 (by unfold wl_q; omega) (by unfold wl_q; omega) (fun cm7 hcm7r hcm7 => ?_)
  refine wl_if (t := 285) ji_66_278 rfl (by omega) (fun (hb8 : ¬ (cm7 : Int) = 0) => ?_) (fun (hb8 : ¬ (¬ (cm7 : Int) = 0)) => ?_)
  · refine wl_s (pc' := 286) (st' := [wl_L 0]) ji_66_285 rfl rfl rfl ?_
    refine wl_s (pc' := 288) (lv' := [some (.ref T), some (wp_i 20061), some (wp_i (k + 2)), some (wp_i 61), some (wp_i 2), some (wl_L a), none, some (wl_L b), none, some (wl_L 0), none]) ji_66_286 rfl rfl rfl ?_
    refine wl_goto (t := 396) ji_66_288 rfl ?_
    refine wl_s (pc' := 397) ji_66_396 rfl rfl rfl ?_
    refine c0_gr (r := 10) (k := 8) C (Nat.lt_of_lt_of_le (by decide) hT.1) hT.2.1 rfl ji_66_397 jf_66_39 ?_
    refine wl_s (pc' := 401) ji_66_400 rfl rfl rfl ?_
    refine wl_s (pc' := 403) ji_66_401 rfl rfl rfl ?_
    refine wl_isub (x := k + 2) (y := 2) (z := k) ji_66_403 (by omega) ?_
    refine wl_lk (n := -1000000) ji_66_404 jcn_66_76 (by decide) ?_
    refine wl_lk (n := 1000000) ji_66_407 jcn_66_78 (by decide) ?_
    refine wl_s (pc' := 412) ji_66_410 rfl rfl rfl ?_
    refine wl_lmn (a := 1000000) (b := 0) ji_66_412 jc_66_80 (Nat.le_of_ble_eq_true rfl) (by unfold wl_q; omega) (by unfold wl_q; omega) ?_
    refine wl_lmx (a := -1000000) (b := min 1000000 0) ji_66_415 jc_66_83 (Nat.le_of_ble_eq_true rfl) (by unfold wl_q; omega) (by unfold wl_q; omega) ?_
    refine wl_l2g (x := max (-1000000) (min 1000000 0)) ji_66_418 (by unfold wl_q; omega) ?_
    refine c0_s (x := k) (y := max (-1000000) (min 1000000 0)) C (by decide) sq_10 (by omega) (by omega) ji_66_419 (fun h st90 st91 C => ?_)
    obtain ⟨s10, es10⟩ : ∃ z9_, up s 10 k (max (-1000000) (min 1000000 0)) = z9_ := ⟨_, rfl⟩
    rw [es10] at C
    refine wl_s (pc' := 421) ji_66_420 rfl rfl rfl ?_
    refine wl_s (pc' := 423) ji_66_421 rfl rfl rfl ?_
    refine wl_isub (x := k + 2) (y := 2) (z := k) ji_66_423 (by omega) ?_
    refine wl_s (pc' := 425) ji_66_424 rfl rfl rfl ?_
    refine wl_iadd (x := k) (y := 1) (z := k + 1) ji_66_425 (by omega) ?_
    exact wl_ri ji_66_426 jr_66 rfl (⟨rfl, c0_mono C (by rw [← es10, show sgv 61 a b = 0 from by show (if a = b then (1 : Int) else 0) = _; rw [if_neg (by omega)]]; rfl)⟩)
  · refine wl_s (pc' := 282) (st' := [wl_L 1]) ji_66_281 rfl rfl rfl ?_
    refine wl_goto (t := 286) ji_66_282 rfl ?_
    refine wl_s (pc' := 288) (lv' := [some (.ref T), some (wp_i 20061), some (wp_i (k + 2)), some (wp_i 61), some (wp_i 2), some (wl_L a), none, some (wl_L b), none, some (wl_L 1), none]) ji_66_286 rfl rfl rfl ?_
    refine wl_goto (t := 396) ji_66_288 rfl ?_
    refine wl_s (pc' := 397) ji_66_396 rfl rfl rfl ?_
    refine c0_gr (r := 10) (k := 8) C (Nat.lt_of_lt_of_le (by decide) hT.1) hT.2.1 rfl ji_66_397 jf_66_39 ?_
    refine wl_s (pc' := 401) ji_66_400 rfl rfl rfl ?_
    refine wl_s (pc' := 403) ji_66_401 rfl rfl rfl ?_
    refine wl_isub (x := k + 2) (y := 2) (z := k) ji_66_403 (by omega) ?_
    refine wl_lk (n := -1000000) ji_66_404 jcn_66_76 (by decide) ?_
    refine wl_lk (n := 1000000) ji_66_407 jcn_66_78 (by decide) ?_
    refine wl_s (pc' := 412) ji_66_410 rfl rfl rfl ?_
    refine wl_lmn (a := 1000000) (b := 1) ji_66_412 jc_66_80 (Nat.le_of_ble_eq_true rfl) (by unfold wl_q; omega) (by unfold wl_q; omega) ?_
    refine wl_lmx (a := -1000000) (b := min 1000000 1) ji_66_415 jc_66_83 (Nat.le_of_ble_eq_true rfl) (by unfold wl_q; omega) (by unfold wl_q; omega) ?_
    refine wl_l2g (x := max (-1000000) (min 1000000 1)) ji_66_418 (by unfold wl_q; omega) ?_
    refine c0_s (x := k) (y := max (-1000000) (min 1000000 1)) C (by decide) sq_10 (by omega) (by omega) ji_66_419 (fun h st110 st111 C => ?_)
    obtain ⟨s12, es12⟩ : ∃ z9_, up s 10 k (max (-1000000) (min 1000000 1)) = z9_ := ⟨_, rfl⟩
    rw [es12] at C
    refine wl_s (pc' := 421) ji_66_420 rfl rfl rfl ?_
    refine wl_s (pc' := 423) ji_66_421 rfl rfl rfl ?_
    refine wl_isub (x := k + 2) (y := 2) (z := k) ji_66_423 (by omega) ?_
    refine wl_s (pc' := 425) ji_66_424 rfl rfl rfl ?_
    refine wl_iadd (x := k) (y := 1) (z := k + 1) ji_66_425 (by omega) ?_
    exact wl_ri ji_66_426 jr_66 rfl (⟨rfl, c0_mono C (by rw [← es12, show sgv 61 a b = 1 from by show (if a = b then (1 : Int) else 0) = _; rw [if_pos (by omega)]]; rfl)⟩)
theorem uc_66_35 {nn d : Nat} {h : mj_H} {s : sg_} (C : CS0 h s) {T : Nat} (hT : isT T) {k a b : Int} (hk : 0 ≤ k ∧ k ≤ 62) (ha : s 10 k = a) (hb : s 10 (k + 1) = b) : wl_R nn d 66 0 [some (.ref T), some (wp_i 20035), some (wp_i (k + 2)), none, none, none, none, none, none, none, none] [] h (fun v1 h1 => v1 = some (wp_i (k + 1)) ∧ CS0 h1 (up s 10 k (clp (sgv 35 a b)))) := by
  have rb : wp_r b := hb ▸ cs_10 C (by omega)
  have ra : wp_r a := ha ▸ cs_10 C (by omega)
  refine wl_s (pc' := 1) ji_66_0 rfl rfl rfl ?_
  refine wl_sp ji_66_1 rfl ?_
  refine wl_icmp (t := 18) ji_66_4 rfl (by omega) (by omega) (fun (hb1 : (20035 : Int) ≤ 30000) => ?_) (fun (hb1 : ¬ ((20035 : Int) ≤ 30000)) => (by exfalso; omega))
  refine wl_s (pc' := 19) ji_66_18 rfl rfl rfl ?_
  refine wl_sp ji_66_19 rfl ?_
  refine wl_isub (x := 20035) (y := 20000) (z := 35) ji_66_22 (by omega) ?_
  refine wl_s (pc' := 24) (lv' := [some (.ref T), some (wp_i 20035), some (wp_i (k + 2)), some (wp_i 35), none, none, none, none, none, none, none]) ji_66_23 rfl rfl rfl ?_
  refine wl_s (pc' := 25) ji_66_24 rfl rfl rfl ?_
  refine wl_bp ji_66_25 rfl ?_
  refine wl_icmp (t := 36) ji_66_27 rfl (by omega) (by omega) (fun (hb2 : (35 : Int) = 110) => (by exfalso; omega)) (fun (hb2 : ¬ ((35 : Int) = 110)) => ?_)
  refine wl_s (pc' := 31) ji_66_30 rfl rfl rfl ?_
  refine wl_bp ji_66_31 rfl ?_
  refine wl_icmp (t := 40) ji_66_33 rfl (by omega) (by omega) (fun (hb3 : ¬ (35 : Int) = 33) => ?_) (fun (hb3 : ¬ (¬ (35 : Int) = 33)) => (by exfalso; omega))
  refine wl_s (pc' := 41) ji_66_40 rfl rfl rfl ?_
  refine wl_s (pc' := 43) (lv' := [some (.ref T), some (wp_i 20035), some (wp_i (k + 2)), some (wp_i 35), some (wp_i 2), none, none, none, none, none, none]) ji_66_41 rfl rfl rfl ?_
  refine wl_s (pc' := 44) ji_66_43 rfl rfl rfl ?_
  refine wl_s (pc' := 46) ji_66_44 rfl rfl rfl ?_
  refine wl_icmp (t := 51) ji_66_46 rfl (by omega) (by omega) (fun (hb4 : (2 : Int) ≤ (k + 2)) => ?_) (fun (hb4 : ¬ ((2 : Int) ≤ (k + 2))) => (by exfalso; omega))
  refine wl_s (pc' := 52) ji_66_51 rfl rfl rfl ?_
  refine c0_gr (r := 10) (k := 8) C (Nat.lt_of_lt_of_le (by decide) hT.1) hT.2.1 rfl ji_66_52 jf_66_39 ?_
  refine wl_s (pc' := 56) ji_66_55 rfl rfl rfl ?_
  refine wl_s (pc' := 58) ji_66_56 rfl rfl rfl ?_
  refine wl_isub (x := k + 2) (y := 2) (z := k) ji_66_58 (by omega) ?_
  refine c0_l (x := k) C (by decide) sq_10 (by omega) ji_66_59 (fun ld50 ld51 ld52 => ?_)
  rw [ha] at ld52 ⊢
  refine wl_i2g (x := a) ji_66_60 (by omega) ?_
  refine wl_s (pc' := 63) (lv' := [some (.ref T), some (wp_i 20035), some (wp_i (k + 2)), some (wp_i 35), some (wp_i 2), some (wl_L a), none, none, none, none, none]) ji_66_61 rfl rfl rfl ?_
  refine wl_s (pc' := 64) ji_66_63 rfl rfl rfl ?_
  refine c0_gr (r := 10) (k := 8) C (Nat.lt_of_lt_of_le (by decide) hT.1) hT.2.1 rfl ji_66_64 jf_66_39 ?_
  refine wl_s (pc' := 68) ji_66_67 rfl rfl rfl ?_
  refine wl_s (pc' := 69) ji_66_68 rfl rfl rfl ?_
  refine wl_isub (x := k + 2) (y := 1) (z := k + 1) ji_66_69 (by omega) ?_
  refine c0_l (x := k + 1) C (by decide) sq_10 (by omega) ji_66_70 (fun ld60 ld61 ld62 => ?_)
  rw [hb] at ld62 ⊢
  refine wl_i2g (x := b) ji_66_71 (by omega) ?_
  refine wl_s (pc' := 74) (lv' := [some (.ref T), some (wp_i 20035), some (wp_i (k + 2)), some (wp_i 35), some (wp_i 2), some (wl_L a), none, some (wl_L b), none, none, none]) ji_66_72 rfl rfl rfl ?_
  refine wl_s (pc' := 75) (st' := [wl_L 0]) ji_66_74 rfl rfl rfl ?_
  refine wl_s (pc' := 77) (lv' := [some (.ref T), some (wp_i 20035), some (wp_i (k + 2)), some (wp_i 35), some (wp_i 2), some (wl_L a), none, some (wl_L b), none, some (wl_L 0), none]) ji_66_75 rfl rfl rfl ?_
  refine wl_s (pc' := 78) ji_66_77 rfl rfl rfl ?_
  refine wl_s (pc' := 291) ji_66_78 rfl rfl rfl ?_
  refine wl_s (pc' := 293) ji_66_291 rfl rfl rfl ?_
  refine wl_s (pc' := 295) ji_66_293 rfl rfl rfl ?_
  refine wl_lcm (x := a) (y := b) ji_66_295 (by unfold wl_q; omega) (by unfold wl_q; omega) (fun cm7 hcm7r hcm7 => ?_)
  refine wl_if (t := 303) ji_66_296 rfl (by omega) (fun (hb8 : (cm7 : Int) = 0) => ?_) (fun (hb8 : ¬ ((cm7 : Int) = 0)) => ?_)
  · refine wl_s (pc' := 304) (st' := [wl_L 0]) ji_66_303 rfl rfl rfl ?_
    refine wl_s (pc' := 306) (lv' := [some (.ref T), some (wp_i 20035), some (wp_i (k + 2)), some (wp_i 35), some (wp_i 2), some (wl_L a), none, some (wl_L b), none, some (wl_L 0), none]) ji_66_304 rfl rfl rfl ?_
    refine wl_goto (t := 396) ji_66_306 rfl ?_
    refine wl_s (pc' := 397) ji_66_396 rfl rfl rfl ?_
    refine c0_gr (r := 10) (k := 8) C (Nat.lt_of_lt_of_le (by decide) hT.1) hT.2.1 rfl ji_66_397 jf_66_39 ?_
    refine wl_s (pc' := 401) ji_66_400 rfl rfl rfl ?_
    refine wl_s (pc' := 403) ji_66_401 rfl rfl rfl ?_
    refine wl_isub (x := k + 2) (y := 2) (z := k) ji_66_403 (by omega) ?_
    refine wl_lk (n := -1000000) ji_66_404 jcn_66_76 (by decide) ?_
    refine wl_lk (n := 1000000) ji_66_407 jcn_66_78 (by decide) ?_
    refine wl_s (pc' := 412) ji_66_410 rfl rfl rfl ?_
    refine wl_lmn (a := 1000000) (b := 0) ji_66_412 jc_66_80 (Nat.le_of_ble_eq_true rfl) (by unfold wl_q; omega) (by unfold wl_q; omega) ?_
    refine wl_lmx (a := -1000000) (b := min 1000000 0) ji_66_415 jc_66_83 (Nat.le_of_ble_eq_true rfl) (by unfold wl_q; omega) (by unfold wl_q; omega) ?_
    refine wl_l2g (x := max (-1000000) (min 1000000 0)) ji_66_418 (by unfold wl_q; omega) ?_
    refine c0_s (x := k) (y := max (-1000000) (min 1000000 0)) C (by decide) sq_10 (by omega) (by omega) ji_66_419 (fun h st90 st91 C => ?_)
    obtain ⟨s10, es10⟩ : ∃ z9_, up s 10 k (max (-1000000) (min 1000000 0)) = z9_ := ⟨_, rfl⟩
    rw [es10] at C
    refine wl_s (pc' := 421) ji_66_420 rfl rfl rfl ?_
    refine wl_s (pc' := 423) ji_66_421 rfl rfl rfl ?_
    refine wl_isub (x := k + 2) (y := 2) (z := k) ji_66_423 (by omega) ?_
    refine wl_s (pc' := 425) ji_66_424 rfl rfl rfl ?_
    refine wl_iadd (x := k) (y := 1) (z := k + 1) ji_66_425 (by omega) ?_
    exact wl_ri ji_66_426 jr_66 rfl (⟨rfl, c0_mono C (by rw [← es10, show sgv 35 a b = 0 from by show (if a = b then (0 : Int) else 1) = _; rw [if_pos (by omega)]]; rfl)⟩)
  · refine wl_s (pc' := 300) (st' := [wl_L 1]) ji_66_299 rfl rfl rfl ?_
    refine wl_goto (t := 304) ji_66_300 rfl ?_
    refine wl_s (pc' := 306) (lv' := [some (.ref T), some (wp_i 20035), some (wp_i (k + 2)), some (wp_i 35), some (wp_i 2), some (wl_L a), none, some (wl_L b), none, some (wl_L 1), none]) ji_66_304 rfl rfl rfl ?_
    refine wl_goto (t := 396) ji_66_306 rfl ?_
    refine wl_s (pc' := 397) ji_66_396 rfl rfl rfl ?_
    refine c0_gr (r := 10) (k := 8) C (Nat.lt_of_lt_of_le (by decide) hT.1) hT.2.1 rfl ji_66_397 jf_66_39 ?_
    refine wl_s (pc' := 401) ji_66_400 rfl rfl rfl ?_
    refine wl_s (pc' := 403) ji_66_401 rfl rfl rfl ?_
    refine wl_isub (x := k + 2) (y := 2) (z := k) ji_66_403 (by omega) ?_
    refine wl_lk (n := -1000000) ji_66_404 jcn_66_76 (by decide) ?_
    refine wl_lk (n := 1000000) ji_66_407 jcn_66_78 (by decide) ?_
    refine wl_s (pc' := 412) ji_66_410 rfl rfl rfl ?_
    refine wl_lmn (a := 1000000) (b := 1) ji_66_412 jc_66_80 (Nat.le_of_ble_eq_true rfl) (by unfold wl_q; omega) (by unfold wl_q; omega) ?_
    refine wl_lmx (a := -1000000) (b := min 1000000 1) ji_66_415 jc_66_83 (Nat.le_of_ble_eq_true rfl) (by unfold wl_q; omega) (by unfold wl_q; omega) ?_
    refine wl_l2g (x := max (-1000000) (min 1000000 1)) ji_66_418 (by unfold wl_q; omega) ?_
    refine c0_s (x := k) (y := max (-1000000) (min 1000000 1)) C (by decide) sq_10 (by omega) (by omega) ji_66_419 (fun h st110 st111 C => ?_)
    obtain ⟨s12, es12⟩ : ∃ z9_, up s 10 k (max (-1000000) (min 1000000 1)) = z9_ := ⟨_, rfl⟩
    rw [es12] at C
    refine wl_s (pc' := 421) ji_66_420 rfl rfl rfl ?_
    refine wl_s (pc' := 423) ji_66_421 rfl rfl rfl ?_
    refine wl_isub (x := k + 2) (y := 2) (z := k) ji_66_423 (by omega) ?_
    refine wl_s (pc' := 425) ji_66_424 rfl rfl rfl ?_
    refine wl_iadd (x := k) (y := 1) (z := k + 1) ji_66_425 (by omega) ?_
    exact wl_ri ji_66_426 jr_66 rfl (⟨rfl, c0_mono C (by rw [← es12, show sgv 35 a b = 1 from by show (if a = b then (0 : Int) else 1) = _; rw [if_neg (by omega)]]; rfl)⟩)
theorem uc_66_108 {nn d : Nat} {h : mj_H} {s : sg_} (C : CS0 h s) {T : Nat} (hT : isT T) {k a b : Int} (hk : 0 ≤ k ∧ k ≤ 62) (ha : s 10 k = a) (hb : s 10 (k + 1) = b) : wl_R nn d 66 0 [some (.ref T), some (wp_i 20108), some (wp_i (k + 2)), none, none, none, none, none, none, none, none] [] h (fun v1 h1 => v1 = some (wp_i (k + 1)) ∧ CS0 h1 (up s 10 k (clp (sgv 108 a b)))) := by
  have rb : wp_r b := hb ▸ cs_10 C (by omega)
  have ra : wp_r a := ha ▸ cs_10 C (by omega)
  refine wl_s (pc' := 1) ji_66_0 rfl rfl rfl ?_
  refine wl_sp ji_66_1 rfl ?_
  refine wl_icmp (t := 18) ji_66_4 rfl (by omega) (by omega) (fun (hb1 : (20108 : Int) ≤ 30000) => ?_) (fun (hb1 : ¬ ((20108 : Int) ≤ 30000)) => (by exfalso; omega))
  refine wl_s (pc' := 19) ji_66_18 rfl rfl rfl ?_
  refine wl_sp ji_66_19 rfl ?_
  refine wl_isub (x := 20108) (y := 20000) (z := 108) ji_66_22 (by omega) ?_
  refine wl_s (pc' := 24) (lv' := [some (.ref T), some (wp_i 20108), some (wp_i (k + 2)), some (wp_i 108), none, none, none, none, none, none, none]) ji_66_23 rfl rfl rfl ?_
  refine wl_s (pc' := 25) ji_66_24 rfl rfl rfl ?_
  refine wl_bp ji_66_25 rfl ?_
  refine wl_icmp (t := 36) ji_66_27 rfl (by omega) (by omega) (fun (hb2 : (108 : Int) = 110) => (by exfalso; omega)) (fun (hb2 : ¬ ((108 : Int) = 110)) => ?_)
  refine wl_s (pc' := 31) ji_66_30 rfl rfl rfl ?_
  refine wl_bp ji_66_31 rfl ?_
  refine wl_icmp (t := 40) ji_66_33 rfl (by omega) (by omega) (fun (hb3 : ¬ (108 : Int) = 33) => ?_) (fun (hb3 : ¬ (¬ (108 : Int) = 33)) => (by exfalso; omega))
  refine wl_s (pc' := 41) ji_66_40 rfl rfl rfl ?_
  refine wl_s (pc' := 43) (lv' := [some (.ref T), some (wp_i 20108), some (wp_i (k + 2)), some (wp_i 108), some (wp_i 2), none, none, none, none, none, none]) ji_66_41 rfl rfl rfl ?_
  refine wl_s (pc' := 44) ji_66_43 rfl rfl rfl ?_
  refine wl_s (pc' := 46) ji_66_44 rfl rfl rfl ?_
  refine wl_icmp (t := 51) ji_66_46 rfl (by omega) (by omega) (fun (hb4 : (2 : Int) ≤ (k + 2)) => ?_) (fun (hb4 : ¬ ((2 : Int) ≤ (k + 2))) => (by exfalso; omega))
  refine wl_s (pc' := 52) ji_66_51 rfl rfl rfl ?_
  refine c0_gr (r := 10) (k := 8) C (Nat.lt_of_lt_of_le (by decide) hT.1) hT.2.1 rfl ji_66_52 jf_66_39 ?_
  refine wl_s (pc' := 56) ji_66_55 rfl rfl rfl ?_
  refine wl_s (pc' := 58) ji_66_56 rfl rfl rfl ?_
  refine wl_isub (x := k + 2) (y := 2) (z := k) ji_66_58 (by omega) ?_
  refine c0_l (x := k) C (by decide) sq_10 (by omega) ji_66_59 (fun ld50 ld51 ld52 => ?_)
  rw [ha] at ld52 ⊢
  refine wl_i2g (x := a) ji_66_60 (by omega) ?_
  refine wl_s (pc' := 63) (lv' := [some (.ref T), some (wp_i 20108), some (wp_i (k + 2)), some (wp_i 108), some (wp_i 2), some (wl_L a), none, none, none, none, none]) ji_66_61 rfl rfl rfl ?_
  refine wl_s (pc' := 64) ji_66_63 rfl rfl rfl ?_
  refine c0_gr (r := 10) (k := 8) C (Nat.lt_of_lt_of_le (by decide) hT.1) hT.2.1 rfl ji_66_64 jf_66_39 ?_
  refine wl_s (pc' := 68) ji_66_67 rfl rfl rfl ?_
  refine wl_s (pc' := 69) ji_66_68 rfl rfl rfl ?_
  refine wl_isub (x := k + 2) (y := 1) (z := k + 1) ji_66_69 (by omega) ?_
  refine c0_l (x := k + 1) C (by decide) sq_10 (by omega) ji_66_70 (fun ld60 ld61 ld62 => ?_)
  rw [hb] at ld62 ⊢
  refine wl_i2g (x := b) ji_66_71 (by omega) ?_
  refine wl_s (pc' := 74) (lv' := [some (.ref T), some (wp_i 20108), some (wp_i (k + 2)), some (wp_i 108), some (wp_i 2), some (wl_L a), none, some (wl_L b), none, none, none]) ji_66_72 rfl rfl rfl ?_
  refine wl_s (pc' := 75) (st' := [wl_L 0]) ji_66_74 rfl rfl rfl ?_
  refine wl_s (pc' := 77) (lv' := [some (.ref T), some (wp_i 20108), some (wp_i (k + 2)), some (wp_i 108), some (wp_i 2), some (wl_L a), none, some (wl_L b), none, some (wl_L 0), none]) ji_66_75 rfl rfl rfl ?_
  refine wl_s (pc' := 78) ji_66_77 rfl rfl rfl ?_
  refine wl_s (pc' := 309) ji_66_78 rfl rfl rfl ?_
  refine wl_s (pc' := 311) ji_66_309 rfl rfl rfl ?_
  refine wl_s (pc' := 313) ji_66_311 rfl rfl rfl ?_
  refine wl_lcm (x := a) (y := b) ji_66_313 (by unfold wl_q; omega) (by unfold wl_q; omega) (fun cm7 hcm7r hcm7 => ?_)
  refine wl_if (t := 321) ji_66_314 rfl (by omega) (fun (hb8 : (0 : Int) < cm7) => ?_) (fun (hb8 : ¬ ((0 : Int) < cm7)) => ?_)
  · refine wl_s (pc' := 322) (st' := [wl_L 0]) ji_66_321 rfl rfl rfl ?_
    refine wl_s (pc' := 324) (lv' := [some (.ref T), some (wp_i 20108), some (wp_i (k + 2)), some (wp_i 108), some (wp_i 2), some (wl_L a), none, some (wl_L b), none, some (wl_L 0), none]) ji_66_322 rfl rfl rfl ?_
    refine wl_goto (t := 396) ji_66_324 rfl ?_
    refine wl_s (pc' := 397) ji_66_396 rfl rfl rfl ?_
    refine c0_gr (r := 10) (k := 8) C (Nat.lt_of_lt_of_le (by decide) hT.1) hT.2.1 rfl ji_66_397 jf_66_39 ?_
    refine wl_s (pc' := 401) ji_66_400 rfl rfl rfl ?_
    refine wl_s (pc' := 403) ji_66_401 rfl rfl rfl ?_
    refine wl_isub (x := k + 2) (y := 2) (z := k) ji_66_403 (by omega) ?_
    refine wl_lk (n := -1000000) ji_66_404 jcn_66_76 (by decide) ?_
    refine wl_lk (n := 1000000) ji_66_407 jcn_66_78 (by decide) ?_
    refine wl_s (pc' := 412) ji_66_410 rfl rfl rfl ?_
    refine wl_lmn (a := 1000000) (b := 0) ji_66_412 jc_66_80 (Nat.le_of_ble_eq_true rfl) (by unfold wl_q; omega) (by unfold wl_q; omega) ?_
    refine wl_lmx (a := -1000000) (b := min 1000000 0) ji_66_415 jc_66_83 (Nat.le_of_ble_eq_true rfl) (by unfold wl_q; omega) (by unfold wl_q; omega) ?_
    refine wl_l2g (x := max (-1000000) (min 1000000 0)) ji_66_418 (by unfold wl_q; omega) ?_
    refine c0_s (x := k) (y := max (-1000000) (min 1000000 0)) C (by decide) sq_10 (by omega) (by omega) ji_66_419 (fun h st90 st91 C => ?_)
    obtain ⟨s10, es10⟩ : ∃ z9_, up s 10 k (max (-1000000) (min 1000000 0)) = z9_ := ⟨_, rfl⟩
    rw [es10] at C
    refine wl_s (pc' := 421) ji_66_420 rfl rfl rfl ?_
    refine wl_s (pc' := 423) ji_66_421 rfl rfl rfl ?_
    refine wl_isub (x := k + 2) (y := 2) (z := k) ji_66_423 (by omega) ?_
    refine wl_s (pc' := 425) ji_66_424 rfl rfl rfl ?_
    refine wl_iadd (x := k) (y := 1) (z := k + 1) ji_66_425 (by omega) ?_
    exact wl_ri ji_66_426 jr_66 rfl (⟨rfl, c0_mono C (by rw [← es10, show sgv 108 a b = 0 from by show (if b < a then (0 : Int) else 1) = _; rw [if_pos (by omega)]]; rfl)⟩)
  · refine wl_s (pc' := 318) (st' := [wl_L 1]) ji_66_317 rfl rfl rfl ?_
    refine wl_goto (t := 322) ji_66_318 rfl ?_
    refine wl_s (pc' := 324) (lv' := [some (.ref T), some (wp_i 20108), some (wp_i (k + 2)), some (wp_i 108), some (wp_i 2), some (wl_L a), none, some (wl_L b), none, some (wl_L 1), none]) ji_66_322 rfl rfl rfl ?_
    refine wl_goto (t := 396) ji_66_324 rfl ?_
    refine wl_s (pc' := 397) ji_66_396 rfl rfl rfl ?_
    refine c0_gr (r := 10) (k := 8) C (Nat.lt_of_lt_of_le (by decide) hT.1) hT.2.1 rfl ji_66_397 jf_66_39 ?_
    refine wl_s (pc' := 401) ji_66_400 rfl rfl rfl ?_
    refine wl_s (pc' := 403) ji_66_401 rfl rfl rfl ?_
    refine wl_isub (x := k + 2) (y := 2) (z := k) ji_66_403 (by omega) ?_
    refine wl_lk (n := -1000000) ji_66_404 jcn_66_76 (by decide) ?_
    refine wl_lk (n := 1000000) ji_66_407 jcn_66_78 (by decide) ?_
    refine wl_s (pc' := 412) ji_66_410 rfl rfl rfl ?_
    refine wl_lmn (a := 1000000) (b := 1) ji_66_412 jc_66_80 (Nat.le_of_ble_eq_true rfl) (by unfold wl_q; omega) (by unfold wl_q; omega) ?_
    refine wl_lmx (a := -1000000) (b := min 1000000 1) ji_66_415 jc_66_83 (Nat.le_of_ble_eq_true rfl) (by unfold wl_q; omega) (by unfold wl_q; omega) ?_
    refine wl_l2g (x := max (-1000000) (min 1000000 1)) ji_66_418 (by unfold wl_q; omega) ?_
    refine c0_s (x := k) (y := max (-1000000) (min 1000000 1)) C (by decide) sq_10 (by omega) (by omega) ji_66_419 (fun h st110 st111 C => ?_)
    obtain ⟨s12, es12⟩ : ∃ z9_, up s 10 k (max (-1000000) (min 1000000 1)) = z9_ := ⟨_, rfl⟩
    rw [es12] at C
    refine wl_s (pc' := 421) ji_66_420 rfl rfl rfl ?_
    refine wl_s (pc' := 423) ji_66_421 rfl rfl rfl ?_
    refine wl_isub (x := k + 2) (y := 2) (z := k) ji_66_423 (by omega) ?_
    refine wl_s (pc' := 425) ji_66_424 rfl rfl rfl ?_
    refine wl_iadd (x := k) (y := 1) (z := k + 1) ji_66_425 (by omega) ?_
    exact wl_ri ji_66_426 jr_66 rfl (⟨rfl, c0_mono C (by rw [← es12, show sgv 108 a b = 1 from by show (if b < a then (0 : Int) else 1) = _; rw [if_neg (by omega)]]; rfl)⟩)
theorem uc_66_103 {nn d : Nat} {h : mj_H} {s : sg_} (C : CS0 h s) {T : Nat} (hT : isT T) {k a b : Int} (hk : 0 ≤ k ∧ k ≤ 62) (ha : s 10 k = a) (hb : s 10 (k + 1) = b) : wl_R nn d 66 0 [some (.ref T), some (wp_i 20103), some (wp_i (k + 2)), none, none, none, none, none, none, none, none] [] h (fun v1 h1 => v1 = some (wp_i (k + 1)) ∧ CS0 h1 (up s 10 k (clp (sgv 103 a b)))) := by
  have rb : wp_r b := hb ▸ cs_10 C (by omega)
  have ra : wp_r a := ha ▸ cs_10 C (by omega)
  refine wl_s (pc' := 1) ji_66_0 rfl rfl rfl ?_
  refine wl_sp ji_66_1 rfl ?_
  refine wl_icmp (t := 18) ji_66_4 rfl (by omega) (by omega) (fun (hb1 : (20103 : Int) ≤ 30000) => ?_) (fun (hb1 : ¬ ((20103 : Int) ≤ 30000)) => (by exfalso; omega))
  refine wl_s (pc' := 19) ji_66_18 rfl rfl rfl ?_
  refine wl_sp ji_66_19 rfl ?_
  refine wl_isub (x := 20103) (y := 20000) (z := 103) ji_66_22 (by omega) ?_
  refine wl_s (pc' := 24) (lv' := [some (.ref T), some (wp_i 20103), some (wp_i (k + 2)), some (wp_i 103), none, none, none, none, none, none, none]) ji_66_23 rfl rfl rfl ?_
  refine wl_s (pc' := 25) ji_66_24 rfl rfl rfl ?_
  refine wl_bp ji_66_25 rfl ?_
  refine wl_icmp (t := 36) ji_66_27 rfl (by omega) (by omega) (fun (hb2 : (103 : Int) = 110) => (by exfalso; omega)) (fun (hb2 : ¬ ((103 : Int) = 110)) => ?_)
  refine wl_s (pc' := 31) ji_66_30 rfl rfl rfl ?_
  refine wl_bp ji_66_31 rfl ?_
  refine wl_icmp (t := 40) ji_66_33 rfl (by omega) (by omega) (fun (hb3 : ¬ (103 : Int) = 33) => ?_) (fun (hb3 : ¬ (¬ (103 : Int) = 33)) => (by exfalso; omega))
  refine wl_s (pc' := 41) ji_66_40 rfl rfl rfl ?_
  refine wl_s (pc' := 43) (lv' := [some (.ref T), some (wp_i 20103), some (wp_i (k + 2)), some (wp_i 103), some (wp_i 2), none, none, none, none, none, none]) ji_66_41 rfl rfl rfl ?_
  refine wl_s (pc' := 44) ji_66_43 rfl rfl rfl ?_
  refine wl_s (pc' := 46) ji_66_44 rfl rfl rfl ?_
  refine wl_icmp (t := 51) ji_66_46 rfl (by omega) (by omega) (fun (hb4 : (2 : Int) ≤ (k + 2)) => ?_) (fun (hb4 : ¬ ((2 : Int) ≤ (k + 2))) => (by exfalso; omega))
  refine wl_s (pc' := 52) ji_66_51 rfl rfl rfl ?_
  refine c0_gr (r := 10) (k := 8) C (Nat.lt_of_lt_of_le (by decide) hT.1) hT.2.1 rfl ji_66_52 jf_66_39 ?_
  refine wl_s (pc' := 56) ji_66_55 rfl rfl rfl ?_
  refine wl_s (pc' := 58) ji_66_56 rfl rfl rfl ?_
  refine wl_isub (x := k + 2) (y := 2) (z := k) ji_66_58 (by omega) ?_
  refine c0_l (x := k) C (by decide) sq_10 (by omega) ji_66_59 (fun ld50 ld51 ld52 => ?_)
  rw [ha] at ld52 ⊢
  refine wl_i2g (x := a) ji_66_60 (by omega) ?_
  refine wl_s (pc' := 63) (lv' := [some (.ref T), some (wp_i 20103), some (wp_i (k + 2)), some (wp_i 103), some (wp_i 2), some (wl_L a), none, none, none, none, none]) ji_66_61 rfl rfl rfl ?_
  refine wl_s (pc' := 64) ji_66_63 rfl rfl rfl ?_
  refine c0_gr (r := 10) (k := 8) C (Nat.lt_of_lt_of_le (by decide) hT.1) hT.2.1 rfl ji_66_64 jf_66_39 ?_
  refine wl_s (pc' := 68) ji_66_67 rfl rfl rfl ?_
  refine wl_s (pc' := 69) ji_66_68 rfl rfl rfl ?_
  refine wl_isub (x := k + 2) (y := 1) (z := k + 1) ji_66_69 (by omega) ?_
  refine c0_l (x := k + 1) C (by decide) sq_10 (by omega) ji_66_70 (fun ld60 ld61 ld62 => ?_)
  rw [hb] at ld62 ⊢
  refine wl_i2g (x := b) ji_66_71 (by omega) ?_
  refine wl_s (pc' := 74) (lv' := [some (.ref T), some (wp_i 20103), some (wp_i (k + 2)), some (wp_i 103), some (wp_i 2), some (wl_L a), none, some (wl_L b), none, none, none]) ji_66_72 rfl rfl rfl ?_
  refine wl_s (pc' := 75) (st' := [wl_L 0]) ji_66_74 rfl rfl rfl ?_
  refine wl_s (pc' := 77) (lv' := [some (.ref T), some (wp_i 20103), some (wp_i (k + 2)), some (wp_i 103), some (wp_i 2), some (wl_L a), none, some (wl_L b), none, some (wl_L 0), none]) ji_66_75 rfl rfl rfl ?_
  refine wl_s (pc' := 78) ji_66_77 rfl rfl rfl ?_
  refine wl_s (pc' := 327) ji_66_78 rfl rfl rfl ?_
  refine wl_s (pc' := 329) ji_66_327 rfl rfl rfl ?_
  refine wl_s (pc' := 331) ji_66_329 rfl rfl rfl ?_
  refine wl_lcm (x := a) (y := b) ji_66_331 (by unfold wl_q; omega) (by unfold wl_q; omega) (fun cm7 hcm7r hcm7 => ?_)
  refine wl_if (t := 339) ji_66_332 rfl (by omega) (fun (hb8 : (cm7 : Int) < 0) => ?_) (fun (hb8 : ¬ ((cm7 : Int) < 0)) => ?_)
  · refine wl_s (pc' := 340) (st' := [wl_L 0]) ji_66_339 rfl rfl rfl ?_
    refine wl_s (pc' := 342) (lv' := [some (.ref T), some (wp_i 20103), some (wp_i (k + 2)), some (wp_i 103), some (wp_i 2), some (wl_L a), none, some (wl_L b), none, some (wl_L 0), none]) ji_66_340 rfl rfl rfl ?_
    refine wl_goto (t := 396) ji_66_342 rfl ?_
    refine wl_s (pc' := 397) ji_66_396 rfl rfl rfl ?_
    refine c0_gr (r := 10) (k := 8) C (Nat.lt_of_lt_of_le (by decide) hT.1) hT.2.1 rfl ji_66_397 jf_66_39 ?_
    refine wl_s (pc' := 401) ji_66_400 rfl rfl rfl ?_
    refine wl_s (pc' := 403) ji_66_401 rfl rfl rfl ?_
    refine wl_isub (x := k + 2) (y := 2) (z := k) ji_66_403 (by omega) ?_
    refine wl_lk (n := -1000000) ji_66_404 jcn_66_76 (by decide) ?_
    refine wl_lk (n := 1000000) ji_66_407 jcn_66_78 (by decide) ?_
    refine wl_s (pc' := 412) ji_66_410 rfl rfl rfl ?_
    refine wl_lmn (a := 1000000) (b := 0) ji_66_412 jc_66_80 (Nat.le_of_ble_eq_true rfl) (by unfold wl_q; omega) (by unfold wl_q; omega) ?_
    refine wl_lmx (a := -1000000) (b := min 1000000 0) ji_66_415 jc_66_83 (Nat.le_of_ble_eq_true rfl) (by unfold wl_q; omega) (by unfold wl_q; omega) ?_
    refine wl_l2g (x := max (-1000000) (min 1000000 0)) ji_66_418 (by unfold wl_q; omega) ?_
    refine c0_s (x := k) (y := max (-1000000) (min 1000000 0)) C (by decide) sq_10 (by omega) (by omega) ji_66_419 (fun h st90 st91 C => ?_)
    obtain ⟨s10, es10⟩ : ∃ z9_, up s 10 k (max (-1000000) (min 1000000 0)) = z9_ := ⟨_, rfl⟩
    rw [es10] at C
    refine wl_s (pc' := 421) ji_66_420 rfl rfl rfl ?_
    refine wl_s (pc' := 423) ji_66_421 rfl rfl rfl ?_
    refine wl_isub (x := k + 2) (y := 2) (z := k) ji_66_423 (by omega) ?_
    refine wl_s (pc' := 425) ji_66_424 rfl rfl rfl ?_
    refine wl_iadd (x := k) (y := 1) (z := k + 1) ji_66_425 (by omega) ?_
    exact wl_ri ji_66_426 jr_66 rfl (⟨rfl, c0_mono C (by rw [← es10, show sgv 103 a b = 0 from by show (if a < b then (0 : Int) else 1) = _; rw [if_pos (by omega)]]; rfl)⟩)
  · refine wl_s (pc' := 336) (st' := [wl_L 1]) ji_66_335 rfl rfl rfl ?_
    refine wl_goto (t := 340) ji_66_336 rfl ?_
    refine wl_s (pc' := 342) (lv' := [some (.ref T), some (wp_i 20103), some (wp_i (k + 2)), some (wp_i 103), some (wp_i 2), some (wl_L a), none, some (wl_L b), none, some (wl_L 1), none]) ji_66_340 rfl rfl rfl ?_
    refine wl_goto (t := 396) ji_66_342 rfl ?_
    refine wl_s (pc' := 397) ji_66_396 rfl rfl rfl ?_
    refine c0_gr (r := 10) (k := 8) C (Nat.lt_of_lt_of_le (by decide) hT.1) hT.2.1 rfl ji_66_397 jf_66_39 ?_
    refine wl_s (pc' := 401) ji_66_400 rfl rfl rfl ?_
    refine wl_s (pc' := 403) ji_66_401 rfl rfl rfl ?_
    refine wl_isub (x := k + 2) (y := 2) (z := k) ji_66_403 (by omega) ?_
    refine wl_lk (n := -1000000) ji_66_404 jcn_66_76 (by decide) ?_
    refine wl_lk (n := 1000000) ji_66_407 jcn_66_78 (by decide) ?_
    refine wl_s (pc' := 412) ji_66_410 rfl rfl rfl ?_
    refine wl_lmn (a := 1000000) (b := 1) ji_66_412 jc_66_80 (Nat.le_of_ble_eq_true rfl) (by unfold wl_q; omega) (by unfold wl_q; omega) ?_
    refine wl_lmx (a := -1000000) (b := min 1000000 1) ji_66_415 jc_66_83 (Nat.le_of_ble_eq_true rfl) (by unfold wl_q; omega) (by unfold wl_q; omega) ?_
    refine wl_l2g (x := max (-1000000) (min 1000000 1)) ji_66_418 (by unfold wl_q; omega) ?_
    refine c0_s (x := k) (y := max (-1000000) (min 1000000 1)) C (by decide) sq_10 (by omega) (by omega) ji_66_419 (fun h st110 st111 C => ?_)
    obtain ⟨s12, es12⟩ : ∃ z9_, up s 10 k (max (-1000000) (min 1000000 1)) = z9_ := ⟨_, rfl⟩
    rw [es12] at C
    refine wl_s (pc' := 421) ji_66_420 rfl rfl rfl ?_
    refine wl_s (pc' := 423) ji_66_421 rfl rfl rfl ?_
    refine wl_isub (x := k + 2) (y := 2) (z := k) ji_66_423 (by omega) ?_
    refine wl_s (pc' := 425) ji_66_424 rfl rfl rfl ?_
    refine wl_iadd (x := k) (y := 1) (z := k + 1) ji_66_425 (by omega) ?_
    exact wl_ri ji_66_426 jr_66 rfl (⟨rfl, c0_mono C (by rw [← es12, show sgv 103 a b = 1 from by show (if a < b then (0 : Int) else 1) = _; rw [if_neg (by omega)]]; rfl)⟩)
theorem uc_66_43 {nn d : Nat} {h : mj_H} {s : sg_} (C : CS0 h s) {T : Nat} (hT : isT T) {k a b : Int} (hk : 0 ≤ k ∧ k ≤ 62) (ha : s 10 k = a) (hb : s 10 (k + 1) = b) : wl_R nn d 66 0 [some (.ref T), some (wp_i 20043), some (wp_i (k + 2)), none, none, none, none, none, none, none, none] [] h (fun v1 h1 => v1 = some (wp_i (k + 1)) ∧ CS0 h1 (up s 10 k (clp (sgv 43 a b)))) := by
  have rb : wp_r b := hb ▸ cs_10 C (by omega)
  have ra : wp_r a := ha ▸ cs_10 C (by omega)
  refine wl_s (pc' := 1) ji_66_0 rfl rfl rfl ?_
  refine wl_sp ji_66_1 rfl ?_
  refine wl_icmp (t := 18) ji_66_4 rfl (by omega) (by omega) (fun (hb1 : (20043 : Int) ≤ 30000) => ?_) (fun (hb1 : ¬ ((20043 : Int) ≤ 30000)) => (by exfalso; omega))
  refine wl_s (pc' := 19) ji_66_18 rfl rfl rfl ?_
  refine wl_sp ji_66_19 rfl ?_
  refine wl_isub (x := 20043) (y := 20000) (z := 43) ji_66_22 (by omega) ?_
  refine wl_s (pc' := 24) (lv' := [some (.ref T), some (wp_i 20043), some (wp_i (k + 2)), some (wp_i 43), none, none, none, none, none, none, none]) ji_66_23 rfl rfl rfl ?_
  refine wl_s (pc' := 25) ji_66_24 rfl rfl rfl ?_
  refine wl_bp ji_66_25 rfl ?_
  refine wl_icmp (t := 36) ji_66_27 rfl (by omega) (by omega) (fun (hb2 : (43 : Int) = 110) => (by exfalso; omega)) (fun (hb2 : ¬ ((43 : Int) = 110)) => ?_)
  refine wl_s (pc' := 31) ji_66_30 rfl rfl rfl ?_
  refine wl_bp ji_66_31 rfl ?_
  refine wl_icmp (t := 40) ji_66_33 rfl (by omega) (by omega) (fun (hb3 : ¬ (43 : Int) = 33) => ?_) (fun (hb3 : ¬ (¬ (43 : Int) = 33)) => (by exfalso; omega))
  refine wl_s (pc' := 41) ji_66_40 rfl rfl rfl ?_
  refine wl_s (pc' := 43) (lv' := [some (.ref T), some (wp_i 20043), some (wp_i (k + 2)), some (wp_i 43), some (wp_i 2), none, none, none, none, none, none]) ji_66_41 rfl rfl rfl ?_
  refine wl_s (pc' := 44) ji_66_43 rfl rfl rfl ?_
  refine wl_s (pc' := 46) ji_66_44 rfl rfl rfl ?_
  refine wl_icmp (t := 51) ji_66_46 rfl (by omega) (by omega) (fun (hb4 : (2 : Int) ≤ (k + 2)) => ?_) (fun (hb4 : ¬ ((2 : Int) ≤ (k + 2))) => (by exfalso; omega))
  refine wl_s (pc' := 52) ji_66_51 rfl rfl rfl ?_
  refine c0_gr (r := 10) (k := 8) C (Nat.lt_of_lt_of_le (by decide) hT.1) hT.2.1 rfl ji_66_52 jf_66_39 ?_
  refine wl_s (pc' := 56) ji_66_55 rfl rfl rfl ?_
  refine wl_s (pc' := 58) ji_66_56 rfl rfl rfl ?_
  refine wl_isub (x := k + 2) (y := 2) (z := k) ji_66_58 (by omega) ?_
  refine c0_l (x := k) C (by decide) sq_10 (by omega) ji_66_59 (fun ld50 ld51 ld52 => ?_)
  rw [ha] at ld52 ⊢
  refine wl_i2g (x := a) ji_66_60 (by omega) ?_
  refine wl_s (pc' := 63) (lv' := [some (.ref T), some (wp_i 20043), some (wp_i (k + 2)), some (wp_i 43), some (wp_i 2), some (wl_L a), none, none, none, none, none]) ji_66_61 rfl rfl rfl ?_
  refine wl_s (pc' := 64) ji_66_63 rfl rfl rfl ?_
  refine c0_gr (r := 10) (k := 8) C (Nat.lt_of_lt_of_le (by decide) hT.1) hT.2.1 rfl ji_66_64 jf_66_39 ?_
  refine wl_s (pc' := 68) ji_66_67 rfl rfl rfl ?_
  refine wl_s (pc' := 69) ji_66_68 rfl rfl rfl ?_
  refine wl_isub (x := k + 2) (y := 1) (z := k + 1) ji_66_69 (by omega) ?_
  refine c0_l (x := k + 1) C (by decide) sq_10 (by omega) ji_66_70 (fun ld60 ld61 ld62 => ?_)
  rw [hb] at ld62 ⊢
  refine wl_i2g (x := b) ji_66_71 (by omega) ?_
  refine wl_s (pc' := 74) (lv' := [some (.ref T), some (wp_i 20043), some (wp_i (k + 2)), some (wp_i 43), some (wp_i 2), some (wl_L a), none, some (wl_L b), none, none, none]) ji_66_72 rfl rfl rfl ?_
  refine wl_s (pc' := 75) (st' := [wl_L 0]) ji_66_74 rfl rfl rfl ?_
  refine wl_s (pc' := 77) (lv' := [some (.ref T), some (wp_i 20043), some (wp_i (k + 2)), some (wp_i 43), some (wp_i 2), some (wl_L a), none, some (wl_L b), none, some (wl_L 0), none]) ji_66_75 rfl rfl rfl ?_
  refine wl_s (pc' := 78) ji_66_77 rfl rfl rfl ?_
  refine wl_s (pc' := 345) ji_66_78 rfl rfl rfl ?_
  refine wl_s (pc' := 347) ji_66_345 rfl rfl rfl ?_
  refine wl_s (pc' := 349) ji_66_347 rfl rfl rfl ?_
  refine wl_ladd (x := a) (y := b) ji_66_349 ?_
  refine wl_s (pc' := 352) (lv' := [some (.ref T), some (wp_i 20043), some (wp_i (k + 2)), some (wp_i 43), some (wp_i 2), some (wl_L a), none, some (wl_L b), none, some (wl_L (a + b)), none]) ji_66_350 rfl rfl rfl ?_
  refine wl_goto (t := 396) ji_66_352 rfl ?_
  refine wl_s (pc' := 397) ji_66_396 rfl rfl rfl ?_
  refine c0_gr (r := 10) (k := 8) C (Nat.lt_of_lt_of_le (by decide) hT.1) hT.2.1 rfl ji_66_397 jf_66_39 ?_
  refine wl_s (pc' := 401) ji_66_400 rfl rfl rfl ?_
  refine wl_s (pc' := 403) ji_66_401 rfl rfl rfl ?_
  refine wl_isub (x := k + 2) (y := 2) (z := k) ji_66_403 (by omega) ?_
  refine wl_lk (n := -1000000) ji_66_404 jcn_66_76 (by decide) ?_
  refine wl_lk (n := 1000000) ji_66_407 jcn_66_78 (by decide) ?_
  refine wl_s (pc' := 412) ji_66_410 rfl rfl rfl ?_
  refine wl_lmn (a := 1000000) (b := a + b) ji_66_412 jc_66_80 (Nat.le_of_ble_eq_true rfl) (by unfold wl_q; omega) (by unfold wl_q; omega) ?_
  refine wl_lmx (a := -1000000) (b := min 1000000 (a + b)) ji_66_415 jc_66_83 (Nat.le_of_ble_eq_true rfl) (by unfold wl_q; omega) (by unfold wl_q; omega) ?_
  refine wl_l2g (x := max (-1000000) (min 1000000 (a + b))) ji_66_418 (by unfold wl_q; omega) ?_
  refine c0_s (x := k) (y := max (-1000000) (min 1000000 (a + b))) C (by decide) sq_10 (by omega) (by omega) ji_66_419 (fun h st70 st71 C => ?_)
  obtain ⟨s8, es8⟩ : ∃ z9_, up s 10 k (max (-1000000) (min 1000000 (a + b))) = z9_ := ⟨_, rfl⟩
  rw [es8] at C
  refine wl_s (pc' := 421) ji_66_420 rfl rfl rfl ?_
  refine wl_s (pc' := 423) ji_66_421 rfl rfl rfl ?_
  refine wl_isub (x := k + 2) (y := 2) (z := k) ji_66_423 (by omega) ?_
  refine wl_s (pc' := 425) ji_66_424 rfl rfl rfl ?_
  refine wl_iadd (x := k) (y := 1) (z := k + 1) ji_66_425 (by omega) ?_
  exact wl_ri ji_66_426 jr_66 rfl (⟨rfl, c0_mono C (by rw [← es8, show sgv 43 a b = (a + b) from rfl]; rfl)⟩)
theorem uc_66_45 {nn d : Nat} {h : mj_H} {s : sg_} (C : CS0 h s) {T : Nat} (hT : isT T) {k a b : Int} (hk : 0 ≤ k ∧ k ≤ 62) (ha : s 10 k = a) (hb : s 10 (k + 1) = b) : wl_R nn d 66 0 [some (.ref T), some (wp_i 20045), some (wp_i (k + 2)), none, none, none, none, none, none, none, none] [] h (fun v1 h1 => v1 = some (wp_i (k + 1)) ∧ CS0 h1 (up s 10 k (clp (sgv 45 a b)))) := by
  have rb : wp_r b := hb ▸ cs_10 C (by omega)
  have ra : wp_r a := ha ▸ cs_10 C (by omega)
  refine wl_s (pc' := 1) ji_66_0 rfl rfl rfl ?_
  refine wl_sp ji_66_1 rfl ?_
  refine wl_icmp (t := 18) ji_66_4 rfl (by omega) (by omega) (fun (hb1 : (20045 : Int) ≤ 30000) => ?_) (fun (hb1 : ¬ ((20045 : Int) ≤ 30000)) => (by exfalso; omega))
  refine wl_s (pc' := 19) ji_66_18 rfl rfl rfl ?_
  refine wl_sp ji_66_19 rfl ?_
  refine wl_isub (x := 20045) (y := 20000) (z := 45) ji_66_22 (by omega) ?_
  refine wl_s (pc' := 24) (lv' := [some (.ref T), some (wp_i 20045), some (wp_i (k + 2)), some (wp_i 45), none, none, none, none, none, none, none]) ji_66_23 rfl rfl rfl ?_
  refine wl_s (pc' := 25) ji_66_24 rfl rfl rfl ?_
  refine wl_bp ji_66_25 rfl ?_
  refine wl_icmp (t := 36) ji_66_27 rfl (by omega) (by omega) (fun (hb2 : (45 : Int) = 110) => (by exfalso; omega)) (fun (hb2 : ¬ ((45 : Int) = 110)) => ?_)
  refine wl_s (pc' := 31) ji_66_30 rfl rfl rfl ?_
  refine wl_bp ji_66_31 rfl ?_
  refine wl_icmp (t := 40) ji_66_33 rfl (by omega) (by omega) (fun (hb3 : ¬ (45 : Int) = 33) => ?_) (fun (hb3 : ¬ (¬ (45 : Int) = 33)) => (by exfalso; omega))
  refine wl_s (pc' := 41) ji_66_40 rfl rfl rfl ?_
  refine wl_s (pc' := 43) (lv' := [some (.ref T), some (wp_i 20045), some (wp_i (k + 2)), some (wp_i 45), some (wp_i 2), none, none, none, none, none, none]) ji_66_41 rfl rfl rfl ?_
  refine wl_s (pc' := 44) ji_66_43 rfl rfl rfl ?_
  refine wl_s (pc' := 46) ji_66_44 rfl rfl rfl ?_
  refine wl_icmp (t := 51) ji_66_46 rfl (by omega) (by omega) (fun (hb4 : (2 : Int) ≤ (k + 2)) => ?_) (fun (hb4 : ¬ ((2 : Int) ≤ (k + 2))) => (by exfalso; omega))
  refine wl_s (pc' := 52) ji_66_51 rfl rfl rfl ?_
  refine c0_gr (r := 10) (k := 8) C (Nat.lt_of_lt_of_le (by decide) hT.1) hT.2.1 rfl ji_66_52 jf_66_39 ?_
  refine wl_s (pc' := 56) ji_66_55 rfl rfl rfl ?_
  refine wl_s (pc' := 58) ji_66_56 rfl rfl rfl ?_
  refine wl_isub (x := k + 2) (y := 2) (z := k) ji_66_58 (by omega) ?_
  refine c0_l (x := k) C (by decide) sq_10 (by omega) ji_66_59 (fun ld50 ld51 ld52 => ?_)
  rw [ha] at ld52 ⊢
  refine wl_i2g (x := a) ji_66_60 (by omega) ?_
  refine wl_s (pc' := 63) (lv' := [some (.ref T), some (wp_i 20045), some (wp_i (k + 2)), some (wp_i 45), some (wp_i 2), some (wl_L a), none, none, none, none, none]) ji_66_61 rfl rfl rfl ?_
  refine wl_s (pc' := 64) ji_66_63 rfl rfl rfl ?_
  refine c0_gr (r := 10) (k := 8) C (Nat.lt_of_lt_of_le (by decide) hT.1) hT.2.1 rfl ji_66_64 jf_66_39 ?_
  refine wl_s (pc' := 68) ji_66_67 rfl rfl rfl ?_
  refine wl_s (pc' := 69) ji_66_68 rfl rfl rfl ?_
  refine wl_isub (x := k + 2) (y := 1) (z := k + 1) ji_66_69 (by omega) ?_
  refine c0_l (x := k + 1) C (by decide) sq_10 (by omega) ji_66_70 (fun ld60 ld61 ld62 => ?_)
  rw [hb] at ld62 ⊢
  refine wl_i2g (x := b) ji_66_71 (by omega) ?_
  refine wl_s (pc' := 74) (lv' := [some (.ref T), some (wp_i 20045), some (wp_i (k + 2)), some (wp_i 45), some (wp_i 2), some (wl_L a), none, some (wl_L b), none, none, none]) ji_66_72 rfl rfl rfl ?_
  refine wl_s (pc' := 75) (st' := [wl_L 0]) ji_66_74 rfl rfl rfl ?_
  refine wl_s (pc' := 77) (lv' := [some (.ref T), some (wp_i 20045), some (wp_i (k + 2)), some (wp_i 45), some (wp_i 2), some (wl_L a), none, some (wl_L b), none, some (wl_L 0), none]) ji_66_75 rfl rfl rfl ?_
  refine wl_s (pc' := 78) ji_66_77 rfl rfl rfl ?_
  refine wl_s (pc' := 355) ji_66_78 rfl rfl rfl ?_
  refine wl_s (pc' := 357) ji_66_355 rfl rfl rfl ?_
  refine wl_s (pc' := 359) ji_66_357 rfl rfl rfl ?_
  refine wl_lsub (x := a) (y := b) ji_66_359 ?_
  refine wl_s (pc' := 362) (lv' := [some (.ref T), some (wp_i 20045), some (wp_i (k + 2)), some (wp_i 45), some (wp_i 2), some (wl_L a), none, some (wl_L b), none, some (wl_L (a - b)), none]) ji_66_360 rfl rfl rfl ?_
  refine wl_goto (t := 396) ji_66_362 rfl ?_
  refine wl_s (pc' := 397) ji_66_396 rfl rfl rfl ?_
  refine c0_gr (r := 10) (k := 8) C (Nat.lt_of_lt_of_le (by decide) hT.1) hT.2.1 rfl ji_66_397 jf_66_39 ?_
  refine wl_s (pc' := 401) ji_66_400 rfl rfl rfl ?_
  refine wl_s (pc' := 403) ji_66_401 rfl rfl rfl ?_
  refine wl_isub (x := k + 2) (y := 2) (z := k) ji_66_403 (by omega) ?_
  refine wl_lk (n := -1000000) ji_66_404 jcn_66_76 (by decide) ?_
  refine wl_lk (n := 1000000) ji_66_407 jcn_66_78 (by decide) ?_
  refine wl_s (pc' := 412) ji_66_410 rfl rfl rfl ?_
  refine wl_lmn (a := 1000000) (b := a - b) ji_66_412 jc_66_80 (Nat.le_of_ble_eq_true rfl) (by unfold wl_q; omega) (by unfold wl_q; omega) ?_
  refine wl_lmx (a := -1000000) (b := min 1000000 (a - b)) ji_66_415 jc_66_83 (Nat.le_of_ble_eq_true rfl) (by unfold wl_q; omega) (by unfold wl_q; omega) ?_
  refine wl_l2g (x := max (-1000000) (min 1000000 (a - b))) ji_66_418 (by unfold wl_q; omega) ?_
  refine c0_s (x := k) (y := max (-1000000) (min 1000000 (a - b))) C (by decide) sq_10 (by omega) (by omega) ji_66_419 (fun h st70 st71 C => ?_)
  obtain ⟨s8, es8⟩ : ∃ z9_, up s 10 k (max (-1000000) (min 1000000 (a - b))) = z9_ := ⟨_, rfl⟩
  rw [es8] at C
  refine wl_s (pc' := 421) ji_66_420 rfl rfl rfl ?_
  refine wl_s (pc' := 423) ji_66_421 rfl rfl rfl ?_
  refine wl_isub (x := k + 2) (y := 2) (z := k) ji_66_423 (by omega) ?_
  refine wl_s (pc' := 425) ji_66_424 rfl rfl rfl ?_
  refine wl_iadd (x := k) (y := 1) (z := k + 1) ji_66_425 (by omega) ?_
  exact wl_ri ji_66_426 jr_66 rfl (⟨rfl, c0_mono C (by rw [← es8, show sgv 45 a b = (a - b) from rfl]; rfl)⟩)
theorem uc_66_42 {nn d : Nat} {h : mj_H} {s : sg_} (C : CS0 h s) {T : Nat} (hT : isT T) {k a b : Int} (hk : 0 ≤ k ∧ k ≤ 62) (ha : s 10 k = a) (hb : s 10 (k + 1) = b) : wl_R nn d 66 0 [some (.ref T), some (wp_i 20042), some (wp_i (k + 2)), none, none, none, none, none, none, none, none] [] h (fun v1 h1 => v1 = some (wp_i (k + 1)) ∧ CS0 h1 (up s 10 k (clp (sgv 42 a b)))) := by
  have rb : wp_r b := hb ▸ cs_10 C (by omega)
  have ra : wp_r a := ha ▸ cs_10 C (by omega)
  have rm := wl_qm ra rb
  unfold wl_q at rm
  refine wl_s (pc' := 1) ji_66_0 rfl rfl rfl ?_
  refine wl_sp ji_66_1 rfl ?_
  refine wl_icmp (t := 18) ji_66_4 rfl (by omega) (by omega) (fun (hb1 : (20042 : Int) ≤ 30000) => ?_) (fun (hb1 : ¬ ((20042 : Int) ≤ 30000)) => (by exfalso; omega))
  refine wl_s (pc' := 19) ji_66_18 rfl rfl rfl ?_
  refine wl_sp ji_66_19 rfl ?_
  refine wl_isub (x := 20042) (y := 20000) (z := 42) ji_66_22 (by omega) ?_
  refine wl_s (pc' := 24) (lv' := [some (.ref T), some (wp_i 20042), some (wp_i (k + 2)), some (wp_i 42), none, none, none, none, none, none, none]) ji_66_23 rfl rfl rfl ?_
  refine wl_s (pc' := 25) ji_66_24 rfl rfl rfl ?_
  refine wl_bp ji_66_25 rfl ?_
  refine wl_icmp (t := 36) ji_66_27 rfl (by omega) (by omega) (fun (hb2 : (42 : Int) = 110) => (by exfalso; omega)) (fun (hb2 : ¬ ((42 : Int) = 110)) => ?_)
  refine wl_s (pc' := 31) ji_66_30 rfl rfl rfl ?_
  refine wl_bp ji_66_31 rfl ?_
  refine wl_icmp (t := 40) ji_66_33 rfl (by omega) (by omega) (fun (hb3 : ¬ (42 : Int) = 33) => ?_) (fun (hb3 : ¬ (¬ (42 : Int) = 33)) => (by exfalso; omega))
  refine wl_s (pc' := 41) ji_66_40 rfl rfl rfl ?_
  refine wl_s (pc' := 43) (lv' := [some (.ref T), some (wp_i 20042), some (wp_i (k + 2)), some (wp_i 42), some (wp_i 2), none, none, none, none, none, none]) ji_66_41 rfl rfl rfl ?_
  refine wl_s (pc' := 44) ji_66_43 rfl rfl rfl ?_
  refine wl_s (pc' := 46) ji_66_44 rfl rfl rfl ?_
  refine wl_icmp (t := 51) ji_66_46 rfl (by omega) (by omega) (fun (hb4 : (2 : Int) ≤ (k + 2)) => ?_) (fun (hb4 : ¬ ((2 : Int) ≤ (k + 2))) => (by exfalso; omega))
  refine wl_s (pc' := 52) ji_66_51 rfl rfl rfl ?_
  refine c0_gr (r := 10) (k := 8) C (Nat.lt_of_lt_of_le (by decide) hT.1) hT.2.1 rfl ji_66_52 jf_66_39 ?_
  refine wl_s (pc' := 56) ji_66_55 rfl rfl rfl ?_
  refine wl_s (pc' := 58) ji_66_56 rfl rfl rfl ?_
  refine wl_isub (x := k + 2) (y := 2) (z := k) ji_66_58 (by omega) ?_
  refine c0_l (x := k) C (by decide) sq_10 (by omega) ji_66_59 (fun ld50 ld51 ld52 => ?_)
  rw [ha] at ld52 ⊢
  refine wl_i2g (x := a) ji_66_60 (by omega) ?_
  refine wl_s (pc' := 63) (lv' := [some (.ref T), some (wp_i 20042), some (wp_i (k + 2)), some (wp_i 42), some (wp_i 2), some (wl_L a), none, none, none, none, none]) ji_66_61 rfl rfl rfl ?_
  refine wl_s (pc' := 64) ji_66_63 rfl rfl rfl ?_
  refine c0_gr (r := 10) (k := 8) C (Nat.lt_of_lt_of_le (by decide) hT.1) hT.2.1 rfl ji_66_64 jf_66_39 ?_
  refine wl_s (pc' := 68) ji_66_67 rfl rfl rfl ?_
  refine wl_s (pc' := 69) ji_66_68 rfl rfl rfl ?_
  refine wl_isub (x := k + 2) (y := 1) (z := k + 1) ji_66_69 (by omega) ?_
  refine c0_l (x := k + 1) C (by decide) sq_10 (by omega) ji_66_70 (fun ld60 ld61 ld62 => ?_)
  rw [hb] at ld62 ⊢
  refine wl_i2g (x := b) ji_66_71 (by omega) ?_
  refine wl_s (pc' := 74) (lv' := [some (.ref T), some (wp_i 20042), some (wp_i (k + 2)), some (wp_i 42), some (wp_i 2), some (wl_L a), none, some (wl_L b), none, none, none]) ji_66_72 rfl rfl rfl ?_
  refine wl_s (pc' := 75) (st' := [wl_L 0]) ji_66_74 rfl rfl rfl ?_
  refine wl_s (pc' := 77) (lv' := [some (.ref T), some (wp_i 20042), some (wp_i (k + 2)), some (wp_i 42), some (wp_i 2), some (wl_L a), none, some (wl_L b), none, some (wl_L 0), none]) ji_66_75 rfl rfl rfl ?_
  refine wl_s (pc' := 78) ji_66_77 rfl rfl rfl ?_
  refine wl_s (pc' := 365) ji_66_78 rfl rfl rfl ?_
  refine wl_s (pc' := 367) ji_66_365 rfl rfl rfl ?_
  refine wl_s (pc' := 369) ji_66_367 rfl rfl rfl ?_
  refine wl_lmul (x := a) (y := b) ji_66_369 ?_
  refine wl_s (pc' := 372) (lv' := [some (.ref T), some (wp_i 20042), some (wp_i (k + 2)), some (wp_i 42), some (wp_i 2), some (wl_L a), none, some (wl_L b), none, some (wl_L (a * b)), none]) ji_66_370 rfl rfl rfl ?_
  refine wl_goto (t := 396) ji_66_372 rfl ?_
  refine wl_s (pc' := 397) ji_66_396 rfl rfl rfl ?_
  refine c0_gr (r := 10) (k := 8) C (Nat.lt_of_lt_of_le (by decide) hT.1) hT.2.1 rfl ji_66_397 jf_66_39 ?_
  refine wl_s (pc' := 401) ji_66_400 rfl rfl rfl ?_
  refine wl_s (pc' := 403) ji_66_401 rfl rfl rfl ?_
  refine wl_isub (x := k + 2) (y := 2) (z := k) ji_66_403 (by omega) ?_
  refine wl_lk (n := -1000000) ji_66_404 jcn_66_76 (by decide) ?_
  refine wl_lk (n := 1000000) ji_66_407 jcn_66_78 (by decide) ?_
  refine wl_s (pc' := 412) ji_66_410 rfl rfl rfl ?_
  refine wl_lmn (a := 1000000) (b := a * b) ji_66_412 jc_66_80 (Nat.le_of_ble_eq_true rfl) (by unfold wl_q; omega) (by unfold wl_q; omega) ?_
  refine wl_lmx (a := -1000000) (b := min 1000000 (a * b)) ji_66_415 jc_66_83 (Nat.le_of_ble_eq_true rfl) (by unfold wl_q; omega) (by unfold wl_q; omega) ?_
  refine wl_l2g (x := max (-1000000) (min 1000000 (a * b))) ji_66_418 (by unfold wl_q; omega) ?_
  refine c0_s (x := k) (y := max (-1000000) (min 1000000 (a * b))) C (by decide) sq_10 (by omega) (by omega) ji_66_419 (fun h st70 st71 C => ?_)
  obtain ⟨s8, es8⟩ : ∃ z9_, up s 10 k (max (-1000000) (min 1000000 (a * b))) = z9_ := ⟨_, rfl⟩
  rw [es8] at C
  refine wl_s (pc' := 421) ji_66_420 rfl rfl rfl ?_
  refine wl_s (pc' := 423) ji_66_421 rfl rfl rfl ?_
  refine wl_isub (x := k + 2) (y := 2) (z := k) ji_66_423 (by omega) ?_
  refine wl_s (pc' := 425) ji_66_424 rfl rfl rfl ?_
  refine wl_iadd (x := k) (y := 1) (z := k + 1) ji_66_425 (by omega) ?_
  exact wl_ri ji_66_426 jr_66 rfl (⟨rfl, c0_mono C (by rw [← es8, show sgv 42 a b = (a * b) from rfl]; rfl)⟩)
theorem uc_66_47 {nn d : Nat} {h : mj_H} {s : sg_} (C : CS0 h s) {T : Nat} (hT : isT T) {k a b : Int} (hk : 0 ≤ k ∧ k ≤ 62) (ha : s 10 k = a) (hb : s 10 (k + 1) = b) : wl_R nn d 66 0 [some (.ref T), some (wp_i 20047), some (wp_i (k + 2)), none, none, none, none, none, none, none, none] [] h (fun v1 h1 => v1 = some (wp_i (k + 1)) ∧ CS0 h1 (up s 10 k (clp (sgv 47 a b)))) := by
  have rb : wp_r b := hb ▸ cs_10 C (by omega)
  have ra : wp_r a := ha ▸ cs_10 C (by omega)
  have rm := wl_qt (b := b) ra
  unfold wl_q at rm
  refine wl_s (pc' := 1) ji_66_0 rfl rfl rfl ?_
  refine wl_sp ji_66_1 rfl ?_
  refine wl_icmp (t := 18) ji_66_4 rfl (by omega) (by omega) (fun (hb1 : (20047 : Int) ≤ 30000) => ?_) (fun (hb1 : ¬ ((20047 : Int) ≤ 30000)) => (by exfalso; omega))
  refine wl_s (pc' := 19) ji_66_18 rfl rfl rfl ?_
  refine wl_sp ji_66_19 rfl ?_
  refine wl_isub (x := 20047) (y := 20000) (z := 47) ji_66_22 (by omega) ?_
  refine wl_s (pc' := 24) (lv' := [some (.ref T), some (wp_i 20047), some (wp_i (k + 2)), some (wp_i 47), none, none, none, none, none, none, none]) ji_66_23 rfl rfl rfl ?_
  refine wl_s (pc' := 25) ji_66_24 rfl rfl rfl ?_
  refine wl_bp ji_66_25 rfl ?_
  refine wl_icmp (t := 36) ji_66_27 rfl (by omega) (by omega) (fun (hb2 : (47 : Int) = 110) => (by exfalso; omega)) (fun (hb2 : ¬ ((47 : Int) = 110)) => ?_)
  refine wl_s (pc' := 31) ji_66_30 rfl rfl rfl ?_
  refine wl_bp ji_66_31 rfl ?_
  refine wl_icmp (t := 40) ji_66_33 rfl (by omega) (by omega) (fun (hb3 : ¬ (47 : Int) = 33) => ?_) (fun (hb3 : ¬ (¬ (47 : Int) = 33)) => (by exfalso; omega))
  refine wl_s (pc' := 41) ji_66_40 rfl rfl rfl ?_
  refine wl_s (pc' := 43) (lv' := [some (.ref T), some (wp_i 20047), some (wp_i (k + 2)), some (wp_i 47), some (wp_i 2), none, none, none, none, none, none]) ji_66_41 rfl rfl rfl ?_
  refine wl_s (pc' := 44) ji_66_43 rfl rfl rfl ?_
  refine wl_s (pc' := 46) ji_66_44 rfl rfl rfl ?_
  refine wl_icmp (t := 51) ji_66_46 rfl (by omega) (by omega) (fun (hb4 : (2 : Int) ≤ (k + 2)) => ?_) (fun (hb4 : ¬ ((2 : Int) ≤ (k + 2))) => (by exfalso; omega))
  refine wl_s (pc' := 52) ji_66_51 rfl rfl rfl ?_
  refine c0_gr (r := 10) (k := 8) C (Nat.lt_of_lt_of_le (by decide) hT.1) hT.2.1 rfl ji_66_52 jf_66_39 ?_
  refine wl_s (pc' := 56) ji_66_55 rfl rfl rfl ?_
  refine wl_s (pc' := 58) ji_66_56 rfl rfl rfl ?_
  refine wl_isub (x := k + 2) (y := 2) (z := k) ji_66_58 (by omega) ?_
  refine c0_l (x := k) C (by decide) sq_10 (by omega) ji_66_59 (fun ld50 ld51 ld52 => ?_)
  rw [ha] at ld52 ⊢
  refine wl_i2g (x := a) ji_66_60 (by omega) ?_
  refine wl_s (pc' := 63) (lv' := [some (.ref T), some (wp_i 20047), some (wp_i (k + 2)), some (wp_i 47), some (wp_i 2), some (wl_L a), none, none, none, none, none]) ji_66_61 rfl rfl rfl ?_
  refine wl_s (pc' := 64) ji_66_63 rfl rfl rfl ?_
  refine c0_gr (r := 10) (k := 8) C (Nat.lt_of_lt_of_le (by decide) hT.1) hT.2.1 rfl ji_66_64 jf_66_39 ?_
  refine wl_s (pc' := 68) ji_66_67 rfl rfl rfl ?_
  refine wl_s (pc' := 69) ji_66_68 rfl rfl rfl ?_
  refine wl_isub (x := k + 2) (y := 1) (z := k + 1) ji_66_69 (by omega) ?_
  refine c0_l (x := k + 1) C (by decide) sq_10 (by omega) ji_66_70 (fun ld60 ld61 ld62 => ?_)
  rw [hb] at ld62 ⊢
  refine wl_i2g (x := b) ji_66_71 (by omega) ?_
  refine wl_s (pc' := 74) (lv' := [some (.ref T), some (wp_i 20047), some (wp_i (k + 2)), some (wp_i 47), some (wp_i 2), some (wl_L a), none, some (wl_L b), none, none, none]) ji_66_72 rfl rfl rfl ?_
  refine wl_s (pc' := 75) (st' := [wl_L 0]) ji_66_74 rfl rfl rfl ?_
  refine wl_s (pc' := 77) (lv' := [some (.ref T), some (wp_i 20047), some (wp_i (k + 2)), some (wp_i 47), some (wp_i 2), some (wl_L a), none, some (wl_L b), none, some (wl_L 0), none]) ji_66_75 rfl rfl rfl ?_
  refine wl_s (pc' := 78) ji_66_77 rfl rfl rfl ?_
  refine wl_s (pc' := 375) ji_66_78 rfl rfl rfl ?_
  refine wl_s (pc' := 377) ji_66_375 rfl rfl rfl ?_
  refine wl_s (pc' := 378) (st' := [wl_L 0, wl_L b]) ji_66_377 rfl rfl rfl ?_
  refine wl_lcm (x := b) (y := 0) ji_66_378 (by unfold wl_q; omega) (by unfold wl_q; omega) (fun cm7 hcm7r hcm7 => ?_)
  refine wl_if (t := 386) ji_66_379 rfl (by omega) (fun (hb8 : ¬ (cm7 : Int) = 0) => ?_) (fun (hb8 : ¬ (¬ (cm7 : Int) = 0)) => ?_)
  · refine wl_s (pc' := 388) ji_66_386 rfl rfl rfl ?_
    refine wl_s (pc' := 390) ji_66_388 rfl rfl rfl ?_
    refine wl_ldv (x := a) (y := b) ji_66_390 (by omega) (by omega) (by omega) ?_
    refine wl_s (pc' := 393) (lv' := [some (.ref T), some (wp_i 20047), some (wp_i (k + 2)), some (wp_i 47), some (wp_i 2), some (wl_L a), none, some (wl_L b), none, some (wl_L (Int.tdiv a b)), none]) ji_66_391 rfl rfl rfl ?_
    refine wl_goto (t := 396) ji_66_393 rfl ?_
    refine wl_s (pc' := 397) ji_66_396 rfl rfl rfl ?_
    refine c0_gr (r := 10) (k := 8) C (Nat.lt_of_lt_of_le (by decide) hT.1) hT.2.1 rfl ji_66_397 jf_66_39 ?_
    refine wl_s (pc' := 401) ji_66_400 rfl rfl rfl ?_
    refine wl_s (pc' := 403) ji_66_401 rfl rfl rfl ?_
    refine wl_isub (x := k + 2) (y := 2) (z := k) ji_66_403 (by omega) ?_
    refine wl_lk (n := -1000000) ji_66_404 jcn_66_76 (by decide) ?_
    refine wl_lk (n := 1000000) ji_66_407 jcn_66_78 (by decide) ?_
    refine wl_s (pc' := 412) ji_66_410 rfl rfl rfl ?_
    refine wl_lmn (a := 1000000) (b := Int.tdiv a b) ji_66_412 jc_66_80 (Nat.le_of_ble_eq_true rfl) (by unfold wl_q; omega) (by unfold wl_q; omega) ?_
    refine wl_lmx (a := -1000000) (b := min 1000000 (Int.tdiv a b)) ji_66_415 jc_66_83 (Nat.le_of_ble_eq_true rfl) (by unfold wl_q; omega) (by unfold wl_q; omega) ?_
    refine wl_l2g (x := max (-1000000) (min 1000000 (Int.tdiv a b))) ji_66_418 (by unfold wl_q; omega) ?_
    refine c0_s (x := k) (y := max (-1000000) (min 1000000 (Int.tdiv a b))) C (by decide) sq_10 (by omega) (by omega) ji_66_419 (fun h st90 st91 C => ?_)
    obtain ⟨s10, es10⟩ : ∃ z9_, up s 10 k (max (-1000000) (min 1000000 (Int.tdiv a b))) = z9_ := ⟨_, rfl⟩
    rw [es10] at C
    refine wl_s (pc' := 421) ji_66_420 rfl rfl rfl ?_
    refine wl_s (pc' := 423) ji_66_421 rfl rfl rfl ?_
    refine wl_isub (x := k + 2) (y := 2) (z := k) ji_66_423 (by omega) ?_
    refine wl_s (pc' := 425) ji_66_424 rfl rfl rfl ?_
    refine wl_iadd (x := k) (y := 1) (z := k + 1) ji_66_425 (by omega) ?_
    exact wl_ri ji_66_426 jr_66 rfl (⟨rfl, c0_mono C (by rw [← es10, show sgv 47 a b = (Int.tdiv a b) from by show (if b = 0 then (0 : Int) else a.tdiv b) = _; rw [if_neg (by omega)]]; rfl)⟩)
  · refine wl_s (pc' := 383) (st' := [wl_L 0]) ji_66_382 rfl rfl rfl ?_
    refine wl_goto (t := 391) ji_66_383 rfl ?_
    refine wl_s (pc' := 393) (lv' := [some (.ref T), some (wp_i 20047), some (wp_i (k + 2)), some (wp_i 47), some (wp_i 2), some (wl_L a), none, some (wl_L b), none, some (wl_L 0), none]) ji_66_391 rfl rfl rfl ?_
    refine wl_goto (t := 396) ji_66_393 rfl ?_
    refine wl_s (pc' := 397) ji_66_396 rfl rfl rfl ?_
    refine c0_gr (r := 10) (k := 8) C (Nat.lt_of_lt_of_le (by decide) hT.1) hT.2.1 rfl ji_66_397 jf_66_39 ?_
    refine wl_s (pc' := 401) ji_66_400 rfl rfl rfl ?_
    refine wl_s (pc' := 403) ji_66_401 rfl rfl rfl ?_
    refine wl_isub (x := k + 2) (y := 2) (z := k) ji_66_403 (by omega) ?_
    refine wl_lk (n := -1000000) ji_66_404 jcn_66_76 (by decide) ?_
    refine wl_lk (n := 1000000) ji_66_407 jcn_66_78 (by decide) ?_
    refine wl_s (pc' := 412) ji_66_410 rfl rfl rfl ?_
    refine wl_lmn (a := 1000000) (b := 0) ji_66_412 jc_66_80 (Nat.le_of_ble_eq_true rfl) (by unfold wl_q; omega) (by unfold wl_q; omega) ?_
    refine wl_lmx (a := -1000000) (b := min 1000000 0) ji_66_415 jc_66_83 (Nat.le_of_ble_eq_true rfl) (by unfold wl_q; omega) (by unfold wl_q; omega) ?_
    refine wl_l2g (x := max (-1000000) (min 1000000 0)) ji_66_418 (by unfold wl_q; omega) ?_
    refine c0_s (x := k) (y := max (-1000000) (min 1000000 0)) C (by decide) sq_10 (by omega) (by omega) ji_66_419 (fun h st110 st111 C => ?_)
    obtain ⟨s12, es12⟩ : ∃ z9_, up s 10 k (max (-1000000) (min 1000000 0)) = z9_ := ⟨_, rfl⟩
    rw [es12] at C
    refine wl_s (pc' := 421) ji_66_420 rfl rfl rfl ?_
    refine wl_s (pc' := 423) ji_66_421 rfl rfl rfl ?_
    refine wl_isub (x := k + 2) (y := 2) (z := k) ji_66_423 (by omega) ?_
    refine wl_s (pc' := 425) ji_66_424 rfl rfl rfl ?_
    refine wl_iadd (x := k) (y := 1) (z := k + 1) ji_66_425 (by omega) ?_
    exact wl_ri ji_66_426 jr_66 rfl (⟨rfl, c0_mono C (by rw [← es12, show sgv 47 a b = 0 from by show (if b = 0 then (0 : Int) else a.tdiv b) = _; rw [if_pos (by omega)]]; rfl)⟩)
