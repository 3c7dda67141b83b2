/-! -/
/-! the law: its turns, on the whole state; laid by program (wp_law9.py) -/
def lw_V9 (sl : List Value) (h : mj_H) (B : Int) : Prop := ∃ (s : sg_) (tc : tcs) (tr : Int → crs) (M : Int), LAWS tc tr s M ∧ HT s ∧ WS sl h B s ∧ M ≤ B
theorem lw_V9le {sl : List Value} {h : mj_H} {B B' : Int} (Y : lw_V9 sl h B) (hB : B ≤ B') : lw_V9 sl h B' := by
  obtain ⟨s, tc, tr, M, L, H, W, hM⟩ := Y
  exact ⟨s, tc, tr, M, L, H, WS_le W hB, by omega⟩
theorem lw_V9I {sl : List Value} {h : mj_H} {B : Int} (Y : lw_V9 sl h B) : lw_I sl h B := by
  obtain ⟨s, tc, tr, M, L, H, W, hM⟩ := Y
  exact W.1
theorem lw_c9 {sl : List Value} {h : mj_H} {B : Int} (I : lw_I sl h B) : ∃ fs, h[9]? = some (0, fs) := by
  obtain ⟨-, vs, c1, -⟩ := I.1 9 24 sx_y24 rfl rfl
  exact ⟨vs, c1⟩
theorem lw_c138 {sl : List Value} {h : mj_H} {B : Int} (I : lw_I sl h B) : ∃ fs, h[138]? = some (11, fs) := by
  obtain ⟨-, vs, c1, -⟩ := I.1 138 63 sx_y63 rfl rfl
  exact ⟨vs, c1⟩
/-- what the reference's reader finds where the class's has been -/
theorem tx_h {tc : tcs} {tr : Int → crs} {s c1 : sg_} {M f q : Int} {Cs : List KC} (L : LAWS tc tr s M) (A : cTx s c1 (s 47 6) f q Cs) : c1 139 2 = s 47 6 ∧ (0 ≤ c1 138 4 ∧ c1 138 4 ≤ 300) ∧ (∀ j : Int, 0 ≤ j → j < 300 → 0 ≤ c1 142 j ∧ c1 142 j ≤ 255) ∧ (0 ≤ c1 138 11 ∧ c1 138 11 ≤ 1152921504606846976) := by
  have e2 : s 139 2 = s 47 6 := L.1.1.2.2.2.1.1.1
  have h4 : 0 ≤ s 47 6 ∧ s 47 6 ≤ 4 := L.1.1.1.2.2.2.2.2.1
  obtain ⟨t1, t2, t3⟩ := L.2.1
  have w := L.2.2.1
  obtain ⟨-, fa, -⟩ := A
  have g : ∀ (b : Nat) (j : Int), 138 ≤ b → c1 b j = s b j := fun b j hb => fa b j (by omega) (by omega) (by omega) (by omega) (by omega)
  refine ⟨(g _ _ (by decide)).trans e2, by rw [g _ _ (by decide), t2]; exact t1, fun j a b => ?_, by rw [g _ _ (by decide)]; exact w⟩
  rw [g _ _ (by decide), (t3 j a b).2]
  exact (t3 j a b).1
theorem lw_tp {tc : tcs} {tr : Int → crs} {s : sg_} {M : Int} (L : LAWS tc tr s M) : (0 ≤ s 138 4 ∧ s 138 4 ≤ 300) ∧ ∀ j : Int, 0 ≤ j → j < 300 → 0 ≤ s 142 j ∧ s 142 j ≤ 255 := by
  obtain ⟨t1, t2, t3⟩ := L.2.1
  exact ⟨by rw [t2]; exact t1, fun j a b => by rw [(t3 j a b).2]; exact (t3 j a b).1⟩
/-- like numbers are like -/
theorem wp_ceq {d m pc : Nat} {lv : mj_L} {st : List Value} {h : mj_H} {Q : Option Value → mj_H → Prop} {off x : Int} {t : Nat} (hi : mj_ins m pc = some (.if_icmp .eq off)) (ht : mj_j pc off = some t) (h1 : wp_R d m t lv st h Q) : wp_R d m pc lv (wp_i x :: wp_i x :: st) h Q := by
  refine wp_s (pc' := t) (lv' := lv) (st' := st) (h' := h) hi rfl rfl ?_ h1
  show (match mj_j pc off, (wp_i x :: wp_i x :: st) with
    | some t, .int y :: .int x :: r => some (if mj_cmp .eq x y then t else pc + 3, lv, r, h)
    | _, _ => none) = _
  rw [ht]
  show some (if mj_cmp .eq (Int32.ofInt x) (Int32.ofInt x) then t else pc + 3, lv, st, h) = _
  rw [show mj_cmp .eq (Int32.ofInt x) (Int32.ofInt x) = true from decide_eq_true rfl]
  rfl
theorem ji_0_224 : mj_ins 0 224 = some (.aload_n 1) := mj_lc0 (i := 22) rfl
theorem ji_0_225 : mj_ins 0 225 = some (.aload_n 0) := mj_lc0 (i := 23) rfl
theorem ji_0_226 : mj_ins 0 226 = some (.iload_n 3) := mj_lc0 (i := 24) rfl
theorem ji_0_227 : mj_ins 0 227 = some (.iconst 1) := mj_lc0 (i := 25) rfl
theorem ji_0_228 : mj_ins 0 228 = some (.iadd) := mj_lc0 (i := 26) rfl
theorem ji_0_229 : mj_ins 0 229 = some (.iaload) := mj_lc0 (i := 27) rfl
theorem ji_0_230 : mj_ins 0 230 = some (.aload_n 0) := mj_lc0 (i := 28) rfl
theorem ji_0_231 : mj_ins 0 231 = some (.iload_n 3) := mj_lc0 (i := 29) rfl
theorem ji_0_232 : mj_ins 0 232 = some (.iconst 2) := mj_lc0 (i := 30) rfl
theorem ji_0_233 : mj_ins 0 233 = some (.iadd) := mj_lc0 (i := 31) rfl
theorem ji_0_234 : mj_ins 0 234 = some (.iaload) := mj_lc0 (i := 32) rfl
theorem ji_0_235 : mj_ins 0 235 = some (.invokevirtual 13) := mj_lc0 (i := 33) rfl
set_option maxRecDepth 100000 in
theorem jc_0_13 : mj_cal 0 13 = some (2, 12, 2) := by decide +kernel
set_option maxRecDepth 100000 in
theorem jk_12 : mj_cls 12 = 0 := by decide +kernel
theorem ji_0_238 : mj_ins 0 238 = some (.pop) := mj_lc0 (i := 34) rfl
theorem ji_0_239 : mj_ins 0 239 = some (.aload_n 2) := mj_lc0 (i := 35) rfl
theorem ji_0_240 : mj_ins 0 240 = some (.aload_n 0) := mj_lc0 (i := 36) rfl
theorem ji_0_241 : mj_ins 0 241 = some (.iload_n 3) := mj_lc0 (i := 37) rfl
theorem ji_0_242 : mj_ins 0 242 = some (.iconst 1) := mj_lc0 (i := 38) rfl
theorem ji_0_243 : mj_ins 0 243 = some (.iadd) := mj_lc0 (i := 39) rfl
theorem ji_0_244 : mj_ins 0 244 = some (.iaload) := mj_lc0 (i := 40) rfl
theorem ji_0_245 : mj_ins 0 245 = some (.aload_n 0) := mj_lc0 (i := 41) rfl
theorem ji_0_246 : mj_ins 0 246 = some (.iload_n 3) := mj_lc0 (i := 42) rfl
theorem ji_0_247 : mj_ins 0 247 = some (.iconst 2) := mj_lc0 (i := 43) rfl
theorem ji_0_248 : mj_ins 0 248 = some (.iadd) := mj_lc0 (i := 44) rfl
theorem ji_0_249 : mj_ins 0 249 = some (.iaload) := mj_lc0 (i := 45) rfl
theorem ji_0_250 : mj_ins 0 250 = some (.invokevirtual 17) := mj_lc0 (i := 46) rfl
set_option maxRecDepth 100000 in
theorem jc_0_17 : mj_cal 0 17 = some (2, 170, 2) := by decide +kernel
theorem ji_0_253 : mj_ins 0 253 = some (.pop) := mj_lc0 (i := 47) rfl
theorem ji_0_254 : mj_ins 0 254 = some (.goto 1296) := mj_lc0 (i := 48) rfl
theorem ji_0_257 : mj_ins 0 257 = some (.aload_n 1) := mj_lc0 (i := 49) rfl
theorem ji_0_258 : mj_ins 0 258 = some (.aload_n 0) := mj_lc0 (i := 50) rfl
theorem ji_0_259 : mj_ins 0 259 = some (.iload_n 3) := mj_lc0 (i := 51) rfl
theorem ji_0_260 : mj_ins 0 260 = some (.iconst 1) := mj_lc0 (i := 52) rfl
theorem ji_0_261 : mj_ins 0 261 = some (.iadd) := mj_lc0 (i := 53) rfl
theorem ji_0_262 : mj_ins 0 262 = some (.iaload) := mj_lc0 (i := 54) rfl
theorem ji_0_263 : mj_ins 0 263 = some (.aload_n 0) := mj_lc0 (i := 55) rfl
theorem ji_0_264 : mj_ins 0 264 = some (.iload_n 3) := mj_lc0 (i := 56) rfl
theorem ji_0_265 : mj_ins 0 265 = some (.iconst 2) := mj_lc0 (i := 57) rfl
theorem ji_0_266 : mj_ins 0 266 = some (.iadd) := mj_lc0 (i := 58) rfl
theorem ji_0_267 : mj_ins 0 267 = some (.iaload) := mj_lc0 (i := 59) rfl
theorem ji_0_268 : mj_ins 0 268 = some (.invokevirtual 18) := mj_lc1 (i := 0) rfl
set_option maxRecDepth 100000 in
theorem jc_0_18 : mj_cal 0 18 = some (2, 14, 2) := by decide +kernel
set_option maxRecDepth 100000 in
theorem jk_14 : mj_cls 14 = 0 := by decide +kernel
theorem ji_0_271 : mj_ins 0 271 = some (.pop) := mj_lc1 (i := 1) rfl
theorem ji_0_272 : mj_ins 0 272 = some (.aload_n 2) := mj_lc1 (i := 2) rfl
theorem ji_0_273 : mj_ins 0 273 = some (.aload_n 0) := mj_lc1 (i := 3) rfl
theorem ji_0_274 : mj_ins 0 274 = some (.iload_n 3) := mj_lc1 (i := 4) rfl
theorem ji_0_275 : mj_ins 0 275 = some (.iconst 1) := mj_lc1 (i := 5) rfl
theorem ji_0_276 : mj_ins 0 276 = some (.iadd) := mj_lc1 (i := 6) rfl
theorem ji_0_277 : mj_ins 0 277 = some (.iaload) := mj_lc1 (i := 7) rfl
theorem ji_0_278 : mj_ins 0 278 = some (.aload_n 0) := mj_lc1 (i := 8) rfl
theorem ji_0_279 : mj_ins 0 279 = some (.iload_n 3) := mj_lc1 (i := 9) rfl
theorem ji_0_280 : mj_ins 0 280 = some (.iconst 2) := mj_lc1 (i := 10) rfl
theorem ji_0_281 : mj_ins 0 281 = some (.iadd) := mj_lc1 (i := 11) rfl
theorem ji_0_282 : mj_ins 0 282 = some (.iaload) := mj_lc1 (i := 12) rfl
theorem ji_0_283 : mj_ins 0 283 = some (.invokevirtual 21) := mj_lc1 (i := 13) rfl
set_option maxRecDepth 100000 in
theorem jc_0_21 : mj_cal 0 21 = some (2, 172, 2) := by decide +kernel
theorem ji_0_286 : mj_ins 0 286 = some (.pop) := mj_lc1 (i := 14) rfl
theorem ji_0_287 : mj_ins 0 287 = some (.goto 1263) := mj_lc1 (i := 15) rfl
theorem ji_0_290 : mj_ins 0 290 = some (.aload_n 1) := mj_lc1 (i := 16) rfl
theorem ji_0_291 : mj_ins 0 291 = some (.aload_n 0) := mj_lc1 (i := 17) rfl
theorem ji_0_292 : mj_ins 0 292 = some (.iload_n 3) := mj_lc1 (i := 18) rfl
theorem ji_0_293 : mj_ins 0 293 = some (.iconst 1) := mj_lc1 (i := 19) rfl
theorem ji_0_294 : mj_ins 0 294 = some (.iadd) := mj_lc1 (i := 20) rfl
theorem ji_0_295 : mj_ins 0 295 = some (.iaload) := mj_lc1 (i := 21) rfl
theorem ji_0_296 : mj_ins 0 296 = some (.aload_n 0) := mj_lc1 (i := 22) rfl
theorem ji_0_297 : mj_ins 0 297 = some (.iload_n 3) := mj_lc1 (i := 23) rfl
theorem ji_0_298 : mj_ins 0 298 = some (.iconst 2) := mj_lc1 (i := 24) rfl
theorem ji_0_299 : mj_ins 0 299 = some (.iadd) := mj_lc1 (i := 25) rfl
theorem ji_0_300 : mj_ins 0 300 = some (.iaload) := mj_lc1 (i := 26) rfl
theorem ji_0_301 : mj_ins 0 301 = some (.aload_n 0) := mj_lc1 (i := 27) rfl
theorem ji_0_302 : mj_ins 0 302 = some (.iload_n 3) := mj_lc1 (i := 28) rfl
theorem ji_0_303 : mj_ins 0 303 = some (.iconst 3) := mj_lc1 (i := 29) rfl
theorem ji_0_304 : mj_ins 0 304 = some (.iadd) := mj_lc1 (i := 30) rfl
theorem ji_0_305 : mj_ins 0 305 = some (.iaload) := mj_lc1 (i := 31) rfl
theorem ji_0_306 : mj_ins 0 306 = some (.aload_n 0) := mj_lc1 (i := 32) rfl
theorem ji_0_307 : mj_ins 0 307 = some (.iload_n 3) := mj_lc1 (i := 33) rfl
theorem ji_0_308 : mj_ins 0 308 = some (.iconst 4) := mj_lc1 (i := 34) rfl
theorem ji_0_309 : mj_ins 0 309 = some (.iadd) := mj_lc1 (i := 35) rfl
theorem ji_0_310 : mj_ins 0 310 = some (.iaload) := mj_lc1 (i := 36) rfl
theorem ji_0_311 : mj_ins 0 311 = some (.aload_n 0) := mj_lc1 (i := 37) rfl
theorem ji_0_312 : mj_ins 0 312 = some (.iload_n 3) := mj_lc1 (i := 38) rfl
theorem ji_0_313 : mj_ins 0 313 = some (.iconst 5) := mj_lc1 (i := 39) rfl
theorem ji_0_314 : mj_ins 0 314 = some (.iadd) := mj_lc1 (i := 40) rfl
theorem ji_0_315 : mj_ins 0 315 = some (.iaload) := mj_lc1 (i := 41) rfl
theorem ji_0_316 : mj_ins 0 316 = some (.invokevirtual 22) := mj_lc1 (i := 42) rfl
set_option maxRecDepth 100000 in
theorem jc_0_22 : mj_cal 0 22 = some (2, 16, 5) := by decide +kernel
theorem ji_0_319 : mj_ins 0 319 = some (.pop) := mj_lc1 (i := 43) rfl
theorem ji_0_320 : mj_ins 0 320 = some (.aload_n 2) := mj_lc1 (i := 44) rfl
theorem ji_0_321 : mj_ins 0 321 = some (.aload_n 0) := mj_lc1 (i := 45) rfl
theorem ji_0_322 : mj_ins 0 322 = some (.iload_n 3) := mj_lc1 (i := 46) rfl
theorem ji_0_323 : mj_ins 0 323 = some (.iconst 1) := mj_lc1 (i := 47) rfl
theorem ji_0_324 : mj_ins 0 324 = some (.iadd) := mj_lc1 (i := 48) rfl
theorem ji_0_325 : mj_ins 0 325 = some (.iaload) := mj_lc1 (i := 49) rfl
theorem ji_0_326 : mj_ins 0 326 = some (.aload_n 0) := mj_lc1 (i := 50) rfl
theorem ji_0_327 : mj_ins 0 327 = some (.iload_n 3) := mj_lc1 (i := 51) rfl
theorem ji_0_328 : mj_ins 0 328 = some (.iconst 2) := mj_lc1 (i := 52) rfl
theorem ji_0_329 : mj_ins 0 329 = some (.iadd) := mj_lc1 (i := 53) rfl
theorem ji_0_330 : mj_ins 0 330 = some (.iaload) := mj_lc1 (i := 54) rfl
theorem ji_0_331 : mj_ins 0 331 = some (.aload_n 0) := mj_lc1 (i := 55) rfl
theorem ji_0_332 : mj_ins 0 332 = some (.iload_n 3) := mj_lc1 (i := 56) rfl
theorem ji_0_333 : mj_ins 0 333 = some (.iconst 3) := mj_lc1 (i := 57) rfl
theorem ji_0_334 : mj_ins 0 334 = some (.iadd) := mj_lc1 (i := 58) rfl
theorem ji_0_335 : mj_ins 0 335 = some (.iaload) := mj_lc1 (i := 59) rfl
theorem ji_0_336 : mj_ins 0 336 = some (.aload_n 0) := mj_lc2 (i := 0) rfl
theorem ji_0_337 : mj_ins 0 337 = some (.iload_n 3) := mj_lc2 (i := 1) rfl
theorem ji_0_338 : mj_ins 0 338 = some (.iconst 4) := mj_lc2 (i := 2) rfl
theorem ji_0_339 : mj_ins 0 339 = some (.iadd) := mj_lc2 (i := 3) rfl
theorem ji_0_340 : mj_ins 0 340 = some (.iaload) := mj_lc2 (i := 4) rfl
theorem ji_0_341 : mj_ins 0 341 = some (.aload_n 0) := mj_lc2 (i := 5) rfl
theorem ji_0_342 : mj_ins 0 342 = some (.iload_n 3) := mj_lc2 (i := 6) rfl
theorem ji_0_343 : mj_ins 0 343 = some (.iconst 5) := mj_lc2 (i := 7) rfl
theorem ji_0_344 : mj_ins 0 344 = some (.iadd) := mj_lc2 (i := 8) rfl
theorem ji_0_345 : mj_ins 0 345 = some (.iaload) := mj_lc2 (i := 9) rfl
theorem ji_0_346 : mj_ins 0 346 = some (.invokevirtual 26) := mj_lc2 (i := 10) rfl
set_option maxRecDepth 100000 in
theorem jc_0_26 : mj_cal 0 26 = some (2, 173, 5) := by decide +kernel
theorem ji_0_349 : mj_ins 0 349 = some (.pop) := mj_lc2 (i := 11) rfl
theorem ji_0_350 : mj_ins 0 350 = some (.goto 1200) := mj_lc2 (i := 12) rfl
theorem ji_0_353 : mj_ins 0 353 = some (.aload_n 1) := mj_lc2 (i := 13) rfl
theorem ji_0_354 : mj_ins 0 354 = some (.aload_n 0) := mj_lc2 (i := 14) rfl
theorem ji_0_355 : mj_ins 0 355 = some (.iload_n 3) := mj_lc2 (i := 15) rfl
theorem ji_0_356 : mj_ins 0 356 = some (.iconst 1) := mj_lc2 (i := 16) rfl
theorem ji_0_357 : mj_ins 0 357 = some (.iadd) := mj_lc2 (i := 17) rfl
theorem ji_0_358 : mj_ins 0 358 = some (.iaload) := mj_lc2 (i := 18) rfl
theorem ji_0_359 : mj_ins 0 359 = some (.invokevirtual 27) := mj_lc2 (i := 19) rfl
set_option maxRecDepth 100000 in
theorem jc_0_27 : mj_cal 0 27 = some (2, 18, 1) := by decide +kernel
theorem ji_0_362 : mj_ins 0 362 = some (.pop) := mj_lc2 (i := 20) rfl
theorem ji_0_363 : mj_ins 0 363 = some (.aload_n 2) := mj_lc2 (i := 21) rfl
theorem ji_0_364 : mj_ins 0 364 = some (.aload_n 0) := mj_lc2 (i := 22) rfl
theorem ji_0_365 : mj_ins 0 365 = some (.iload_n 3) := mj_lc2 (i := 23) rfl
theorem ji_0_366 : mj_ins 0 366 = some (.iconst 1) := mj_lc2 (i := 24) rfl
theorem ji_0_367 : mj_ins 0 367 = some (.iadd) := mj_lc2 (i := 25) rfl
theorem ji_0_368 : mj_ins 0 368 = some (.iaload) := mj_lc2 (i := 26) rfl
theorem ji_0_369 : mj_ins 0 369 = some (.invokevirtual 31) := mj_lc2 (i := 27) rfl
set_option maxRecDepth 100000 in
theorem jc_0_31 : mj_cal 0 31 = some (2, 175, 1) := by decide +kernel
theorem ji_0_372 : mj_ins 0 372 = some (.pop) := mj_lc2 (i := 28) rfl
theorem ji_0_373 : mj_ins 0 373 = some (.goto 1177) := mj_lc2 (i := 29) rfl
theorem ji_0_376 : mj_ins 0 376 = some (.aload_n 1) := mj_lc2 (i := 30) rfl
theorem ji_0_377 : mj_ins 0 377 = some (.invokevirtual 32) := mj_lc2 (i := 31) rfl
set_option maxRecDepth 100000 in
theorem jc_0_32 : mj_cal 0 32 = some (2, 19, 0) := by decide +kernel
theorem ji_0_380 : mj_ins 0 380 = some (.pop) := mj_lc2 (i := 32) rfl
theorem ji_0_381 : mj_ins 0 381 = some (.aload_n 2) := mj_lc2 (i := 33) rfl
theorem ji_0_382 : mj_ins 0 382 = some (.invokevirtual 36) := mj_lc2 (i := 34) rfl
set_option maxRecDepth 100000 in
theorem jc_0_36 : mj_cal 0 36 = some (2, 176, 0) := by decide +kernel
theorem ji_0_385 : mj_ins 0 385 = some (.pop) := mj_lc2 (i := 35) rfl
theorem ji_0_386 : mj_ins 0 386 = some (.goto 1164) := mj_lc2 (i := 36) rfl
theorem ji_0_389 : mj_ins 0 389 = some (.aload_n 1) := mj_lc2 (i := 37) rfl
theorem ji_0_390 : mj_ins 0 390 = some (.aload_n 0) := mj_lc2 (i := 38) rfl
theorem ji_0_391 : mj_ins 0 391 = some (.iload_n 3) := mj_lc2 (i := 39) rfl
theorem ji_0_392 : mj_ins 0 392 = some (.iconst 1) := mj_lc2 (i := 40) rfl
theorem ji_0_393 : mj_ins 0 393 = some (.iadd) := mj_lc2 (i := 41) rfl
theorem ji_0_394 : mj_ins 0 394 = some (.iaload) := mj_lc2 (i := 42) rfl
theorem ji_0_395 : mj_ins 0 395 = some (.invokevirtual 37) := mj_lc2 (i := 43) rfl
set_option maxRecDepth 100000 in
theorem jc_0_37 : mj_cal 0 37 = some (2, 54, 1) := by decide +kernel
theorem ji_0_398 : mj_ins 0 398 = some (.pop) := mj_lc2 (i := 44) rfl
theorem ji_0_399 : mj_ins 0 399 = some (.aload_n 2) := mj_lc2 (i := 45) rfl
theorem ji_0_400 : mj_ins 0 400 = some (.aload_n 0) := mj_lc2 (i := 46) rfl
theorem ji_0_401 : mj_ins 0 401 = some (.iload_n 3) := mj_lc2 (i := 47) rfl
theorem ji_0_402 : mj_ins 0 402 = some (.iconst 1) := mj_lc2 (i := 48) rfl
theorem ji_0_403 : mj_ins 0 403 = some (.iadd) := mj_lc2 (i := 49) rfl
theorem ji_0_404 : mj_ins 0 404 = some (.iaload) := mj_lc2 (i := 50) rfl
theorem ji_0_405 : mj_ins 0 405 = some (.invokevirtual 40) := mj_lc2 (i := 51) rfl
set_option maxRecDepth 100000 in
theorem jc_0_40 : mj_cal 0 40 = some (2, 214, 1) := by decide +kernel
theorem ji_0_408 : mj_ins 0 408 = some (.pop) := mj_lc2 (i := 52) rfl
theorem ji_0_409 : mj_ins 0 409 = some (.goto 1141) := mj_lc2 (i := 53) rfl
theorem ji_0_412 : mj_ins 0 412 = some (.aload_n 1) := mj_lc2 (i := 54) rfl
theorem ji_0_413 : mj_ins 0 413 = some (.aload_n 0) := mj_lc2 (i := 55) rfl
theorem ji_0_414 : mj_ins 0 414 = some (.iload_n 3) := mj_lc2 (i := 56) rfl
theorem ji_0_415 : mj_ins 0 415 = some (.iconst 1) := mj_lc2 (i := 57) rfl
theorem ji_0_416 : mj_ins 0 416 = some (.iadd) := mj_lc2 (i := 58) rfl
theorem ji_0_417 : mj_ins 0 417 = some (.iaload) := mj_lc2 (i := 59) rfl
theorem ji_0_418 : mj_ins 0 418 = some (.invokevirtual 41) := mj_lc3 (i := 0) rfl
set_option maxRecDepth 100000 in
theorem jc_0_41 : mj_cal 0 41 = some (2, 55, 1) := by decide +kernel
theorem ji_0_421 : mj_ins 0 421 = some (.pop) := mj_lc3 (i := 1) rfl
theorem ji_0_422 : mj_ins 0 422 = some (.aload_n 2) := mj_lc3 (i := 2) rfl
theorem ji_0_423 : mj_ins 0 423 = some (.aload_n 0) := mj_lc3 (i := 3) rfl
theorem ji_0_424 : mj_ins 0 424 = some (.iload_n 3) := mj_lc3 (i := 4) rfl
theorem ji_0_425 : mj_ins 0 425 = some (.iconst 1) := mj_lc3 (i := 5) rfl
theorem ji_0_426 : mj_ins 0 426 = some (.iadd) := mj_lc3 (i := 6) rfl
theorem ji_0_427 : mj_ins 0 427 = some (.iaload) := mj_lc3 (i := 7) rfl
theorem ji_0_428 : mj_ins 0 428 = some (.invokevirtual 45) := mj_lc3 (i := 8) rfl
set_option maxRecDepth 100000 in
theorem jc_0_45 : mj_cal 0 45 = some (2, 215, 1) := by decide +kernel
theorem ji_0_431 : mj_ins 0 431 = some (.pop) := mj_lc3 (i := 9) rfl
theorem ji_0_432 : mj_ins 0 432 = some (.goto 1118) := mj_lc3 (i := 10) rfl
theorem ji_0_435 : mj_ins 0 435 = some (.aload_n 1) := mj_lc3 (i := 11) rfl
theorem ji_0_436 : mj_ins 0 436 = some (.aload_n 0) := mj_lc3 (i := 12) rfl
theorem ji_0_437 : mj_ins 0 437 = some (.iload_n 3) := mj_lc3 (i := 13) rfl
theorem ji_0_438 : mj_ins 0 438 = some (.iconst 1) := mj_lc3 (i := 14) rfl
theorem ji_0_439 : mj_ins 0 439 = some (.iadd) := mj_lc3 (i := 15) rfl
theorem ji_0_440 : mj_ins 0 440 = some (.iaload) := mj_lc3 (i := 16) rfl
theorem ji_0_441 : mj_ins 0 441 = some (.invokevirtual 46) := mj_lc3 (i := 17) rfl
set_option maxRecDepth 100000 in
theorem jc_0_46 : mj_cal 0 46 = some (2, 57, 1) := by decide +kernel
set_option maxRecDepth 100000 in
theorem jk_57 : mj_cls 57 = 0 := by decide +kernel
theorem ji_0_444 : mj_ins 0 444 = some (.pop) := mj_lc3 (i := 18) rfl
theorem ji_0_445 : mj_ins 0 445 = some (.aload_n 2) := mj_lc3 (i := 19) rfl
theorem ji_0_446 : mj_ins 0 446 = some (.aload_n 0) := mj_lc3 (i := 20) rfl
theorem ji_0_447 : mj_ins 0 447 = some (.iload_n 3) := mj_lc3 (i := 21) rfl
theorem ji_0_448 : mj_ins 0 448 = some (.iconst 1) := mj_lc3 (i := 22) rfl
theorem ji_0_449 : mj_ins 0 449 = some (.iadd) := mj_lc3 (i := 23) rfl
theorem ji_0_450 : mj_ins 0 450 = some (.iaload) := mj_lc3 (i := 24) rfl
theorem ji_0_451 : mj_ins 0 451 = some (.invokevirtual 49) := mj_lc3 (i := 25) rfl
set_option maxRecDepth 100000 in
theorem jc_0_49 : mj_cal 0 49 = some (2, 217, 1) := by decide +kernel
set_option maxRecDepth 100000 in
theorem jk_217 : mj_cls 217 = 11 := by decide +kernel
theorem ji_0_454 : mj_ins 0 454 = some (.pop) := mj_lc3 (i := 26) rfl
theorem ji_0_455 : mj_ins 0 455 = some (.goto 1095) := mj_lc3 (i := 27) rfl
theorem ji_0_458 : mj_ins 0 458 = some (.aload_n 1) := mj_lc3 (i := 28) rfl
theorem ji_0_459 : mj_ins 0 459 = some (.aload_n 0) := mj_lc3 (i := 29) rfl
theorem ji_0_460 : mj_ins 0 460 = some (.iload_n 3) := mj_lc3 (i := 30) rfl
theorem ji_0_461 : mj_ins 0 461 = some (.iconst 1) := mj_lc3 (i := 31) rfl
theorem ji_0_462 : mj_ins 0 462 = some (.iadd) := mj_lc3 (i := 32) rfl
theorem ji_0_463 : mj_ins 0 463 = some (.iaload) := mj_lc3 (i := 33) rfl
theorem ji_0_464 : mj_ins 0 464 = some (.aload_n 0) := mj_lc3 (i := 34) rfl
theorem ji_0_465 : mj_ins 0 465 = some (.iload_n 3) := mj_lc3 (i := 35) rfl
theorem ji_0_466 : mj_ins 0 466 = some (.iconst 2) := mj_lc3 (i := 36) rfl
theorem ji_0_467 : mj_ins 0 467 = some (.iadd) := mj_lc3 (i := 37) rfl
theorem ji_0_468 : mj_ins 0 468 = some (.iaload) := mj_lc3 (i := 38) rfl
theorem ji_0_469 : mj_ins 0 469 = some (.invokevirtual 50) := mj_lc3 (i := 39) rfl
set_option maxRecDepth 100000 in
theorem jc_0_50 : mj_cal 0 50 = some (2, 77, 2) := by decide +kernel
set_option maxRecDepth 100000 in
theorem jk_77 : mj_cls 77 = 0 := by decide +kernel
theorem ji_0_472 : mj_ins 0 472 = some (.pop) := mj_lc3 (i := 40) rfl
theorem ji_0_473 : mj_ins 0 473 = some (.aload_n 2) := mj_lc3 (i := 41) rfl
theorem ji_0_474 : mj_ins 0 474 = some (.aload_n 0) := mj_lc3 (i := 42) rfl
theorem ji_0_475 : mj_ins 0 475 = some (.iload_n 3) := mj_lc3 (i := 43) rfl
theorem ji_0_476 : mj_ins 0 476 = some (.iconst 1) := mj_lc3 (i := 44) rfl
theorem ji_0_477 : mj_ins 0 477 = some (.iadd) := mj_lc3 (i := 45) rfl
theorem ji_0_478 : mj_ins 0 478 = some (.iaload) := mj_lc3 (i := 46) rfl
theorem ji_0_479 : mj_ins 0 479 = some (.aload_n 0) := mj_lc3 (i := 47) rfl
theorem ji_0_480 : mj_ins 0 480 = some (.iload_n 3) := mj_lc3 (i := 48) rfl
theorem ji_0_481 : mj_ins 0 481 = some (.iconst 2) := mj_lc3 (i := 49) rfl
theorem ji_0_482 : mj_ins 0 482 = some (.iadd) := mj_lc3 (i := 50) rfl
theorem ji_0_483 : mj_ins 0 483 = some (.iaload) := mj_lc3 (i := 51) rfl
theorem ji_0_484 : mj_ins 0 484 = some (.invokevirtual 54) := mj_lc3 (i := 52) rfl
set_option maxRecDepth 100000 in
theorem jc_0_54 : mj_cal 0 54 = some (2, 246, 2) := by decide +kernel
theorem ji_0_487 : mj_ins 0 487 = some (.pop) := mj_lc3 (i := 53) rfl
theorem ji_0_488 : mj_ins 0 488 = some (.goto 1062) := mj_lc3 (i := 54) rfl
theorem ji_0_491 : mj_ins 0 491 = some (.aload_n 1) := mj_lc3 (i := 55) rfl
theorem ji_0_492 : mj_ins 0 492 = some (.aload_n 0) := mj_lc3 (i := 56) rfl
theorem ji_0_493 : mj_ins 0 493 = some (.iload_n 3) := mj_lc3 (i := 57) rfl
theorem ji_0_494 : mj_ins 0 494 = some (.iconst 1) := mj_lc3 (i := 58) rfl
theorem ji_0_495 : mj_ins 0 495 = some (.iadd) := mj_lc3 (i := 59) rfl
theorem ji_0_496 : mj_ins 0 496 = some (.iaload) := mj_lc4 (i := 0) rfl
theorem ji_0_497 : mj_ins 0 497 = some (.aload_n 0) := mj_lc4 (i := 1) rfl
theorem ji_0_498 : mj_ins 0 498 = some (.iload_n 3) := mj_lc4 (i := 2) rfl
theorem ji_0_499 : mj_ins 0 499 = some (.iconst 2) := mj_lc4 (i := 3) rfl
theorem ji_0_500 : mj_ins 0 500 = some (.iadd) := mj_lc4 (i := 4) rfl
theorem ji_0_501 : mj_ins 0 501 = some (.iaload) := mj_lc4 (i := 5) rfl
theorem ji_0_502 : mj_ins 0 502 = some (.invokevirtual 55) := mj_lc4 (i := 6) rfl
set_option maxRecDepth 100000 in
theorem jc_0_55 : mj_cal 0 55 = some (2, 83, 2) := by decide +kernel
set_option maxRecDepth 100000 in
theorem jk_83 : mj_cls 83 = 0 := by decide +kernel
theorem ji_0_505 : mj_ins 0 505 = some (.pop) := mj_lc4 (i := 7) rfl
theorem ji_0_506 : mj_ins 0 506 = some (.aload_n 2) := mj_lc4 (i := 8) rfl
theorem ji_0_507 : mj_ins 0 507 = some (.aload_n 0) := mj_lc4 (i := 9) rfl
theorem ji_0_508 : mj_ins 0 508 = some (.iload_n 3) := mj_lc4 (i := 10) rfl
theorem ji_0_509 : mj_ins 0 509 = some (.iconst 1) := mj_lc4 (i := 11) rfl
theorem ji_0_510 : mj_ins 0 510 = some (.iadd) := mj_lc4 (i := 12) rfl
theorem ji_0_511 : mj_ins 0 511 = some (.iaload) := mj_lc4 (i := 13) rfl
theorem ji_0_512 : mj_ins 0 512 = some (.aload_n 0) := mj_lc4 (i := 14) rfl
theorem ji_0_513 : mj_ins 0 513 = some (.iload_n 3) := mj_lc4 (i := 15) rfl
theorem ji_0_514 : mj_ins 0 514 = some (.iconst 2) := mj_lc4 (i := 16) rfl
theorem ji_0_515 : mj_ins 0 515 = some (.iadd) := mj_lc4 (i := 17) rfl
theorem ji_0_516 : mj_ins 0 516 = some (.iaload) := mj_lc4 (i := 18) rfl
theorem ji_0_517 : mj_ins 0 517 = some (.invokevirtual 58) := mj_lc4 (i := 19) rfl
set_option maxRecDepth 100000 in
theorem jc_0_58 : mj_cal 0 58 = some (2, 251, 2) := by decide +kernel
theorem ji_0_520 : mj_ins 0 520 = some (.pop) := mj_lc4 (i := 20) rfl
theorem ji_0_521 : mj_ins 0 521 = some (.goto 1029) := mj_lc4 (i := 21) rfl
theorem ji_0_524 : mj_ins 0 524 = some (.aload_n 1) := mj_lc4 (i := 22) rfl
theorem ji_0_525 : mj_ins 0 525 = some (.aload_n 0) := mj_lc4 (i := 23) rfl
theorem ji_0_526 : mj_ins 0 526 = some (.iload_n 3) := mj_lc4 (i := 24) rfl
theorem ji_0_527 : mj_ins 0 527 = some (.iconst 1) := mj_lc4 (i := 25) rfl
theorem ji_0_528 : mj_ins 0 528 = some (.iadd) := mj_lc4 (i := 26) rfl
theorem ji_0_529 : mj_ins 0 529 = some (.iaload) := mj_lc4 (i := 27) rfl
theorem ji_0_530 : mj_ins 0 530 = some (.aload_n 0) := mj_lc4 (i := 28) rfl
theorem ji_0_531 : mj_ins 0 531 = some (.iload_n 3) := mj_lc4 (i := 29) rfl
theorem ji_0_532 : mj_ins 0 532 = some (.iconst 2) := mj_lc4 (i := 30) rfl
theorem ji_0_533 : mj_ins 0 533 = some (.iadd) := mj_lc4 (i := 31) rfl
theorem ji_0_534 : mj_ins 0 534 = some (.iaload) := mj_lc4 (i := 32) rfl
theorem ji_0_535 : mj_ins 0 535 = some (.invokevirtual 59) := mj_lc4 (i := 33) rfl
set_option maxRecDepth 100000 in
theorem jc_0_59 : mj_cal 0 59 = some (2, 86, 2) := by decide +kernel
set_option maxRecDepth 100000 in
theorem jk_86 : mj_cls 86 = 0 := by decide +kernel
theorem ji_0_538 : mj_ins 0 538 = some (.pop) := mj_lc4 (i := 34) rfl
theorem ji_0_539 : mj_ins 0 539 = some (.aload_n 2) := mj_lc4 (i := 35) rfl
theorem ji_0_540 : mj_ins 0 540 = some (.aload_n 0) := mj_lc4 (i := 36) rfl
theorem ji_0_541 : mj_ins 0 541 = some (.iload_n 3) := mj_lc4 (i := 37) rfl
theorem ji_0_542 : mj_ins 0 542 = some (.iconst 1) := mj_lc4 (i := 38) rfl
theorem ji_0_543 : mj_ins 0 543 = some (.iadd) := mj_lc4 (i := 39) rfl
theorem ji_0_544 : mj_ins 0 544 = some (.iaload) := mj_lc4 (i := 40) rfl
theorem ji_0_545 : mj_ins 0 545 = some (.aload_n 0) := mj_lc4 (i := 41) rfl
theorem ji_0_546 : mj_ins 0 546 = some (.iload_n 3) := mj_lc4 (i := 42) rfl
theorem ji_0_547 : mj_ins 0 547 = some (.iconst 2) := mj_lc4 (i := 43) rfl
theorem ji_0_548 : mj_ins 0 548 = some (.iadd) := mj_lc4 (i := 44) rfl
theorem ji_0_549 : mj_ins 0 549 = some (.iaload) := mj_lc4 (i := 45) rfl
theorem ji_0_550 : mj_ins 0 550 = some (.invokevirtual 62) := mj_lc4 (i := 46) rfl
set_option maxRecDepth 100000 in
theorem jc_0_62 : mj_cal 0 62 = some (2, 252, 2) := by decide +kernel
theorem ji_0_553 : mj_ins 0 553 = some (.pop) := mj_lc4 (i := 47) rfl
theorem ji_0_554 : mj_ins 0 554 = some (.goto 996) := mj_lc4 (i := 48) rfl
theorem ji_0_557 : mj_ins 0 557 = some (.aload_n 1) := mj_lc4 (i := 49) rfl
theorem ji_0_558 : mj_ins 0 558 = some (.aload_n 0) := mj_lc4 (i := 50) rfl
theorem ji_0_559 : mj_ins 0 559 = some (.iload_n 3) := mj_lc4 (i := 51) rfl
theorem ji_0_560 : mj_ins 0 560 = some (.iconst 1) := mj_lc4 (i := 52) rfl
theorem ji_0_561 : mj_ins 0 561 = some (.iadd) := mj_lc4 (i := 53) rfl
theorem ji_0_562 : mj_ins 0 562 = some (.iaload) := mj_lc4 (i := 54) rfl
theorem ji_0_563 : mj_ins 0 563 = some (.invokevirtual 63) := mj_lc4 (i := 55) rfl
set_option maxRecDepth 100000 in
theorem jc_0_63 : mj_cal 0 63 = some (2, 90, 1) := by decide +kernel
set_option maxRecDepth 100000 in
theorem jk_90 : mj_cls 90 = 0 := by decide +kernel
theorem ji_0_566 : mj_ins 0 566 = some (.pop) := mj_lc4 (i := 56) rfl
theorem ji_0_567 : mj_ins 0 567 = some (.aload_n 2) := mj_lc4 (i := 57) rfl
theorem ji_0_568 : mj_ins 0 568 = some (.aload_n 0) := mj_lc4 (i := 58) rfl
theorem ji_0_569 : mj_ins 0 569 = some (.iload_n 3) := mj_lc4 (i := 59) rfl
theorem ji_0_570 : mj_ins 0 570 = some (.iconst 1) := mj_lc5 (i := 0) rfl
theorem ji_0_571 : mj_ins 0 571 = some (.iadd) := mj_lc5 (i := 1) rfl
theorem ji_0_572 : mj_ins 0 572 = some (.iaload) := mj_lc5 (i := 2) rfl
theorem ji_0_573 : mj_ins 0 573 = some (.invokevirtual 66) := mj_lc5 (i := 3) rfl
set_option maxRecDepth 100000 in
theorem jc_0_66 : mj_cal 0 66 = some (2, 254, 1) := by decide +kernel
theorem ji_0_576 : mj_ins 0 576 = some (.pop) := mj_lc5 (i := 4) rfl
theorem ji_0_577 : mj_ins 0 577 = some (.goto 973) := mj_lc5 (i := 5) rfl
theorem ji_0_580 : mj_ins 0 580 = some (.aload_n 1) := mj_lc5 (i := 6) rfl
theorem ji_0_581 : mj_ins 0 581 = some (.aload_n 0) := mj_lc5 (i := 7) rfl
theorem ji_0_582 : mj_ins 0 582 = some (.iload_n 3) := mj_lc5 (i := 8) rfl
theorem ji_0_583 : mj_ins 0 583 = some (.iconst 1) := mj_lc5 (i := 9) rfl
theorem ji_0_584 : mj_ins 0 584 = some (.iadd) := mj_lc5 (i := 10) rfl
theorem ji_0_585 : mj_ins 0 585 = some (.iaload) := mj_lc5 (i := 11) rfl
theorem ji_0_586 : mj_ins 0 586 = some (.invokevirtual 67) := mj_lc5 (i := 12) rfl
set_option maxRecDepth 100000 in
theorem jc_0_67 : mj_cal 0 67 = some (2, 92, 1) := by decide +kernel
set_option maxRecDepth 100000 in
theorem jk_92 : mj_cls 92 = 0 := by decide +kernel
theorem ji_0_589 : mj_ins 0 589 = some (.pop) := mj_lc5 (i := 13) rfl
theorem ji_0_590 : mj_ins 0 590 = some (.aload_n 2) := mj_lc5 (i := 14) rfl
theorem ji_0_591 : mj_ins 0 591 = some (.aload_n 0) := mj_lc5 (i := 15) rfl
theorem ji_0_592 : mj_ins 0 592 = some (.iload_n 3) := mj_lc5 (i := 16) rfl
theorem ji_0_593 : mj_ins 0 593 = some (.iconst 1) := mj_lc5 (i := 17) rfl
theorem ji_0_594 : mj_ins 0 594 = some (.iadd) := mj_lc5 (i := 18) rfl
theorem ji_0_595 : mj_ins 0 595 = some (.iaload) := mj_lc5 (i := 19) rfl
theorem ji_0_596 : mj_ins 0 596 = some (.invokevirtual 70) := mj_lc5 (i := 20) rfl
set_option maxRecDepth 100000 in
theorem jc_0_70 : mj_cal 0 70 = some (2, 255, 1) := by decide +kernel
set_option maxRecDepth 100000 in
theorem jk_255 : mj_cls 255 = 11 := by decide +kernel
theorem ji_0_599 : mj_ins 0 599 = some (.pop) := mj_lc5 (i := 21) rfl
theorem ji_0_600 : mj_ins 0 600 = some (.goto 950) := mj_lc5 (i := 22) rfl
theorem ji_0_603 : mj_ins 0 603 = some (.aload_n 1) := mj_lc5 (i := 23) rfl
theorem ji_0_604 : mj_ins 0 604 = some (.aload_n 0) := mj_lc5 (i := 24) rfl
theorem ji_0_605 : mj_ins 0 605 = some (.iload_n 3) := mj_lc5 (i := 25) rfl
theorem ji_0_606 : mj_ins 0 606 = some (.iconst 1) := mj_lc5 (i := 26) rfl
theorem ji_0_607 : mj_ins 0 607 = some (.iadd) := mj_lc5 (i := 27) rfl
theorem ji_0_608 : mj_ins 0 608 = some (.iaload) := mj_lc5 (i := 28) rfl
theorem ji_0_609 : mj_ins 0 609 = some (.aload_n 0) := mj_lc5 (i := 29) rfl
theorem ji_0_610 : mj_ins 0 610 = some (.iload_n 3) := mj_lc5 (i := 30) rfl
theorem ji_0_611 : mj_ins 0 611 = some (.iconst 2) := mj_lc5 (i := 31) rfl
theorem ji_0_612 : mj_ins 0 612 = some (.iadd) := mj_lc5 (i := 32) rfl
theorem ji_0_613 : mj_ins 0 613 = some (.iaload) := mj_lc5 (i := 33) rfl
theorem ji_0_614 : mj_ins 0 614 = some (.invokevirtual 71) := mj_lc5 (i := 34) rfl
set_option maxRecDepth 100000 in
theorem jc_0_71 : mj_cal 0 71 = some (2, 93, 2) := by decide +kernel
set_option maxRecDepth 100000 in
theorem jk_93 : mj_cls 93 = 0 := by decide +kernel
theorem ji_0_617 : mj_ins 0 617 = some (.pop) := mj_lc5 (i := 35) rfl
theorem ji_0_618 : mj_ins 0 618 = some (.aload_n 2) := mj_lc5 (i := 36) rfl
theorem ji_0_619 : mj_ins 0 619 = some (.aload_n 0) := mj_lc5 (i := 37) rfl
theorem ji_0_620 : mj_ins 0 620 = some (.iload_n 3) := mj_lc5 (i := 38) rfl
theorem ji_0_621 : mj_ins 0 621 = some (.iconst 1) := mj_lc5 (i := 39) rfl
theorem ji_0_622 : mj_ins 0 622 = some (.iadd) := mj_lc5 (i := 40) rfl
theorem ji_0_623 : mj_ins 0 623 = some (.iaload) := mj_lc5 (i := 41) rfl
theorem ji_0_624 : mj_ins 0 624 = some (.aload_n 0) := mj_lc5 (i := 42) rfl
theorem ji_0_625 : mj_ins 0 625 = some (.iload_n 3) := mj_lc5 (i := 43) rfl
theorem ji_0_626 : mj_ins 0 626 = some (.iconst 2) := mj_lc5 (i := 44) rfl
theorem ji_0_627 : mj_ins 0 627 = some (.iadd) := mj_lc5 (i := 45) rfl
theorem ji_0_628 : mj_ins 0 628 = some (.iaload) := mj_lc5 (i := 46) rfl
theorem ji_0_629 : mj_ins 0 629 = some (.invokevirtual 74) := mj_lc5 (i := 47) rfl
set_option maxRecDepth 100000 in
theorem jc_0_74 : mj_cal 0 74 = some (2, 257, 2) := by decide +kernel
set_option maxRecDepth 100000 in
theorem jk_257 : mj_cls 257 = 11 := by decide +kernel
theorem ji_0_632 : mj_ins 0 632 = some (.pop) := mj_lc5 (i := 48) rfl
theorem ji_0_633 : mj_ins 0 633 = some (.goto 917) := mj_lc5 (i := 49) rfl
theorem ji_0_636 : mj_ins 0 636 = some (.aload_n 1) := mj_lc5 (i := 50) rfl
theorem ji_0_637 : mj_ins 0 637 = some (.invokevirtual 75) := mj_lc5 (i := 51) rfl
set_option maxRecDepth 100000 in
theorem jc_0_75 : mj_cal 0 75 = some (2, 95, 0) := by decide +kernel
set_option maxRecDepth 100000 in
theorem jk_95 : mj_cls 95 = 0 := by decide +kernel
theorem ji_0_640 : mj_ins 0 640 = some (.pop) := mj_lc5 (i := 52) rfl
theorem ji_0_641 : mj_ins 0 641 = some (.aload_n 2) := mj_lc5 (i := 53) rfl
theorem ji_0_642 : mj_ins 0 642 = some (.invokevirtual 78) := mj_lc5 (i := 54) rfl
set_option maxRecDepth 100000 in
theorem jc_0_78 : mj_cal 0 78 = some (2, 216, 0) := by decide +kernel
set_option maxRecDepth 100000 in
theorem jk_216 : mj_cls 216 = 11 := by decide +kernel
theorem ji_0_645 : mj_ins 0 645 = some (.pop) := mj_lc5 (i := 55) rfl
theorem ji_0_646 : mj_ins 0 646 = some (.goto 904) := mj_lc5 (i := 56) rfl
theorem ji_0_649 : mj_ins 0 649 = some (.aload_n 1) := mj_lc5 (i := 57) rfl
theorem ji_0_650 : mj_ins 0 650 = some (.aload_n 0) := mj_lc5 (i := 58) rfl
theorem ji_0_651 : mj_ins 0 651 = some (.iload_n 3) := mj_lc5 (i := 59) rfl
theorem ji_0_652 : mj_ins 0 652 = some (.iconst 1) := mj_lc6 (i := 0) rfl
theorem ji_0_653 : mj_ins 0 653 = some (.iadd) := mj_lc6 (i := 1) rfl
theorem ji_0_654 : mj_ins 0 654 = some (.iaload) := mj_lc6 (i := 2) rfl
theorem ji_0_655 : mj_ins 0 655 = some (.aload_n 0) := mj_lc6 (i := 3) rfl
theorem ji_0_656 : mj_ins 0 656 = some (.iload_n 3) := mj_lc6 (i := 4) rfl
theorem ji_0_657 : mj_ins 0 657 = some (.iconst 2) := mj_lc6 (i := 5) rfl
theorem ji_0_658 : mj_ins 0 658 = some (.iadd) := mj_lc6 (i := 6) rfl
theorem ji_0_659 : mj_ins 0 659 = some (.iaload) := mj_lc6 (i := 7) rfl
theorem ji_0_660 : mj_ins 0 660 = some (.invokevirtual 79) := mj_lc6 (i := 8) rfl
set_option maxRecDepth 100000 in
theorem jc_0_79 : mj_cal 0 79 = some (2, 97, 2) := by decide +kernel
set_option maxRecDepth 100000 in
theorem jk_97 : mj_cls 97 = 0 := by decide +kernel
theorem ji_0_663 : mj_ins 0 663 = some (.pop) := mj_lc6 (i := 9) rfl
theorem ji_0_664 : mj_ins 0 664 = some (.aload_n 2) := mj_lc6 (i := 10) rfl
theorem ji_0_665 : mj_ins 0 665 = some (.aload_n 0) := mj_lc6 (i := 11) rfl
theorem ji_0_666 : mj_ins 0 666 = some (.iload_n 3) := mj_lc6 (i := 12) rfl
theorem ji_0_667 : mj_ins 0 667 = some (.iconst 1) := mj_lc6 (i := 13) rfl
theorem ji_0_668 : mj_ins 0 668 = some (.iadd) := mj_lc6 (i := 14) rfl
theorem ji_0_669 : mj_ins 0 669 = some (.iaload) := mj_lc6 (i := 15) rfl
theorem ji_0_670 : mj_ins 0 670 = some (.aload_n 0) := mj_lc6 (i := 16) rfl
theorem ji_0_671 : mj_ins 0 671 = some (.iload_n 3) := mj_lc6 (i := 17) rfl
theorem ji_0_672 : mj_ins 0 672 = some (.iconst 2) := mj_lc6 (i := 18) rfl
theorem ji_0_673 : mj_ins 0 673 = some (.iadd) := mj_lc6 (i := 19) rfl
theorem ji_0_674 : mj_ins 0 674 = some (.iaload) := mj_lc6 (i := 20) rfl
theorem ji_0_675 : mj_ins 0 675 = some (.invokevirtual 82) := mj_lc6 (i := 21) rfl
set_option maxRecDepth 100000 in
theorem jc_0_82 : mj_cal 0 82 = some (2, 259, 2) := by decide +kernel
set_option maxRecDepth 100000 in
theorem jk_259 : mj_cls 259 = 11 := by decide +kernel
theorem ji_0_678 : mj_ins 0 678 = some (.pop) := mj_lc6 (i := 22) rfl
theorem ji_0_679 : mj_ins 0 679 = some (.goto 871) := mj_lc6 (i := 23) rfl
theorem ji_0_682 : mj_ins 0 682 = some (.aload_n 1) := mj_lc6 (i := 24) rfl
theorem ji_0_683 : mj_ins 0 683 = some (.aload_n 0) := mj_lc6 (i := 25) rfl
theorem ji_0_684 : mj_ins 0 684 = some (.iload_n 3) := mj_lc6 (i := 26) rfl
theorem ji_0_685 : mj_ins 0 685 = some (.iconst 1) := mj_lc6 (i := 27) rfl
theorem ji_0_686 : mj_ins 0 686 = some (.iadd) := mj_lc6 (i := 28) rfl
theorem ji_0_687 : mj_ins 0 687 = some (.iaload) := mj_lc6 (i := 29) rfl
theorem ji_0_688 : mj_ins 0 688 = some (.aload_n 0) := mj_lc6 (i := 30) rfl
theorem ji_0_689 : mj_ins 0 689 = some (.iload_n 3) := mj_lc6 (i := 31) rfl
theorem ji_0_690 : mj_ins 0 690 = some (.iconst 2) := mj_lc6 (i := 32) rfl
theorem ji_0_691 : mj_ins 0 691 = some (.iadd) := mj_lc6 (i := 33) rfl
theorem ji_0_692 : mj_ins 0 692 = some (.iaload) := mj_lc6 (i := 34) rfl
theorem ji_0_693 : mj_ins 0 693 = some (.invokevirtual 83) := mj_lc6 (i := 35) rfl
set_option maxRecDepth 100000 in
theorem jc_0_83 : mj_cal 0 83 = some (2, 98, 2) := by decide +kernel
set_option maxRecDepth 100000 in
theorem jk_98 : mj_cls 98 = 0 := by decide +kernel
theorem ji_0_696 : mj_ins 0 696 = some (.pop) := mj_lc6 (i := 36) rfl
theorem ji_0_697 : mj_ins 0 697 = some (.aload_n 2) := mj_lc6 (i := 37) rfl
theorem ji_0_698 : mj_ins 0 698 = some (.aload_n 0) := mj_lc6 (i := 38) rfl
theorem ji_0_699 : mj_ins 0 699 = some (.iload_n 3) := mj_lc6 (i := 39) rfl
theorem ji_0_700 : mj_ins 0 700 = some (.iconst 1) := mj_lc6 (i := 40) rfl
theorem ji_0_701 : mj_ins 0 701 = some (.iadd) := mj_lc6 (i := 41) rfl
theorem ji_0_702 : mj_ins 0 702 = some (.iaload) := mj_lc6 (i := 42) rfl
theorem ji_0_703 : mj_ins 0 703 = some (.aload_n 0) := mj_lc6 (i := 43) rfl
theorem ji_0_704 : mj_ins 0 704 = some (.iload_n 3) := mj_lc6 (i := 44) rfl
theorem ji_0_705 : mj_ins 0 705 = some (.iconst 2) := mj_lc6 (i := 45) rfl
theorem ji_0_706 : mj_ins 0 706 = some (.iadd) := mj_lc6 (i := 46) rfl
theorem ji_0_707 : mj_ins 0 707 = some (.iaload) := mj_lc6 (i := 47) rfl
theorem ji_0_708 : mj_ins 0 708 = some (.invokevirtual 86) := mj_lc6 (i := 48) rfl
set_option maxRecDepth 100000 in
theorem jc_0_86 : mj_cal 0 86 = some (2, 260, 2) := by decide +kernel
set_option maxRecDepth 100000 in
theorem jk_260 : mj_cls 260 = 11 := by decide +kernel
theorem ji_0_711 : mj_ins 0 711 = some (.pop) := mj_lc6 (i := 49) rfl
theorem ji_0_712 : mj_ins 0 712 = some (.goto 838) := mj_lc6 (i := 50) rfl
theorem ji_0_715 : mj_ins 0 715 = some (.aload_n 1) := mj_lc6 (i := 51) rfl
theorem ji_0_716 : mj_ins 0 716 = some (.aload_n 0) := mj_lc6 (i := 52) rfl
theorem ji_0_717 : mj_ins 0 717 = some (.iload_n 3) := mj_lc6 (i := 53) rfl
theorem ji_0_718 : mj_ins 0 718 = some (.iconst 1) := mj_lc6 (i := 54) rfl
theorem ji_0_719 : mj_ins 0 719 = some (.iadd) := mj_lc6 (i := 55) rfl
theorem ji_0_720 : mj_ins 0 720 = some (.iaload) := mj_lc6 (i := 56) rfl
theorem ji_0_721 : mj_ins 0 721 = some (.aload_n 0) := mj_lc6 (i := 57) rfl
theorem ji_0_722 : mj_ins 0 722 = some (.iload_n 3) := mj_lc6 (i := 58) rfl
theorem ji_0_723 : mj_ins 0 723 = some (.iconst 2) := mj_lc6 (i := 59) rfl
theorem ji_0_724 : mj_ins 0 724 = some (.iadd) := mj_lc7 (i := 0) rfl
theorem ji_0_725 : mj_ins 0 725 = some (.iaload) := mj_lc7 (i := 1) rfl
theorem ji_0_726 : mj_ins 0 726 = some (.aload_n 0) := mj_lc7 (i := 2) rfl
theorem ji_0_727 : mj_ins 0 727 = some (.iload_n 3) := mj_lc7 (i := 3) rfl
theorem ji_0_728 : mj_ins 0 728 = some (.iconst 3) := mj_lc7 (i := 4) rfl
theorem ji_0_729 : mj_ins 0 729 = some (.iadd) := mj_lc7 (i := 5) rfl
theorem ji_0_730 : mj_ins 0 730 = some (.iaload) := mj_lc7 (i := 6) rfl
theorem ji_0_731 : mj_ins 0 731 = some (.invokevirtual 87) := mj_lc7 (i := 7) rfl
set_option maxRecDepth 100000 in
theorem jc_0_87 : mj_cal 0 87 = some (2, 101, 3) := by decide +kernel
set_option maxRecDepth 100000 in
theorem jk_101 : mj_cls 101 = 0 := by decide +kernel
theorem ji_0_734 : mj_ins 0 734 = some (.pop) := mj_lc7 (i := 8) rfl
theorem ji_0_735 : mj_ins 0 735 = some (.aload_n 2) := mj_lc7 (i := 9) rfl
theorem ji_0_736 : mj_ins 0 736 = some (.aload_n 0) := mj_lc7 (i := 10) rfl
theorem ji_0_737 : mj_ins 0 737 = some (.iload_n 3) := mj_lc7 (i := 11) rfl
theorem ji_0_738 : mj_ins 0 738 = some (.iconst 1) := mj_lc7 (i := 12) rfl
theorem ji_0_739 : mj_ins 0 739 = some (.iadd) := mj_lc7 (i := 13) rfl
theorem ji_0_740 : mj_ins 0 740 = some (.iaload) := mj_lc7 (i := 14) rfl
theorem ji_0_741 : mj_ins 0 741 = some (.aload_n 0) := mj_lc7 (i := 15) rfl
theorem ji_0_742 : mj_ins 0 742 = some (.iload_n 3) := mj_lc7 (i := 16) rfl
theorem ji_0_743 : mj_ins 0 743 = some (.iconst 2) := mj_lc7 (i := 17) rfl
theorem ji_0_744 : mj_ins 0 744 = some (.iadd) := mj_lc7 (i := 18) rfl
theorem ji_0_745 : mj_ins 0 745 = some (.iaload) := mj_lc7 (i := 19) rfl
theorem ji_0_746 : mj_ins 0 746 = some (.aload_n 0) := mj_lc7 (i := 20) rfl
theorem ji_0_747 : mj_ins 0 747 = some (.iload_n 3) := mj_lc7 (i := 21) rfl
theorem ji_0_748 : mj_ins 0 748 = some (.iconst 3) := mj_lc7 (i := 22) rfl
theorem ji_0_749 : mj_ins 0 749 = some (.iadd) := mj_lc7 (i := 23) rfl
theorem ji_0_750 : mj_ins 0 750 = some (.iaload) := mj_lc7 (i := 24) rfl
theorem ji_0_751 : mj_ins 0 751 = some (.invokevirtual 91) := mj_lc7 (i := 25) rfl
set_option maxRecDepth 100000 in
theorem jc_0_91 : mj_cal 0 91 = some (2, 264, 3) := by decide +kernel
set_option maxRecDepth 100000 in
theorem jk_264 : mj_cls 264 = 11 := by decide +kernel
theorem ji_0_754 : mj_ins 0 754 = some (.pop) := mj_lc7 (i := 26) rfl
theorem ji_0_755 : mj_ins 0 755 = some (.goto 795) := mj_lc7 (i := 27) rfl
theorem ji_0_758 : mj_ins 0 758 = some (.aload_n 1) := mj_lc7 (i := 28) rfl
theorem ji_0_759 : mj_ins 0 759 = some (.aload_n 0) := mj_lc7 (i := 29) rfl
theorem ji_0_760 : mj_ins 0 760 = some (.iload_n 3) := mj_lc7 (i := 30) rfl
theorem ji_0_761 : mj_ins 0 761 = some (.iconst 1) := mj_lc7 (i := 31) rfl
theorem ji_0_762 : mj_ins 0 762 = some (.iadd) := mj_lc7 (i := 32) rfl
theorem ji_0_763 : mj_ins 0 763 = some (.iaload) := mj_lc7 (i := 33) rfl
theorem ji_0_764 : mj_ins 0 764 = some (.invokevirtual 92) := mj_lc7 (i := 34) rfl
set_option maxRecDepth 100000 in
theorem jc_0_92 : mj_cal 0 92 = some (2, 102, 1) := by decide +kernel
set_option maxRecDepth 100000 in
theorem jk_102 : mj_cls 102 = 0 := by decide +kernel
theorem ji_0_767 : mj_ins 0 767 = some (.pop) := mj_lc7 (i := 35) rfl
theorem ji_0_768 : mj_ins 0 768 = some (.aload_n 2) := mj_lc7 (i := 36) rfl
theorem ji_0_769 : mj_ins 0 769 = some (.aload_n 0) := mj_lc7 (i := 37) rfl
theorem ji_0_770 : mj_ins 0 770 = some (.iload_n 3) := mj_lc7 (i := 38) rfl
theorem ji_0_771 : mj_ins 0 771 = some (.iconst 1) := mj_lc7 (i := 39) rfl
theorem ji_0_772 : mj_ins 0 772 = some (.iadd) := mj_lc7 (i := 40) rfl
theorem ji_0_773 : mj_ins 0 773 = some (.iaload) := mj_lc7 (i := 41) rfl
theorem ji_0_774 : mj_ins 0 774 = some (.invokevirtual 95) := mj_lc7 (i := 42) rfl
set_option maxRecDepth 100000 in
theorem jc_0_95 : mj_cal 0 95 = some (2, 265, 1) := by decide +kernel
set_option maxRecDepth 100000 in
theorem jk_265 : mj_cls 265 = 11 := by decide +kernel
theorem ji_0_777 : mj_ins 0 777 = some (.pop) := mj_lc7 (i := 43) rfl
theorem ji_0_778 : mj_ins 0 778 = some (.goto 772) := mj_lc7 (i := 44) rfl
theorem ji_0_781 : mj_ins 0 781 = some (.aload_n 1) := mj_lc7 (i := 45) rfl
theorem ji_0_782 : mj_ins 0 782 = some (.aload_n 0) := mj_lc7 (i := 46) rfl
theorem ji_0_783 : mj_ins 0 783 = some (.iload_n 3) := mj_lc7 (i := 47) rfl
theorem ji_0_784 : mj_ins 0 784 = some (.iconst 1) := mj_lc7 (i := 48) rfl
theorem ji_0_785 : mj_ins 0 785 = some (.iadd) := mj_lc7 (i := 49) rfl
theorem ji_0_786 : mj_ins 0 786 = some (.iaload) := mj_lc7 (i := 50) rfl
theorem ji_0_787 : mj_ins 0 787 = some (.aload_n 0) := mj_lc7 (i := 51) rfl
theorem ji_0_788 : mj_ins 0 788 = some (.iload_n 3) := mj_lc7 (i := 52) rfl
theorem ji_0_789 : mj_ins 0 789 = some (.iconst 2) := mj_lc7 (i := 53) rfl
theorem ji_0_790 : mj_ins 0 790 = some (.iadd) := mj_lc7 (i := 54) rfl
theorem ji_0_791 : mj_ins 0 791 = some (.iaload) := mj_lc7 (i := 55) rfl
theorem ji_0_792 : mj_ins 0 792 = some (.invokevirtual 96) := mj_lc7 (i := 56) rfl
set_option maxRecDepth 100000 in
theorem jc_0_96 : mj_cal 0 96 = some (2, 103, 2) := by decide +kernel
set_option maxRecDepth 100000 in
theorem jk_103 : mj_cls 103 = 0 := by decide +kernel
theorem ji_0_795 : mj_ins 0 795 = some (.pop) := mj_lc7 (i := 57) rfl
theorem ji_0_796 : mj_ins 0 796 = some (.aload_n 2) := mj_lc7 (i := 58) rfl
theorem ji_0_797 : mj_ins 0 797 = some (.aload_n 0) := mj_lc7 (i := 59) rfl
theorem ji_0_798 : mj_ins 0 798 = some (.iload_n 3) := mj_lc8 (i := 0) rfl
theorem ji_0_799 : mj_ins 0 799 = some (.iconst 1) := mj_lc8 (i := 1) rfl
theorem ji_0_800 : mj_ins 0 800 = some (.iadd) := mj_lc8 (i := 2) rfl
theorem ji_0_801 : mj_ins 0 801 = some (.iaload) := mj_lc8 (i := 3) rfl
theorem ji_0_802 : mj_ins 0 802 = some (.aload_n 0) := mj_lc8 (i := 4) rfl
theorem ji_0_803 : mj_ins 0 803 = some (.iload_n 3) := mj_lc8 (i := 5) rfl
theorem ji_0_804 : mj_ins 0 804 = some (.iconst 2) := mj_lc8 (i := 6) rfl
theorem ji_0_805 : mj_ins 0 805 = some (.iadd) := mj_lc8 (i := 7) rfl
theorem ji_0_806 : mj_ins 0 806 = some (.iaload) := mj_lc8 (i := 8) rfl
theorem ji_0_807 : mj_ins 0 807 = some (.invokevirtual 99) := mj_lc8 (i := 9) rfl
set_option maxRecDepth 100000 in
theorem jc_0_99 : mj_cal 0 99 = some (2, 266, 2) := by decide +kernel
set_option maxRecDepth 100000 in
theorem jk_266 : mj_cls 266 = 11 := by decide +kernel
theorem ji_0_810 : mj_ins 0 810 = some (.pop) := mj_lc8 (i := 10) rfl
theorem ji_0_811 : mj_ins 0 811 = some (.goto 739) := mj_lc8 (i := 11) rfl
theorem ji_0_814 : mj_ins 0 814 = some (.aload_n 1) := mj_lc8 (i := 12) rfl
theorem ji_0_815 : mj_ins 0 815 = some (.aload_n 0) := mj_lc8 (i := 13) rfl
theorem ji_0_816 : mj_ins 0 816 = some (.iload_n 3) := mj_lc8 (i := 14) rfl
theorem ji_0_817 : mj_ins 0 817 = some (.iconst 1) := mj_lc8 (i := 15) rfl
theorem ji_0_818 : mj_ins 0 818 = some (.iadd) := mj_lc8 (i := 16) rfl
theorem ji_0_819 : mj_ins 0 819 = some (.iaload) := mj_lc8 (i := 17) rfl
theorem ji_0_820 : mj_ins 0 820 = some (.invokevirtual 100) := mj_lc8 (i := 18) rfl
set_option maxRecDepth 100000 in
theorem jc_0_100 : mj_cal 0 100 = some (2, 104, 1) := by decide +kernel
set_option maxRecDepth 100000 in
theorem jk_104 : mj_cls 104 = 0 := by decide +kernel
theorem ji_0_823 : mj_ins 0 823 = some (.pop) := mj_lc8 (i := 19) rfl
theorem ji_0_824 : mj_ins 0 824 = some (.aload_n 2) := mj_lc8 (i := 20) rfl
theorem ji_0_825 : mj_ins 0 825 = some (.aload_n 0) := mj_lc8 (i := 21) rfl
theorem ji_0_826 : mj_ins 0 826 = some (.iload_n 3) := mj_lc8 (i := 22) rfl
theorem ji_0_827 : mj_ins 0 827 = some (.iconst 1) := mj_lc8 (i := 23) rfl
theorem ji_0_828 : mj_ins 0 828 = some (.iadd) := mj_lc8 (i := 24) rfl
theorem ji_0_829 : mj_ins 0 829 = some (.iaload) := mj_lc8 (i := 25) rfl
theorem ji_0_830 : mj_ins 0 830 = some (.invokevirtual 103) := mj_lc8 (i := 26) rfl
set_option maxRecDepth 100000 in
theorem jc_0_103 : mj_cal 0 103 = some (2, 271, 1) := by decide +kernel
set_option maxRecDepth 100000 in
theorem jk_271 : mj_cls 271 = 11 := by decide +kernel
theorem ji_0_833 : mj_ins 0 833 = some (.pop) := mj_lc8 (i := 27) rfl
theorem ji_0_834 : mj_ins 0 834 = some (.goto 716) := mj_lc8 (i := 28) rfl
theorem ji_0_837 : mj_ins 0 837 = some (.aload_n 1) := mj_lc8 (i := 29) rfl
theorem ji_0_838 : mj_ins 0 838 = some (.aload_n 0) := mj_lc8 (i := 30) rfl
theorem ji_0_839 : mj_ins 0 839 = some (.iload_n 3) := mj_lc8 (i := 31) rfl
theorem ji_0_840 : mj_ins 0 840 = some (.iconst 1) := mj_lc8 (i := 32) rfl
theorem ji_0_841 : mj_ins 0 841 = some (.iadd) := mj_lc8 (i := 33) rfl
theorem ji_0_842 : mj_ins 0 842 = some (.iaload) := mj_lc8 (i := 34) rfl
theorem ji_0_843 : mj_ins 0 843 = some (.aload_n 0) := mj_lc8 (i := 35) rfl
theorem ji_0_844 : mj_ins 0 844 = some (.iload_n 3) := mj_lc8 (i := 36) rfl
theorem ji_0_845 : mj_ins 0 845 = some (.iconst 2) := mj_lc8 (i := 37) rfl
theorem ji_0_846 : mj_ins 0 846 = some (.iadd) := mj_lc8 (i := 38) rfl
theorem ji_0_847 : mj_ins 0 847 = some (.iaload) := mj_lc8 (i := 39) rfl
theorem ji_0_848 : mj_ins 0 848 = some (.aload_n 0) := mj_lc8 (i := 40) rfl
theorem ji_0_849 : mj_ins 0 849 = some (.iload_n 3) := mj_lc8 (i := 41) rfl
theorem ji_0_850 : mj_ins 0 850 = some (.iconst 3) := mj_lc8 (i := 42) rfl
theorem ji_0_851 : mj_ins 0 851 = some (.iadd) := mj_lc8 (i := 43) rfl
theorem ji_0_852 : mj_ins 0 852 = some (.iaload) := mj_lc8 (i := 44) rfl
theorem ji_0_853 : mj_ins 0 853 = some (.invokevirtual 104) := mj_lc8 (i := 45) rfl
set_option maxRecDepth 100000 in
theorem jc_0_104 : mj_cal 0 104 = some (2, 108, 3) := by decide +kernel
set_option maxRecDepth 100000 in
theorem jk_108 : mj_cls 108 = 0 := by decide +kernel
theorem ji_0_856 : mj_ins 0 856 = some (.pop) := mj_lc8 (i := 46) rfl
theorem ji_0_857 : mj_ins 0 857 = some (.aload_n 2) := mj_lc8 (i := 47) rfl
theorem ji_0_858 : mj_ins 0 858 = some (.aload_n 0) := mj_lc8 (i := 48) rfl
theorem ji_0_859 : mj_ins 0 859 = some (.iload_n 3) := mj_lc8 (i := 49) rfl
theorem ji_0_860 : mj_ins 0 860 = some (.iconst 1) := mj_lc8 (i := 50) rfl
theorem ji_0_861 : mj_ins 0 861 = some (.iadd) := mj_lc8 (i := 51) rfl
theorem ji_0_862 : mj_ins 0 862 = some (.iaload) := mj_lc8 (i := 52) rfl
theorem ji_0_863 : mj_ins 0 863 = some (.aload_n 0) := mj_lc8 (i := 53) rfl
theorem ji_0_864 : mj_ins 0 864 = some (.iload_n 3) := mj_lc8 (i := 54) rfl
theorem ji_0_865 : mj_ins 0 865 = some (.iconst 2) := mj_lc8 (i := 55) rfl
theorem ji_0_866 : mj_ins 0 866 = some (.iadd) := mj_lc8 (i := 56) rfl
theorem ji_0_867 : mj_ins 0 867 = some (.iaload) := mj_lc8 (i := 57) rfl
theorem ji_0_868 : mj_ins 0 868 = some (.aload_n 0) := mj_lc8 (i := 58) rfl
theorem ji_0_869 : mj_ins 0 869 = some (.iload_n 3) := mj_lc8 (i := 59) rfl
theorem ji_0_870 : mj_ins 0 870 = some (.iconst 3) := mj_lc9 (i := 0) rfl
theorem ji_0_871 : mj_ins 0 871 = some (.iadd) := mj_lc9 (i := 1) rfl
theorem ji_0_872 : mj_ins 0 872 = some (.iaload) := mj_lc9 (i := 2) rfl
theorem ji_0_873 : mj_ins 0 873 = some (.invokevirtual 107) := mj_lc9 (i := 3) rfl
set_option maxRecDepth 100000 in
theorem jc_0_107 : mj_cal 0 107 = some (2, 275, 3) := by decide +kernel
set_option maxRecDepth 100000 in
theorem jk_275 : mj_cls 275 = 11 := by decide +kernel
theorem ji_0_876 : mj_ins 0 876 = some (.pop) := mj_lc9 (i := 4) rfl
theorem ji_0_877 : mj_ins 0 877 = some (.goto 673) := mj_lc9 (i := 5) rfl
theorem ji_0_880 : mj_ins 0 880 = some (.aload_n 1) := mj_lc9 (i := 6) rfl
theorem ji_0_881 : mj_ins 0 881 = some (.aload_n 0) := mj_lc9 (i := 7) rfl
theorem ji_0_882 : mj_ins 0 882 = some (.iload_n 3) := mj_lc9 (i := 8) rfl
theorem ji_0_883 : mj_ins 0 883 = some (.iconst 1) := mj_lc9 (i := 9) rfl
theorem ji_0_884 : mj_ins 0 884 = some (.iadd) := mj_lc9 (i := 10) rfl
theorem ji_0_885 : mj_ins 0 885 = some (.iaload) := mj_lc9 (i := 11) rfl
theorem ji_0_886 : mj_ins 0 886 = some (.invokevirtual 108) := mj_lc9 (i := 12) rfl
set_option maxRecDepth 100000 in
theorem jc_0_108 : mj_cal 0 108 = some (2, 109, 1) := by decide +kernel
set_option maxRecDepth 100000 in
theorem jk_109 : mj_cls 109 = 0 := by decide +kernel
theorem ji_0_889 : mj_ins 0 889 = some (.pop) := mj_lc9 (i := 13) rfl
theorem ji_0_890 : mj_ins 0 890 = some (.aload_n 2) := mj_lc9 (i := 14) rfl
theorem ji_0_891 : mj_ins 0 891 = some (.aload_n 0) := mj_lc9 (i := 15) rfl
theorem ji_0_892 : mj_ins 0 892 = some (.iload_n 3) := mj_lc9 (i := 16) rfl
theorem ji_0_893 : mj_ins 0 893 = some (.iconst 1) := mj_lc9 (i := 17) rfl
theorem ji_0_894 : mj_ins 0 894 = some (.iadd) := mj_lc9 (i := 18) rfl
theorem ji_0_895 : mj_ins 0 895 = some (.iaload) := mj_lc9 (i := 19) rfl
theorem ji_0_896 : mj_ins 0 896 = some (.invokevirtual 111) := mj_lc9 (i := 20) rfl
set_option maxRecDepth 100000 in
theorem jc_0_111 : mj_cal 0 111 = some (2, 276, 1) := by decide +kernel
set_option maxRecDepth 100000 in
theorem jk_276 : mj_cls 276 = 11 := by decide +kernel
theorem ji_0_899 : mj_ins 0 899 = some (.pop) := mj_lc9 (i := 21) rfl
theorem ji_0_900 : mj_ins 0 900 = some (.goto 650) := mj_lc9 (i := 22) rfl
theorem ji_0_903 : mj_ins 0 903 = some (.aload_n 1) := mj_lc9 (i := 23) rfl
theorem ji_0_904 : mj_ins 0 904 = some (.aload_n 0) := mj_lc9 (i := 24) rfl
theorem ji_0_905 : mj_ins 0 905 = some (.iload_n 3) := mj_lc9 (i := 25) rfl
theorem ji_0_906 : mj_ins 0 906 = some (.iconst 1) := mj_lc9 (i := 26) rfl
theorem ji_0_907 : mj_ins 0 907 = some (.iadd) := mj_lc9 (i := 27) rfl
theorem ji_0_908 : mj_ins 0 908 = some (.iaload) := mj_lc9 (i := 28) rfl
theorem ji_0_909 : mj_ins 0 909 = some (.invokevirtual 112) := mj_lc9 (i := 29) rfl
set_option maxRecDepth 100000 in
theorem jc_0_112 : mj_cal 0 112 = some (2, 110, 1) := by decide +kernel
set_option maxRecDepth 100000 in
theorem jk_110 : mj_cls 110 = 0 := by decide +kernel
theorem ji_0_912 : mj_ins 0 912 = some (.pop) := mj_lc9 (i := 30) rfl
theorem ji_0_913 : mj_ins 0 913 = some (.aload_n 2) := mj_lc9 (i := 31) rfl
theorem ji_0_914 : mj_ins 0 914 = some (.aload_n 0) := mj_lc9 (i := 32) rfl
theorem ji_0_915 : mj_ins 0 915 = some (.iload_n 3) := mj_lc9 (i := 33) rfl
theorem ji_0_916 : mj_ins 0 916 = some (.iconst 1) := mj_lc9 (i := 34) rfl
theorem ji_0_917 : mj_ins 0 917 = some (.iadd) := mj_lc9 (i := 35) rfl
theorem ji_0_918 : mj_ins 0 918 = some (.iaload) := mj_lc9 (i := 36) rfl
theorem ji_0_919 : mj_ins 0 919 = some (.invokevirtual 115) := mj_lc9 (i := 37) rfl
set_option maxRecDepth 100000 in
theorem jc_0_115 : mj_cal 0 115 = some (2, 269, 1) := by decide +kernel
set_option maxRecDepth 100000 in
theorem jk_269 : mj_cls 269 = 11 := by decide +kernel
theorem ji_0_922 : mj_ins 0 922 = some (.pop) := mj_lc9 (i := 38) rfl
theorem ji_0_923 : mj_ins 0 923 = some (.goto 627) := mj_lc9 (i := 39) rfl
theorem ji_0_926 : mj_ins 0 926 = some (.aload_n 1) := mj_lc9 (i := 40) rfl
theorem ji_0_927 : mj_ins 0 927 = some (.aload_n 0) := mj_lc9 (i := 41) rfl
theorem ji_0_928 : mj_ins 0 928 = some (.iload_n 3) := mj_lc9 (i := 42) rfl
theorem ji_0_929 : mj_ins 0 929 = some (.iconst 1) := mj_lc9 (i := 43) rfl
theorem ji_0_930 : mj_ins 0 930 = some (.iadd) := mj_lc9 (i := 44) rfl
theorem ji_0_931 : mj_ins 0 931 = some (.iaload) := mj_lc9 (i := 45) rfl
theorem ji_0_932 : mj_ins 0 932 = some (.invokevirtual 116) := mj_lc9 (i := 46) rfl
set_option maxRecDepth 100000 in
theorem jc_0_116 : mj_cal 0 116 = some (2, 112, 1) := by decide +kernel
set_option maxRecDepth 100000 in
theorem jk_112 : mj_cls 112 = 0 := by decide +kernel
theorem ji_0_935 : mj_ins 0 935 = some (.pop) := mj_lc9 (i := 47) rfl
theorem ji_0_936 : mj_ins 0 936 = some (.aload_n 2) := mj_lc9 (i := 48) rfl
theorem ji_0_937 : mj_ins 0 937 = some (.aload_n 0) := mj_lc9 (i := 49) rfl
theorem ji_0_938 : mj_ins 0 938 = some (.iload_n 3) := mj_lc9 (i := 50) rfl
theorem ji_0_939 : mj_ins 0 939 = some (.iconst 1) := mj_lc9 (i := 51) rfl
theorem ji_0_940 : mj_ins 0 940 = some (.iadd) := mj_lc9 (i := 52) rfl
theorem ji_0_941 : mj_ins 0 941 = some (.iaload) := mj_lc9 (i := 53) rfl
theorem ji_0_942 : mj_ins 0 942 = some (.invokevirtual 119) := mj_lc9 (i := 54) rfl
set_option maxRecDepth 100000 in
theorem jc_0_119 : mj_cal 0 119 = some (2, 270, 1) := by decide +kernel
set_option maxRecDepth 100000 in
theorem jk_270 : mj_cls 270 = 11 := by decide +kernel
theorem ji_0_945 : mj_ins 0 945 = some (.pop) := mj_lc9 (i := 55) rfl
theorem ji_0_946 : mj_ins 0 946 = some (.goto 604) := mj_lc9 (i := 56) rfl
theorem ji_0_949 : mj_ins 0 949 = some (.aload_n 1) := mj_lc9 (i := 57) rfl
theorem ji_0_950 : mj_ins 0 950 = some (.aload_n 0) := mj_lc9 (i := 58) rfl
theorem ji_0_951 : mj_ins 0 951 = some (.iload_n 3) := mj_lc9 (i := 59) rfl
theorem ji_0_952 : mj_ins 0 952 = some (.iconst 1) := mj_lc10 (i := 0) rfl
theorem ji_0_953 : mj_ins 0 953 = some (.iadd) := mj_lc10 (i := 1) rfl
theorem ji_0_954 : mj_ins 0 954 = some (.iaload) := mj_lc10 (i := 2) rfl
theorem ji_0_955 : mj_ins 0 955 = some (.aload_n 0) := mj_lc10 (i := 3) rfl
theorem ji_0_956 : mj_ins 0 956 = some (.iload_n 3) := mj_lc10 (i := 4) rfl
theorem ji_0_957 : mj_ins 0 957 = some (.iconst 2) := mj_lc10 (i := 5) rfl
theorem ji_0_958 : mj_ins 0 958 = some (.iadd) := mj_lc10 (i := 6) rfl
theorem ji_0_959 : mj_ins 0 959 = some (.iaload) := mj_lc10 (i := 7) rfl
theorem ji_0_960 : mj_ins 0 960 = some (.aload_n 0) := mj_lc10 (i := 8) rfl
theorem ji_0_961 : mj_ins 0 961 = some (.iload_n 3) := mj_lc10 (i := 9) rfl
theorem ji_0_962 : mj_ins 0 962 = some (.iconst 3) := mj_lc10 (i := 10) rfl
theorem ji_0_963 : mj_ins 0 963 = some (.iadd) := mj_lc10 (i := 11) rfl
theorem ji_0_964 : mj_ins 0 964 = some (.iaload) := mj_lc10 (i := 12) rfl
theorem ji_0_965 : mj_ins 0 965 = some (.ifCond .eq 7) := mj_lc10 (i := 13) rfl
theorem ji_0_972 : mj_ins 0 972 = some (.iconst 0) := mj_lc10 (i := 16) rfl
theorem ji_0_973 : mj_ins 0 973 = some (.invokevirtual 120) := mj_lc10 (i := 17) rfl
set_option maxRecDepth 100000 in
theorem jc_0_120 : mj_cal 0 120 = some (2, 114, 3) := by decide +kernel
set_option maxRecDepth 100000 in
theorem jk_114 : mj_cls 114 = 0 := by decide +kernel
theorem ji_0_976 : mj_ins 0 976 = some (.pop2) := mj_lc10 (i := 18) rfl
theorem ji_0_977 : mj_ins 0 977 = some (.aload_n 2) := mj_lc10 (i := 19) rfl
theorem ji_0_978 : mj_ins 0 978 = some (.aload_n 0) := mj_lc10 (i := 20) rfl
theorem ji_0_979 : mj_ins 0 979 = some (.iload_n 3) := mj_lc10 (i := 21) rfl
theorem ji_0_980 : mj_ins 0 980 = some (.iconst 1) := mj_lc10 (i := 22) rfl
theorem ji_0_981 : mj_ins 0 981 = some (.iadd) := mj_lc10 (i := 23) rfl
theorem ji_0_982 : mj_ins 0 982 = some (.iaload) := mj_lc10 (i := 24) rfl
theorem ji_0_983 : mj_ins 0 983 = some (.aload_n 0) := mj_lc10 (i := 25) rfl
theorem ji_0_984 : mj_ins 0 984 = some (.iload_n 3) := mj_lc10 (i := 26) rfl
theorem ji_0_985 : mj_ins 0 985 = some (.iconst 2) := mj_lc10 (i := 27) rfl
theorem ji_0_986 : mj_ins 0 986 = some (.iadd) := mj_lc10 (i := 28) rfl
theorem ji_0_987 : mj_ins 0 987 = some (.iaload) := mj_lc10 (i := 29) rfl
theorem ji_0_988 : mj_ins 0 988 = some (.aload_n 0) := mj_lc10 (i := 30) rfl
theorem ji_0_989 : mj_ins 0 989 = some (.iload_n 3) := mj_lc10 (i := 31) rfl
theorem ji_0_990 : mj_ins 0 990 = some (.iconst 3) := mj_lc10 (i := 32) rfl
theorem ji_0_991 : mj_ins 0 991 = some (.iadd) := mj_lc10 (i := 33) rfl
theorem ji_0_992 : mj_ins 0 992 = some (.iaload) := mj_lc10 (i := 34) rfl
theorem ji_0_993 : mj_ins 0 993 = some (.ifCond .eq 7) := mj_lc10 (i := 35) rfl
theorem ji_0_1000 : mj_ins 0 1000 = some (.iconst 0) := mj_lc10 (i := 38) rfl
theorem ji_0_1001 : mj_ins 0 1001 = some (.invokevirtual 124) := mj_lc10 (i := 39) rfl
set_option maxRecDepth 100000 in
theorem jc_0_124 : mj_cal 0 124 = some (2, 277, 3) := by decide +kernel
set_option maxRecDepth 100000 in
theorem jk_277 : mj_cls 277 = 11 := by decide +kernel
theorem ji_0_1004 : mj_ins 0 1004 = some (.pop2) := mj_lc10 (i := 40) rfl
theorem ji_0_1005 : mj_ins 0 1005 = some (.goto 545) := mj_lc10 (i := 41) rfl
theorem ji_0_968 : mj_ins 0 968 = some (.iconst 1) := mj_lc10 (i := 14) rfl
theorem ji_0_969 : mj_ins 0 969 = some (.goto 4) := mj_lc10 (i := 15) rfl
theorem ji_0_996 : mj_ins 0 996 = some (.iconst 1) := mj_lc10 (i := 36) rfl
theorem ji_0_997 : mj_ins 0 997 = some (.goto 4) := mj_lc10 (i := 37) rfl
theorem ji_0_1008 : mj_ins 0 1008 = some (.aload_n 1) := mj_lc10 (i := 42) rfl
theorem ji_0_1009 : mj_ins 0 1009 = some (.aload_n 0) := mj_lc10 (i := 43) rfl
theorem ji_0_1010 : mj_ins 0 1010 = some (.iload_n 3) := mj_lc10 (i := 44) rfl
theorem ji_0_1011 : mj_ins 0 1011 = some (.iconst 1) := mj_lc10 (i := 45) rfl
theorem ji_0_1012 : mj_ins 0 1012 = some (.iadd) := mj_lc10 (i := 46) rfl
theorem ji_0_1013 : mj_ins 0 1013 = some (.iaload) := mj_lc10 (i := 47) rfl
theorem ji_0_1014 : mj_ins 0 1014 = some (.aload_n 0) := mj_lc10 (i := 48) rfl
theorem ji_0_1015 : mj_ins 0 1015 = some (.iload_n 3) := mj_lc10 (i := 49) rfl
theorem ji_0_1016 : mj_ins 0 1016 = some (.iconst 2) := mj_lc10 (i := 50) rfl
theorem ji_0_1017 : mj_ins 0 1017 = some (.iadd) := mj_lc10 (i := 51) rfl
theorem ji_0_1018 : mj_ins 0 1018 = some (.iaload) := mj_lc10 (i := 52) rfl
theorem ji_0_1019 : mj_ins 0 1019 = some (.aload_n 0) := mj_lc10 (i := 53) rfl
theorem ji_0_1020 : mj_ins 0 1020 = some (.iload_n 3) := mj_lc10 (i := 54) rfl
theorem ji_0_1021 : mj_ins 0 1021 = some (.iconst 3) := mj_lc10 (i := 55) rfl
theorem ji_0_1022 : mj_ins 0 1022 = some (.iadd) := mj_lc10 (i := 56) rfl
theorem ji_0_1023 : mj_ins 0 1023 = some (.iaload) := mj_lc10 (i := 57) rfl
theorem ji_0_1024 : mj_ins 0 1024 = some (.invokevirtual 125) := mj_lc10 (i := 58) rfl
set_option maxRecDepth 100000 in
theorem jc_0_125 : mj_cal 0 125 = some (2, 118, 3) := by decide +kernel
set_option maxRecDepth 100000 in
theorem jk_118 : mj_cls 118 = 0 := by decide +kernel
theorem ji_0_1027 : mj_ins 0 1027 = some (.pop) := mj_lc10 (i := 59) rfl
theorem ji_0_1028 : mj_ins 0 1028 = some (.aload_n 2) := mj_lc11 (i := 0) rfl
theorem ji_0_1029 : mj_ins 0 1029 = some (.aload_n 0) := mj_lc11 (i := 1) rfl
theorem ji_0_1030 : mj_ins 0 1030 = some (.iload_n 3) := mj_lc11 (i := 2) rfl
theorem ji_0_1031 : mj_ins 0 1031 = some (.iconst 1) := mj_lc11 (i := 3) rfl
theorem ji_0_1032 : mj_ins 0 1032 = some (.iadd) := mj_lc11 (i := 4) rfl
theorem ji_0_1033 : mj_ins 0 1033 = some (.iaload) := mj_lc11 (i := 5) rfl
theorem ji_0_1034 : mj_ins 0 1034 = some (.aload_n 0) := mj_lc11 (i := 6) rfl
theorem ji_0_1035 : mj_ins 0 1035 = some (.iload_n 3) := mj_lc11 (i := 7) rfl
theorem ji_0_1036 : mj_ins 0 1036 = some (.iconst 2) := mj_lc11 (i := 8) rfl
theorem ji_0_1037 : mj_ins 0 1037 = some (.iadd) := mj_lc11 (i := 9) rfl
theorem ji_0_1038 : mj_ins 0 1038 = some (.iaload) := mj_lc11 (i := 10) rfl
theorem ji_0_1039 : mj_ins 0 1039 = some (.aload_n 0) := mj_lc11 (i := 11) rfl
theorem ji_0_1040 : mj_ins 0 1040 = some (.iload_n 3) := mj_lc11 (i := 12) rfl
theorem ji_0_1041 : mj_ins 0 1041 = some (.iconst 3) := mj_lc11 (i := 13) rfl
theorem ji_0_1042 : mj_ins 0 1042 = some (.iadd) := mj_lc11 (i := 14) rfl
theorem ji_0_1043 : mj_ins 0 1043 = some (.iaload) := mj_lc11 (i := 15) rfl
theorem ji_0_1044 : mj_ins 0 1044 = some (.invokevirtual 128) := mj_lc11 (i := 16) rfl
set_option maxRecDepth 100000 in
theorem jc_0_128 : mj_cal 0 128 = some (2, 281, 3) := by decide +kernel
set_option maxRecDepth 100000 in
theorem jk_281 : mj_cls 281 = 11 := by decide +kernel
theorem ji_0_1047 : mj_ins 0 1047 = some (.pop) := mj_lc11 (i := 17) rfl
theorem ji_0_1048 : mj_ins 0 1048 = some (.goto 502) := mj_lc11 (i := 18) rfl
theorem ji_0_1051 : mj_ins 0 1051 = some (.aload_n 1) := mj_lc11 (i := 19) rfl
theorem ji_0_1052 : mj_ins 0 1052 = some (.aload_n 0) := mj_lc11 (i := 20) rfl
theorem ji_0_1053 : mj_ins 0 1053 = some (.iload_n 3) := mj_lc11 (i := 21) rfl
theorem ji_0_1054 : mj_ins 0 1054 = some (.iconst 1) := mj_lc11 (i := 22) rfl
theorem ji_0_1055 : mj_ins 0 1055 = some (.iadd) := mj_lc11 (i := 23) rfl
theorem ji_0_1056 : mj_ins 0 1056 = some (.iaload) := mj_lc11 (i := 24) rfl
theorem ji_0_1057 : mj_ins 0 1057 = some (.invokevirtual 129) := mj_lc11 (i := 25) rfl
set_option maxRecDepth 100000 in
theorem jc_0_129 : mj_cal 0 129 = some (2, 121, 1) := by decide +kernel
set_option maxRecDepth 100000 in
theorem jk_121 : mj_cls 121 = 0 := by decide +kernel
theorem ji_0_1060 : mj_ins 0 1060 = some (.pop) := mj_lc11 (i := 26) rfl
theorem ji_0_1061 : mj_ins 0 1061 = some (.aload_n 2) := mj_lc11 (i := 27) rfl
theorem ji_0_1062 : mj_ins 0 1062 = some (.aload_n 0) := mj_lc11 (i := 28) rfl
theorem ji_0_1063 : mj_ins 0 1063 = some (.iload_n 3) := mj_lc11 (i := 29) rfl
theorem ji_0_1064 : mj_ins 0 1064 = some (.iconst 1) := mj_lc11 (i := 30) rfl
theorem ji_0_1065 : mj_ins 0 1065 = some (.iadd) := mj_lc11 (i := 31) rfl
theorem ji_0_1066 : mj_ins 0 1066 = some (.iaload) := mj_lc11 (i := 32) rfl
theorem ji_0_1067 : mj_ins 0 1067 = some (.invokevirtual 132) := mj_lc11 (i := 33) rfl
set_option maxRecDepth 100000 in
theorem jc_0_132 : mj_cal 0 132 = some (2, 285, 1) := by decide +kernel
set_option maxRecDepth 100000 in
theorem jk_285 : mj_cls 285 = 11 := by decide +kernel
theorem ji_0_1070 : mj_ins 0 1070 = some (.pop) := mj_lc11 (i := 34) rfl
theorem ji_0_1071 : mj_ins 0 1071 = some (.goto 479) := mj_lc11 (i := 35) rfl
theorem ji_0_1074 : mj_ins 0 1074 = some (.aload_n 1) := mj_lc11 (i := 36) rfl
theorem ji_0_1075 : mj_ins 0 1075 = some (.aload_n 0) := mj_lc11 (i := 37) rfl
theorem ji_0_1076 : mj_ins 0 1076 = some (.iload_n 3) := mj_lc11 (i := 38) rfl
theorem ji_0_1077 : mj_ins 0 1077 = some (.iconst 1) := mj_lc11 (i := 39) rfl
theorem ji_0_1078 : mj_ins 0 1078 = some (.iadd) := mj_lc11 (i := 40) rfl
theorem ji_0_1079 : mj_ins 0 1079 = some (.iaload) := mj_lc11 (i := 41) rfl
theorem ji_0_1080 : mj_ins 0 1080 = some (.invokevirtual 133) := mj_lc11 (i := 42) rfl
set_option maxRecDepth 100000 in
theorem jc_0_133 : mj_cal 0 133 = some (2, 124, 1) := by decide +kernel
set_option maxRecDepth 100000 in
theorem jk_124 : mj_cls 124 = 0 := by decide +kernel
theorem ji_0_1083 : mj_ins 0 1083 = some (.pop) := mj_lc11 (i := 43) rfl
theorem ji_0_1084 : mj_ins 0 1084 = some (.aload_n 2) := mj_lc11 (i := 44) rfl
theorem ji_0_1085 : mj_ins 0 1085 = some (.aload_n 0) := mj_lc11 (i := 45) rfl
theorem ji_0_1086 : mj_ins 0 1086 = some (.iload_n 3) := mj_lc11 (i := 46) rfl
theorem ji_0_1087 : mj_ins 0 1087 = some (.iconst 1) := mj_lc11 (i := 47) rfl
theorem ji_0_1088 : mj_ins 0 1088 = some (.iadd) := mj_lc11 (i := 48) rfl
theorem ji_0_1089 : mj_ins 0 1089 = some (.iaload) := mj_lc11 (i := 49) rfl
theorem ji_0_1090 : mj_ins 0 1090 = some (.invokevirtual 136) := mj_lc11 (i := 50) rfl
set_option maxRecDepth 100000 in
theorem jc_0_136 : mj_cal 0 136 = some (2, 287, 1) := by decide +kernel
set_option maxRecDepth 100000 in
theorem jk_287 : mj_cls 287 = 11 := by decide +kernel
theorem ji_0_1093 : mj_ins 0 1093 = some (.pop) := mj_lc11 (i := 51) rfl
theorem ji_0_1094 : mj_ins 0 1094 = some (.goto 456) := mj_lc11 (i := 52) rfl
theorem ji_0_1097 : mj_ins 0 1097 = some (.aload_n 1) := mj_lc11 (i := 53) rfl
theorem ji_0_1098 : mj_ins 0 1098 = some (.aload_n 0) := mj_lc11 (i := 54) rfl
theorem ji_0_1099 : mj_ins 0 1099 = some (.iload_n 3) := mj_lc11 (i := 55) rfl
theorem ji_0_1100 : mj_ins 0 1100 = some (.iconst 1) := mj_lc11 (i := 56) rfl
theorem ji_0_1101 : mj_ins 0 1101 = some (.iadd) := mj_lc11 (i := 57) rfl
theorem ji_0_1102 : mj_ins 0 1102 = some (.iaload) := mj_lc11 (i := 58) rfl
theorem ji_0_1103 : mj_ins 0 1103 = some (.invokevirtual 137) := mj_lc11 (i := 59) rfl
set_option maxRecDepth 100000 in
theorem jc_0_137 : mj_cal 0 137 = some (2, 126, 1) := by decide +kernel
set_option maxRecDepth 100000 in
theorem jk_126 : mj_cls 126 = 0 := by decide +kernel
theorem ji_0_1106 : mj_ins 0 1106 = some (.pop) := mj_lc12 (i := 0) rfl
theorem ji_0_1107 : mj_ins 0 1107 = some (.aload_n 2) := mj_lc12 (i := 1) rfl
theorem ji_0_1108 : mj_ins 0 1108 = some (.aload_n 0) := mj_lc12 (i := 2) rfl
theorem ji_0_1109 : mj_ins 0 1109 = some (.iload_n 3) := mj_lc12 (i := 3) rfl
theorem ji_0_1110 : mj_ins 0 1110 = some (.iconst 1) := mj_lc12 (i := 4) rfl
theorem ji_0_1111 : mj_ins 0 1111 = some (.iadd) := mj_lc12 (i := 5) rfl
theorem ji_0_1112 : mj_ins 0 1112 = some (.iaload) := mj_lc12 (i := 6) rfl
theorem ji_0_1113 : mj_ins 0 1113 = some (.invokevirtual 140) := mj_lc12 (i := 7) rfl
set_option maxRecDepth 100000 in
theorem jc_0_140 : mj_cal 0 140 = some (2, 288, 1) := by decide +kernel
set_option maxRecDepth 100000 in
theorem jk_288 : mj_cls 288 = 11 := by decide +kernel
theorem ji_0_1116 : mj_ins 0 1116 = some (.pop) := mj_lc12 (i := 8) rfl
theorem ji_0_1117 : mj_ins 0 1117 = some (.goto 433) := mj_lc12 (i := 9) rfl
theorem ji_0_1120 : mj_ins 0 1120 = some (.aload_n 1) := mj_lc12 (i := 10) rfl
theorem ji_0_1121 : mj_ins 0 1121 = some (.aload_n 0) := mj_lc12 (i := 11) rfl
theorem ji_0_1122 : mj_ins 0 1122 = some (.iload_n 3) := mj_lc12 (i := 12) rfl
theorem ji_0_1123 : mj_ins 0 1123 = some (.iconst 1) := mj_lc12 (i := 13) rfl
theorem ji_0_1124 : mj_ins 0 1124 = some (.iadd) := mj_lc12 (i := 14) rfl
theorem ji_0_1125 : mj_ins 0 1125 = some (.iaload) := mj_lc12 (i := 15) rfl
theorem ji_0_1126 : mj_ins 0 1126 = some (.invokevirtual 141) := mj_lc12 (i := 16) rfl
set_option maxRecDepth 100000 in
theorem jc_0_141 : mj_cal 0 141 = some (2, 129, 1) := by decide +kernel
set_option maxRecDepth 100000 in
theorem jk_129 : mj_cls 129 = 0 := by decide +kernel
theorem ji_0_1129 : mj_ins 0 1129 = some (.pop) := mj_lc12 (i := 17) rfl
theorem ji_0_1130 : mj_ins 0 1130 = some (.aload_n 2) := mj_lc12 (i := 18) rfl
theorem ji_0_1131 : mj_ins 0 1131 = some (.aload_n 0) := mj_lc12 (i := 19) rfl
theorem ji_0_1132 : mj_ins 0 1132 = some (.iload_n 3) := mj_lc12 (i := 20) rfl
theorem ji_0_1133 : mj_ins 0 1133 = some (.iconst 1) := mj_lc12 (i := 21) rfl
theorem ji_0_1134 : mj_ins 0 1134 = some (.iadd) := mj_lc12 (i := 22) rfl
theorem ji_0_1135 : mj_ins 0 1135 = some (.iaload) := mj_lc12 (i := 23) rfl
theorem ji_0_1136 : mj_ins 0 1136 = some (.invokevirtual 144) := mj_lc12 (i := 24) rfl
set_option maxRecDepth 100000 in
theorem jc_0_144 : mj_cal 0 144 = some (2, 290, 1) := by decide +kernel
set_option maxRecDepth 100000 in
theorem jk_290 : mj_cls 290 = 11 := by decide +kernel
theorem ji_0_1139 : mj_ins 0 1139 = some (.pop) := mj_lc12 (i := 25) rfl
theorem ji_0_1140 : mj_ins 0 1140 = some (.goto 410) := mj_lc12 (i := 26) rfl
theorem ji_0_1143 : mj_ins 0 1143 = some (.aload_n 1) := mj_lc12 (i := 27) rfl
theorem ji_0_1144 : mj_ins 0 1144 = some (.invokevirtual 145) := mj_lc12 (i := 28) rfl
set_option maxRecDepth 100000 in
theorem jc_0_145 : mj_cal 0 145 = some (2, 131, 0) := by decide +kernel
set_option maxRecDepth 100000 in
theorem jk_131 : mj_cls 131 = 0 := by decide +kernel
theorem ji_0_1147 : mj_ins 0 1147 = some (.pop) := mj_lc12 (i := 29) rfl
theorem ji_0_1148 : mj_ins 0 1148 = some (.aload_n 2) := mj_lc12 (i := 30) rfl
theorem ji_0_1149 : mj_ins 0 1149 = some (.invokevirtual 148) := mj_lc12 (i := 31) rfl
set_option maxRecDepth 100000 in
theorem jc_0_148 : mj_cal 0 148 = some (2, 292, 0) := by decide +kernel
set_option maxRecDepth 100000 in
theorem jk_292 : mj_cls 292 = 11 := by decide +kernel
theorem ji_0_1152 : mj_ins 0 1152 = some (.pop) := mj_lc12 (i := 32) rfl
theorem ji_0_1153 : mj_ins 0 1153 = some (.goto 397) := mj_lc12 (i := 33) rfl
theorem ji_0_1156 : mj_ins 0 1156 = some (.aload_n 1) := mj_lc12 (i := 34) rfl
theorem ji_0_1157 : mj_ins 0 1157 = some (.aload_n 0) := mj_lc12 (i := 35) rfl
theorem ji_0_1158 : mj_ins 0 1158 = some (.iload_n 3) := mj_lc12 (i := 36) rfl
theorem ji_0_1159 : mj_ins 0 1159 = some (.iconst 1) := mj_lc12 (i := 37) rfl
theorem ji_0_1160 : mj_ins 0 1160 = some (.iadd) := mj_lc12 (i := 38) rfl
theorem ji_0_1161 : mj_ins 0 1161 = some (.iaload) := mj_lc12 (i := 39) rfl
theorem ji_0_1162 : mj_ins 0 1162 = some (.aload_n 0) := mj_lc12 (i := 40) rfl
theorem ji_0_1163 : mj_ins 0 1163 = some (.iload_n 3) := mj_lc12 (i := 41) rfl
theorem ji_0_1164 : mj_ins 0 1164 = some (.iconst 2) := mj_lc12 (i := 42) rfl
theorem ji_0_1165 : mj_ins 0 1165 = some (.iadd) := mj_lc12 (i := 43) rfl
theorem ji_0_1166 : mj_ins 0 1166 = some (.iaload) := mj_lc12 (i := 44) rfl
theorem ji_0_1167 : mj_ins 0 1167 = some (.aload_n 0) := mj_lc12 (i := 45) rfl
theorem ji_0_1168 : mj_ins 0 1168 = some (.iload_n 3) := mj_lc12 (i := 46) rfl
theorem ji_0_1169 : mj_ins 0 1169 = some (.iconst 3) := mj_lc12 (i := 47) rfl
theorem ji_0_1170 : mj_ins 0 1170 = some (.iadd) := mj_lc12 (i := 48) rfl
theorem ji_0_1171 : mj_ins 0 1171 = some (.iaload) := mj_lc12 (i := 49) rfl
theorem ji_0_1172 : mj_ins 0 1172 = some (.ifCond .eq 7) := mj_lc12 (i := 50) rfl
theorem ji_0_1179 : mj_ins 0 1179 = some (.iconst 0) := mj_lc12 (i := 53) rfl
theorem ji_0_1180 : mj_ins 0 1180 = some (.invokevirtual 149) := mj_lc12 (i := 54) rfl
set_option maxRecDepth 100000 in
theorem jc_0_149 : mj_cal 0 149 = some (2, 134, 3) := by decide +kernel
set_option maxRecDepth 100000 in
theorem jk_134 : mj_cls 134 = 0 := by decide +kernel
theorem ji_0_1183 : mj_ins 0 1183 = some (.pop) := mj_lc12 (i := 55) rfl
theorem ji_0_1184 : mj_ins 0 1184 = some (.aload_n 2) := mj_lc12 (i := 56) rfl
theorem ji_0_1185 : mj_ins 0 1185 = some (.aload_n 0) := mj_lc12 (i := 57) rfl
theorem ji_0_1186 : mj_ins 0 1186 = some (.iload_n 3) := mj_lc12 (i := 58) rfl
theorem ji_0_1187 : mj_ins 0 1187 = some (.iconst 1) := mj_lc12 (i := 59) rfl
theorem ji_0_1188 : mj_ins 0 1188 = some (.iadd) := mj_lc13 (i := 0) rfl
theorem ji_0_1189 : mj_ins 0 1189 = some (.iaload) := mj_lc13 (i := 1) rfl
theorem ji_0_1190 : mj_ins 0 1190 = some (.aload_n 0) := mj_lc13 (i := 2) rfl
theorem ji_0_1191 : mj_ins 0 1191 = some (.iload_n 3) := mj_lc13 (i := 3) rfl
theorem ji_0_1192 : mj_ins 0 1192 = some (.iconst 2) := mj_lc13 (i := 4) rfl
theorem ji_0_1193 : mj_ins 0 1193 = some (.iadd) := mj_lc13 (i := 5) rfl
theorem ji_0_1194 : mj_ins 0 1194 = some (.iaload) := mj_lc13 (i := 6) rfl
theorem ji_0_1195 : mj_ins 0 1195 = some (.aload_n 0) := mj_lc13 (i := 7) rfl
theorem ji_0_1196 : mj_ins 0 1196 = some (.iload_n 3) := mj_lc13 (i := 8) rfl
theorem ji_0_1197 : mj_ins 0 1197 = some (.iconst 3) := mj_lc13 (i := 9) rfl
theorem ji_0_1198 : mj_ins 0 1198 = some (.iadd) := mj_lc13 (i := 10) rfl
theorem ji_0_1199 : mj_ins 0 1199 = some (.iaload) := mj_lc13 (i := 11) rfl
theorem ji_0_1200 : mj_ins 0 1200 = some (.ifCond .eq 7) := mj_lc13 (i := 12) rfl
theorem ji_0_1207 : mj_ins 0 1207 = some (.iconst 0) := mj_lc13 (i := 15) rfl
theorem ji_0_1208 : mj_ins 0 1208 = some (.invokevirtual 153) := mj_lc13 (i := 16) rfl
set_option maxRecDepth 100000 in
theorem jc_0_153 : mj_cal 0 153 = some (2, 293, 3) := by decide +kernel
set_option maxRecDepth 100000 in
theorem jk_293 : mj_cls 293 = 11 := by decide +kernel
theorem ji_0_1211 : mj_ins 0 1211 = some (.pop) := mj_lc13 (i := 17) rfl
theorem ji_0_1212 : mj_ins 0 1212 = some (.goto 338) := mj_lc13 (i := 18) rfl
theorem ji_0_1175 : mj_ins 0 1175 = some (.iconst 1) := mj_lc12 (i := 51) rfl
theorem ji_0_1176 : mj_ins 0 1176 = some (.goto 4) := mj_lc12 (i := 52) rfl
theorem ji_0_1203 : mj_ins 0 1203 = some (.iconst 1) := mj_lc13 (i := 13) rfl
theorem ji_0_1204 : mj_ins 0 1204 = some (.goto 4) := mj_lc13 (i := 14) rfl
theorem ji_0_1215 : mj_ins 0 1215 = some (.aload_n 1) := mj_lc13 (i := 19) rfl
theorem ji_0_1216 : mj_ins 0 1216 = some (.aload_n 0) := mj_lc13 (i := 20) rfl
theorem ji_0_1217 : mj_ins 0 1217 = some (.iload_n 3) := mj_lc13 (i := 21) rfl
theorem ji_0_1218 : mj_ins 0 1218 = some (.iconst 1) := mj_lc13 (i := 22) rfl
theorem ji_0_1219 : mj_ins 0 1219 = some (.iadd) := mj_lc13 (i := 23) rfl
theorem ji_0_1220 : mj_ins 0 1220 = some (.iaload) := mj_lc13 (i := 24) rfl
theorem ji_0_1221 : mj_ins 0 1221 = some (.invokevirtual 154) := mj_lc13 (i := 25) rfl
set_option maxRecDepth 100000 in
theorem jc_0_154 : mj_cal 0 154 = some (2, 138, 1) := by decide +kernel
set_option maxRecDepth 100000 in
theorem jk_138 : mj_cls 138 = 0 := by decide +kernel
theorem ji_0_1224 : mj_ins 0 1224 = some (.pop) := mj_lc13 (i := 26) rfl
theorem ji_0_1225 : mj_ins 0 1225 = some (.aload_n 2) := mj_lc13 (i := 27) rfl
theorem ji_0_1226 : mj_ins 0 1226 = some (.aload_n 0) := mj_lc13 (i := 28) rfl
theorem ji_0_1227 : mj_ins 0 1227 = some (.iload_n 3) := mj_lc13 (i := 29) rfl
theorem ji_0_1228 : mj_ins 0 1228 = some (.iconst 1) := mj_lc13 (i := 30) rfl
theorem ji_0_1229 : mj_ins 0 1229 = some (.iadd) := mj_lc13 (i := 31) rfl
theorem ji_0_1230 : mj_ins 0 1230 = some (.iaload) := mj_lc13 (i := 32) rfl
theorem ji_0_1231 : mj_ins 0 1231 = some (.invokevirtual 157) := mj_lc13 (i := 33) rfl
set_option maxRecDepth 100000 in
theorem jc_0_157 : mj_cal 0 157 = some (2, 297, 1) := by decide +kernel
set_option maxRecDepth 100000 in
theorem jk_297 : mj_cls 297 = 11 := by decide +kernel
theorem ji_0_1234 : mj_ins 0 1234 = some (.pop) := mj_lc13 (i := 34) rfl
theorem ji_0_1235 : mj_ins 0 1235 = some (.goto 315) := mj_lc13 (i := 35) rfl
theorem ji_0_1238 : mj_ins 0 1238 = some (.aload_n 1) := mj_lc13 (i := 36) rfl
theorem ji_0_1239 : mj_ins 0 1239 = some (.aload_n 0) := mj_lc13 (i := 37) rfl
theorem ji_0_1240 : mj_ins 0 1240 = some (.iload_n 3) := mj_lc13 (i := 38) rfl
theorem ji_0_1241 : mj_ins 0 1241 = some (.iconst 1) := mj_lc13 (i := 39) rfl
theorem ji_0_1242 : mj_ins 0 1242 = some (.iadd) := mj_lc13 (i := 40) rfl
theorem ji_0_1243 : mj_ins 0 1243 = some (.iaload) := mj_lc13 (i := 41) rfl
theorem ji_0_1244 : mj_ins 0 1244 = some (.aload_n 0) := mj_lc13 (i := 42) rfl
theorem ji_0_1245 : mj_ins 0 1245 = some (.iload_n 3) := mj_lc13 (i := 43) rfl
theorem ji_0_1246 : mj_ins 0 1246 = some (.iconst 2) := mj_lc13 (i := 44) rfl
theorem ji_0_1247 : mj_ins 0 1247 = some (.iadd) := mj_lc13 (i := 45) rfl
theorem ji_0_1248 : mj_ins 0 1248 = some (.iaload) := mj_lc13 (i := 46) rfl
theorem ji_0_1249 : mj_ins 0 1249 = some (.aload_n 0) := mj_lc13 (i := 47) rfl
theorem ji_0_1250 : mj_ins 0 1250 = some (.iload_n 3) := mj_lc13 (i := 48) rfl
theorem ji_0_1251 : mj_ins 0 1251 = some (.iconst 3) := mj_lc13 (i := 49) rfl
theorem ji_0_1252 : mj_ins 0 1252 = some (.iadd) := mj_lc13 (i := 50) rfl
theorem ji_0_1253 : mj_ins 0 1253 = some (.iaload) := mj_lc13 (i := 51) rfl
theorem ji_0_1254 : mj_ins 0 1254 = some (.invokevirtual 158) := mj_lc13 (i := 52) rfl
set_option maxRecDepth 100000 in
theorem jc_0_158 : mj_cal 0 158 = some (2, 140, 3) := by decide +kernel
set_option maxRecDepth 100000 in
theorem jk_140 : mj_cls 140 = 0 := by decide +kernel
theorem ji_0_1257 : mj_ins 0 1257 = some (.pop) := mj_lc13 (i := 53) rfl
theorem ji_0_1258 : mj_ins 0 1258 = some (.aload_n 2) := mj_lc13 (i := 54) rfl
theorem ji_0_1259 : mj_ins 0 1259 = some (.aload_n 0) := mj_lc13 (i := 55) rfl
theorem ji_0_1260 : mj_ins 0 1260 = some (.iload_n 3) := mj_lc13 (i := 56) rfl
theorem ji_0_1261 : mj_ins 0 1261 = some (.iconst 1) := mj_lc13 (i := 57) rfl
theorem ji_0_1262 : mj_ins 0 1262 = some (.iadd) := mj_lc13 (i := 58) rfl
theorem ji_0_1263 : mj_ins 0 1263 = some (.iaload) := mj_lc13 (i := 59) rfl
theorem ji_0_1264 : mj_ins 0 1264 = some (.aload_n 0) := mj_lc14 (i := 0) rfl
theorem ji_0_1265 : mj_ins 0 1265 = some (.iload_n 3) := mj_lc14 (i := 1) rfl
theorem ji_0_1266 : mj_ins 0 1266 = some (.iconst 2) := mj_lc14 (i := 2) rfl
theorem ji_0_1267 : mj_ins 0 1267 = some (.iadd) := mj_lc14 (i := 3) rfl
theorem ji_0_1268 : mj_ins 0 1268 = some (.iaload) := mj_lc14 (i := 4) rfl
theorem ji_0_1269 : mj_ins 0 1269 = some (.aload_n 0) := mj_lc14 (i := 5) rfl
theorem ji_0_1270 : mj_ins 0 1270 = some (.iload_n 3) := mj_lc14 (i := 6) rfl
theorem ji_0_1271 : mj_ins 0 1271 = some (.iconst 3) := mj_lc14 (i := 7) rfl
theorem ji_0_1272 : mj_ins 0 1272 = some (.iadd) := mj_lc14 (i := 8) rfl
theorem ji_0_1273 : mj_ins 0 1273 = some (.iaload) := mj_lc14 (i := 9) rfl
theorem ji_0_1274 : mj_ins 0 1274 = some (.invokevirtual 161) := mj_lc14 (i := 10) rfl
set_option maxRecDepth 100000 in
theorem jc_0_161 : mj_cal 0 161 = some (2, 298, 3) := by decide +kernel
set_option maxRecDepth 100000 in
theorem jk_298 : mj_cls 298 = 11 := by decide +kernel
theorem ji_0_1277 : mj_ins 0 1277 = some (.pop) := mj_lc14 (i := 11) rfl
theorem ji_0_1278 : mj_ins 0 1278 = some (.goto 272) := mj_lc14 (i := 12) rfl
theorem ji_0_1281 : mj_ins 0 1281 = some (.aload_n 1) := mj_lc14 (i := 13) rfl
theorem ji_0_1282 : mj_ins 0 1282 = some (.aload_n 0) := mj_lc14 (i := 14) rfl
theorem ji_0_1283 : mj_ins 0 1283 = some (.iload_n 3) := mj_lc14 (i := 15) rfl
theorem ji_0_1284 : mj_ins 0 1284 = some (.iconst 1) := mj_lc14 (i := 16) rfl
theorem ji_0_1285 : mj_ins 0 1285 = some (.iadd) := mj_lc14 (i := 17) rfl
theorem ji_0_1286 : mj_ins 0 1286 = some (.iaload) := mj_lc14 (i := 18) rfl
theorem ji_0_1287 : mj_ins 0 1287 = some (.aload_n 0) := mj_lc14 (i := 19) rfl
theorem ji_0_1288 : mj_ins 0 1288 = some (.iload_n 3) := mj_lc14 (i := 20) rfl
theorem ji_0_1289 : mj_ins 0 1289 = some (.iconst 2) := mj_lc14 (i := 21) rfl
theorem ji_0_1290 : mj_ins 0 1290 = some (.iadd) := mj_lc14 (i := 22) rfl
theorem ji_0_1291 : mj_ins 0 1291 = some (.iaload) := mj_lc14 (i := 23) rfl
theorem ji_0_1292 : mj_ins 0 1292 = some (.aload_n 0) := mj_lc14 (i := 24) rfl
theorem ji_0_1293 : mj_ins 0 1293 = some (.iload_n 3) := mj_lc14 (i := 25) rfl
theorem ji_0_1294 : mj_ins 0 1294 = some (.iconst 3) := mj_lc14 (i := 26) rfl
theorem ji_0_1295 : mj_ins 0 1295 = some (.iadd) := mj_lc14 (i := 27) rfl
theorem ji_0_1296 : mj_ins 0 1296 = some (.iaload) := mj_lc14 (i := 28) rfl
theorem ji_0_1297 : mj_ins 0 1297 = some (.invokevirtual 162) := mj_lc14 (i := 29) rfl
set_option maxRecDepth 100000 in
theorem jc_0_162 : mj_cal 0 162 = some (2, 142, 3) := by decide +kernel
set_option maxRecDepth 100000 in
theorem jk_142 : mj_cls 142 = 0 := by decide +kernel
theorem ji_0_1300 : mj_ins 0 1300 = some (.pop) := mj_lc14 (i := 30) rfl
theorem ji_0_1301 : mj_ins 0 1301 = some (.aload_n 2) := mj_lc14 (i := 31) rfl
theorem ji_0_1302 : mj_ins 0 1302 = some (.aload_n 0) := mj_lc14 (i := 32) rfl
theorem ji_0_1303 : mj_ins 0 1303 = some (.iload_n 3) := mj_lc14 (i := 33) rfl
theorem ji_0_1304 : mj_ins 0 1304 = some (.iconst 1) := mj_lc14 (i := 34) rfl
theorem ji_0_1305 : mj_ins 0 1305 = some (.iadd) := mj_lc14 (i := 35) rfl
theorem ji_0_1306 : mj_ins 0 1306 = some (.iaload) := mj_lc14 (i := 36) rfl
theorem ji_0_1307 : mj_ins 0 1307 = some (.aload_n 0) := mj_lc14 (i := 37) rfl
theorem ji_0_1308 : mj_ins 0 1308 = some (.iload_n 3) := mj_lc14 (i := 38) rfl
theorem ji_0_1309 : mj_ins 0 1309 = some (.iconst 2) := mj_lc14 (i := 39) rfl
theorem ji_0_1310 : mj_ins 0 1310 = some (.iadd) := mj_lc14 (i := 40) rfl
theorem ji_0_1311 : mj_ins 0 1311 = some (.iaload) := mj_lc14 (i := 41) rfl
theorem ji_0_1312 : mj_ins 0 1312 = some (.aload_n 0) := mj_lc14 (i := 42) rfl
theorem ji_0_1313 : mj_ins 0 1313 = some (.iload_n 3) := mj_lc14 (i := 43) rfl
theorem ji_0_1314 : mj_ins 0 1314 = some (.iconst 3) := mj_lc14 (i := 44) rfl
theorem ji_0_1315 : mj_ins 0 1315 = some (.iadd) := mj_lc14 (i := 45) rfl
theorem ji_0_1316 : mj_ins 0 1316 = some (.iaload) := mj_lc14 (i := 46) rfl
theorem ji_0_1317 : mj_ins 0 1317 = some (.invokevirtual 165) := mj_lc14 (i := 47) rfl
set_option maxRecDepth 100000 in
theorem jc_0_165 : mj_cal 0 165 = some (2, 299, 3) := by decide +kernel
set_option maxRecDepth 100000 in
theorem jk_299 : mj_cls 299 = 11 := by decide +kernel
theorem ji_0_1320 : mj_ins 0 1320 = some (.pop) := mj_lc14 (i := 48) rfl
theorem ji_0_1321 : mj_ins 0 1321 = some (.goto 229) := mj_lc14 (i := 49) rfl
theorem ji_0_1324 : mj_ins 0 1324 = some (.aload_n 1) := mj_lc14 (i := 50) rfl
theorem ji_0_1325 : mj_ins 0 1325 = some (.aload_n 0) := mj_lc14 (i := 51) rfl
theorem ji_0_1326 : mj_ins 0 1326 = some (.iload_n 3) := mj_lc14 (i := 52) rfl
theorem ji_0_1327 : mj_ins 0 1327 = some (.iconst 1) := mj_lc14 (i := 53) rfl
theorem ji_0_1328 : mj_ins 0 1328 = some (.iadd) := mj_lc14 (i := 54) rfl
theorem ji_0_1329 : mj_ins 0 1329 = some (.iaload) := mj_lc14 (i := 55) rfl
theorem ji_0_1330 : mj_ins 0 1330 = some (.aload_n 0) := mj_lc14 (i := 56) rfl
theorem ji_0_1331 : mj_ins 0 1331 = some (.iload_n 3) := mj_lc14 (i := 57) rfl
theorem ji_0_1332 : mj_ins 0 1332 = some (.iconst 2) := mj_lc14 (i := 58) rfl
theorem ji_0_1333 : mj_ins 0 1333 = some (.iadd) := mj_lc14 (i := 59) rfl
theorem ji_0_1334 : mj_ins 0 1334 = some (.iaload) := mj_lc15 (i := 0) rfl
theorem ji_0_1335 : mj_ins 0 1335 = some (.ifCond .eq 7) := mj_lc15 (i := 1) rfl
theorem ji_0_1342 : mj_ins 0 1342 = some (.iconst 0) := mj_lc15 (i := 4) rfl
theorem ji_0_1343 : mj_ins 0 1343 = some (.invokevirtual 166) := mj_lc15 (i := 5) rfl
set_option maxRecDepth 100000 in
theorem jc_0_166 : mj_cal 0 166 = some (2, 143, 2) := by decide +kernel
set_option maxRecDepth 100000 in
theorem jk_143 : mj_cls 143 = 0 := by decide +kernel
theorem ji_0_1346 : mj_ins 0 1346 = some (.pop) := mj_lc15 (i := 6) rfl
theorem ji_0_1347 : mj_ins 0 1347 = some (.aload_n 2) := mj_lc15 (i := 7) rfl
theorem ji_0_1348 : mj_ins 0 1348 = some (.aload_n 0) := mj_lc15 (i := 8) rfl
theorem ji_0_1349 : mj_ins 0 1349 = some (.iload_n 3) := mj_lc15 (i := 9) rfl
theorem ji_0_1350 : mj_ins 0 1350 = some (.iconst 1) := mj_lc15 (i := 10) rfl
theorem ji_0_1351 : mj_ins 0 1351 = some (.iadd) := mj_lc15 (i := 11) rfl
theorem ji_0_1352 : mj_ins 0 1352 = some (.iaload) := mj_lc15 (i := 12) rfl
theorem ji_0_1353 : mj_ins 0 1353 = some (.aload_n 0) := mj_lc15 (i := 13) rfl
theorem ji_0_1354 : mj_ins 0 1354 = some (.iload_n 3) := mj_lc15 (i := 14) rfl
theorem ji_0_1355 : mj_ins 0 1355 = some (.iconst 2) := mj_lc15 (i := 15) rfl
theorem ji_0_1356 : mj_ins 0 1356 = some (.iadd) := mj_lc15 (i := 16) rfl
theorem ji_0_1357 : mj_ins 0 1357 = some (.iaload) := mj_lc15 (i := 17) rfl
theorem ji_0_1358 : mj_ins 0 1358 = some (.ifCond .eq 7) := mj_lc15 (i := 18) rfl
theorem ji_0_1365 : mj_ins 0 1365 = some (.iconst 0) := mj_lc15 (i := 21) rfl
theorem ji_0_1366 : mj_ins 0 1366 = some (.invokevirtual 170) := mj_lc15 (i := 22) rfl
set_option maxRecDepth 100000 in
theorem jc_0_170 : mj_cal 0 170 = some (2, 300, 2) := by decide +kernel
set_option maxRecDepth 100000 in
theorem jk_300 : mj_cls 300 = 11 := by decide +kernel
theorem ji_0_1369 : mj_ins 0 1369 = some (.pop) := mj_lc15 (i := 23) rfl
theorem ji_0_1370 : mj_ins 0 1370 = some (.goto 180) := mj_lc15 (i := 24) rfl
theorem ji_0_1338 : mj_ins 0 1338 = some (.iconst 1) := mj_lc15 (i := 2) rfl
theorem ji_0_1339 : mj_ins 0 1339 = some (.goto 4) := mj_lc15 (i := 3) rfl
theorem ji_0_1361 : mj_ins 0 1361 = some (.iconst 1) := mj_lc15 (i := 19) rfl
theorem ji_0_1362 : mj_ins 0 1362 = some (.goto 4) := mj_lc15 (i := 20) rfl
theorem ji_0_1373 : mj_ins 0 1373 = some (.aload_n 1) := mj_lc15 (i := 25) rfl
theorem ji_0_1374 : mj_ins 0 1374 = some (.aload_n 0) := mj_lc15 (i := 26) rfl
theorem ji_0_1375 : mj_ins 0 1375 = some (.iload_n 3) := mj_lc15 (i := 27) rfl
theorem ji_0_1376 : mj_ins 0 1376 = some (.iconst 1) := mj_lc15 (i := 28) rfl
theorem ji_0_1377 : mj_ins 0 1377 = some (.iadd) := mj_lc15 (i := 29) rfl
theorem ji_0_1378 : mj_ins 0 1378 = some (.iaload) := mj_lc15 (i := 30) rfl
theorem ji_0_1379 : mj_ins 0 1379 = some (.ifCond .eq 7) := mj_lc15 (i := 31) rfl
theorem ji_0_1386 : mj_ins 0 1386 = some (.iconst 0) := mj_lc15 (i := 34) rfl
theorem ji_0_1387 : mj_ins 0 1387 = some (.invokevirtual 171) := mj_lc15 (i := 35) rfl
set_option maxRecDepth 100000 in
theorem jc_0_171 : mj_cal 0 171 = some (2, 145, 1) := by decide +kernel
set_option maxRecDepth 100000 in
theorem jk_145 : mj_cls 145 = 0 := by decide +kernel
theorem ji_0_1390 : mj_ins 0 1390 = some (.pop) := mj_lc15 (i := 36) rfl
theorem ji_0_1391 : mj_ins 0 1391 = some (.aload_n 2) := mj_lc15 (i := 37) rfl
theorem ji_0_1392 : mj_ins 0 1392 = some (.aload_n 0) := mj_lc15 (i := 38) rfl
theorem ji_0_1393 : mj_ins 0 1393 = some (.iload_n 3) := mj_lc15 (i := 39) rfl
theorem ji_0_1394 : mj_ins 0 1394 = some (.iconst 1) := mj_lc15 (i := 40) rfl
theorem ji_0_1395 : mj_ins 0 1395 = some (.iadd) := mj_lc15 (i := 41) rfl
theorem ji_0_1396 : mj_ins 0 1396 = some (.iaload) := mj_lc15 (i := 42) rfl
theorem ji_0_1397 : mj_ins 0 1397 = some (.ifCond .eq 7) := mj_lc15 (i := 43) rfl
theorem ji_0_1404 : mj_ins 0 1404 = some (.iconst 0) := mj_lc15 (i := 46) rfl
theorem ji_0_1405 : mj_ins 0 1405 = some (.invokevirtual 175) := mj_lc15 (i := 47) rfl
set_option maxRecDepth 100000 in
theorem jc_0_175 : mj_cal 0 175 = some (2, 301, 1) := by decide +kernel
set_option maxRecDepth 100000 in
theorem jk_301 : mj_cls 301 = 11 := by decide +kernel
theorem ji_0_1408 : mj_ins 0 1408 = some (.pop) := mj_lc15 (i := 48) rfl
theorem ji_0_1409 : mj_ins 0 1409 = some (.goto 141) := mj_lc15 (i := 49) rfl
theorem ji_0_1382 : mj_ins 0 1382 = some (.iconst 1) := mj_lc15 (i := 32) rfl
theorem ji_0_1383 : mj_ins 0 1383 = some (.goto 4) := mj_lc15 (i := 33) rfl
theorem ji_0_1400 : mj_ins 0 1400 = some (.iconst 1) := mj_lc15 (i := 44) rfl
theorem ji_0_1401 : mj_ins 0 1401 = some (.goto 4) := mj_lc15 (i := 45) rfl
theorem ji_0_1412 : mj_ins 0 1412 = some (.aload_n 1) := mj_lc15 (i := 50) rfl
theorem ji_0_1413 : mj_ins 0 1413 = some (.aload_n 0) := mj_lc15 (i := 51) rfl
theorem ji_0_1414 : mj_ins 0 1414 = some (.iload_n 3) := mj_lc15 (i := 52) rfl
theorem ji_0_1415 : mj_ins 0 1415 = some (.iconst 1) := mj_lc15 (i := 53) rfl
theorem ji_0_1416 : mj_ins 0 1416 = some (.iadd) := mj_lc15 (i := 54) rfl
theorem ji_0_1417 : mj_ins 0 1417 = some (.iaload) := mj_lc15 (i := 55) rfl
theorem ji_0_1418 : mj_ins 0 1418 = some (.aload_n 0) := mj_lc15 (i := 56) rfl
theorem ji_0_1419 : mj_ins 0 1419 = some (.iload_n 3) := mj_lc15 (i := 57) rfl
theorem ji_0_1420 : mj_ins 0 1420 = some (.iconst 2) := mj_lc15 (i := 58) rfl
theorem ji_0_1421 : mj_ins 0 1421 = some (.iadd) := mj_lc15 (i := 59) rfl
theorem ji_0_1422 : mj_ins 0 1422 = some (.iaload) := mj_lc16 (i := 0) rfl
theorem ji_0_1423 : mj_ins 0 1423 = some (.invokevirtual 176) := mj_lc16 (i := 1) rfl
set_option maxRecDepth 100000 in
theorem jc_0_176 : mj_cal 0 176 = some (2, 151, 2) := by decide +kernel
set_option maxRecDepth 100000 in
theorem jk_151 : mj_cls 151 = 0 := by decide +kernel
theorem ji_0_1426 : mj_ins 0 1426 = some (.pop) := mj_lc16 (i := 2) rfl
theorem ji_0_1427 : mj_ins 0 1427 = some (.aload_n 2) := mj_lc16 (i := 3) rfl
theorem ji_0_1428 : mj_ins 0 1428 = some (.aload_n 0) := mj_lc16 (i := 4) rfl
theorem ji_0_1429 : mj_ins 0 1429 = some (.iload_n 3) := mj_lc16 (i := 5) rfl
theorem ji_0_1430 : mj_ins 0 1430 = some (.iconst 1) := mj_lc16 (i := 6) rfl
theorem ji_0_1431 : mj_ins 0 1431 = some (.iadd) := mj_lc16 (i := 7) rfl
theorem ji_0_1432 : mj_ins 0 1432 = some (.iaload) := mj_lc16 (i := 8) rfl
theorem ji_0_1433 : mj_ins 0 1433 = some (.aload_n 0) := mj_lc16 (i := 9) rfl
theorem ji_0_1434 : mj_ins 0 1434 = some (.iload_n 3) := mj_lc16 (i := 10) rfl
theorem ji_0_1435 : mj_ins 0 1435 = some (.iconst 2) := mj_lc16 (i := 11) rfl
theorem ji_0_1436 : mj_ins 0 1436 = some (.iadd) := mj_lc16 (i := 12) rfl
theorem ji_0_1437 : mj_ins 0 1437 = some (.iaload) := mj_lc16 (i := 13) rfl
theorem ji_0_1438 : mj_ins 0 1438 = some (.invokevirtual 179) := mj_lc16 (i := 14) rfl
set_option maxRecDepth 100000 in
theorem jc_0_179 : mj_cal 0 179 = some (2, 306, 2) := by decide +kernel
set_option maxRecDepth 100000 in
theorem jk_306 : mj_cls 306 = 11 := by decide +kernel
theorem ji_0_1441 : mj_ins 0 1441 = some (.pop) := mj_lc16 (i := 15) rfl
theorem ji_0_1442 : mj_ins 0 1442 = some (.goto 108) := mj_lc16 (i := 16) rfl
theorem ji_0_1445 : mj_ins 0 1445 = some (.aload_n 1) := mj_lc16 (i := 17) rfl
theorem ji_0_1446 : mj_ins 0 1446 = some (.aload_n 0) := mj_lc16 (i := 18) rfl
theorem ji_0_1447 : mj_ins 0 1447 = some (.iload_n 3) := mj_lc16 (i := 19) rfl
theorem ji_0_1448 : mj_ins 0 1448 = some (.iconst 1) := mj_lc16 (i := 20) rfl
theorem ji_0_1449 : mj_ins 0 1449 = some (.iadd) := mj_lc16 (i := 21) rfl
theorem ji_0_1450 : mj_ins 0 1450 = some (.iaload) := mj_lc16 (i := 22) rfl
theorem ji_0_1451 : mj_ins 0 1451 = some (.invokevirtual 180) := mj_lc16 (i := 23) rfl
set_option maxRecDepth 100000 in
theorem jc_0_180 : mj_cal 0 180 = some (2, 153, 1) := by decide +kernel
set_option maxRecDepth 100000 in
theorem jk_153 : mj_cls 153 = 0 := by decide +kernel
theorem ji_0_1454 : mj_ins 0 1454 = some (.pop) := mj_lc16 (i := 24) rfl
theorem ji_0_1455 : mj_ins 0 1455 = some (.aload_n 2) := mj_lc16 (i := 25) rfl
theorem ji_0_1456 : mj_ins 0 1456 = some (.aload_n 0) := mj_lc16 (i := 26) rfl
theorem ji_0_1457 : mj_ins 0 1457 = some (.iload_n 3) := mj_lc16 (i := 27) rfl
theorem ji_0_1458 : mj_ins 0 1458 = some (.iconst 1) := mj_lc16 (i := 28) rfl
theorem ji_0_1459 : mj_ins 0 1459 = some (.iadd) := mj_lc16 (i := 29) rfl
theorem ji_0_1460 : mj_ins 0 1460 = some (.iaload) := mj_lc16 (i := 30) rfl
theorem ji_0_1461 : mj_ins 0 1461 = some (.invokevirtual 183) := mj_lc16 (i := 31) rfl
set_option maxRecDepth 100000 in
theorem jc_0_183 : mj_cal 0 183 = some (2, 307, 1) := by decide +kernel
set_option maxRecDepth 100000 in
theorem jk_307 : mj_cls 307 = 11 := by decide +kernel
theorem ji_0_1464 : mj_ins 0 1464 = some (.pop) := mj_lc16 (i := 32) rfl
theorem ji_0_1465 : mj_ins 0 1465 = some (.goto 85) := mj_lc16 (i := 33) rfl
theorem ji_0_1468 : mj_ins 0 1468 = some (.aload_n 1) := mj_lc16 (i := 34) rfl
theorem ji_0_1469 : mj_ins 0 1469 = some (.aload_n 0) := mj_lc16 (i := 35) rfl
theorem ji_0_1470 : mj_ins 0 1470 = some (.iload_n 3) := mj_lc16 (i := 36) rfl
theorem ji_0_1471 : mj_ins 0 1471 = some (.iconst 1) := mj_lc16 (i := 37) rfl
theorem ji_0_1472 : mj_ins 0 1472 = some (.iadd) := mj_lc16 (i := 38) rfl
theorem ji_0_1473 : mj_ins 0 1473 = some (.iaload) := mj_lc16 (i := 39) rfl
theorem ji_0_1474 : mj_ins 0 1474 = some (.aload_n 0) := mj_lc16 (i := 40) rfl
theorem ji_0_1475 : mj_ins 0 1475 = some (.iload_n 3) := mj_lc16 (i := 41) rfl
theorem ji_0_1476 : mj_ins 0 1476 = some (.iconst 2) := mj_lc16 (i := 42) rfl
theorem ji_0_1477 : mj_ins 0 1477 = some (.iadd) := mj_lc16 (i := 43) rfl
theorem ji_0_1478 : mj_ins 0 1478 = some (.iaload) := mj_lc16 (i := 44) rfl
theorem ji_0_1479 : mj_ins 0 1479 = some (.invokevirtual 184) := mj_lc16 (i := 45) rfl
set_option maxRecDepth 100000 in
theorem jc_0_184 : mj_cal 0 184 = some (2, 158, 2) := by decide +kernel
set_option maxRecDepth 100000 in
theorem jk_158 : mj_cls 158 = 0 := by decide +kernel
theorem ji_0_1482 : mj_ins 0 1482 = some (.aload_n 2) := mj_lc16 (i := 46) rfl
theorem ji_0_1483 : mj_ins 0 1483 = some (.aload_n 0) := mj_lc16 (i := 47) rfl
theorem ji_0_1484 : mj_ins 0 1484 = some (.iload_n 3) := mj_lc16 (i := 48) rfl
theorem ji_0_1485 : mj_ins 0 1485 = some (.iconst 1) := mj_lc16 (i := 49) rfl
theorem ji_0_1486 : mj_ins 0 1486 = some (.iadd) := mj_lc16 (i := 50) rfl
theorem ji_0_1487 : mj_ins 0 1487 = some (.iaload) := mj_lc16 (i := 51) rfl
theorem ji_0_1488 : mj_ins 0 1488 = some (.aload_n 0) := mj_lc16 (i := 52) rfl
theorem ji_0_1489 : mj_ins 0 1489 = some (.iload_n 3) := mj_lc16 (i := 53) rfl
theorem ji_0_1490 : mj_ins 0 1490 = some (.iconst 2) := mj_lc16 (i := 54) rfl
theorem ji_0_1491 : mj_ins 0 1491 = some (.iadd) := mj_lc16 (i := 55) rfl
theorem ji_0_1492 : mj_ins 0 1492 = some (.iaload) := mj_lc16 (i := 56) rfl
theorem ji_0_1493 : mj_ins 0 1493 = some (.invokevirtual 187) := mj_lc16 (i := 57) rfl
set_option maxRecDepth 100000 in
theorem jc_0_187 : mj_cal 0 187 = some (2, 311, 2) := by decide +kernel
set_option maxRecDepth 100000 in
theorem jk_311 : mj_cls 311 = 11 := by decide +kernel
theorem ji_0_1496 : mj_ins 0 1496 = some (.if_icmp .eq 54) := mj_lc16 (i := 58) rfl
theorem ji_0_1501 : mj_ins 0 1501 = some (.aload_n 1) := mj_lc17 (i := 1) rfl
theorem ji_0_1502 : mj_ins 0 1502 = some (.invokevirtual 188) := mj_lc17 (i := 2) rfl
set_option maxRecDepth 100000 in
theorem jc_0_188 : mj_cal 0 188 = some (2, 160, 0) := by decide +kernel
set_option maxRecDepth 100000 in
theorem jk_160 : mj_cls 160 = 0 := by decide +kernel
theorem ji_0_1505 : mj_ins 0 1505 = some (.pop) := mj_lc17 (i := 3) rfl
theorem ji_0_1506 : mj_ins 0 1506 = some (.aload_n 2) := mj_lc17 (i := 4) rfl
theorem ji_0_1507 : mj_ins 0 1507 = some (.invokevirtual 191) := mj_lc17 (i := 5) rfl
set_option maxRecDepth 100000 in
theorem jc_0_191 : mj_cal 0 191 = some (2, 312, 0) := by decide +kernel
set_option maxRecDepth 100000 in
theorem jk_312 : mj_cls 312 = 11 := by decide +kernel
theorem ji_0_1510 : mj_ins 0 1510 = some (.pop) := mj_lc17 (i := 6) rfl
theorem ji_0_1511 : mj_ins 0 1511 = some (.goto 39) := mj_lc17 (i := 7) rfl
theorem ji_0_1514 : mj_ins 0 1514 = some (.aload_n 1) := mj_lc17 (i := 8) rfl
theorem ji_0_1515 : mj_ins 0 1515 = some (.invokevirtual 192) := mj_lc17 (i := 9) rfl
set_option maxRecDepth 100000 in
theorem jc_0_192 : mj_cal 0 192 = some (2, 166, 0) := by decide +kernel
set_option maxRecDepth 100000 in
theorem jk_166 : mj_cls 166 = 0 := by decide +kernel
theorem ji_0_1518 : mj_ins 0 1518 = some (.pop) := mj_lc17 (i := 10) rfl
theorem ji_0_1519 : mj_ins 0 1519 = some (.aload_n 2) := mj_lc17 (i := 11) rfl
theorem ji_0_1520 : mj_ins 0 1520 = some (.invokevirtual 195) := mj_lc17 (i := 12) rfl
set_option maxRecDepth 100000 in
theorem jc_0_195 : mj_cal 0 195 = some (2, 313, 0) := by decide +kernel
set_option maxRecDepth 100000 in
theorem jk_313 : mj_cls 313 = 11 := by decide +kernel
theorem ji_0_1523 : mj_ins 0 1523 = some (.pop) := mj_lc17 (i := 13) rfl
theorem ji_0_1524 : mj_ins 0 1524 = some (.goto 26) := mj_lc17 (i := 14) rfl
theorem ji_0_1527 : mj_ins 0 1527 = some (.aload_n 1) := mj_lc17 (i := 15) rfl
theorem ji_0_1528 : mj_ins 0 1528 = some (.aload_n 0) := mj_lc17 (i := 16) rfl
theorem ji_0_1529 : mj_ins 0 1529 = some (.iload_n 3) := mj_lc17 (i := 17) rfl
theorem ji_0_1530 : mj_ins 0 1530 = some (.iconst 1) := mj_lc17 (i := 18) rfl
theorem ji_0_1531 : mj_ins 0 1531 = some (.iadd) := mj_lc17 (i := 19) rfl
theorem ji_0_1532 : mj_ins 0 1532 = some (.iaload) := mj_lc17 (i := 20) rfl
theorem ji_0_1533 : mj_ins 0 1533 = some (.invokevirtual 196) := mj_lc17 (i := 21) rfl
set_option maxRecDepth 100000 in
theorem jc_0_196 : mj_cal 0 196 = some (2, 167, 1) := by decide +kernel
set_option maxRecDepth 100000 in
theorem jk_167 : mj_cls 167 = 0 := by decide +kernel
theorem ji_0_1536 : mj_ins 0 1536 = some (.pop) := mj_lc17 (i := 22) rfl
theorem ji_0_1537 : mj_ins 0 1537 = some (.aload_n 2) := mj_lc17 (i := 23) rfl
theorem ji_0_1538 : mj_ins 0 1538 = some (.aload_n 0) := mj_lc17 (i := 24) rfl
theorem ji_0_1539 : mj_ins 0 1539 = some (.iload_n 3) := mj_lc17 (i := 25) rfl
theorem ji_0_1540 : mj_ins 0 1540 = some (.iconst 1) := mj_lc17 (i := 26) rfl
theorem ji_0_1541 : mj_ins 0 1541 = some (.iadd) := mj_lc17 (i := 27) rfl
theorem ji_0_1542 : mj_ins 0 1542 = some (.iaload) := mj_lc17 (i := 28) rfl
theorem ji_0_1543 : mj_ins 0 1543 = some (.invokevirtual 199) := mj_lc17 (i := 29) rfl
set_option maxRecDepth 100000 in
theorem jc_0_199 : mj_cal 0 199 = some (2, 314, 1) := by decide +kernel
set_option maxRecDepth 100000 in
theorem jk_314 : mj_cls 314 = 11 := by decide +kernel
theorem ji_0_1546 : mj_ins 0 1546 = some (.pop) := mj_lc17 (i := 30) rfl
theorem ji_0_1547 : mj_ins 0 1547 = some (.goto 3) := mj_lc17 (i := 31) rfl
theorem lz9_0 (AM : lw_AM) {sl : List Value} {h : mj_H} {B i : Int} (Y : lw_V9 sl h B) (hi : 0 ≤ i ∧ i + 6 ≤ sl.length) (hl : sl.length ≤ 3072) (hsl : ∀ k, k < sl.length → sl[k]? = some (wp_i (sx_el sl k))) (hB : 0 ≤ B ∧ B ≤ 125000000) {Q : Option Value → mj_H → Prop} (hQ : ∀ h, lw_V9 sl h (B + 239976) → wp_R 1200 0 1550 [some (.ref 0), some (.ref 9), some (.ref 138), some (wp_i i)] [] h Q) : wp_R 1200 0 224 [some (.ref 0), some (.ref 9), some (.ref 138), some (wp_i i)] [] h Q := by
  obtain ⟨s, tc, tr, M, L, H, W, hMB⟩ := Y
  refine wp_s (pc' := 225) ji_0_224 rfl rfl rfl ?_
  refine wp_s (pc' := 226) ji_0_225 rfl rfl rfl ?_
  refine wp_s (pc' := 227) ji_0_226 rfl rfl rfl ?_
  refine wp_s (pc' := 228) ji_0_227 rfl rfl rfl ?_
  refine wp_iadd (x := i) (y := 1) (z := i + 1) ji_0_228 (by omega) ?_
  refine wp_ial (x := i + 1) ji_0_229 W.1.2.2.2 (by omega) (by omega) (by omega) (hsl (i + 1).toNat (by omega)) ?_
  have e1 := el_r sl (i + 1).toNat
  refine wp_s (pc' := 231) ji_0_230 rfl rfl rfl ?_
  refine wp_s (pc' := 232) ji_0_231 rfl rfl rfl ?_
  refine wp_s (pc' := 233) ji_0_232 rfl rfl rfl ?_
  refine wp_iadd (x := i) (y := 2) (z := i + 2) ji_0_233 (by omega) ?_
  refine wp_ial (x := i + 2) ji_0_234 W.1.2.2.2 (by omega) (by omega) (by omega) (hsl (i + 2).toNat (by omega)) ?_
  have e2 := el_r sl (i + 2).toNat
  obtain ⟨fs3, hc3⟩ := lw_c9 W.1
  refine wp_vc (d := 1199) (as := [.ref 9, wp_i (sx_el sl (i + 1).toNat), wp_i (sx_el sl (i + 2).toNat)]) (rest := []) ji_0_235 jc_0_13 rfl hc3 jk_12.symm (Nat.le_of_ble_eq_true rfl) rfl (by rw [jn_12]; rfl) (tc_Pole AM L (el_r _ _) (el_r _ _) W (by omega)) (fun v h R => ?_)
  obtain ⟨rfl, W⟩ := R
  show wp_R 1200 0 238 [some (.ref 0), some (.ref 9), some (.ref 138), some (wp_i i)] [wp_i ((cPole s (sx_el sl (i + 1).toNat) (sx_el sl (i + 2).toNat)).1)] h _
  refine wp_s (pc' := 239) ji_0_238 rfl rfl rfl ?_
  refine wp_s (pc' := 240) ji_0_239 rfl rfl rfl ?_
  refine wp_s (pc' := 241) ji_0_240 rfl rfl rfl ?_
  refine wp_s (pc' := 242) ji_0_241 rfl rfl rfl ?_
  refine wp_s (pc' := 243) ji_0_242 rfl rfl rfl ?_
  refine wp_iadd (x := i) (y := 1) (z := i + 1) ji_0_243 (by omega) ?_
  refine wp_ial (x := i + 1) ji_0_244 W.1.2.2.2 (by omega) (by omega) (by omega) (hsl (i + 1).toNat (by omega)) ?_
  have e4 := el_r sl (i + 1).toNat
  refine wp_s (pc' := 246) ji_0_245 rfl rfl rfl ?_
  refine wp_s (pc' := 247) ji_0_246 rfl rfl rfl ?_
  refine wp_s (pc' := 248) ji_0_247 rfl rfl rfl ?_
  refine wp_iadd (x := i) (y := 2) (z := i + 2) ji_0_248 (by omega) ?_
  refine wp_ial (x := i + 2) ji_0_249 W.1.2.2.2 (by omega) (by omega) (by omega) (hsl (i + 2).toNat (by omega)) ?_
  have e5 := el_r sl (i + 2).toNat
  obtain ⟨fs6, hc6⟩ := lw_c138 W.1
  refine wp_vc (d := 1199) (as := [.ref 138, wp_i (sx_el sl (i + 1).toNat), wp_i (sx_el sl (i + 2).toNat)]) (rest := []) ji_0_250 jc_0_17 rfl hc6 jk_170.symm (Nat.le_of_ble_eq_true rfl) rfl (by rw [jn_170]; rfl) (tr_Pole AM L (el_r _ _) (el_r _ _) (by omega) W (by omega)) (fun v h R => ?_)
  obtain ⟨rfl, W⟩ := R
  have H := ht_Pole L H (x := sx_el sl (i + 1).toNat) (z := sx_el sl (i + 2).toNat)
  obtain ⟨ee, L⟩ := lw_Pole L (x := sx_el sl (i + 1).toNat) (z := sx_el sl (i + 2).toNat)
  rw [ee]
  show wp_R 1200 0 253 [some (.ref 0), some (.ref 9), some (.ref 138), some (wp_i i)] [wp_i ((cPole s (sx_el sl (i + 1).toNat) (sx_el sl (i + 2).toNat)).1)] h _
  refine wp_s (pc' := 254) ji_0_253 rfl rfl rfl ?_
  refine wp_goto (t := 1550) ji_0_254 rfl ?_
  exact hQ h ⟨_, _, _, _, L, H, WS_le W (by omega), by omega⟩
theorem lz9_1 (AM : lw_AM) {sl : List Value} {h : mj_H} {B i : Int} (Y : lw_V9 sl h B) (hi : 0 ≤ i ∧ i + 6 ≤ sl.length) (hl : sl.length ≤ 3072) (hsl : ∀ k, k < sl.length → sl[k]? = some (wp_i (sx_el sl k))) (hB : 0 ≤ B ∧ B ≤ 125000000) {Q : Option Value → mj_H → Prop} (hQ : ∀ h, lw_V9 sl h (B + 239976) → wp_R 1200 0 1550 [some (.ref 0), some (.ref 9), some (.ref 138), some (wp_i i)] [] h Q) : wp_R 1200 0 257 [some (.ref 0), some (.ref 9), some (.ref 138), some (wp_i i)] [] h Q := by
  obtain ⟨s, tc, tr, M, L, H, W, hMB⟩ := Y
  refine wp_s (pc' := 258) ji_0_257 rfl rfl rfl ?_
  refine wp_s (pc' := 259) ji_0_258 rfl rfl rfl ?_
  refine wp_s (pc' := 260) ji_0_259 rfl rfl rfl ?_
  refine wp_s (pc' := 261) ji_0_260 rfl rfl rfl ?_
  refine wp_iadd (x := i) (y := 1) (z := i + 1) ji_0_261 (by omega) ?_
  refine wp_ial (x := i + 1) ji_0_262 W.1.2.2.2 (by omega) (by omega) (by omega) (hsl (i + 1).toNat (by omega)) ?_
  have e1 := el_r sl (i + 1).toNat
  refine wp_s (pc' := 264) ji_0_263 rfl rfl rfl ?_
  refine wp_s (pc' := 265) ji_0_264 rfl rfl rfl ?_
  refine wp_s (pc' := 266) ji_0_265 rfl rfl rfl ?_
  refine wp_iadd (x := i) (y := 2) (z := i + 2) ji_0_266 (by omega) ?_
  refine wp_ial (x := i + 2) ji_0_267 W.1.2.2.2 (by omega) (by omega) (by omega) (hsl (i + 2).toNat (by omega)) ?_
  have e2 := el_r sl (i + 2).toNat
  obtain ⟨fs3, hc3⟩ := lw_c9 W.1
  refine wp_vc (d := 1199) (as := [.ref 9, wp_i (sx_el sl (i + 1).toNat), wp_i (sx_el sl (i + 2).toNat)]) (rest := []) ji_0_268 jc_0_18 rfl hc3 jk_14.symm (Nat.le_of_ble_eq_true rfl) rfl (by rw [jn_14]; rfl) (tc_Power AM L (el_r _ _) (el_r _ _) W (by omega)) (fun v h R => ?_)
  obtain ⟨rfl, W⟩ := R
  show wp_R 1200 0 271 [some (.ref 0), some (.ref 9), some (.ref 138), some (wp_i i)] [wp_i ((cPower s (sx_el sl (i + 1).toNat) (sx_el sl (i + 2).toNat)).1)] h _
  refine wp_s (pc' := 272) ji_0_271 rfl rfl rfl ?_
  refine wp_s (pc' := 273) ji_0_272 rfl rfl rfl ?_
  refine wp_s (pc' := 274) ji_0_273 rfl rfl rfl ?_
  refine wp_s (pc' := 275) ji_0_274 rfl rfl rfl ?_
  refine wp_s (pc' := 276) ji_0_275 rfl rfl rfl ?_
  refine wp_iadd (x := i) (y := 1) (z := i + 1) ji_0_276 (by omega) ?_
  refine wp_ial (x := i + 1) ji_0_277 W.1.2.2.2 (by omega) (by omega) (by omega) (hsl (i + 1).toNat (by omega)) ?_
  have e4 := el_r sl (i + 1).toNat
  refine wp_s (pc' := 279) ji_0_278 rfl rfl rfl ?_
  refine wp_s (pc' := 280) ji_0_279 rfl rfl rfl ?_
  refine wp_s (pc' := 281) ji_0_280 rfl rfl rfl ?_
  refine wp_iadd (x := i) (y := 2) (z := i + 2) ji_0_281 (by omega) ?_
  refine wp_ial (x := i + 2) ji_0_282 W.1.2.2.2 (by omega) (by omega) (by omega) (hsl (i + 2).toNat (by omega)) ?_
  have e5 := el_r sl (i + 2).toNat
  obtain ⟨fs6, hc6⟩ := lw_c138 W.1
  refine wp_vc (d := 1199) (as := [.ref 138, wp_i (sx_el sl (i + 1).toNat), wp_i (sx_el sl (i + 2).toNat)]) (rest := []) ji_0_283 jc_0_21 rfl hc6 jk_172.symm (Nat.le_of_ble_eq_true rfl) rfl (by rw [jn_172]; rfl) (tr_Power AM L (el_r _ _) (el_r _ _) (by omega) W (by omega)) (fun v h R => ?_)
  obtain ⟨rfl, W⟩ := R
  have H := ht_Power L H (x := sx_el sl (i + 1).toNat) (z := sx_el sl (i + 2).toNat)
  obtain ⟨ee, L⟩ := lw_Power L (x := sx_el sl (i + 1).toNat) (z := sx_el sl (i + 2).toNat)
  rw [ee]
  show wp_R 1200 0 286 [some (.ref 0), some (.ref 9), some (.ref 138), some (wp_i i)] [wp_i ((cPower s (sx_el sl (i + 1).toNat) (sx_el sl (i + 2).toNat)).1)] h _
  refine wp_s (pc' := 287) ji_0_286 rfl rfl rfl ?_
  refine wp_goto (t := 1550) ji_0_287 rfl ?_
  exact hQ h ⟨_, _, _, _, L, H, WS_le W (by omega), by omega⟩
theorem lz9_2 (AM : lw_AM) {sl : List Value} {h : mj_H} {B i : Int} (Y : lw_V9 sl h B) (hi : 0 ≤ i ∧ i + 6 ≤ sl.length) (hl : sl.length ≤ 3072) (hsl : ∀ k, k < sl.length → sl[k]? = some (wp_i (sx_el sl k))) (hB : 0 ≤ B ∧ B ≤ 125000000) {Q : Option Value → mj_H → Prop} (hQ : ∀ h, lw_V9 sl h (B + 239976) → wp_R 1200 0 1550 [some (.ref 0), some (.ref 9), some (.ref 138), some (wp_i i)] [] h Q) : wp_R 1200 0 290 [some (.ref 0), some (.ref 9), some (.ref 138), some (wp_i i)] [] h Q := by
  obtain ⟨s, tc, tr, M, L, H, W, hMB⟩ := Y
  refine wp_s (pc' := 291) ji_0_290 rfl rfl rfl ?_
  refine wp_s (pc' := 292) ji_0_291 rfl rfl rfl ?_
  refine wp_s (pc' := 293) ji_0_292 rfl rfl rfl ?_
  refine wp_s (pc' := 294) ji_0_293 rfl rfl rfl ?_
  refine wp_iadd (x := i) (y := 1) (z := i + 1) ji_0_294 (by omega) ?_
  refine wp_ial (x := i + 1) ji_0_295 W.1.2.2.2 (by omega) (by omega) (by omega) (hsl (i + 1).toNat (by omega)) ?_
  have e1 := el_r sl (i + 1).toNat
  refine wp_s (pc' := 297) ji_0_296 rfl rfl rfl ?_
  refine wp_s (pc' := 298) ji_0_297 rfl rfl rfl ?_
  refine wp_s (pc' := 299) ji_0_298 rfl rfl rfl ?_
  refine wp_iadd (x := i) (y := 2) (z := i + 2) ji_0_299 (by omega) ?_
  refine wp_ial (x := i + 2) ji_0_300 W.1.2.2.2 (by omega) (by omega) (by omega) (hsl (i + 2).toNat (by omega)) ?_
  have e2 := el_r sl (i + 2).toNat
  refine wp_s (pc' := 302) ji_0_301 rfl rfl rfl ?_
  refine wp_s (pc' := 303) ji_0_302 rfl rfl rfl ?_
  refine wp_s (pc' := 304) ji_0_303 rfl rfl rfl ?_
  refine wp_iadd (x := i) (y := 3) (z := i + 3) ji_0_304 (by omega) ?_
  refine wp_ial (x := i + 3) ji_0_305 W.1.2.2.2 (by omega) (by omega) (by omega) (hsl (i + 3).toNat (by omega)) ?_
  have e3 := el_r sl (i + 3).toNat
  refine wp_s (pc' := 307) ji_0_306 rfl rfl rfl ?_
  refine wp_s (pc' := 308) ji_0_307 rfl rfl rfl ?_
  refine wp_s (pc' := 309) ji_0_308 rfl rfl rfl ?_
  refine wp_iadd (x := i) (y := 4) (z := i + 4) ji_0_309 (by omega) ?_
  refine wp_ial (x := i + 4) ji_0_310 W.1.2.2.2 (by omega) (by omega) (by omega) (hsl (i + 4).toNat (by omega)) ?_
  have e4 := el_r sl (i + 4).toNat
  refine wp_s (pc' := 312) ji_0_311 rfl rfl rfl ?_
  refine wp_s (pc' := 313) ji_0_312 rfl rfl rfl ?_
  refine wp_s (pc' := 314) ji_0_313 rfl rfl rfl ?_
  refine wp_iadd (x := i) (y := 5) (z := i + 5) ji_0_314 (by omega) ?_
  refine wp_ial (x := i + 5) ji_0_315 W.1.2.2.2 (by omega) (by omega) (by omega) (hsl (i + 5).toNat (by omega)) ?_
  have e5 := el_r sl (i + 5).toNat
  obtain ⟨fs6, hc6⟩ := lw_c9 W.1
  refine wp_vc (d := 1199) (as := [.ref 9, wp_i (sx_el sl (i + 1).toNat), wp_i (sx_el sl (i + 2).toNat), wp_i (sx_el sl (i + 3).toNat), wp_i (sx_el sl (i + 4).toNat), wp_i (sx_el sl (i + 5).toNat)]) (rest := []) ji_0_316 jc_0_22 rfl hc6 jk_16.symm (Nat.le_of_ble_eq_true rfl) rfl (by rw [jn_16]; rfl) (tc_Feed AM L (el_r _ _) (el_r _ _) (el_r _ _) (el_r _ _) (el_r _ _) W (by omega)) (fun v h R => ?_)
  obtain ⟨rfl, W⟩ := R
  show wp_R 1200 0 319 [some (.ref 0), some (.ref 9), some (.ref 138), some (wp_i i)] [wp_i ((cFeed s (sx_el sl (i + 1).toNat) (sx_el sl (i + 2).toNat) (sx_el sl (i + 3).toNat) (sx_el sl (i + 4).toNat) (sx_el sl (i + 5).toNat)).1)] h _
  refine wp_s (pc' := 320) ji_0_319 rfl rfl rfl ?_
  refine wp_s (pc' := 321) ji_0_320 rfl rfl rfl ?_
  refine wp_s (pc' := 322) ji_0_321 rfl rfl rfl ?_
  refine wp_s (pc' := 323) ji_0_322 rfl rfl rfl ?_
  refine wp_s (pc' := 324) ji_0_323 rfl rfl rfl ?_
  refine wp_iadd (x := i) (y := 1) (z := i + 1) ji_0_324 (by omega) ?_
  refine wp_ial (x := i + 1) ji_0_325 W.1.2.2.2 (by omega) (by omega) (by omega) (hsl (i + 1).toNat (by omega)) ?_
  have e7 := el_r sl (i + 1).toNat
  refine wp_s (pc' := 327) ji_0_326 rfl rfl rfl ?_
  refine wp_s (pc' := 328) ji_0_327 rfl rfl rfl ?_
  refine wp_s (pc' := 329) ji_0_328 rfl rfl rfl ?_
  refine wp_iadd (x := i) (y := 2) (z := i + 2) ji_0_329 (by omega) ?_
  refine wp_ial (x := i + 2) ji_0_330 W.1.2.2.2 (by omega) (by omega) (by omega) (hsl (i + 2).toNat (by omega)) ?_
  have e8 := el_r sl (i + 2).toNat
  refine wp_s (pc' := 332) ji_0_331 rfl rfl rfl ?_
  refine wp_s (pc' := 333) ji_0_332 rfl rfl rfl ?_
  refine wp_s (pc' := 334) ji_0_333 rfl rfl rfl ?_
  refine wp_iadd (x := i) (y := 3) (z := i + 3) ji_0_334 (by omega) ?_
  refine wp_ial (x := i + 3) ji_0_335 W.1.2.2.2 (by omega) (by omega) (by omega) (hsl (i + 3).toNat (by omega)) ?_
  have e9 := el_r sl (i + 3).toNat
  refine wp_s (pc' := 337) ji_0_336 rfl rfl rfl ?_
  refine wp_s (pc' := 338) ji_0_337 rfl rfl rfl ?_
  refine wp_s (pc' := 339) ji_0_338 rfl rfl rfl ?_
  refine wp_iadd (x := i) (y := 4) (z := i + 4) ji_0_339 (by omega) ?_
  refine wp_ial (x := i + 4) ji_0_340 W.1.2.2.2 (by omega) (by omega) (by omega) (hsl (i + 4).toNat (by omega)) ?_
  have e10 := el_r sl (i + 4).toNat
  refine wp_s (pc' := 342) ji_0_341 rfl rfl rfl ?_
  refine wp_s (pc' := 343) ji_0_342 rfl rfl rfl ?_
  refine wp_s (pc' := 344) ji_0_343 rfl rfl rfl ?_
  refine wp_iadd (x := i) (y := 5) (z := i + 5) ji_0_344 (by omega) ?_
  refine wp_ial (x := i + 5) ji_0_345 W.1.2.2.2 (by omega) (by omega) (by omega) (hsl (i + 5).toNat (by omega)) ?_
  have e11 := el_r sl (i + 5).toNat
  obtain ⟨fs12, hc12⟩ := lw_c138 W.1
  refine wp_vc (d := 1199) (as := [.ref 138, wp_i (sx_el sl (i + 1).toNat), wp_i (sx_el sl (i + 2).toNat), wp_i (sx_el sl (i + 3).toNat), wp_i (sx_el sl (i + 4).toNat), wp_i (sx_el sl (i + 5).toNat)]) (rest := []) ji_0_346 jc_0_26 rfl hc12 jk_173.symm (Nat.le_of_ble_eq_true rfl) rfl (by rw [jn_173]; rfl) (tr_Feed AM L (el_r _ _) (el_r _ _) (el_r _ _) (el_r _ _) (el_r _ _) W (by omega)) (fun v h R => ?_)
  obtain ⟨rfl, W⟩ := R
  have H := ht_Feed L H (a := sx_el sl (i + 1).toNat) (b := sx_el sl (i + 2).toNat) (x := sx_el sl (i + 3).toNat) (e := sx_el sl (i + 4).toNat) (f := sx_el sl (i + 5).toNat)
  obtain ⟨ee, L⟩ := lw_Feed L (a := sx_el sl (i + 1).toNat) (b := sx_el sl (i + 2).toNat) (x := sx_el sl (i + 3).toNat) (e := sx_el sl (i + 4).toNat) (f := sx_el sl (i + 5).toNat)
  rw [ee]
  show wp_R 1200 0 349 [some (.ref 0), some (.ref 9), some (.ref 138), some (wp_i i)] [wp_i ((cFeed s (sx_el sl (i + 1).toNat) (sx_el sl (i + 2).toNat) (sx_el sl (i + 3).toNat) (sx_el sl (i + 4).toNat) (sx_el sl (i + 5).toNat)).1)] h _
  refine wp_s (pc' := 350) ji_0_349 rfl rfl rfl ?_
  refine wp_goto (t := 1550) ji_0_350 rfl ?_
  exact hQ h ⟨_, _, _, _, L, H, WS_le W (by omega), by omega⟩
theorem lz9_3 (AM : lw_AM) {sl : List Value} {h : mj_H} {B i : Int} (Y : lw_V9 sl h B) (hi : 0 ≤ i ∧ i + 6 ≤ sl.length) (hl : sl.length ≤ 3072) (hsl : ∀ k, k < sl.length → sl[k]? = some (wp_i (sx_el sl k))) (hB : 0 ≤ B ∧ B ≤ 125000000) {Q : Option Value → mj_H → Prop} (hQ : ∀ h, lw_V9 sl h (B + 239976) → wp_R 1200 0 1550 [some (.ref 0), some (.ref 9), some (.ref 138), some (wp_i i)] [] h Q) : wp_R 1200 0 353 [some (.ref 0), some (.ref 9), some (.ref 138), some (wp_i i)] [] h Q := by
  obtain ⟨s, tc, tr, M, L, H, W, hMB⟩ := Y
  refine wp_s (pc' := 354) ji_0_353 rfl rfl rfl ?_
  refine wp_s (pc' := 355) ji_0_354 rfl rfl rfl ?_
  refine wp_s (pc' := 356) ji_0_355 rfl rfl rfl ?_
  refine wp_s (pc' := 357) ji_0_356 rfl rfl rfl ?_
  refine wp_iadd (x := i) (y := 1) (z := i + 1) ji_0_357 (by omega) ?_
  refine wp_ial (x := i + 1) ji_0_358 W.1.2.2.2 (by omega) (by omega) (by omega) (hsl (i + 1).toNat (by omega)) ?_
  have e1 := el_r sl (i + 1).toNat
  obtain ⟨fs2, hc2⟩ := lw_c9 W.1
  refine wp_vc (d := 1199) (as := [.ref 9, wp_i (sx_el sl (i + 1).toNat)]) (rest := []) ji_0_359 jc_0_27 rfl hc2 jk_18.symm (Nat.le_of_ble_eq_true rfl) rfl (by rw [jn_18]; rfl) (tc_End AM L (el_r _ _) W (by omega)) (fun v h R => ?_)
  obtain ⟨rfl, W⟩ := R
  show wp_R 1200 0 362 [some (.ref 0), some (.ref 9), some (.ref 138), some (wp_i i)] [wp_i ((cEnd s (sx_el sl (i + 1).toNat)).1)] h _
  refine wp_s (pc' := 363) ji_0_362 rfl rfl rfl ?_
  refine wp_s (pc' := 364) ji_0_363 rfl rfl rfl ?_
  refine wp_s (pc' := 365) ji_0_364 rfl rfl rfl ?_
  refine wp_s (pc' := 366) ji_0_365 rfl rfl rfl ?_
  refine wp_s (pc' := 367) ji_0_366 rfl rfl rfl ?_
  refine wp_iadd (x := i) (y := 1) (z := i + 1) ji_0_367 (by omega) ?_
  refine wp_ial (x := i + 1) ji_0_368 W.1.2.2.2 (by omega) (by omega) (by omega) (hsl (i + 1).toNat (by omega)) ?_
  have e3 := el_r sl (i + 1).toNat
  obtain ⟨fs4, hc4⟩ := lw_c138 W.1
  refine wp_vc (d := 1199) (as := [.ref 138, wp_i (sx_el sl (i + 1).toNat)]) (rest := []) ji_0_369 jc_0_31 rfl hc4 jk_175.symm (Nat.le_of_ble_eq_true rfl) rfl (by rw [jn_175]; rfl) (tr_End AM L (el_r _ _) W (by omega)) (fun v h R => ?_)
  obtain ⟨rfl, W⟩ := R
  have H := ht_End L H (x := sx_el sl (i + 1).toNat)
  obtain ⟨ee, L⟩ := lw_End L (x := sx_el sl (i + 1).toNat)
  rw [ee]
  show wp_R 1200 0 372 [some (.ref 0), some (.ref 9), some (.ref 138), some (wp_i i)] [wp_i ((cEnd s (sx_el sl (i + 1).toNat)).1)] h _
  refine wp_s (pc' := 373) ji_0_372 rfl rfl rfl ?_
  refine wp_goto (t := 1550) ji_0_373 rfl ?_
  exact hQ h ⟨_, _, _, _, L, H, WS_le W (by omega), by omega⟩
theorem lz9_4 (AM : lw_AM) {sl : List Value} {h : mj_H} {B i : Int} (Y : lw_V9 sl h B) (hi : 0 ≤ i ∧ i + 6 ≤ sl.length) (hl : sl.length ≤ 3072) (hsl : ∀ k, k < sl.length → sl[k]? = some (wp_i (sx_el sl k))) (hB : 0 ≤ B ∧ B ≤ 125000000) {Q : Option Value → mj_H → Prop} (hQ : ∀ h, lw_V9 sl h (B + 239976) → wp_R 1200 0 1550 [some (.ref 0), some (.ref 9), some (.ref 138), some (wp_i i)] [] h Q) : wp_R 1200 0 376 [some (.ref 0), some (.ref 9), some (.ref 138), some (wp_i i)] [] h Q := by
  obtain ⟨s, tc, tr, M, L, H, W, hMB⟩ := Y
  refine wp_s (pc' := 377) ji_0_376 rfl rfl rfl ?_
  obtain ⟨fs1, hc1⟩ := lw_c9 W.1
  refine wp_vc (d := 1199) (as := [.ref 9]) (rest := []) ji_0_377 jc_0_32 rfl hc1 jk_19.symm (Nat.le_of_ble_eq_true rfl) rfl (by rw [jn_19]; rfl) (tc_Text AM L W (by omega)) (fun v h R => ?_)
  have k46 := lw_46 L
  rcases R with ⟨c4, rfl, W⟩ | ⟨c4, f, q, Cs, c1, A, rfl, W⟩
  · show wp_R 1200 0 380 [some (.ref 0), some (.ref 9), some (.ref 138), some (wp_i i)] [wp_i (-1)] h _
    refine wp_s (pc' := 381) ji_0_380 rfl rfl rfl ?_
    refine wp_s (pc' := 382) ji_0_381 rfl rfl rfl ?_
    obtain ⟨fs2, hc2⟩ := lw_c138 W.1
    refine wp_vc (d := 1199) (as := [.ref 138]) (rest := []) ji_0_382 jc_0_36 rfl hc2 jk_176.symm (Nat.le_of_ble_eq_true rfl) rfl (by rw [jn_176]; rfl) (tr_Text AM (by omega) (lw_tp L).1 (lw_tp L).2 L.2.2.1 W (by omega)) (fun v h R => ?_)
    rcases R with ⟨d4, rfl, W⟩ | ⟨d4, f2, q2, s1, R, rfl, W⟩
    · show wp_R 1200 0 385 [some (.ref 0), some (.ref 9), some (.ref 138), some (wp_i i)] [wp_i (-1)] h _
      refine wp_s (pc' := 386) ji_0_385 rfl rfl rfl ?_
      refine wp_goto (t := 1550) ji_0_386 rfl ?_
      exact hQ h ⟨_, _, _, _, L, H, WS_le W (by omega), by omega⟩
    · exfalso; omega
  · show wp_R 1200 0 380 [some (.ref 0), some (.ref 9), some (.ref 138), some (wp_i i)] [wp_i (if f = 0 then s 47 6 else -1)] h _
    refine wp_s (pc' := 381) ji_0_380 rfl rfl rfl ?_
    refine wp_s (pc' := 382) ji_0_381 rfl rfl rfl ?_
    obtain ⟨fs3, hc3⟩ := lw_c138 W.1
    obtain ⟨th1, th2, th3, th4⟩ := tx_h L A
    refine wp_vc (d := 1199) (as := [.ref 138]) (rest := []) ji_0_382 jc_0_36 rfl hc3 jk_176.symm (Nat.le_of_ble_eq_true rfl) rfl (by rw [jn_176]; rfl) (tr_Text AM (by omega) th2 th3 th4 W (by omega)) (fun v h R => ?_)
    rcases R with ⟨d4, rfl, W⟩ | ⟨d4, f2, q2, s1, R, rfl, W⟩
    · exfalso; omega
    · rw [th1] at R ⊢
      have H := ht_Text L H A R
      obtain ⟨ef, tc1, tr1, L⟩ := lw_Text L c4 A R
      have ef := ef.symm
      subst ef
      show wp_R 1200 0 385 [some (.ref 0), some (.ref 9), some (.ref 138), some (wp_i i)] [wp_i (if f = 0 then s 47 6 else -1)] h _
      refine wp_s (pc' := 386) ji_0_385 rfl rfl rfl ?_
      refine wp_goto (t := 1550) ji_0_386 rfl ?_
      exact hQ h ⟨_, _, _, _, L, H, WS_le W (by omega), by omega⟩
theorem lz9_5 (AM : lw_AM) {sl : List Value} {h : mj_H} {B i : Int} (Y : lw_V9 sl h B) (hi : 0 ≤ i ∧ i + 6 ≤ sl.length) (hl : sl.length ≤ 3072) (hsl : ∀ k, k < sl.length → sl[k]? = some (wp_i (sx_el sl k))) (hB : 0 ≤ B ∧ B ≤ 125000000) {Q : Option Value → mj_H → Prop} (hQ : ∀ h, lw_V9 sl h (B + 239976) → wp_R 1200 0 1550 [some (.ref 0), some (.ref 9), some (.ref 138), some (wp_i i)] [] h Q) : wp_R 1200 0 389 [some (.ref 0), some (.ref 9), some (.ref 138), some (wp_i i)] [] h Q := by
  obtain ⟨s, tc, tr, M, L, H, W, hMB⟩ := Y
  refine wp_s (pc' := 390) ji_0_389 rfl rfl rfl ?_
  refine wp_s (pc' := 391) ji_0_390 rfl rfl rfl ?_
  refine wp_s (pc' := 392) ji_0_391 rfl rfl rfl ?_
  refine wp_s (pc' := 393) ji_0_392 rfl rfl rfl ?_
  refine wp_iadd (x := i) (y := 1) (z := i + 1) ji_0_393 (by omega) ?_
  refine wp_ial (x := i + 1) ji_0_394 W.1.2.2.2 (by omega) (by omega) (by omega) (hsl (i + 1).toNat (by omega)) ?_
  have e1 := el_r sl (i + 1).toNat
  obtain ⟨fs2, hc2⟩ := lw_c9 W.1
  refine wp_vc (d := 1199) (as := [.ref 9, wp_i (sx_el sl (i + 1).toNat)]) (rest := []) ji_0_395 jc_0_37 rfl hc2 jk_54.symm (Nat.le_of_ble_eq_true rfl) rfl (by rw [jn_54]; rfl) (tc_Fault AM L (el_r _ _) W (by omega)) (fun v h R => ?_)
  obtain ⟨rfl, W⟩ := R
  show wp_R 1200 0 398 [some (.ref 0), some (.ref 9), some (.ref 138), some (wp_i i)] [wp_i (cFault s (sx_el sl (i + 1).toNat))] h _
  refine wp_s (pc' := 399) ji_0_398 rfl rfl rfl ?_
  refine wp_s (pc' := 400) ji_0_399 rfl rfl rfl ?_
  refine wp_s (pc' := 401) ji_0_400 rfl rfl rfl ?_
  refine wp_s (pc' := 402) ji_0_401 rfl rfl rfl ?_
  refine wp_s (pc' := 403) ji_0_402 rfl rfl rfl ?_
  refine wp_iadd (x := i) (y := 1) (z := i + 1) ji_0_403 (by omega) ?_
  refine wp_ial (x := i + 1) ji_0_404 W.1.2.2.2 (by omega) (by omega) (by omega) (hsl (i + 1).toNat (by omega)) ?_
  have e3 := el_r sl (i + 1).toNat
  obtain ⟨fs4, hc4⟩ := lw_c138 W.1
  refine wp_vc (d := 1199) (as := [.ref 138, wp_i (sx_el sl (i + 1).toNat)]) (rest := []) ji_0_405 jc_0_40 rfl hc4 jk_214.symm (Nat.le_of_ble_eq_true rfl) rfl (by rw [jn_214]; rfl) (tr_Fault AM L (el_r _ _) W (by omega)) (fun v h R => ?_)
  obtain ⟨rfl, W⟩ := R
  rw [lw_Fault L]
  show wp_R 1200 0 408 [some (.ref 0), some (.ref 9), some (.ref 138), some (wp_i i)] [wp_i (cFault s (sx_el sl (i + 1).toNat))] h _
  refine wp_s (pc' := 409) ji_0_408 rfl rfl rfl ?_
  refine wp_goto (t := 1550) ji_0_409 rfl ?_
  exact hQ h ⟨_, _, _, _, L, H, WS_le W (by omega), by omega⟩
theorem lz9_6 (AM : lw_AM) {sl : List Value} {h : mj_H} {B i : Int} (Y : lw_V9 sl h B) (hi : 0 ≤ i ∧ i + 6 ≤ sl.length) (hl : sl.length ≤ 3072) (hsl : ∀ k, k < sl.length → sl[k]? = some (wp_i (sx_el sl k))) (hB : 0 ≤ B ∧ B ≤ 125000000) {Q : Option Value → mj_H → Prop} (hQ : ∀ h, lw_V9 sl h (B + 239976) → wp_R 1200 0 1550 [some (.ref 0), some (.ref 9), some (.ref 138), some (wp_i i)] [] h Q) : wp_R 1200 0 412 [some (.ref 0), some (.ref 9), some (.ref 138), some (wp_i i)] [] h Q := by
  obtain ⟨s, tc, tr, M, L, H, W, hMB⟩ := Y
  refine wp_s (pc' := 413) ji_0_412 rfl rfl rfl ?_
  refine wp_s (pc' := 414) ji_0_413 rfl rfl rfl ?_
  refine wp_s (pc' := 415) ji_0_414 rfl rfl rfl ?_
  refine wp_s (pc' := 416) ji_0_415 rfl rfl rfl ?_
  refine wp_iadd (x := i) (y := 1) (z := i + 1) ji_0_416 (by omega) ?_
  refine wp_ial (x := i + 1) ji_0_417 W.1.2.2.2 (by omega) (by omega) (by omega) (hsl (i + 1).toNat (by omega)) ?_
  have e1 := el_r sl (i + 1).toNat
  obtain ⟨fs2, hc2⟩ := lw_c9 W.1
  refine wp_vc (d := 1199) (as := [.ref 9, wp_i (sx_el sl (i + 1).toNat)]) (rest := []) ji_0_418 jc_0_41 rfl hc2 jk_55.symm (Nat.le_of_ble_eq_true rfl) rfl (by rw [jn_55]; rfl) (tc_By AM L (el_r _ _) W (by omega)) (fun v h R => ?_)
  obtain ⟨rfl, W⟩ := R
  show wp_R 1200 0 421 [some (.ref 0), some (.ref 9), some (.ref 138), some (wp_i i)] [wp_i ((cBy s (sx_el sl (i + 1).toNat)).1)] h _
  refine wp_s (pc' := 422) ji_0_421 rfl rfl rfl ?_
  refine wp_s (pc' := 423) ji_0_422 rfl rfl rfl ?_
  refine wp_s (pc' := 424) ji_0_423 rfl rfl rfl ?_
  refine wp_s (pc' := 425) ji_0_424 rfl rfl rfl ?_
  refine wp_s (pc' := 426) ji_0_425 rfl rfl rfl ?_
  refine wp_iadd (x := i) (y := 1) (z := i + 1) ji_0_426 (by omega) ?_
  refine wp_ial (x := i + 1) ji_0_427 W.1.2.2.2 (by omega) (by omega) (by omega) (hsl (i + 1).toNat (by omega)) ?_
  have e3 := el_r sl (i + 1).toNat
  obtain ⟨fs4, hc4⟩ := lw_c138 W.1
  refine wp_vc (d := 1199) (as := [.ref 138, wp_i (sx_el sl (i + 1).toNat)]) (rest := []) ji_0_428 jc_0_45 rfl hc4 jk_215.symm (Nat.le_of_ble_eq_true rfl) rfl (by rw [jn_215]; rfl) (tr_By AM L (el_r _ _) (by omega) W (by omega)) (fun v h R => ?_)
  obtain ⟨rfl, W⟩ := R
  have H := ht_By L H (x := sx_el sl (i + 1).toNat)
  obtain ⟨ee, L⟩ := lw_By L (x := sx_el sl (i + 1).toNat)
  rw [ee]
  show wp_R 1200 0 431 [some (.ref 0), some (.ref 9), some (.ref 138), some (wp_i i)] [wp_i ((cBy s (sx_el sl (i + 1).toNat)).1)] h _
  refine wp_s (pc' := 432) ji_0_431 rfl rfl rfl ?_
  refine wp_goto (t := 1550) ji_0_432 rfl ?_
  exact hQ h ⟨_, _, _, _, L, H, WS_le W (by omega), by omega⟩
theorem lz9_7 (AM : lw_AM) {sl : List Value} {h : mj_H} {B i : Int} (Y : lw_V9 sl h B) (hi : 0 ≤ i ∧ i + 6 ≤ sl.length) (hl : sl.length ≤ 3072) (hsl : ∀ k, k < sl.length → sl[k]? = some (wp_i (sx_el sl k))) (hB : 0 ≤ B ∧ B ≤ 125000000) {Q : Option Value → mj_H → Prop} (hQ : ∀ h, lw_V9 sl h (B + 239976) → wp_R 1200 0 1550 [some (.ref 0), some (.ref 9), some (.ref 138), some (wp_i i)] [] h Q) : wp_R 1200 0 435 [some (.ref 0), some (.ref 9), some (.ref 138), some (wp_i i)] [] h Q := by
  obtain ⟨s, tc, tr, M, L, H, W, hMB⟩ := Y
  refine wp_s (pc' := 436) ji_0_435 rfl rfl rfl ?_
  refine wp_s (pc' := 437) ji_0_436 rfl rfl rfl ?_
  refine wp_s (pc' := 438) ji_0_437 rfl rfl rfl ?_
  refine wp_s (pc' := 439) ji_0_438 rfl rfl rfl ?_
  refine wp_iadd (x := i) (y := 1) (z := i + 1) ji_0_439 (by omega) ?_
  refine wp_ial (x := i + 1) ji_0_440 W.1.2.2.2 (by omega) (by omega) (by omega) (hsl (i + 1).toNat (by omega)) ?_
  have e1 := el_r sl (i + 1).toNat
  obtain ⟨fs2, hc2⟩ := lw_c9 W.1
  refine wp_vc (d := 1199) (as := [.ref 9, wp_i (sx_el sl (i + 1).toNat)]) (rest := []) ji_0_441 jc_0_46 rfl hc2 jk_57.symm (Nat.le_of_ble_eq_true rfl) rfl (by rw [jn_57]; rfl) (tc_Hour AM L (el_r _ _) W (by omega)) (fun v h R => ?_)
  obtain ⟨rfl, W⟩ := R
  show wp_R 1200 0 444 [some (.ref 0), some (.ref 9), some (.ref 138), some (wp_i i)] [wp_i ((cHour tc s (sx_el sl (i + 1).toNat)).1)] h _
  refine wp_s (pc' := 445) ji_0_444 rfl rfl rfl ?_
  refine wp_s (pc' := 446) ji_0_445 rfl rfl rfl ?_
  refine wp_s (pc' := 447) ji_0_446 rfl rfl rfl ?_
  refine wp_s (pc' := 448) ji_0_447 rfl rfl rfl ?_
  refine wp_s (pc' := 449) ji_0_448 rfl rfl rfl ?_
  refine wp_iadd (x := i) (y := 1) (z := i + 1) ji_0_449 (by omega) ?_
  refine wp_ial (x := i + 1) ji_0_450 W.1.2.2.2 (by omega) (by omega) (by omega) (hsl (i + 1).toNat (by omega)) ?_
  have e3 := el_r sl (i + 1).toNat
  obtain ⟨fs4, hc4⟩ := lw_c138 W.1
  refine wp_vc (d := 1199) (as := [.ref 138, wp_i (sx_el sl (i + 1).toNat)]) (rest := []) ji_0_451 jc_0_49 rfl hc4 jk_217.symm (Nat.le_of_ble_eq_true rfl) rfl (by rw [jn_217]; rfl) (tr_Hour AM L (el_r _ _) (by omega) W (by omega)) (fun v h R => ?_)
  obtain ⟨rfl, W⟩ := R
  have H := ht_Hour L H (n := sx_el sl (i + 1).toNat)
  obtain ⟨ee, L⟩ := lw_Hour L (n := sx_el sl (i + 1).toNat)
  rw [ee]
  show wp_R 1200 0 454 [some (.ref 0), some (.ref 9), some (.ref 138), some (wp_i i)] [wp_i ((cHour tc s (sx_el sl (i + 1).toNat)).1)] h _
  refine wp_s (pc' := 455) ji_0_454 rfl rfl rfl ?_
  refine wp_goto (t := 1550) ji_0_455 rfl ?_
  exact hQ h ⟨_, _, _, _, L, H, WS_le W (by omega), by omega⟩
theorem lz9_8 (AM : lw_AM) {sl : List Value} {h : mj_H} {B i : Int} (Y : lw_V9 sl h B) (hi : 0 ≤ i ∧ i + 6 ≤ sl.length) (hl : sl.length ≤ 3072) (hsl : ∀ k, k < sl.length → sl[k]? = some (wp_i (sx_el sl k))) (hB : 0 ≤ B ∧ B ≤ 125000000) {Q : Option Value → mj_H → Prop} (hQ : ∀ h, lw_V9 sl h (B + 239976) → wp_R 1200 0 1550 [some (.ref 0), some (.ref 9), some (.ref 138), some (wp_i i)] [] h Q) : wp_R 1200 0 458 [some (.ref 0), some (.ref 9), some (.ref 138), some (wp_i i)] [] h Q := by
  obtain ⟨s, tc, tr, M, L, H, W, hMB⟩ := Y
  refine wp_s (pc' := 459) ji_0_458 rfl rfl rfl ?_
  refine wp_s (pc' := 460) ji_0_459 rfl rfl rfl ?_
  refine wp_s (pc' := 461) ji_0_460 rfl rfl rfl ?_
  refine wp_s (pc' := 462) ji_0_461 rfl rfl rfl ?_
  refine wp_iadd (x := i) (y := 1) (z := i + 1) ji_0_462 (by omega) ?_
  refine wp_ial (x := i + 1) ji_0_463 W.1.2.2.2 (by omega) (by omega) (by omega) (hsl (i + 1).toNat (by omega)) ?_
  have e1 := el_r sl (i + 1).toNat
  refine wp_s (pc' := 465) ji_0_464 rfl rfl rfl ?_
  refine wp_s (pc' := 466) ji_0_465 rfl rfl rfl ?_
  refine wp_s (pc' := 467) ji_0_466 rfl rfl rfl ?_
  refine wp_iadd (x := i) (y := 2) (z := i + 2) ji_0_467 (by omega) ?_
  refine wp_ial (x := i + 2) ji_0_468 W.1.2.2.2 (by omega) (by omega) (by omega) (hsl (i + 2).toNat (by omega)) ?_
  have e2 := el_r sl (i + 2).toNat
  obtain ⟨fs3, hc3⟩ := lw_c9 W.1
  refine wp_vc (d := 1199) (as := [.ref 9, wp_i (sx_el sl (i + 1).toNat), wp_i (sx_el sl (i + 2).toNat)]) (rest := []) ji_0_469 jc_0_50 rfl hc3 jk_77.symm (Nat.le_of_ble_eq_true rfl) rfl (by rw [jn_77]; rfl) (tc_Hoist AM L (el_r _ _) (el_r _ _) W (by omega)) (fun v h R => ?_)
  obtain ⟨rfl, W⟩ := R
  show wp_R 1200 0 472 [some (.ref 0), some (.ref 9), some (.ref 138), some (wp_i i)] [wp_i ((cHoist s (sx_el sl (i + 1).toNat) (sx_el sl (i + 2).toNat)).1)] h _
  refine wp_s (pc' := 473) ji_0_472 rfl rfl rfl ?_
  refine wp_s (pc' := 474) ji_0_473 rfl rfl rfl ?_
  refine wp_s (pc' := 475) ji_0_474 rfl rfl rfl ?_
  refine wp_s (pc' := 476) ji_0_475 rfl rfl rfl ?_
  refine wp_s (pc' := 477) ji_0_476 rfl rfl rfl ?_
  refine wp_iadd (x := i) (y := 1) (z := i + 1) ji_0_477 (by omega) ?_
  refine wp_ial (x := i + 1) ji_0_478 W.1.2.2.2 (by omega) (by omega) (by omega) (hsl (i + 1).toNat (by omega)) ?_
  have e4 := el_r sl (i + 1).toNat
  refine wp_s (pc' := 480) ji_0_479 rfl rfl rfl ?_
  refine wp_s (pc' := 481) ji_0_480 rfl rfl rfl ?_
  refine wp_s (pc' := 482) ji_0_481 rfl rfl rfl ?_
  refine wp_iadd (x := i) (y := 2) (z := i + 2) ji_0_482 (by omega) ?_
  refine wp_ial (x := i + 2) ji_0_483 W.1.2.2.2 (by omega) (by omega) (by omega) (hsl (i + 2).toNat (by omega)) ?_
  have e5 := el_r sl (i + 2).toNat
  obtain ⟨fs6, hc6⟩ := lw_c138 W.1
  refine wp_vc (d := 1199) (as := [.ref 138, wp_i (sx_el sl (i + 1).toNat), wp_i (sx_el sl (i + 2).toNat)]) (rest := []) ji_0_484 jc_0_54 rfl hc6 jk_246.symm (Nat.le_of_ble_eq_true rfl) rfl (by rw [jn_246]; rfl) (tr_Hoist AM L (el_r _ _) (el_r _ _) (by omega) W (by omega)) (fun v h R => ?_)
  obtain ⟨rfl, W⟩ := R
  have H := ht_Hoist L H (w := sx_el sl (i + 1).toNat) (p := sx_el sl (i + 2).toNat)
  obtain ⟨ee, L⟩ := lw_Hoist L (w := sx_el sl (i + 1).toNat) (p := sx_el sl (i + 2).toNat)
  rw [ee]
  show wp_R 1200 0 487 [some (.ref 0), some (.ref 9), some (.ref 138), some (wp_i i)] [wp_i ((cHoist s (sx_el sl (i + 1).toNat) (sx_el sl (i + 2).toNat)).1)] h _
  refine wp_s (pc' := 488) ji_0_487 rfl rfl rfl ?_
  refine wp_goto (t := 1550) ji_0_488 rfl ?_
  exact hQ h ⟨_, _, _, _, L, H, WS_le W (by omega), by omega⟩
theorem lz9_9 (AM : lw_AM) {sl : List Value} {h : mj_H} {B i : Int} (Y : lw_V9 sl h B) (hi : 0 ≤ i ∧ i + 6 ≤ sl.length) (hl : sl.length ≤ 3072) (hsl : ∀ k, k < sl.length → sl[k]? = some (wp_i (sx_el sl k))) (hB : 0 ≤ B ∧ B ≤ 125000000) {Q : Option Value → mj_H → Prop} (hQ : ∀ h, lw_V9 sl h (B + 239976) → wp_R 1200 0 1550 [some (.ref 0), some (.ref 9), some (.ref 138), some (wp_i i)] [] h Q) : wp_R 1200 0 491 [some (.ref 0), some (.ref 9), some (.ref 138), some (wp_i i)] [] h Q := by
  obtain ⟨s, tc, tr, M, L, H, W, hMB⟩ := Y
  refine wp_s (pc' := 492) ji_0_491 rfl rfl rfl ?_
  refine wp_s (pc' := 493) ji_0_492 rfl rfl rfl ?_
  refine wp_s (pc' := 494) ji_0_493 rfl rfl rfl ?_
  refine wp_s (pc' := 495) ji_0_494 rfl rfl rfl ?_
  refine wp_iadd (x := i) (y := 1) (z := i + 1) ji_0_495 (by omega) ?_
  refine wp_ial (x := i + 1) ji_0_496 W.1.2.2.2 (by omega) (by omega) (by omega) (hsl (i + 1).toNat (by omega)) ?_
  have e1 := el_r sl (i + 1).toNat
  refine wp_s (pc' := 498) ji_0_497 rfl rfl rfl ?_
  refine wp_s (pc' := 499) ji_0_498 rfl rfl rfl ?_
  refine wp_s (pc' := 500) ji_0_499 rfl rfl rfl ?_
  refine wp_iadd (x := i) (y := 2) (z := i + 2) ji_0_500 (by omega) ?_
  refine wp_ial (x := i + 2) ji_0_501 W.1.2.2.2 (by omega) (by omega) (by omega) (hsl (i + 2).toNat (by omega)) ?_
  have e2 := el_r sl (i + 2).toNat
  obtain ⟨fs3, hc3⟩ := lw_c9 W.1
  refine wp_vc (d := 1199) (as := [.ref 9, wp_i (sx_el sl (i + 1).toNat), wp_i (sx_el sl (i + 2).toNat)]) (rest := []) ji_0_502 jc_0_55 rfl hc3 jk_83.symm (Nat.le_of_ble_eq_true rfl) rfl (by rw [jn_83]; rfl) (tc_Lower AM L (el_r _ _) (el_r _ _) W (by omega)) (fun v h R => ?_)
  obtain ⟨rfl, W⟩ := R
  show wp_R 1200 0 505 [some (.ref 0), some (.ref 9), some (.ref 138), some (wp_i i)] [wp_i ((cLower s (sx_el sl (i + 1).toNat) (sx_el sl (i + 2).toNat)).1)] h _
  refine wp_s (pc' := 506) ji_0_505 rfl rfl rfl ?_
  refine wp_s (pc' := 507) ji_0_506 rfl rfl rfl ?_
  refine wp_s (pc' := 508) ji_0_507 rfl rfl rfl ?_
  refine wp_s (pc' := 509) ji_0_508 rfl rfl rfl ?_
  refine wp_s (pc' := 510) ji_0_509 rfl rfl rfl ?_
  refine wp_iadd (x := i) (y := 1) (z := i + 1) ji_0_510 (by omega) ?_
  refine wp_ial (x := i + 1) ji_0_511 W.1.2.2.2 (by omega) (by omega) (by omega) (hsl (i + 1).toNat (by omega)) ?_
  have e4 := el_r sl (i + 1).toNat
  refine wp_s (pc' := 513) ji_0_512 rfl rfl rfl ?_
  refine wp_s (pc' := 514) ji_0_513 rfl rfl rfl ?_
  refine wp_s (pc' := 515) ji_0_514 rfl rfl rfl ?_
  refine wp_iadd (x := i) (y := 2) (z := i + 2) ji_0_515 (by omega) ?_
  refine wp_ial (x := i + 2) ji_0_516 W.1.2.2.2 (by omega) (by omega) (by omega) (hsl (i + 2).toNat (by omega)) ?_
  have e5 := el_r sl (i + 2).toNat
  obtain ⟨fs6, hc6⟩ := lw_c138 W.1
  refine wp_vc (d := 1199) (as := [.ref 138, wp_i (sx_el sl (i + 1).toNat), wp_i (sx_el sl (i + 2).toNat)]) (rest := []) ji_0_517 jc_0_58 rfl hc6 jk_251.symm (Nat.le_of_ble_eq_true rfl) rfl (by rw [jn_251]; rfl) (tr_Lower AM L (el_r _ _) (el_r _ _) (by omega) W (by omega)) (fun v h R => ?_)
  obtain ⟨rfl, W⟩ := R
  have H := ht_Lower L H (w := sx_el sl (i + 1).toNat) (p := sx_el sl (i + 2).toNat)
  obtain ⟨ee, L⟩ := lw_Lower L (w := sx_el sl (i + 1).toNat) (p := sx_el sl (i + 2).toNat)
  rw [ee]
  show wp_R 1200 0 520 [some (.ref 0), some (.ref 9), some (.ref 138), some (wp_i i)] [wp_i ((cLower s (sx_el sl (i + 1).toNat) (sx_el sl (i + 2).toNat)).1)] h _
  refine wp_s (pc' := 521) ji_0_520 rfl rfl rfl ?_
  refine wp_goto (t := 1550) ji_0_521 rfl ?_
  exact hQ h ⟨_, _, _, _, L, H, WS_le W (by omega), by omega⟩
theorem lz9_10 (AM : lw_AM) {sl : List Value} {h : mj_H} {B i : Int} (Y : lw_V9 sl h B) (hi : 0 ≤ i ∧ i + 6 ≤ sl.length) (hl : sl.length ≤ 3072) (hsl : ∀ k, k < sl.length → sl[k]? = some (wp_i (sx_el sl k))) (hB : 0 ≤ B ∧ B ≤ 125000000) {Q : Option Value → mj_H → Prop} (hQ : ∀ h, lw_V9 sl h (B + 239976) → wp_R 1200 0 1550 [some (.ref 0), some (.ref 9), some (.ref 138), some (wp_i i)] [] h Q) : wp_R 1200 0 524 [some (.ref 0), some (.ref 9), some (.ref 138), some (wp_i i)] [] h Q := by
  obtain ⟨s, tc, tr, M, L, H, W, hMB⟩ := Y
  refine wp_s (pc' := 525) ji_0_524 rfl rfl rfl ?_
  refine wp_s (pc' := 526) ji_0_525 rfl rfl rfl ?_
  refine wp_s (pc' := 527) ji_0_526 rfl rfl rfl ?_
  refine wp_s (pc' := 528) ji_0_527 rfl rfl rfl ?_
  refine wp_iadd (x := i) (y := 1) (z := i + 1) ji_0_528 (by omega) ?_
  refine wp_ial (x := i + 1) ji_0_529 W.1.2.2.2 (by omega) (by omega) (by omega) (hsl (i + 1).toNat (by omega)) ?_
  have e1 := el_r sl (i + 1).toNat
  refine wp_s (pc' := 531) ji_0_530 rfl rfl rfl ?_
  refine wp_s (pc' := 532) ji_0_531 rfl rfl rfl ?_
  refine wp_s (pc' := 533) ji_0_532 rfl rfl rfl ?_
  refine wp_iadd (x := i) (y := 2) (z := i + 2) ji_0_533 (by omega) ?_
  refine wp_ial (x := i + 2) ji_0_534 W.1.2.2.2 (by omega) (by omega) (by omega) (hsl (i + 2).toNat (by omega)) ?_
  have e2 := el_r sl (i + 2).toNat
  obtain ⟨fs3, hc3⟩ := lw_c9 W.1
  refine wp_vc (d := 1199) (as := [.ref 9, wp_i (sx_el sl (i + 1).toNat), wp_i (sx_el sl (i + 2).toNat)]) (rest := []) ji_0_535 jc_0_59 rfl hc3 jk_86.symm (Nat.le_of_ble_eq_true rfl) rfl (by rw [jn_86]; rfl) (tc_Prune AM L (el_r _ _) (el_r _ _) W (by omega)) (fun v h R => ?_)
  obtain ⟨rfl, W⟩ := R
  show wp_R 1200 0 538 [some (.ref 0), some (.ref 9), some (.ref 138), some (wp_i i)] [wp_i ((cPrune s (sx_el sl (i + 1).toNat) (sx_el sl (i + 2).toNat)).1)] h _
  refine wp_s (pc' := 539) ji_0_538 rfl rfl rfl ?_
  refine wp_s (pc' := 540) ji_0_539 rfl rfl rfl ?_
  refine wp_s (pc' := 541) ji_0_540 rfl rfl rfl ?_
  refine wp_s (pc' := 542) ji_0_541 rfl rfl rfl ?_
  refine wp_s (pc' := 543) ji_0_542 rfl rfl rfl ?_
  refine wp_iadd (x := i) (y := 1) (z := i + 1) ji_0_543 (by omega) ?_
  refine wp_ial (x := i + 1) ji_0_544 W.1.2.2.2 (by omega) (by omega) (by omega) (hsl (i + 1).toNat (by omega)) ?_
  have e4 := el_r sl (i + 1).toNat
  refine wp_s (pc' := 546) ji_0_545 rfl rfl rfl ?_
  refine wp_s (pc' := 547) ji_0_546 rfl rfl rfl ?_
  refine wp_s (pc' := 548) ji_0_547 rfl rfl rfl ?_
  refine wp_iadd (x := i) (y := 2) (z := i + 2) ji_0_548 (by omega) ?_
  refine wp_ial (x := i + 2) ji_0_549 W.1.2.2.2 (by omega) (by omega) (by omega) (hsl (i + 2).toNat (by omega)) ?_
  have e5 := el_r sl (i + 2).toNat
  obtain ⟨fs6, hc6⟩ := lw_c138 W.1
  refine wp_vc (d := 1199) (as := [.ref 138, wp_i (sx_el sl (i + 1).toNat), wp_i (sx_el sl (i + 2).toNat)]) (rest := []) ji_0_550 jc_0_62 rfl hc6 jk_252.symm (Nat.le_of_ble_eq_true rfl) rfl (by rw [jn_252]; rfl) (tr_Prune AM L (el_r _ _) (el_r _ _) (by omega) W (by omega)) (fun v h R => ?_)
  obtain ⟨rfl, W⟩ := R
  have H := ht_Prune L H (p := sx_el sl (i + 1).toNat) (n := sx_el sl (i + 2).toNat)
  obtain ⟨ee, L⟩ := lw_Prune L (p := sx_el sl (i + 1).toNat) (n := sx_el sl (i + 2).toNat)
  rw [ee]
  show wp_R 1200 0 553 [some (.ref 0), some (.ref 9), some (.ref 138), some (wp_i i)] [wp_i ((cPrune s (sx_el sl (i + 1).toNat) (sx_el sl (i + 2).toNat)).1)] h _
  refine wp_s (pc' := 554) ji_0_553 rfl rfl rfl ?_
  refine wp_goto (t := 1550) ji_0_554 rfl ?_
  exact hQ h ⟨_, _, _, _, L, H, WS_le W (by omega), by omega⟩
theorem lz9_11 (AM : lw_AM) {sl : List Value} {h : mj_H} {B i : Int} (Y : lw_V9 sl h B) (hi : 0 ≤ i ∧ i + 6 ≤ sl.length) (hl : sl.length ≤ 3072) (hsl : ∀ k, k < sl.length → sl[k]? = some (wp_i (sx_el sl k))) (hB : 0 ≤ B ∧ B ≤ 125000000) {Q : Option Value → mj_H → Prop} (hQ : ∀ h, lw_V9 sl h (B + 239976) → wp_R 1200 0 1550 [some (.ref 0), some (.ref 9), some (.ref 138), some (wp_i i)] [] h Q) : wp_R 1200 0 557 [some (.ref 0), some (.ref 9), some (.ref 138), some (wp_i i)] [] h Q := by
  obtain ⟨s, tc, tr, M, L, H, W, hMB⟩ := Y
  refine wp_s (pc' := 558) ji_0_557 rfl rfl rfl ?_
  refine wp_s (pc' := 559) ji_0_558 rfl rfl rfl ?_
  refine wp_s (pc' := 560) ji_0_559 rfl rfl rfl ?_
  refine wp_s (pc' := 561) ji_0_560 rfl rfl rfl ?_
  refine wp_iadd (x := i) (y := 1) (z := i + 1) ji_0_561 (by omega) ?_
  refine wp_ial (x := i + 1) ji_0_562 W.1.2.2.2 (by omega) (by omega) (by omega) (hsl (i + 1).toNat (by omega)) ?_
  have e1 := el_r sl (i + 1).toNat
  obtain ⟨fs2, hc2⟩ := lw_c9 W.1
  refine wp_vc (d := 1199) (as := [.ref 9, wp_i (sx_el sl (i + 1).toNat)]) (rest := []) ji_0_563 jc_0_63 rfl hc2 jk_90.symm (Nat.le_of_ble_eq_true rfl) rfl (by rw [jn_90]; rfl) (tc_Blow AM L (el_r _ _) W (by omega)) (fun v h R => ?_)
  obtain ⟨rfl, W⟩ := R
  show wp_R 1200 0 566 [some (.ref 0), some (.ref 9), some (.ref 138), some (wp_i i)] [wp_i ((cBlow s (sx_el sl (i + 1).toNat)).1)] h _
  refine wp_s (pc' := 567) ji_0_566 rfl rfl rfl ?_
  refine wp_s (pc' := 568) ji_0_567 rfl rfl rfl ?_
  refine wp_s (pc' := 569) ji_0_568 rfl rfl rfl ?_
  refine wp_s (pc' := 570) ji_0_569 rfl rfl rfl ?_
  refine wp_s (pc' := 571) ji_0_570 rfl rfl rfl ?_
  refine wp_iadd (x := i) (y := 1) (z := i + 1) ji_0_571 (by omega) ?_
  refine wp_ial (x := i + 1) ji_0_572 W.1.2.2.2 (by omega) (by omega) (by omega) (hsl (i + 1).toNat (by omega)) ?_
  have e3 := el_r sl (i + 1).toNat
  obtain ⟨fs4, hc4⟩ := lw_c138 W.1
  refine wp_vc (d := 1199) (as := [.ref 138, wp_i (sx_el sl (i + 1).toNat)]) (rest := []) ji_0_573 jc_0_66 rfl hc4 jk_254.symm (Nat.le_of_ble_eq_true rfl) rfl (by rw [jn_254]; rfl) (tr_Blow AM L (el_r _ _) (by omega) W (by omega)) (fun v h R => ?_)
  obtain ⟨rfl, W⟩ := R
  have H := ht_Blow L H (w := sx_el sl (i + 1).toNat)
  obtain ⟨ee, L⟩ := lw_Blow L (w := sx_el sl (i + 1).toNat)
  rw [ee]
  show wp_R 1200 0 576 [some (.ref 0), some (.ref 9), some (.ref 138), some (wp_i i)] [wp_i ((cBlow s (sx_el sl (i + 1).toNat)).1)] h _
  refine wp_s (pc' := 577) ji_0_576 rfl rfl rfl ?_
  refine wp_goto (t := 1550) ji_0_577 rfl ?_
  exact hQ h ⟨_, _, _, _, L, H, WS_le W (by omega), by omega⟩
theorem lz9_12 (AM : lw_AM) {sl : List Value} {h : mj_H} {B i : Int} (Y : lw_V9 sl h B) (hi : 0 ≤ i ∧ i + 6 ≤ sl.length) (hl : sl.length ≤ 3072) (hsl : ∀ k, k < sl.length → sl[k]? = some (wp_i (sx_el sl k))) (hB : 0 ≤ B ∧ B ≤ 125000000) {Q : Option Value → mj_H → Prop} (hQ : ∀ h, lw_V9 sl h (B + 239976) → wp_R 1200 0 1550 [some (.ref 0), some (.ref 9), some (.ref 138), some (wp_i i)] [] h Q) : wp_R 1200 0 580 [some (.ref 0), some (.ref 9), some (.ref 138), some (wp_i i)] [] h Q := by
  obtain ⟨s, tc, tr, M, L, H, W, hMB⟩ := Y
  refine wp_s (pc' := 581) ji_0_580 rfl rfl rfl ?_
  refine wp_s (pc' := 582) ji_0_581 rfl rfl rfl ?_
  refine wp_s (pc' := 583) ji_0_582 rfl rfl rfl ?_
  refine wp_s (pc' := 584) ji_0_583 rfl rfl rfl ?_
  refine wp_iadd (x := i) (y := 1) (z := i + 1) ji_0_584 (by omega) ?_
  refine wp_ial (x := i + 1) ji_0_585 W.1.2.2.2 (by omega) (by omega) (by omega) (hsl (i + 1).toNat (by omega)) ?_
  have e1 := el_r sl (i + 1).toNat
  obtain ⟨fs2, hc2⟩ := lw_c9 W.1
  refine wp_vc (d := 1199) (as := [.ref 9, wp_i (sx_el sl (i + 1).toNat)]) (rest := []) ji_0_586 jc_0_67 rfl hc2 jk_92.symm (Nat.le_of_ble_eq_true rfl) rfl (by rw [jn_92]; rfl) (tc_Played AM L (el_r _ _) W (by omega)) (fun v h R => ?_)
  obtain ⟨rfl, W⟩ := R
  show wp_R 1200 0 589 [some (.ref 0), some (.ref 9), some (.ref 138), some (wp_i i)] [wp_i ((cPlayed tc s (sx_el sl (i + 1).toNat)).1)] h _
  refine wp_s (pc' := 590) ji_0_589 rfl rfl rfl ?_
  refine wp_s (pc' := 591) ji_0_590 rfl rfl rfl ?_
  refine wp_s (pc' := 592) ji_0_591 rfl rfl rfl ?_
  refine wp_s (pc' := 593) ji_0_592 rfl rfl rfl ?_
  refine wp_s (pc' := 594) ji_0_593 rfl rfl rfl ?_
  refine wp_iadd (x := i) (y := 1) (z := i + 1) ji_0_594 (by omega) ?_
  refine wp_ial (x := i + 1) ji_0_595 W.1.2.2.2 (by omega) (by omega) (by omega) (hsl (i + 1).toNat (by omega)) ?_
  have e3 := el_r sl (i + 1).toNat
  obtain ⟨fs4, hc4⟩ := lw_c138 W.1
  refine wp_vc (d := 1199) (as := [.ref 138, wp_i (sx_el sl (i + 1).toNat)]) (rest := []) ji_0_596 jc_0_70 rfl hc4 jk_255.symm (Nat.le_of_ble_eq_true rfl) rfl (by rw [jn_255]; rfl) (tr_Played AM L (el_r _ _) (by omega) W (by omega)) (fun v h R => ?_)
  obtain ⟨rfl, W⟩ := R
  have H := ht_Played L H (x := sx_el sl (i + 1).toNat)
  obtain ⟨ee, L⟩ := lw_Played L (x := sx_el sl (i + 1).toNat)
  rw [ee]
  show wp_R 1200 0 599 [some (.ref 0), some (.ref 9), some (.ref 138), some (wp_i i)] [wp_i ((cPlayed tc s (sx_el sl (i + 1).toNat)).1)] h _
  refine wp_s (pc' := 600) ji_0_599 rfl rfl rfl ?_
  refine wp_goto (t := 1550) ji_0_600 rfl ?_
  exact hQ h ⟨_, _, _, _, L, H, WS_le W (by omega), by omega⟩
theorem lz9_13 (AM : lw_AM) {sl : List Value} {h : mj_H} {B i : Int} (Y : lw_V9 sl h B) (hi : 0 ≤ i ∧ i + 6 ≤ sl.length) (hl : sl.length ≤ 3072) (hsl : ∀ k, k < sl.length → sl[k]? = some (wp_i (sx_el sl k))) (hB : 0 ≤ B ∧ B ≤ 125000000) {Q : Option Value → mj_H → Prop} (hQ : ∀ h, lw_V9 sl h (B + 239976) → wp_R 1200 0 1550 [some (.ref 0), some (.ref 9), some (.ref 138), some (wp_i i)] [] h Q) : wp_R 1200 0 603 [some (.ref 0), some (.ref 9), some (.ref 138), some (wp_i i)] [] h Q := by
  obtain ⟨s, tc, tr, M, L, H, W, hMB⟩ := Y
  refine wp_s (pc' := 604) ji_0_603 rfl rfl rfl ?_
  refine wp_s (pc' := 605) ji_0_604 rfl rfl rfl ?_
  refine wp_s (pc' := 606) ji_0_605 rfl rfl rfl ?_
  refine wp_s (pc' := 607) ji_0_606 rfl rfl rfl ?_
  refine wp_iadd (x := i) (y := 1) (z := i + 1) ji_0_607 (by omega) ?_
  refine wp_ial (x := i + 1) ji_0_608 W.1.2.2.2 (by omega) (by omega) (by omega) (hsl (i + 1).toNat (by omega)) ?_
  have e1 := el_r sl (i + 1).toNat
  refine wp_s (pc' := 610) ji_0_609 rfl rfl rfl ?_
  refine wp_s (pc' := 611) ji_0_610 rfl rfl rfl ?_
  refine wp_s (pc' := 612) ji_0_611 rfl rfl rfl ?_
  refine wp_iadd (x := i) (y := 2) (z := i + 2) ji_0_612 (by omega) ?_
  refine wp_ial (x := i + 2) ji_0_613 W.1.2.2.2 (by omega) (by omega) (by omega) (hsl (i + 2).toNat (by omega)) ?_
  have e2 := el_r sl (i + 2).toNat
  obtain ⟨fs3, hc3⟩ := lw_c9 W.1
  refine wp_vc (d := 1199) (as := [.ref 9, wp_i (sx_el sl (i + 1).toNat), wp_i (sx_el sl (i + 2).toNat)]) (rest := []) ji_0_614 jc_0_71 rfl hc3 jk_93.symm (Nat.le_of_ble_eq_true rfl) rfl (by rw [jn_93]; rfl) (tc_Cent AM L (el_r _ _) (el_r _ _) W (by omega)) (fun v h R => ?_)
  obtain ⟨rfl, W⟩ := R
  show wp_R 1200 0 617 [some (.ref 0), some (.ref 9), some (.ref 138), some (wp_i i)] [wp_i ((cCent tc s (sx_el sl (i + 1).toNat) (sx_el sl (i + 2).toNat)).1)] h _
  refine wp_s (pc' := 618) ji_0_617 rfl rfl rfl ?_
  refine wp_s (pc' := 619) ji_0_618 rfl rfl rfl ?_
  refine wp_s (pc' := 620) ji_0_619 rfl rfl rfl ?_
  refine wp_s (pc' := 621) ji_0_620 rfl rfl rfl ?_
  refine wp_s (pc' := 622) ji_0_621 rfl rfl rfl ?_
  refine wp_iadd (x := i) (y := 1) (z := i + 1) ji_0_622 (by omega) ?_
  refine wp_ial (x := i + 1) ji_0_623 W.1.2.2.2 (by omega) (by omega) (by omega) (hsl (i + 1).toNat (by omega)) ?_
  have e4 := el_r sl (i + 1).toNat
  refine wp_s (pc' := 625) ji_0_624 rfl rfl rfl ?_
  refine wp_s (pc' := 626) ji_0_625 rfl rfl rfl ?_
  refine wp_s (pc' := 627) ji_0_626 rfl rfl rfl ?_
  refine wp_iadd (x := i) (y := 2) (z := i + 2) ji_0_627 (by omega) ?_
  refine wp_ial (x := i + 2) ji_0_628 W.1.2.2.2 (by omega) (by omega) (by omega) (hsl (i + 2).toNat (by omega)) ?_
  have e5 := el_r sl (i + 2).toNat
  obtain ⟨fs6, hc6⟩ := lw_c138 W.1
  refine wp_vc (d := 1199) (as := [.ref 138, wp_i (sx_el sl (i + 1).toNat), wp_i (sx_el sl (i + 2).toNat)]) (rest := []) ji_0_629 jc_0_74 rfl hc6 jk_257.symm (Nat.le_of_ble_eq_true rfl) rfl (by rw [jn_257]; rfl) (tr_Cent AM L (el_r _ _) (el_r _ _) (by omega) W (by omega)) (fun v h R => ?_)
  obtain ⟨rfl, W⟩ := R
  have H := ht_Cent L H (x := sx_el sl (i + 1).toNat) (n := sx_el sl (i + 2).toNat)
  obtain ⟨ee, L⟩ := lw_Cent L (x := sx_el sl (i + 1).toNat) (n := sx_el sl (i + 2).toNat)
  rw [ee]
  show wp_R 1200 0 632 [some (.ref 0), some (.ref 9), some (.ref 138), some (wp_i i)] [wp_i ((cCent tc s (sx_el sl (i + 1).toNat) (sx_el sl (i + 2).toNat)).1)] h _
  refine wp_s (pc' := 633) ji_0_632 rfl rfl rfl ?_
  refine wp_goto (t := 1550) ji_0_633 rfl ?_
  exact hQ h ⟨_, _, _, _, L, H, WS_le W (by omega), by omega⟩
theorem lz9_14 (AM : lw_AM) {sl : List Value} {h : mj_H} {B i : Int} (Y : lw_V9 sl h B) (hi : 0 ≤ i ∧ i + 6 ≤ sl.length) (hl : sl.length ≤ 3072) (hsl : ∀ k, k < sl.length → sl[k]? = some (wp_i (sx_el sl k))) (hB : 0 ≤ B ∧ B ≤ 125000000) {Q : Option Value → mj_H → Prop} (hQ : ∀ h, lw_V9 sl h (B + 239976) → wp_R 1200 0 1550 [some (.ref 0), some (.ref 9), some (.ref 138), some (wp_i i)] [] h Q) : wp_R 1200 0 636 [some (.ref 0), some (.ref 9), some (.ref 138), some (wp_i i)] [] h Q := by
  obtain ⟨s, tc, tr, M, L, H, W, hMB⟩ := Y
  refine wp_s (pc' := 637) ji_0_636 rfl rfl rfl ?_
  obtain ⟨fs1, hc1⟩ := lw_c9 W.1
  refine wp_vc (d := 1199) (as := [.ref 9]) (rest := []) ji_0_637 jc_0_75 rfl hc1 jk_95.symm (Nat.le_of_ble_eq_true rfl) rfl (by rw [jn_95]; rfl) (tc_Undo AM L  W (by omega)) (fun v h R => ?_)
  obtain ⟨rfl, W⟩ := R
  show wp_R 1200 0 640 [some (.ref 0), some (.ref 9), some (.ref 138), some (wp_i i)] [wp_i ((cUndo s).1)] h _
  refine wp_s (pc' := 641) ji_0_640 rfl rfl rfl ?_
  refine wp_s (pc' := 642) ji_0_641 rfl rfl rfl ?_
  obtain ⟨fs2, hc2⟩ := lw_c138 W.1
  refine wp_vc (d := 1199) (as := [.ref 138]) (rest := []) ji_0_642 jc_0_78 rfl hc2 jk_216.symm (Nat.le_of_ble_eq_true rfl) rfl (by rw [jn_216]; rfl) (tr_Undo AM L  (by omega) W (by omega)) (fun v h R => ?_)
  obtain ⟨rfl, W⟩ := R
  have H := ht_Undo L H
  obtain ⟨ee, L⟩ := lw_Undo L
  rw [ee]
  show wp_R 1200 0 645 [some (.ref 0), some (.ref 9), some (.ref 138), some (wp_i i)] [wp_i ((cUndo s).1)] h _
  refine wp_s (pc' := 646) ji_0_645 rfl rfl rfl ?_
  refine wp_goto (t := 1550) ji_0_646 rfl ?_
  exact hQ h ⟨_, _, _, _, L, H, WS_le W (by omega), by omega⟩
theorem lz9_15 (AM : lw_AM) {sl : List Value} {h : mj_H} {B i : Int} (Y : lw_V9 sl h B) (hi : 0 ≤ i ∧ i + 6 ≤ sl.length) (hl : sl.length ≤ 3072) (hsl : ∀ k, k < sl.length → sl[k]? = some (wp_i (sx_el sl k))) (hB : 0 ≤ B ∧ B ≤ 125000000) {Q : Option Value → mj_H → Prop} (hQ : ∀ h, lw_V9 sl h (B + 239976) → wp_R 1200 0 1550 [some (.ref 0), some (.ref 9), some (.ref 138), some (wp_i i)] [] h Q) : wp_R 1200 0 649 [some (.ref 0), some (.ref 9), some (.ref 138), some (wp_i i)] [] h Q := by
  obtain ⟨s, tc, tr, M, L, H, W, hMB⟩ := Y
  refine wp_s (pc' := 650) ji_0_649 rfl rfl rfl ?_
  refine wp_s (pc' := 651) ji_0_650 rfl rfl rfl ?_
  refine wp_s (pc' := 652) ji_0_651 rfl rfl rfl ?_
  refine wp_s (pc' := 653) ji_0_652 rfl rfl rfl ?_
  refine wp_iadd (x := i) (y := 1) (z := i + 1) ji_0_653 (by omega) ?_
  refine wp_ial (x := i + 1) ji_0_654 W.1.2.2.2 (by omega) (by omega) (by omega) (hsl (i + 1).toNat (by omega)) ?_
  have e1 := el_r sl (i + 1).toNat
  refine wp_s (pc' := 656) ji_0_655 rfl rfl rfl ?_
  refine wp_s (pc' := 657) ji_0_656 rfl rfl rfl ?_
  refine wp_s (pc' := 658) ji_0_657 rfl rfl rfl ?_
  refine wp_iadd (x := i) (y := 2) (z := i + 2) ji_0_658 (by omega) ?_
  refine wp_ial (x := i + 2) ji_0_659 W.1.2.2.2 (by omega) (by omega) (by omega) (hsl (i + 2).toNat (by omega)) ?_
  have e2 := el_r sl (i + 2).toNat
  obtain ⟨fs3, hc3⟩ := lw_c9 W.1
  refine wp_vc (d := 1199) (as := [.ref 9, wp_i (sx_el sl (i + 1).toNat), wp_i (sx_el sl (i + 2).toNat)]) (rest := []) ji_0_660 jc_0_79 rfl hc3 jk_97.symm (Nat.le_of_ble_eq_true rfl) rfl (by rw [jn_97]; rfl) (tg_97 AM L  W (by omega)) (fun v h R => ?_)
  obtain ⟨y3, rfl, -, s3, W, L9, fq⟩ := R
  have H := HT_q H (ht_b L).1 (ht_b L).2 fq
  have L := L9
  show wp_R 1200 0 663 [some (.ref 0), some (.ref 9), some (.ref 138), some (wp_i i)] [wp_i y3] h _
  refine wp_s (pc' := 664) ji_0_663 rfl rfl rfl ?_
  refine wp_s (pc' := 665) ji_0_664 rfl rfl rfl ?_
  refine wp_s (pc' := 666) ji_0_665 rfl rfl rfl ?_
  refine wp_s (pc' := 667) ji_0_666 rfl rfl rfl ?_
  refine wp_s (pc' := 668) ji_0_667 rfl rfl rfl ?_
  refine wp_iadd (x := i) (y := 1) (z := i + 1) ji_0_668 (by omega) ?_
  refine wp_ial (x := i + 1) ji_0_669 W.1.2.2.2 (by omega) (by omega) (by omega) (hsl (i + 1).toNat (by omega)) ?_
  have e4 := el_r sl (i + 1).toNat
  refine wp_s (pc' := 671) ji_0_670 rfl rfl rfl ?_
  refine wp_s (pc' := 672) ji_0_671 rfl rfl rfl ?_
  refine wp_s (pc' := 673) ji_0_672 rfl rfl rfl ?_
  refine wp_iadd (x := i) (y := 2) (z := i + 2) ji_0_673 (by omega) ?_
  refine wp_ial (x := i + 2) ji_0_674 W.1.2.2.2 (by omega) (by omega) (by omega) (hsl (i + 2).toNat (by omega)) ?_
  have e5 := el_r sl (i + 2).toNat
  obtain ⟨fs6, hc6⟩ := lw_c138 W.1
  refine wp_vc (d := 1199) (as := [.ref 138, wp_i (sx_el sl (i + 1).toNat), wp_i (sx_el sl (i + 2).toNat)]) (rest := []) ji_0_675 jc_0_82 rfl hc6 jk_259.symm (Nat.le_of_ble_eq_true rfl) rfl (by rw [jn_259]; rfl) (tg_259 AM L  W (by omega)) (fun v h R => ?_)
  obtain ⟨y6, rfl, -, s6, W, L9, fq⟩ := R
  have H := HT_q H (ht_b L).1 (ht_b L).2 fq
  have L := L9
  show wp_R 1200 0 678 [some (.ref 0), some (.ref 9), some (.ref 138), some (wp_i i)] [wp_i y6] h _
  refine wp_s (pc' := 679) ji_0_678 rfl rfl rfl ?_
  refine wp_goto (t := 1550) ji_0_679 rfl ?_
  exact hQ h ⟨_, _, _, _, L, H, WS_le W (by omega), by omega⟩
theorem lz9_16 (AM : lw_AM) {sl : List Value} {h : mj_H} {B i : Int} (Y : lw_V9 sl h B) (hi : 0 ≤ i ∧ i + 6 ≤ sl.length) (hl : sl.length ≤ 3072) (hsl : ∀ k, k < sl.length → sl[k]? = some (wp_i (sx_el sl k))) (hB : 0 ≤ B ∧ B ≤ 125000000) {Q : Option Value → mj_H → Prop} (hQ : ∀ h, lw_V9 sl h (B + 239976) → wp_R 1200 0 1550 [some (.ref 0), some (.ref 9), some (.ref 138), some (wp_i i)] [] h Q) : wp_R 1200 0 682 [some (.ref 0), some (.ref 9), some (.ref 138), some (wp_i i)] [] h Q := by
  obtain ⟨s, tc, tr, M, L, H, W, hMB⟩ := Y
  refine wp_s (pc' := 683) ji_0_682 rfl rfl rfl ?_
  refine wp_s (pc' := 684) ji_0_683 rfl rfl rfl ?_
  refine wp_s (pc' := 685) ji_0_684 rfl rfl rfl ?_
  refine wp_s (pc' := 686) ji_0_685 rfl rfl rfl ?_
  refine wp_iadd (x := i) (y := 1) (z := i + 1) ji_0_686 (by omega) ?_
  refine wp_ial (x := i + 1) ji_0_687 W.1.2.2.2 (by omega) (by omega) (by omega) (hsl (i + 1).toNat (by omega)) ?_
  have e1 := el_r sl (i + 1).toNat
  refine wp_s (pc' := 689) ji_0_688 rfl rfl rfl ?_
  refine wp_s (pc' := 690) ji_0_689 rfl rfl rfl ?_
  refine wp_s (pc' := 691) ji_0_690 rfl rfl rfl ?_
  refine wp_iadd (x := i) (y := 2) (z := i + 2) ji_0_691 (by omega) ?_
  refine wp_ial (x := i + 2) ji_0_692 W.1.2.2.2 (by omega) (by omega) (by omega) (hsl (i + 2).toNat (by omega)) ?_
  have e2 := el_r sl (i + 2).toNat
  obtain ⟨fs3, hc3⟩ := lw_c9 W.1
  refine wp_vc (d := 1199) (as := [.ref 9, wp_i (sx_el sl (i + 1).toNat), wp_i (sx_el sl (i + 2).toNat)]) (rest := []) ji_0_693 jc_0_83 rfl hc3 jk_98.symm (Nat.le_of_ble_eq_true rfl) rfl (by rw [jn_98]; rfl) (tg_98 AM L  W (by omega)) (fun v h R => ?_)
  obtain ⟨y3, rfl, -, s3, W, L9, fq⟩ := R
  have H := HT_q H (ht_b L).1 (ht_b L).2 fq
  have L := L9
  show wp_R 1200 0 696 [some (.ref 0), some (.ref 9), some (.ref 138), some (wp_i i)] [wp_i y3] h _
  refine wp_s (pc' := 697) ji_0_696 rfl rfl rfl ?_
  refine wp_s (pc' := 698) ji_0_697 rfl rfl rfl ?_
  refine wp_s (pc' := 699) ji_0_698 rfl rfl rfl ?_
  refine wp_s (pc' := 700) ji_0_699 rfl rfl rfl ?_
  refine wp_s (pc' := 701) ji_0_700 rfl rfl rfl ?_
  refine wp_iadd (x := i) (y := 1) (z := i + 1) ji_0_701 (by omega) ?_
  refine wp_ial (x := i + 1) ji_0_702 W.1.2.2.2 (by omega) (by omega) (by omega) (hsl (i + 1).toNat (by omega)) ?_
  have e4 := el_r sl (i + 1).toNat
  refine wp_s (pc' := 704) ji_0_703 rfl rfl rfl ?_
  refine wp_s (pc' := 705) ji_0_704 rfl rfl rfl ?_
  refine wp_s (pc' := 706) ji_0_705 rfl rfl rfl ?_
  refine wp_iadd (x := i) (y := 2) (z := i + 2) ji_0_706 (by omega) ?_
  refine wp_ial (x := i + 2) ji_0_707 W.1.2.2.2 (by omega) (by omega) (by omega) (hsl (i + 2).toNat (by omega)) ?_
  have e5 := el_r sl (i + 2).toNat
  obtain ⟨fs6, hc6⟩ := lw_c138 W.1
  refine wp_vc (d := 1199) (as := [.ref 138, wp_i (sx_el sl (i + 1).toNat), wp_i (sx_el sl (i + 2).toNat)]) (rest := []) ji_0_708 jc_0_86 rfl hc6 jk_260.symm (Nat.le_of_ble_eq_true rfl) rfl (by rw [jn_260]; rfl) (tg_260 AM L  W (by omega)) (fun v h R => ?_)
  obtain ⟨y6, rfl, -, s6, W, L9, fq⟩ := R
  have H := HT_q H (ht_b L).1 (ht_b L).2 fq
  have L := L9
  show wp_R 1200 0 711 [some (.ref 0), some (.ref 9), some (.ref 138), some (wp_i i)] [wp_i y6] h _
  refine wp_s (pc' := 712) ji_0_711 rfl rfl rfl ?_
  refine wp_goto (t := 1550) ji_0_712 rfl ?_
  exact hQ h ⟨_, _, _, _, L, H, WS_le W (by omega), by omega⟩
theorem lz9_17 (AM : lw_AM) {sl : List Value} {h : mj_H} {B i : Int} (Y : lw_V9 sl h B) (hi : 0 ≤ i ∧ i + 6 ≤ sl.length) (hl : sl.length ≤ 3072) (hsl : ∀ k, k < sl.length → sl[k]? = some (wp_i (sx_el sl k))) (hB : 0 ≤ B ∧ B ≤ 125000000) {Q : Option Value → mj_H → Prop} (hQ : ∀ h, lw_V9 sl h (B + 239976) → wp_R 1200 0 1550 [some (.ref 0), some (.ref 9), some (.ref 138), some (wp_i i)] [] h Q) : wp_R 1200 0 715 [some (.ref 0), some (.ref 9), some (.ref 138), some (wp_i i)] [] h Q := by
  obtain ⟨s, tc, tr, M, L, H, W, hMB⟩ := Y
  refine wp_s (pc' := 716) ji_0_715 rfl rfl rfl ?_
  refine wp_s (pc' := 717) ji_0_716 rfl rfl rfl ?_
  refine wp_s (pc' := 718) ji_0_717 rfl rfl rfl ?_
  refine wp_s (pc' := 719) ji_0_718 rfl rfl rfl ?_
  refine wp_iadd (x := i) (y := 1) (z := i + 1) ji_0_719 (by omega) ?_
  refine wp_ial (x := i + 1) ji_0_720 W.1.2.2.2 (by omega) (by omega) (by omega) (hsl (i + 1).toNat (by omega)) ?_
  have e1 := el_r sl (i + 1).toNat
  refine wp_s (pc' := 722) ji_0_721 rfl rfl rfl ?_
  refine wp_s (pc' := 723) ji_0_722 rfl rfl rfl ?_
  refine wp_s (pc' := 724) ji_0_723 rfl rfl rfl ?_
  refine wp_iadd (x := i) (y := 2) (z := i + 2) ji_0_724 (by omega) ?_
  refine wp_ial (x := i + 2) ji_0_725 W.1.2.2.2 (by omega) (by omega) (by omega) (hsl (i + 2).toNat (by omega)) ?_
  have e2 := el_r sl (i + 2).toNat
  refine wp_s (pc' := 727) ji_0_726 rfl rfl rfl ?_
  refine wp_s (pc' := 728) ji_0_727 rfl rfl rfl ?_
  refine wp_s (pc' := 729) ji_0_728 rfl rfl rfl ?_
  refine wp_iadd (x := i) (y := 3) (z := i + 3) ji_0_729 (by omega) ?_
  refine wp_ial (x := i + 3) ji_0_730 W.1.2.2.2 (by omega) (by omega) (by omega) (hsl (i + 3).toNat (by omega)) ?_
  have e3 := el_r sl (i + 3).toNat
  obtain ⟨fs4, hc4⟩ := lw_c9 W.1
  refine wp_vc (d := 1199) (as := [.ref 9, wp_i (sx_el sl (i + 1).toNat), wp_i (sx_el sl (i + 2).toNat), wp_i (sx_el sl (i + 3).toNat)]) (rest := []) ji_0_731 jc_0_87 rfl hc4 jk_101.symm (Nat.le_of_ble_eq_true rfl) rfl (by rw [jn_101]; rfl) (tg_101 AM L  W (by omega)) (fun v h R => ?_)
  obtain ⟨y4, rfl, -, s4, W, L9, fq⟩ := R
  have H := HT_q H (ht_b L).1 (ht_b L).2 fq
  have L := L9
  show wp_R 1200 0 734 [some (.ref 0), some (.ref 9), some (.ref 138), some (wp_i i)] [wp_i y4] h _
  refine wp_s (pc' := 735) ji_0_734 rfl rfl rfl ?_
  refine wp_s (pc' := 736) ji_0_735 rfl rfl rfl ?_
  refine wp_s (pc' := 737) ji_0_736 rfl rfl rfl ?_
  refine wp_s (pc' := 738) ji_0_737 rfl rfl rfl ?_
  refine wp_s (pc' := 739) ji_0_738 rfl rfl rfl ?_
  refine wp_iadd (x := i) (y := 1) (z := i + 1) ji_0_739 (by omega) ?_
  refine wp_ial (x := i + 1) ji_0_740 W.1.2.2.2 (by omega) (by omega) (by omega) (hsl (i + 1).toNat (by omega)) ?_
  have e5 := el_r sl (i + 1).toNat
  refine wp_s (pc' := 742) ji_0_741 rfl rfl rfl ?_
  refine wp_s (pc' := 743) ji_0_742 rfl rfl rfl ?_
  refine wp_s (pc' := 744) ji_0_743 rfl rfl rfl ?_
  refine wp_iadd (x := i) (y := 2) (z := i + 2) ji_0_744 (by omega) ?_
  refine wp_ial (x := i + 2) ji_0_745 W.1.2.2.2 (by omega) (by omega) (by omega) (hsl (i + 2).toNat (by omega)) ?_
  have e6 := el_r sl (i + 2).toNat
  refine wp_s (pc' := 747) ji_0_746 rfl rfl rfl ?_
  refine wp_s (pc' := 748) ji_0_747 rfl rfl rfl ?_
  refine wp_s (pc' := 749) ji_0_748 rfl rfl rfl ?_
  refine wp_iadd (x := i) (y := 3) (z := i + 3) ji_0_749 (by omega) ?_
  refine wp_ial (x := i + 3) ji_0_750 W.1.2.2.2 (by omega) (by omega) (by omega) (hsl (i + 3).toNat (by omega)) ?_
  have e7 := el_r sl (i + 3).toNat
  obtain ⟨fs8, hc8⟩ := lw_c138 W.1
  refine wp_vc (d := 1199) (as := [.ref 138, wp_i (sx_el sl (i + 1).toNat), wp_i (sx_el sl (i + 2).toNat), wp_i (sx_el sl (i + 3).toNat)]) (rest := []) ji_0_751 jc_0_91 rfl hc8 jk_264.symm (Nat.le_of_ble_eq_true rfl) rfl (by rw [jn_264]; rfl) (tg_264 AM L  W (by omega)) (fun v h R => ?_)
  obtain ⟨y8, rfl, -, s8, W, L9, fq⟩ := R
  have H := HT_q H (ht_b L).1 (ht_b L).2 fq
  have L := L9
  show wp_R 1200 0 754 [some (.ref 0), some (.ref 9), some (.ref 138), some (wp_i i)] [wp_i y8] h _
  refine wp_s (pc' := 755) ji_0_754 rfl rfl rfl ?_
  refine wp_goto (t := 1550) ji_0_755 rfl ?_
  exact hQ h ⟨_, _, _, _, L, H, WS_le W (by omega), by omega⟩
theorem lz9_18 (AM : lw_AM) {sl : List Value} {h : mj_H} {B i : Int} (Y : lw_V9 sl h B) (hi : 0 ≤ i ∧ i + 6 ≤ sl.length) (hl : sl.length ≤ 3072) (hsl : ∀ k, k < sl.length → sl[k]? = some (wp_i (sx_el sl k))) (hB : 0 ≤ B ∧ B ≤ 125000000) {Q : Option Value → mj_H → Prop} (hQ : ∀ h, lw_V9 sl h (B + 239976) → wp_R 1200 0 1550 [some (.ref 0), some (.ref 9), some (.ref 138), some (wp_i i)] [] h Q) : wp_R 1200 0 758 [some (.ref 0), some (.ref 9), some (.ref 138), some (wp_i i)] [] h Q := by
  obtain ⟨s, tc, tr, M, L, H, W, hMB⟩ := Y
  refine wp_s (pc' := 759) ji_0_758 rfl rfl rfl ?_
  refine wp_s (pc' := 760) ji_0_759 rfl rfl rfl ?_
  refine wp_s (pc' := 761) ji_0_760 rfl rfl rfl ?_
  refine wp_s (pc' := 762) ji_0_761 rfl rfl rfl ?_
  refine wp_iadd (x := i) (y := 1) (z := i + 1) ji_0_762 (by omega) ?_
  refine wp_ial (x := i + 1) ji_0_763 W.1.2.2.2 (by omega) (by omega) (by omega) (hsl (i + 1).toNat (by omega)) ?_
  have e1 := el_r sl (i + 1).toNat
  obtain ⟨fs2, hc2⟩ := lw_c9 W.1
  refine wp_vc (d := 1199) (as := [.ref 9, wp_i (sx_el sl (i + 1).toNat)]) (rest := []) ji_0_764 jc_0_92 rfl hc2 jk_102.symm (Nat.le_of_ble_eq_true rfl) rfl (by rw [jn_102]; rfl) (tg_102 AM L  W (by omega)) (fun v h R => ?_)
  obtain ⟨y2, rfl, -, s2, W, L9, fq⟩ := R
  have H := HT_q H (ht_b L).1 (ht_b L).2 fq
  have L := L9
  show wp_R 1200 0 767 [some (.ref 0), some (.ref 9), some (.ref 138), some (wp_i i)] [wp_i y2] h _
  refine wp_s (pc' := 768) ji_0_767 rfl rfl rfl ?_
  refine wp_s (pc' := 769) ji_0_768 rfl rfl rfl ?_
  refine wp_s (pc' := 770) ji_0_769 rfl rfl rfl ?_
  refine wp_s (pc' := 771) ji_0_770 rfl rfl rfl ?_
  refine wp_s (pc' := 772) ji_0_771 rfl rfl rfl ?_
  refine wp_iadd (x := i) (y := 1) (z := i + 1) ji_0_772 (by omega) ?_
  refine wp_ial (x := i + 1) ji_0_773 W.1.2.2.2 (by omega) (by omega) (by omega) (hsl (i + 1).toNat (by omega)) ?_
  have e3 := el_r sl (i + 1).toNat
  obtain ⟨fs4, hc4⟩ := lw_c138 W.1
  refine wp_vc (d := 1199) (as := [.ref 138, wp_i (sx_el sl (i + 1).toNat)]) (rest := []) ji_0_774 jc_0_95 rfl hc4 jk_265.symm (Nat.le_of_ble_eq_true rfl) rfl (by rw [jn_265]; rfl) (tg_265 AM L  W (by omega)) (fun v h R => ?_)
  obtain ⟨y4, rfl, -, s4, W, L9, fq⟩ := R
  have H := HT_q H (ht_b L).1 (ht_b L).2 fq
  have L := L9
  show wp_R 1200 0 777 [some (.ref 0), some (.ref 9), some (.ref 138), some (wp_i i)] [wp_i y4] h _
  refine wp_s (pc' := 778) ji_0_777 rfl rfl rfl ?_
  refine wp_goto (t := 1550) ji_0_778 rfl ?_
  exact hQ h ⟨_, _, _, _, L, H, WS_le W (by omega), by omega⟩
theorem lz9_19 (AM : lw_AM) {sl : List Value} {h : mj_H} {B i : Int} (Y : lw_V9 sl h B) (hi : 0 ≤ i ∧ i + 6 ≤ sl.length) (hl : sl.length ≤ 3072) (hsl : ∀ k, k < sl.length → sl[k]? = some (wp_i (sx_el sl k))) (hB : 0 ≤ B ∧ B ≤ 125000000) {Q : Option Value → mj_H → Prop} (hQ : ∀ h, lw_V9 sl h (B + 239976) → wp_R 1200 0 1550 [some (.ref 0), some (.ref 9), some (.ref 138), some (wp_i i)] [] h Q) : wp_R 1200 0 781 [some (.ref 0), some (.ref 9), some (.ref 138), some (wp_i i)] [] h Q := by
  obtain ⟨s, tc, tr, M, L, H, W, hMB⟩ := Y
  refine wp_s (pc' := 782) ji_0_781 rfl rfl rfl ?_
  refine wp_s (pc' := 783) ji_0_782 rfl rfl rfl ?_
  refine wp_s (pc' := 784) ji_0_783 rfl rfl rfl ?_
  refine wp_s (pc' := 785) ji_0_784 rfl rfl rfl ?_
  refine wp_iadd (x := i) (y := 1) (z := i + 1) ji_0_785 (by omega) ?_
  refine wp_ial (x := i + 1) ji_0_786 W.1.2.2.2 (by omega) (by omega) (by omega) (hsl (i + 1).toNat (by omega)) ?_
  have e1 := el_r sl (i + 1).toNat
  refine wp_s (pc' := 788) ji_0_787 rfl rfl rfl ?_
  refine wp_s (pc' := 789) ji_0_788 rfl rfl rfl ?_
  refine wp_s (pc' := 790) ji_0_789 rfl rfl rfl ?_
  refine wp_iadd (x := i) (y := 2) (z := i + 2) ji_0_790 (by omega) ?_
  refine wp_ial (x := i + 2) ji_0_791 W.1.2.2.2 (by omega) (by omega) (by omega) (hsl (i + 2).toNat (by omega)) ?_
  have e2 := el_r sl (i + 2).toNat
  obtain ⟨fs3, hc3⟩ := lw_c9 W.1
  refine wp_vc (d := 1199) (as := [.ref 9, wp_i (sx_el sl (i + 1).toNat), wp_i (sx_el sl (i + 2).toNat)]) (rest := []) ji_0_792 jc_0_96 rfl hc3 jk_103.symm (Nat.le_of_ble_eq_true rfl) rfl (by rw [jn_103]; rfl) (tg_103 AM L  W (by omega)) (fun v h R => ?_)
  obtain ⟨y3, rfl, -, s3, W, L9, fq⟩ := R
  have H := HT_q H (ht_b L).1 (ht_b L).2 fq
  have L := L9
  show wp_R 1200 0 795 [some (.ref 0), some (.ref 9), some (.ref 138), some (wp_i i)] [wp_i y3] h _
  refine wp_s (pc' := 796) ji_0_795 rfl rfl rfl ?_
  refine wp_s (pc' := 797) ji_0_796 rfl rfl rfl ?_
  refine wp_s (pc' := 798) ji_0_797 rfl rfl rfl ?_
  refine wp_s (pc' := 799) ji_0_798 rfl rfl rfl ?_
  refine wp_s (pc' := 800) ji_0_799 rfl rfl rfl ?_
  refine wp_iadd (x := i) (y := 1) (z := i + 1) ji_0_800 (by omega) ?_
  refine wp_ial (x := i + 1) ji_0_801 W.1.2.2.2 (by omega) (by omega) (by omega) (hsl (i + 1).toNat (by omega)) ?_
  have e4 := el_r sl (i + 1).toNat
  refine wp_s (pc' := 803) ji_0_802 rfl rfl rfl ?_
  refine wp_s (pc' := 804) ji_0_803 rfl rfl rfl ?_
  refine wp_s (pc' := 805) ji_0_804 rfl rfl rfl ?_
  refine wp_iadd (x := i) (y := 2) (z := i + 2) ji_0_805 (by omega) ?_
  refine wp_ial (x := i + 2) ji_0_806 W.1.2.2.2 (by omega) (by omega) (by omega) (hsl (i + 2).toNat (by omega)) ?_
  have e5 := el_r sl (i + 2).toNat
  obtain ⟨fs6, hc6⟩ := lw_c138 W.1
  refine wp_vc (d := 1199) (as := [.ref 138, wp_i (sx_el sl (i + 1).toNat), wp_i (sx_el sl (i + 2).toNat)]) (rest := []) ji_0_807 jc_0_99 rfl hc6 jk_266.symm (Nat.le_of_ble_eq_true rfl) rfl (by rw [jn_266]; rfl) (tg_266 AM L  W (by omega)) (fun v h R => ?_)
  obtain ⟨y6, rfl, -, s6, W, L9, fq⟩ := R
  have H := HT_q H (ht_b L).1 (ht_b L).2 fq
  have L := L9
  show wp_R 1200 0 810 [some (.ref 0), some (.ref 9), some (.ref 138), some (wp_i i)] [wp_i y6] h _
  refine wp_s (pc' := 811) ji_0_810 rfl rfl rfl ?_
  refine wp_goto (t := 1550) ji_0_811 rfl ?_
  exact hQ h ⟨_, _, _, _, L, H, WS_le W (by omega), by omega⟩
theorem lz9_20 (AM : lw_AM) {sl : List Value} {h : mj_H} {B i : Int} (Y : lw_V9 sl h B) (hi : 0 ≤ i ∧ i + 6 ≤ sl.length) (hl : sl.length ≤ 3072) (hsl : ∀ k, k < sl.length → sl[k]? = some (wp_i (sx_el sl k))) (hB : 0 ≤ B ∧ B ≤ 125000000) {Q : Option Value → mj_H → Prop} (hQ : ∀ h, lw_V9 sl h (B + 239976) → wp_R 1200 0 1550 [some (.ref 0), some (.ref 9), some (.ref 138), some (wp_i i)] [] h Q) : wp_R 1200 0 814 [some (.ref 0), some (.ref 9), some (.ref 138), some (wp_i i)] [] h Q := by
  obtain ⟨s, tc, tr, M, L, H, W, hMB⟩ := Y
  refine wp_s (pc' := 815) ji_0_814 rfl rfl rfl ?_
  refine wp_s (pc' := 816) ji_0_815 rfl rfl rfl ?_
  refine wp_s (pc' := 817) ji_0_816 rfl rfl rfl ?_
  refine wp_s (pc' := 818) ji_0_817 rfl rfl rfl ?_
  refine wp_iadd (x := i) (y := 1) (z := i + 1) ji_0_818 (by omega) ?_
  refine wp_ial (x := i + 1) ji_0_819 W.1.2.2.2 (by omega) (by omega) (by omega) (hsl (i + 1).toNat (by omega)) ?_
  have e1 := el_r sl (i + 1).toNat
  obtain ⟨fs2, hc2⟩ := lw_c9 W.1
  refine wp_vc (d := 1199) (as := [.ref 9, wp_i (sx_el sl (i + 1).toNat)]) (rest := []) ji_0_820 jc_0_100 rfl hc2 jk_104.symm (Nat.le_of_ble_eq_true rfl) rfl (by rw [jn_104]; rfl) (tg_104 AM L (el_r _ _) (by omega) W (by omega)) (fun v h R => ?_)
  obtain ⟨y2, rfl, -, s2, W, L9, fq⟩ := R
  have H := HT_q H (ht_b L).1 (ht_b L).2 fq
  have L := L9
  show wp_R 1200 0 823 [some (.ref 0), some (.ref 9), some (.ref 138), some (wp_i i)] [wp_i y2] h _
  refine wp_s (pc' := 824) ji_0_823 rfl rfl rfl ?_
  refine wp_s (pc' := 825) ji_0_824 rfl rfl rfl ?_
  refine wp_s (pc' := 826) ji_0_825 rfl rfl rfl ?_
  refine wp_s (pc' := 827) ji_0_826 rfl rfl rfl ?_
  refine wp_s (pc' := 828) ji_0_827 rfl rfl rfl ?_
  refine wp_iadd (x := i) (y := 1) (z := i + 1) ji_0_828 (by omega) ?_
  refine wp_ial (x := i + 1) ji_0_829 W.1.2.2.2 (by omega) (by omega) (by omega) (hsl (i + 1).toNat (by omega)) ?_
  have e3 := el_r sl (i + 1).toNat
  obtain ⟨fs4, hc4⟩ := lw_c138 W.1
  refine wp_vc (d := 1199) (as := [.ref 138, wp_i (sx_el sl (i + 1).toNat)]) (rest := []) ji_0_830 jc_0_103 rfl hc4 jk_271.symm (Nat.le_of_ble_eq_true rfl) rfl (by rw [jn_271]; rfl) (tg_271 AM L (el_r _ _) (by omega) W (by omega)) (fun v h R => ?_)
  obtain ⟨y4, rfl, -, s4, W, L9, fq⟩ := R
  have H := HT_q H (ht_b L).1 (ht_b L).2 fq
  have L := L9
  show wp_R 1200 0 833 [some (.ref 0), some (.ref 9), some (.ref 138), some (wp_i i)] [wp_i y4] h _
  refine wp_s (pc' := 834) ji_0_833 rfl rfl rfl ?_
  refine wp_goto (t := 1550) ji_0_834 rfl ?_
  exact hQ h ⟨_, _, _, _, L, H, WS_le W (by omega), by omega⟩
theorem lz9_21 (AM : lw_AM) {sl : List Value} {h : mj_H} {B i : Int} (Y : lw_V9 sl h B) (hi : 0 ≤ i ∧ i + 6 ≤ sl.length) (hl : sl.length ≤ 3072) (hsl : ∀ k, k < sl.length → sl[k]? = some (wp_i (sx_el sl k))) (hB : 0 ≤ B ∧ B ≤ 125000000) {Q : Option Value → mj_H → Prop} (hQ : ∀ h, lw_V9 sl h (B + 239976) → wp_R 1200 0 1550 [some (.ref 0), some (.ref 9), some (.ref 138), some (wp_i i)] [] h Q) : wp_R 1200 0 837 [some (.ref 0), some (.ref 9), some (.ref 138), some (wp_i i)] [] h Q := by
  obtain ⟨s, tc, tr, M, L, H, W, hMB⟩ := Y
  refine wp_s (pc' := 838) ji_0_837 rfl rfl rfl ?_
  refine wp_s (pc' := 839) ji_0_838 rfl rfl rfl ?_
  refine wp_s (pc' := 840) ji_0_839 rfl rfl rfl ?_
  refine wp_s (pc' := 841) ji_0_840 rfl rfl rfl ?_
  refine wp_iadd (x := i) (y := 1) (z := i + 1) ji_0_841 (by omega) ?_
  refine wp_ial (x := i + 1) ji_0_842 W.1.2.2.2 (by omega) (by omega) (by omega) (hsl (i + 1).toNat (by omega)) ?_
  have e1 := el_r sl (i + 1).toNat
  refine wp_s (pc' := 844) ji_0_843 rfl rfl rfl ?_
  refine wp_s (pc' := 845) ji_0_844 rfl rfl rfl ?_
  refine wp_s (pc' := 846) ji_0_845 rfl rfl rfl ?_
  refine wp_iadd (x := i) (y := 2) (z := i + 2) ji_0_846 (by omega) ?_
  refine wp_ial (x := i + 2) ji_0_847 W.1.2.2.2 (by omega) (by omega) (by omega) (hsl (i + 2).toNat (by omega)) ?_
  have e2 := el_r sl (i + 2).toNat
  refine wp_s (pc' := 849) ji_0_848 rfl rfl rfl ?_
  refine wp_s (pc' := 850) ji_0_849 rfl rfl rfl ?_
  refine wp_s (pc' := 851) ji_0_850 rfl rfl rfl ?_
  refine wp_iadd (x := i) (y := 3) (z := i + 3) ji_0_851 (by omega) ?_
  refine wp_ial (x := i + 3) ji_0_852 W.1.2.2.2 (by omega) (by omega) (by omega) (hsl (i + 3).toNat (by omega)) ?_
  have e3 := el_r sl (i + 3).toNat
  obtain ⟨fs4, hc4⟩ := lw_c9 W.1
  refine wp_vc (d := 1199) (as := [.ref 9, wp_i (sx_el sl (i + 1).toNat), wp_i (sx_el sl (i + 2).toNat), wp_i (sx_el sl (i + 3).toNat)]) (rest := []) ji_0_853 jc_0_104 rfl hc4 jk_108.symm (Nat.le_of_ble_eq_true rfl) rfl (by rw [jn_108]; rfl) (tg_108 AM L (el_r _ _) (el_r _ _) (el_r _ _) (by omega) W (by omega)) (fun v h R => ?_)
  obtain ⟨y4, rfl, -, s4, W, L9, fq⟩ := R
  have H := HT_q H (ht_b L).1 (ht_b L).2 fq
  have L := L9
  show wp_R 1200 0 856 [some (.ref 0), some (.ref 9), some (.ref 138), some (wp_i i)] [wp_i y4] h _
  refine wp_s (pc' := 857) ji_0_856 rfl rfl rfl ?_
  refine wp_s (pc' := 858) ji_0_857 rfl rfl rfl ?_
  refine wp_s (pc' := 859) ji_0_858 rfl rfl rfl ?_
  refine wp_s (pc' := 860) ji_0_859 rfl rfl rfl ?_
  refine wp_s (pc' := 861) ji_0_860 rfl rfl rfl ?_
  refine wp_iadd (x := i) (y := 1) (z := i + 1) ji_0_861 (by omega) ?_
  refine wp_ial (x := i + 1) ji_0_862 W.1.2.2.2 (by omega) (by omega) (by omega) (hsl (i + 1).toNat (by omega)) ?_
  have e5 := el_r sl (i + 1).toNat
  refine wp_s (pc' := 864) ji_0_863 rfl rfl rfl ?_
  refine wp_s (pc' := 865) ji_0_864 rfl rfl rfl ?_
  refine wp_s (pc' := 866) ji_0_865 rfl rfl rfl ?_
  refine wp_iadd (x := i) (y := 2) (z := i + 2) ji_0_866 (by omega) ?_
  refine wp_ial (x := i + 2) ji_0_867 W.1.2.2.2 (by omega) (by omega) (by omega) (hsl (i + 2).toNat (by omega)) ?_
  have e6 := el_r sl (i + 2).toNat
  refine wp_s (pc' := 869) ji_0_868 rfl rfl rfl ?_
  refine wp_s (pc' := 870) ji_0_869 rfl rfl rfl ?_
  refine wp_s (pc' := 871) ji_0_870 rfl rfl rfl ?_
  refine wp_iadd (x := i) (y := 3) (z := i + 3) ji_0_871 (by omega) ?_
  refine wp_ial (x := i + 3) ji_0_872 W.1.2.2.2 (by omega) (by omega) (by omega) (hsl (i + 3).toNat (by omega)) ?_
  have e7 := el_r sl (i + 3).toNat
  obtain ⟨fs8, hc8⟩ := lw_c138 W.1
  refine wp_vc (d := 1199) (as := [.ref 138, wp_i (sx_el sl (i + 1).toNat), wp_i (sx_el sl (i + 2).toNat), wp_i (sx_el sl (i + 3).toNat)]) (rest := []) ji_0_873 jc_0_107 rfl hc8 jk_275.symm (Nat.le_of_ble_eq_true rfl) rfl (by rw [jn_275]; rfl) (tg_275 AM L (el_r _ _) (el_r _ _) (el_r _ _) (by omega) W (by omega)) (fun v h R => ?_)
  obtain ⟨y8, rfl, -, s8, W, L9, fq⟩ := R
  have H := HT_q H (ht_b L).1 (ht_b L).2 fq
  have L := L9
  show wp_R 1200 0 876 [some (.ref 0), some (.ref 9), some (.ref 138), some (wp_i i)] [wp_i y8] h _
  refine wp_s (pc' := 877) ji_0_876 rfl rfl rfl ?_
  refine wp_goto (t := 1550) ji_0_877 rfl ?_
  exact hQ h ⟨_, _, _, _, L, H, WS_le W (by omega), by omega⟩
theorem lz9_22 (AM : lw_AM) {sl : List Value} {h : mj_H} {B i : Int} (Y : lw_V9 sl h B) (hi : 0 ≤ i ∧ i + 6 ≤ sl.length) (hl : sl.length ≤ 3072) (hsl : ∀ k, k < sl.length → sl[k]? = some (wp_i (sx_el sl k))) (hB : 0 ≤ B ∧ B ≤ 125000000) {Q : Option Value → mj_H → Prop} (hQ : ∀ h, lw_V9 sl h (B + 239976) → wp_R 1200 0 1550 [some (.ref 0), some (.ref 9), some (.ref 138), some (wp_i i)] [] h Q) : wp_R 1200 0 880 [some (.ref 0), some (.ref 9), some (.ref 138), some (wp_i i)] [] h Q := by
  obtain ⟨s, tc, tr, M, L, H, W, hMB⟩ := Y
  refine wp_s (pc' := 881) ji_0_880 rfl rfl rfl ?_
  refine wp_s (pc' := 882) ji_0_881 rfl rfl rfl ?_
  refine wp_s (pc' := 883) ji_0_882 rfl rfl rfl ?_
  refine wp_s (pc' := 884) ji_0_883 rfl rfl rfl ?_
  refine wp_iadd (x := i) (y := 1) (z := i + 1) ji_0_884 (by omega) ?_
  refine wp_ial (x := i + 1) ji_0_885 W.1.2.2.2 (by omega) (by omega) (by omega) (hsl (i + 1).toNat (by omega)) ?_
  have e1 := el_r sl (i + 1).toNat
  obtain ⟨fs2, hc2⟩ := lw_c9 W.1
  refine wp_vc (d := 1199) (as := [.ref 9, wp_i (sx_el sl (i + 1).toNat)]) (rest := []) ji_0_886 jc_0_108 rfl hc2 jk_109.symm (Nat.le_of_ble_eq_true rfl) rfl (by rw [jn_109]; rfl) (tg_109 AM L (el_r _ _) (by omega) W (by omega)) (fun v h R => ?_)
  obtain ⟨y2, rfl, -, s2, W, L9, fq⟩ := R
  have H := HT_q H (ht_b L).1 (ht_b L).2 fq
  have L := L9
  show wp_R 1200 0 889 [some (.ref 0), some (.ref 9), some (.ref 138), some (wp_i i)] [wp_i y2] h _
  refine wp_s (pc' := 890) ji_0_889 rfl rfl rfl ?_
  refine wp_s (pc' := 891) ji_0_890 rfl rfl rfl ?_
  refine wp_s (pc' := 892) ji_0_891 rfl rfl rfl ?_
  refine wp_s (pc' := 893) ji_0_892 rfl rfl rfl ?_
  refine wp_s (pc' := 894) ji_0_893 rfl rfl rfl ?_
  refine wp_iadd (x := i) (y := 1) (z := i + 1) ji_0_894 (by omega) ?_
  refine wp_ial (x := i + 1) ji_0_895 W.1.2.2.2 (by omega) (by omega) (by omega) (hsl (i + 1).toNat (by omega)) ?_
  have e3 := el_r sl (i + 1).toNat
  obtain ⟨fs4, hc4⟩ := lw_c138 W.1
  refine wp_vc (d := 1199) (as := [.ref 138, wp_i (sx_el sl (i + 1).toNat)]) (rest := []) ji_0_896 jc_0_111 rfl hc4 jk_276.symm (Nat.le_of_ble_eq_true rfl) rfl (by rw [jn_276]; rfl) (tg_276 AM L (el_r _ _) (by omega) W (by omega)) (fun v h R => ?_)
  obtain ⟨y4, rfl, -, s4, W, L9, fq⟩ := R
  have H := HT_q H (ht_b L).1 (ht_b L).2 fq
  have L := L9
  show wp_R 1200 0 899 [some (.ref 0), some (.ref 9), some (.ref 138), some (wp_i i)] [wp_i y4] h _
  refine wp_s (pc' := 900) ji_0_899 rfl rfl rfl ?_
  refine wp_goto (t := 1550) ji_0_900 rfl ?_
  exact hQ h ⟨_, _, _, _, L, H, WS_le W (by omega), by omega⟩
theorem lz9_23 (AM : lw_AM) {sl : List Value} {h : mj_H} {B i : Int} (Y : lw_V9 sl h B) (hi : 0 ≤ i ∧ i + 6 ≤ sl.length) (hl : sl.length ≤ 3072) (hsl : ∀ k, k < sl.length → sl[k]? = some (wp_i (sx_el sl k))) (hB : 0 ≤ B ∧ B ≤ 125000000) {Q : Option Value → mj_H → Prop} (hQ : ∀ h, lw_V9 sl h (B + 239976) → wp_R 1200 0 1550 [some (.ref 0), some (.ref 9), some (.ref 138), some (wp_i i)] [] h Q) : wp_R 1200 0 903 [some (.ref 0), some (.ref 9), some (.ref 138), some (wp_i i)] [] h Q := by
  obtain ⟨s, tc, tr, M, L, H, W, hMB⟩ := Y
  refine wp_s (pc' := 904) ji_0_903 rfl rfl rfl ?_
  refine wp_s (pc' := 905) ji_0_904 rfl rfl rfl ?_
  refine wp_s (pc' := 906) ji_0_905 rfl rfl rfl ?_
  refine wp_s (pc' := 907) ji_0_906 rfl rfl rfl ?_
  refine wp_iadd (x := i) (y := 1) (z := i + 1) ji_0_907 (by omega) ?_
  refine wp_ial (x := i + 1) ji_0_908 W.1.2.2.2 (by omega) (by omega) (by omega) (hsl (i + 1).toNat (by omega)) ?_
  have e1 := el_r sl (i + 1).toNat
  obtain ⟨fs2, hc2⟩ := lw_c9 W.1
  refine wp_vc (d := 1199) (as := [.ref 9, wp_i (sx_el sl (i + 1).toNat)]) (rest := []) ji_0_909 jc_0_112 rfl hc2 jk_110.symm (Nat.le_of_ble_eq_true rfl) rfl (by rw [jn_110]; rfl) (tg_110 AM L  W (by omega)) (fun v h R => ?_)
  obtain ⟨y2, rfl, -, s2, W, L9, fq⟩ := R
  have H := HT_q H (ht_b L).1 (ht_b L).2 fq
  have L := L9
  show wp_R 1200 0 912 [some (.ref 0), some (.ref 9), some (.ref 138), some (wp_i i)] [wp_i y2] h _
  refine wp_s (pc' := 913) ji_0_912 rfl rfl rfl ?_
  refine wp_s (pc' := 914) ji_0_913 rfl rfl rfl ?_
  refine wp_s (pc' := 915) ji_0_914 rfl rfl rfl ?_
  refine wp_s (pc' := 916) ji_0_915 rfl rfl rfl ?_
  refine wp_s (pc' := 917) ji_0_916 rfl rfl rfl ?_
  refine wp_iadd (x := i) (y := 1) (z := i + 1) ji_0_917 (by omega) ?_
  refine wp_ial (x := i + 1) ji_0_918 W.1.2.2.2 (by omega) (by omega) (by omega) (hsl (i + 1).toNat (by omega)) ?_
  have e3 := el_r sl (i + 1).toNat
  obtain ⟨fs4, hc4⟩ := lw_c138 W.1
  refine wp_vc (d := 1199) (as := [.ref 138, wp_i (sx_el sl (i + 1).toNat)]) (rest := []) ji_0_919 jc_0_115 rfl hc4 jk_269.symm (Nat.le_of_ble_eq_true rfl) rfl (by rw [jn_269]; rfl) (tg_269 AM L  W (by omega)) (fun v h R => ?_)
  obtain ⟨y4, rfl, -, s4, W, L9, fq⟩ := R
  have H := HT_q H (ht_b L).1 (ht_b L).2 fq
  have L := L9
  show wp_R 1200 0 922 [some (.ref 0), some (.ref 9), some (.ref 138), some (wp_i i)] [wp_i y4] h _
  refine wp_s (pc' := 923) ji_0_922 rfl rfl rfl ?_
  refine wp_goto (t := 1550) ji_0_923 rfl ?_
  exact hQ h ⟨_, _, _, _, L, H, WS_le W (by omega), by omega⟩
theorem lz9_24 (AM : lw_AM) {sl : List Value} {h : mj_H} {B i : Int} (Y : lw_V9 sl h B) (hi : 0 ≤ i ∧ i + 6 ≤ sl.length) (hl : sl.length ≤ 3072) (hsl : ∀ k, k < sl.length → sl[k]? = some (wp_i (sx_el sl k))) (hB : 0 ≤ B ∧ B ≤ 125000000) {Q : Option Value → mj_H → Prop} (hQ : ∀ h, lw_V9 sl h (B + 239976) → wp_R 1200 0 1550 [some (.ref 0), some (.ref 9), some (.ref 138), some (wp_i i)] [] h Q) : wp_R 1200 0 926 [some (.ref 0), some (.ref 9), some (.ref 138), some (wp_i i)] [] h Q := by
  obtain ⟨s, tc, tr, M, L, H, W, hMB⟩ := Y
  refine wp_s (pc' := 927) ji_0_926 rfl rfl rfl ?_
  refine wp_s (pc' := 928) ji_0_927 rfl rfl rfl ?_
  refine wp_s (pc' := 929) ji_0_928 rfl rfl rfl ?_
  refine wp_s (pc' := 930) ji_0_929 rfl rfl rfl ?_
  refine wp_iadd (x := i) (y := 1) (z := i + 1) ji_0_930 (by omega) ?_
  refine wp_ial (x := i + 1) ji_0_931 W.1.2.2.2 (by omega) (by omega) (by omega) (hsl (i + 1).toNat (by omega)) ?_
  have e1 := el_r sl (i + 1).toNat
  obtain ⟨fs2, hc2⟩ := lw_c9 W.1
  refine wp_vc (d := 1199) (as := [.ref 9, wp_i (sx_el sl (i + 1).toNat)]) (rest := []) ji_0_932 jc_0_116 rfl hc2 jk_112.symm (Nat.le_of_ble_eq_true rfl) rfl (by rw [jn_112]; rfl) (tg_112 AM L  W (by omega)) (fun v h R => ?_)
  obtain ⟨y2, rfl, -, s2, W, L9, fq⟩ := R
  have H := HT_q H (ht_b L).1 (ht_b L).2 fq
  have L := L9
  show wp_R 1200 0 935 [some (.ref 0), some (.ref 9), some (.ref 138), some (wp_i i)] [wp_i y2] h _
  refine wp_s (pc' := 936) ji_0_935 rfl rfl rfl ?_
  refine wp_s (pc' := 937) ji_0_936 rfl rfl rfl ?_
  refine wp_s (pc' := 938) ji_0_937 rfl rfl rfl ?_
  refine wp_s (pc' := 939) ji_0_938 rfl rfl rfl ?_
  refine wp_s (pc' := 940) ji_0_939 rfl rfl rfl ?_
  refine wp_iadd (x := i) (y := 1) (z := i + 1) ji_0_940 (by omega) ?_
  refine wp_ial (x := i + 1) ji_0_941 W.1.2.2.2 (by omega) (by omega) (by omega) (hsl (i + 1).toNat (by omega)) ?_
  have e3 := el_r sl (i + 1).toNat
  obtain ⟨fs4, hc4⟩ := lw_c138 W.1
  refine wp_vc (d := 1199) (as := [.ref 138, wp_i (sx_el sl (i + 1).toNat)]) (rest := []) ji_0_942 jc_0_119 rfl hc4 jk_270.symm (Nat.le_of_ble_eq_true rfl) rfl (by rw [jn_270]; rfl) (tg_270 AM L  W (by omega)) (fun v h R => ?_)
  obtain ⟨y4, rfl, -, s4, W, L9, fq⟩ := R
  have H := HT_q H (ht_b L).1 (ht_b L).2 fq
  have L := L9
  show wp_R 1200 0 945 [some (.ref 0), some (.ref 9), some (.ref 138), some (wp_i i)] [wp_i y4] h _
  refine wp_s (pc' := 946) ji_0_945 rfl rfl rfl ?_
  refine wp_goto (t := 1550) ji_0_946 rfl ?_
  exact hQ h ⟨_, _, _, _, L, H, WS_le W (by omega), by omega⟩
theorem lz9_25 (AM : lw_AM) {sl : List Value} {h : mj_H} {B i : Int} (Y : lw_V9 sl h B) (hi : 0 ≤ i ∧ i + 6 ≤ sl.length) (hl : sl.length ≤ 3072) (hsl : ∀ k, k < sl.length → sl[k]? = some (wp_i (sx_el sl k))) (hB : 0 ≤ B ∧ B ≤ 125000000) {Q : Option Value → mj_H → Prop} (hQ : ∀ h, lw_V9 sl h (B + 239976) → wp_R 1200 0 1550 [some (.ref 0), some (.ref 9), some (.ref 138), some (wp_i i)] [] h Q) : wp_R 1200 0 949 [some (.ref 0), some (.ref 9), some (.ref 138), some (wp_i i)] [] h Q := by
  obtain ⟨s, tc, tr, M, L, H, W, hMB⟩ := Y
  refine wp_s (pc' := 950) ji_0_949 rfl rfl rfl ?_
  refine wp_s (pc' := 951) ji_0_950 rfl rfl rfl ?_
  refine wp_s (pc' := 952) ji_0_951 rfl rfl rfl ?_
  refine wp_s (pc' := 953) ji_0_952 rfl rfl rfl ?_
  refine wp_iadd (x := i) (y := 1) (z := i + 1) ji_0_953 (by omega) ?_
  refine wp_ial (x := i + 1) ji_0_954 W.1.2.2.2 (by omega) (by omega) (by omega) (hsl (i + 1).toNat (by omega)) ?_
  have e1 := el_r sl (i + 1).toNat
  refine wp_s (pc' := 956) ji_0_955 rfl rfl rfl ?_
  refine wp_s (pc' := 957) ji_0_956 rfl rfl rfl ?_
  refine wp_s (pc' := 958) ji_0_957 rfl rfl rfl ?_
  refine wp_iadd (x := i) (y := 2) (z := i + 2) ji_0_958 (by omega) ?_
  refine wp_ial (x := i + 2) ji_0_959 W.1.2.2.2 (by omega) (by omega) (by omega) (hsl (i + 2).toNat (by omega)) ?_
  have e2 := el_r sl (i + 2).toNat
  refine wp_s (pc' := 961) ji_0_960 rfl rfl rfl ?_
  refine wp_s (pc' := 962) ji_0_961 rfl rfl rfl ?_
  refine wp_s (pc' := 963) ji_0_962 rfl rfl rfl ?_
  refine wp_iadd (x := i) (y := 3) (z := i + 3) ji_0_963 (by omega) ?_
  refine wp_ial (x := i + 3) ji_0_964 W.1.2.2.2 (by omega) (by omega) (by omega) (hsl (i + 3).toNat (by omega)) ?_
  have e3 := el_r sl (i + 3).toNat
  refine wp_if (t := 972) ji_0_965 rfl (by omega) (fun (hb4 : (sx_el sl (i + 3).toNat : Int) = 0) => ?_) (fun (hb4 : ¬ ((sx_el sl (i + 3).toNat : Int) = 0)) => ?_)
  · refine wp_s (pc' := 973) ji_0_972 rfl rfl rfl ?_
    obtain ⟨fs5, hc5⟩ := lw_c9 W.1
    refine wp_vc (d := 1199) (as := [.ref 9, wp_i (sx_el sl (i + 1).toNat), wp_i (sx_el sl (i + 2).toNat), wp_i 0]) (rest := []) ji_0_973 jc_0_120 rfl hc5 jk_114.symm (Nat.le_of_ble_eq_true rfl) rfl (by rw [jn_114]; rfl) (tg_114 AM L (Or.inl rfl) (el_r _ _) (el_r _ _) (by omega) W (by omega)) (fun v h R => ?_)
    obtain ⟨y5, rfl, s5, W, L9, fq⟩ := R
    have H := HT_q H (ht_b L).1 (ht_b L).2 fq
    have L := L9
    show wp_R 1200 0 976 [some (.ref 0), some (.ref 9), some (.ref 138), some (wp_i i)] [wl_L (y5)] h _
    refine wp_s (pc' := 977) ji_0_976 rfl rfl rfl ?_
    refine wp_s (pc' := 978) ji_0_977 rfl rfl rfl ?_
    refine wp_s (pc' := 979) ji_0_978 rfl rfl rfl ?_
    refine wp_s (pc' := 980) ji_0_979 rfl rfl rfl ?_
    refine wp_s (pc' := 981) ji_0_980 rfl rfl rfl ?_
    refine wp_iadd (x := i) (y := 1) (z := i + 1) ji_0_981 (by omega) ?_
    refine wp_ial (x := i + 1) ji_0_982 W.1.2.2.2 (by omega) (by omega) (by omega) (hsl (i + 1).toNat (by omega)) ?_
    have e6 := el_r sl (i + 1).toNat
    refine wp_s (pc' := 984) ji_0_983 rfl rfl rfl ?_
    refine wp_s (pc' := 985) ji_0_984 rfl rfl rfl ?_
    refine wp_s (pc' := 986) ji_0_985 rfl rfl rfl ?_
    refine wp_iadd (x := i) (y := 2) (z := i + 2) ji_0_986 (by omega) ?_
    refine wp_ial (x := i + 2) ji_0_987 W.1.2.2.2 (by omega) (by omega) (by omega) (hsl (i + 2).toNat (by omega)) ?_
    have e7 := el_r sl (i + 2).toNat
    refine wp_s (pc' := 989) ji_0_988 rfl rfl rfl ?_
    refine wp_s (pc' := 990) ji_0_989 rfl rfl rfl ?_
    refine wp_s (pc' := 991) ji_0_990 rfl rfl rfl ?_
    refine wp_iadd (x := i) (y := 3) (z := i + 3) ji_0_991 (by omega) ?_
    refine wp_ial (x := i + 3) ji_0_992 W.1.2.2.2 (by omega) (by omega) (by omega) (hsl (i + 3).toNat (by omega)) ?_
    have e8 := el_r sl (i + 3).toNat
    refine wp_if (t := 1000) ji_0_993 rfl (by omega) (fun (hb9 : (sx_el sl (i + 3).toNat : Int) = 0) => ?_) (fun (hb9 : ¬ ((sx_el sl (i + 3).toNat : Int) = 0)) => (by exfalso; omega))
    refine wp_s (pc' := 1001) ji_0_1000 rfl rfl rfl ?_
    obtain ⟨fs10, hc10⟩ := lw_c138 W.1
    refine wp_vc (d := 1199) (as := [.ref 138, wp_i (sx_el sl (i + 1).toNat), wp_i (sx_el sl (i + 2).toNat), wp_i 0]) (rest := []) ji_0_1001 jc_0_124 rfl hc10 jk_277.symm (Nat.le_of_ble_eq_true rfl) rfl (by rw [jn_277]; rfl) (tg_277 AM L (Or.inl rfl) (el_r _ _) (el_r _ _) (by omega) W (by omega)) (fun v h R => ?_)
    obtain ⟨y10, rfl, s10, W, L9, fq⟩ := R
    have H := HT_q H (ht_b L).1 (ht_b L).2 fq
    have L := L9
    show wp_R 1200 0 1004 [some (.ref 0), some (.ref 9), some (.ref 138), some (wp_i i)] [wl_L (y10)] h _
    refine wp_s (pc' := 1005) ji_0_1004 rfl rfl rfl ?_
    refine wp_goto (t := 1550) ji_0_1005 rfl ?_
    exact hQ h ⟨_, _, _, _, L, H, WS_le W (by omega), by omega⟩
  · refine wp_s (pc' := 969) ji_0_968 rfl rfl rfl ?_
    refine wp_goto (t := 973) ji_0_969 rfl ?_
    obtain ⟨fs11, hc11⟩ := lw_c9 W.1
    refine wp_vc (d := 1199) (as := [.ref 9, wp_i (sx_el sl (i + 1).toNat), wp_i (sx_el sl (i + 2).toNat), wp_i 1]) (rest := []) ji_0_973 jc_0_120 rfl hc11 jk_114.symm (Nat.le_of_ble_eq_true rfl) rfl (by rw [jn_114]; rfl) (tg_114 AM L (Or.inr rfl) (el_r _ _) (el_r _ _) (by omega) W (by omega)) (fun v h R => ?_)
    obtain ⟨y11, rfl, s11, W, L9, fq⟩ := R
    have H := HT_q H (ht_b L).1 (ht_b L).2 fq
    have L := L9
    show wp_R 1200 0 976 [some (.ref 0), some (.ref 9), some (.ref 138), some (wp_i i)] [wl_L (y11)] h _
    refine wp_s (pc' := 977) ji_0_976 rfl rfl rfl ?_
    refine wp_s (pc' := 978) ji_0_977 rfl rfl rfl ?_
    refine wp_s (pc' := 979) ji_0_978 rfl rfl rfl ?_
    refine wp_s (pc' := 980) ji_0_979 rfl rfl rfl ?_
    refine wp_s (pc' := 981) ji_0_980 rfl rfl rfl ?_
    refine wp_iadd (x := i) (y := 1) (z := i + 1) ji_0_981 (by omega) ?_
    refine wp_ial (x := i + 1) ji_0_982 W.1.2.2.2 (by omega) (by omega) (by omega) (hsl (i + 1).toNat (by omega)) ?_
    have e12 := el_r sl (i + 1).toNat
    refine wp_s (pc' := 984) ji_0_983 rfl rfl rfl ?_
    refine wp_s (pc' := 985) ji_0_984 rfl rfl rfl ?_
    refine wp_s (pc' := 986) ji_0_985 rfl rfl rfl ?_
    refine wp_iadd (x := i) (y := 2) (z := i + 2) ji_0_986 (by omega) ?_
    refine wp_ial (x := i + 2) ji_0_987 W.1.2.2.2 (by omega) (by omega) (by omega) (hsl (i + 2).toNat (by omega)) ?_
    have e13 := el_r sl (i + 2).toNat
    refine wp_s (pc' := 989) ji_0_988 rfl rfl rfl ?_
    refine wp_s (pc' := 990) ji_0_989 rfl rfl rfl ?_
    refine wp_s (pc' := 991) ji_0_990 rfl rfl rfl ?_
    refine wp_iadd (x := i) (y := 3) (z := i + 3) ji_0_991 (by omega) ?_
    refine wp_ial (x := i + 3) ji_0_992 W.1.2.2.2 (by omega) (by omega) (by omega) (hsl (i + 3).toNat (by omega)) ?_
    have e14 := el_r sl (i + 3).toNat
    refine wp_if (t := 1000) ji_0_993 rfl (by omega) (fun (hb15 : (sx_el sl (i + 3).toNat : Int) = 0) => (by exfalso; omega)) (fun (hb15 : ¬ ((sx_el sl (i + 3).toNat : Int) = 0)) => ?_)
    refine wp_s (pc' := 997) ji_0_996 rfl rfl rfl ?_
    refine wp_goto (t := 1001) ji_0_997 rfl ?_
    obtain ⟨fs16, hc16⟩ := lw_c138 W.1
    refine wp_vc (d := 1199) (as := [.ref 138, wp_i (sx_el sl (i + 1).toNat), wp_i (sx_el sl (i + 2).toNat), wp_i 1]) (rest := []) ji_0_1001 jc_0_124 rfl hc16 jk_277.symm (Nat.le_of_ble_eq_true rfl) rfl (by rw [jn_277]; rfl) (tg_277 AM L (Or.inr rfl) (el_r _ _) (el_r _ _) (by omega) W (by omega)) (fun v h R => ?_)
    obtain ⟨y16, rfl, s16, W, L9, fq⟩ := R
    have H := HT_q H (ht_b L).1 (ht_b L).2 fq
    have L := L9
    show wp_R 1200 0 1004 [some (.ref 0), some (.ref 9), some (.ref 138), some (wp_i i)] [wl_L (y16)] h _
    refine wp_s (pc' := 1005) ji_0_1004 rfl rfl rfl ?_
    refine wp_goto (t := 1550) ji_0_1005 rfl ?_
    exact hQ h ⟨_, _, _, _, L, H, WS_le W (by omega), by omega⟩
theorem lz9_26 (AM : lw_AM) {sl : List Value} {h : mj_H} {B i : Int} (Y : lw_V9 sl h B) (hi : 0 ≤ i ∧ i + 6 ≤ sl.length) (hl : sl.length ≤ 3072) (hsl : ∀ k, k < sl.length → sl[k]? = some (wp_i (sx_el sl k))) (hB : 0 ≤ B ∧ B ≤ 125000000) {Q : Option Value → mj_H → Prop} (hQ : ∀ h, lw_V9 sl h (B + 239976) → wp_R 1200 0 1550 [some (.ref 0), some (.ref 9), some (.ref 138), some (wp_i i)] [] h Q) : wp_R 1200 0 1008 [some (.ref 0), some (.ref 9), some (.ref 138), some (wp_i i)] [] h Q := by
  obtain ⟨s, tc, tr, M, L, H, W, hMB⟩ := Y
  refine wp_s (pc' := 1009) ji_0_1008 rfl rfl rfl ?_
  refine wp_s (pc' := 1010) ji_0_1009 rfl rfl rfl ?_
  refine wp_s (pc' := 1011) ji_0_1010 rfl rfl rfl ?_
  refine wp_s (pc' := 1012) ji_0_1011 rfl rfl rfl ?_
  refine wp_iadd (x := i) (y := 1) (z := i + 1) ji_0_1012 (by omega) ?_
  refine wp_ial (x := i + 1) ji_0_1013 W.1.2.2.2 (by omega) (by omega) (by omega) (hsl (i + 1).toNat (by omega)) ?_
  have e1 := el_r sl (i + 1).toNat
  refine wp_s (pc' := 1015) ji_0_1014 rfl rfl rfl ?_
  refine wp_s (pc' := 1016) ji_0_1015 rfl rfl rfl ?_
  refine wp_s (pc' := 1017) ji_0_1016 rfl rfl rfl ?_
  refine wp_iadd (x := i) (y := 2) (z := i + 2) ji_0_1017 (by omega) ?_
  refine wp_ial (x := i + 2) ji_0_1018 W.1.2.2.2 (by omega) (by omega) (by omega) (hsl (i + 2).toNat (by omega)) ?_
  have e2 := el_r sl (i + 2).toNat
  refine wp_s (pc' := 1020) ji_0_1019 rfl rfl rfl ?_
  refine wp_s (pc' := 1021) ji_0_1020 rfl rfl rfl ?_
  refine wp_s (pc' := 1022) ji_0_1021 rfl rfl rfl ?_
  refine wp_iadd (x := i) (y := 3) (z := i + 3) ji_0_1022 (by omega) ?_
  refine wp_ial (x := i + 3) ji_0_1023 W.1.2.2.2 (by omega) (by omega) (by omega) (hsl (i + 3).toNat (by omega)) ?_
  have e3 := el_r sl (i + 3).toNat
  obtain ⟨fs4, hc4⟩ := lw_c9 W.1
  refine wp_vc (d := 1199) (as := [.ref 9, wp_i (sx_el sl (i + 1).toNat), wp_i (sx_el sl (i + 2).toNat), wp_i (sx_el sl (i + 3).toNat)]) (rest := []) ji_0_1024 jc_0_125 rfl hc4 jk_118.symm (Nat.le_of_ble_eq_true rfl) rfl (by rw [jn_118]; rfl) (tg_118 AM L (el_r _ _) (el_r _ _) (el_r _ _) (by omega) W (by omega)) (fun v h R => ?_)
  obtain ⟨y4, rfl, -, s4, W, L9, fq⟩ := R
  have H := HT_q H (ht_b L).1 (ht_b L).2 fq
  have L := L9
  show wp_R 1200 0 1027 [some (.ref 0), some (.ref 9), some (.ref 138), some (wp_i i)] [wp_i y4] h _
  refine wp_s (pc' := 1028) ji_0_1027 rfl rfl rfl ?_
  refine wp_s (pc' := 1029) ji_0_1028 rfl rfl rfl ?_
  refine wp_s (pc' := 1030) ji_0_1029 rfl rfl rfl ?_
  refine wp_s (pc' := 1031) ji_0_1030 rfl rfl rfl ?_
  refine wp_s (pc' := 1032) ji_0_1031 rfl rfl rfl ?_
  refine wp_iadd (x := i) (y := 1) (z := i + 1) ji_0_1032 (by omega) ?_
  refine wp_ial (x := i + 1) ji_0_1033 W.1.2.2.2 (by omega) (by omega) (by omega) (hsl (i + 1).toNat (by omega)) ?_
  have e5 := el_r sl (i + 1).toNat
  refine wp_s (pc' := 1035) ji_0_1034 rfl rfl rfl ?_
  refine wp_s (pc' := 1036) ji_0_1035 rfl rfl rfl ?_
  refine wp_s (pc' := 1037) ji_0_1036 rfl rfl rfl ?_
  refine wp_iadd (x := i) (y := 2) (z := i + 2) ji_0_1037 (by omega) ?_
  refine wp_ial (x := i + 2) ji_0_1038 W.1.2.2.2 (by omega) (by omega) (by omega) (hsl (i + 2).toNat (by omega)) ?_
  have e6 := el_r sl (i + 2).toNat
  refine wp_s (pc' := 1040) ji_0_1039 rfl rfl rfl ?_
  refine wp_s (pc' := 1041) ji_0_1040 rfl rfl rfl ?_
  refine wp_s (pc' := 1042) ji_0_1041 rfl rfl rfl ?_
  refine wp_iadd (x := i) (y := 3) (z := i + 3) ji_0_1042 (by omega) ?_
  refine wp_ial (x := i + 3) ji_0_1043 W.1.2.2.2 (by omega) (by omega) (by omega) (hsl (i + 3).toNat (by omega)) ?_
  have e7 := el_r sl (i + 3).toNat
  obtain ⟨fs8, hc8⟩ := lw_c138 W.1
  refine wp_vc (d := 1199) (as := [.ref 138, wp_i (sx_el sl (i + 1).toNat), wp_i (sx_el sl (i + 2).toNat), wp_i (sx_el sl (i + 3).toNat)]) (rest := []) ji_0_1044 jc_0_128 rfl hc8 jk_281.symm (Nat.le_of_ble_eq_true rfl) rfl (by rw [jn_281]; rfl) (tg_281 AM L (el_r _ _) (el_r _ _) (el_r _ _) (by omega) W (by omega)) (fun v h R => ?_)
  obtain ⟨y8, rfl, -, s8, W, L9, fq⟩ := R
  have H := HT_q H (ht_b L).1 (ht_b L).2 fq
  have L := L9
  show wp_R 1200 0 1047 [some (.ref 0), some (.ref 9), some (.ref 138), some (wp_i i)] [wp_i y8] h _
  refine wp_s (pc' := 1048) ji_0_1047 rfl rfl rfl ?_
  refine wp_goto (t := 1550) ji_0_1048 rfl ?_
  exact hQ h ⟨_, _, _, _, L, H, WS_le W (by omega), by omega⟩
theorem lz9_27 (AM : lw_AM) {sl : List Value} {h : mj_H} {B i : Int} (Y : lw_V9 sl h B) (hi : 0 ≤ i ∧ i + 6 ≤ sl.length) (hl : sl.length ≤ 3072) (hsl : ∀ k, k < sl.length → sl[k]? = some (wp_i (sx_el sl k))) (hB : 0 ≤ B ∧ B ≤ 125000000) {Q : Option Value → mj_H → Prop} (hQ : ∀ h, lw_V9 sl h (B + 239976) → wp_R 1200 0 1550 [some (.ref 0), some (.ref 9), some (.ref 138), some (wp_i i)] [] h Q) : wp_R 1200 0 1051 [some (.ref 0), some (.ref 9), some (.ref 138), some (wp_i i)] [] h Q := by
  obtain ⟨s, tc, tr, M, L, H, W, hMB⟩ := Y
  refine wp_s (pc' := 1052) ji_0_1051 rfl rfl rfl ?_
  refine wp_s (pc' := 1053) ji_0_1052 rfl rfl rfl ?_
  refine wp_s (pc' := 1054) ji_0_1053 rfl rfl rfl ?_
  refine wp_s (pc' := 1055) ji_0_1054 rfl rfl rfl ?_
  refine wp_iadd (x := i) (y := 1) (z := i + 1) ji_0_1055 (by omega) ?_
  refine wp_ial (x := i + 1) ji_0_1056 W.1.2.2.2 (by omega) (by omega) (by omega) (hsl (i + 1).toNat (by omega)) ?_
  have e1 := el_r sl (i + 1).toNat
  obtain ⟨fs2, hc2⟩ := lw_c9 W.1
  refine wp_vc (d := 1199) (as := [.ref 9, wp_i (sx_el sl (i + 1).toNat)]) (rest := []) ji_0_1057 jc_0_129 rfl hc2 jk_121.symm (Nat.le_of_ble_eq_true rfl) rfl (by rw [jn_121]; rfl) (tg_121 AM L  W (by omega)) (fun v h R => ?_)
  obtain ⟨y2, rfl, -, s2, W, L9, fq⟩ := R
  have H := HT_q H (ht_b L).1 (ht_b L).2 fq
  have L := L9
  show wp_R 1200 0 1060 [some (.ref 0), some (.ref 9), some (.ref 138), some (wp_i i)] [wp_i y2] h _
  refine wp_s (pc' := 1061) ji_0_1060 rfl rfl rfl ?_
  refine wp_s (pc' := 1062) ji_0_1061 rfl rfl rfl ?_
  refine wp_s (pc' := 1063) ji_0_1062 rfl rfl rfl ?_
  refine wp_s (pc' := 1064) ji_0_1063 rfl rfl rfl ?_
  refine wp_s (pc' := 1065) ji_0_1064 rfl rfl rfl ?_
  refine wp_iadd (x := i) (y := 1) (z := i + 1) ji_0_1065 (by omega) ?_
  refine wp_ial (x := i + 1) ji_0_1066 W.1.2.2.2 (by omega) (by omega) (by omega) (hsl (i + 1).toNat (by omega)) ?_
  have e3 := el_r sl (i + 1).toNat
  obtain ⟨fs4, hc4⟩ := lw_c138 W.1
  refine wp_vc (d := 1199) (as := [.ref 138, wp_i (sx_el sl (i + 1).toNat)]) (rest := []) ji_0_1067 jc_0_132 rfl hc4 jk_285.symm (Nat.le_of_ble_eq_true rfl) rfl (by rw [jn_285]; rfl) (tg_285 AM L  W (by omega)) (fun v h R => ?_)
  obtain ⟨y4, rfl, -, s4, W, L9, fq⟩ := R
  have H := HT_q H (ht_b L).1 (ht_b L).2 fq
  have L := L9
  show wp_R 1200 0 1070 [some (.ref 0), some (.ref 9), some (.ref 138), some (wp_i i)] [wp_i y4] h _
  refine wp_s (pc' := 1071) ji_0_1070 rfl rfl rfl ?_
  refine wp_goto (t := 1550) ji_0_1071 rfl ?_
  exact hQ h ⟨_, _, _, _, L, H, WS_le W (by omega), by omega⟩
theorem lz9_28 (AM : lw_AM) {sl : List Value} {h : mj_H} {B i : Int} (Y : lw_V9 sl h B) (hi : 0 ≤ i ∧ i + 6 ≤ sl.length) (hl : sl.length ≤ 3072) (hsl : ∀ k, k < sl.length → sl[k]? = some (wp_i (sx_el sl k))) (hB : 0 ≤ B ∧ B ≤ 125000000) {Q : Option Value → mj_H → Prop} (hQ : ∀ h, lw_V9 sl h (B + 239976) → wp_R 1200 0 1550 [some (.ref 0), some (.ref 9), some (.ref 138), some (wp_i i)] [] h Q) : wp_R 1200 0 1074 [some (.ref 0), some (.ref 9), some (.ref 138), some (wp_i i)] [] h Q := by
  obtain ⟨s, tc, tr, M, L, H, W, hMB⟩ := Y
  refine wp_s (pc' := 1075) ji_0_1074 rfl rfl rfl ?_
  refine wp_s (pc' := 1076) ji_0_1075 rfl rfl rfl ?_
  refine wp_s (pc' := 1077) ji_0_1076 rfl rfl rfl ?_
  refine wp_s (pc' := 1078) ji_0_1077 rfl rfl rfl ?_
  refine wp_iadd (x := i) (y := 1) (z := i + 1) ji_0_1078 (by omega) ?_
  refine wp_ial (x := i + 1) ji_0_1079 W.1.2.2.2 (by omega) (by omega) (by omega) (hsl (i + 1).toNat (by omega)) ?_
  have e1 := el_r sl (i + 1).toNat
  obtain ⟨fs2, hc2⟩ := lw_c9 W.1
  refine wp_vc (d := 1199) (as := [.ref 9, wp_i (sx_el sl (i + 1).toNat)]) (rest := []) ji_0_1080 jc_0_133 rfl hc2 jk_124.symm (Nat.le_of_ble_eq_true rfl) rfl (by rw [jn_124]; rfl) (tg_124 AM L (el_r _ _) (by omega) W (by omega)) (fun v h R => ?_)
  obtain ⟨y2, rfl, -, s2, W, L9, fq⟩ := R
  have H := HT_q H (ht_b L).1 (ht_b L).2 fq
  have L := L9
  show wp_R 1200 0 1083 [some (.ref 0), some (.ref 9), some (.ref 138), some (wp_i i)] [wp_i y2] h _
  refine wp_s (pc' := 1084) ji_0_1083 rfl rfl rfl ?_
  refine wp_s (pc' := 1085) ji_0_1084 rfl rfl rfl ?_
  refine wp_s (pc' := 1086) ji_0_1085 rfl rfl rfl ?_
  refine wp_s (pc' := 1087) ji_0_1086 rfl rfl rfl ?_
  refine wp_s (pc' := 1088) ji_0_1087 rfl rfl rfl ?_
  refine wp_iadd (x := i) (y := 1) (z := i + 1) ji_0_1088 (by omega) ?_
  refine wp_ial (x := i + 1) ji_0_1089 W.1.2.2.2 (by omega) (by omega) (by omega) (hsl (i + 1).toNat (by omega)) ?_
  have e3 := el_r sl (i + 1).toNat
  obtain ⟨fs4, hc4⟩ := lw_c138 W.1
  refine wp_vc (d := 1199) (as := [.ref 138, wp_i (sx_el sl (i + 1).toNat)]) (rest := []) ji_0_1090 jc_0_136 rfl hc4 jk_287.symm (Nat.le_of_ble_eq_true rfl) rfl (by rw [jn_287]; rfl) (tg_287 AM L (el_r _ _) (by omega) W (by omega)) (fun v h R => ?_)
  obtain ⟨y4, rfl, -, s4, W, L9, fq⟩ := R
  have H := HT_q H (ht_b L).1 (ht_b L).2 fq
  have L := L9
  show wp_R 1200 0 1093 [some (.ref 0), some (.ref 9), some (.ref 138), some (wp_i i)] [wp_i y4] h _
  refine wp_s (pc' := 1094) ji_0_1093 rfl rfl rfl ?_
  refine wp_goto (t := 1550) ji_0_1094 rfl ?_
  exact hQ h ⟨_, _, _, _, L, H, WS_le W (by omega), by omega⟩
theorem lz9_29 (AM : lw_AM) {sl : List Value} {h : mj_H} {B i : Int} (Y : lw_V9 sl h B) (hi : 0 ≤ i ∧ i + 6 ≤ sl.length) (hl : sl.length ≤ 3072) (hsl : ∀ k, k < sl.length → sl[k]? = some (wp_i (sx_el sl k))) (hB : 0 ≤ B ∧ B ≤ 125000000) {Q : Option Value → mj_H → Prop} (hQ : ∀ h, lw_V9 sl h (B + 239976) → wp_R 1200 0 1550 [some (.ref 0), some (.ref 9), some (.ref 138), some (wp_i i)] [] h Q) : wp_R 1200 0 1097 [some (.ref 0), some (.ref 9), some (.ref 138), some (wp_i i)] [] h Q := by
  obtain ⟨s, tc, tr, M, L, H, W, hMB⟩ := Y
  refine wp_s (pc' := 1098) ji_0_1097 rfl rfl rfl ?_
  refine wp_s (pc' := 1099) ji_0_1098 rfl rfl rfl ?_
  refine wp_s (pc' := 1100) ji_0_1099 rfl rfl rfl ?_
  refine wp_s (pc' := 1101) ji_0_1100 rfl rfl rfl ?_
  refine wp_iadd (x := i) (y := 1) (z := i + 1) ji_0_1101 (by omega) ?_
  refine wp_ial (x := i + 1) ji_0_1102 W.1.2.2.2 (by omega) (by omega) (by omega) (hsl (i + 1).toNat (by omega)) ?_
  have e1 := el_r sl (i + 1).toNat
  obtain ⟨fs2, hc2⟩ := lw_c9 W.1
  refine wp_vc (d := 1199) (as := [.ref 9, wp_i (sx_el sl (i + 1).toNat)]) (rest := []) ji_0_1103 jc_0_137 rfl hc2 jk_126.symm (Nat.le_of_ble_eq_true rfl) rfl (by rw [jn_126]; rfl) (tg_126 AM L  W (by omega)) (fun v h R => ?_)
  obtain ⟨y2, rfl, -, s2, W, L9, fq⟩ := R
  have H := HT_q H (ht_b L).1 (ht_b L).2 fq
  have L := L9
  show wp_R 1200 0 1106 [some (.ref 0), some (.ref 9), some (.ref 138), some (wp_i i)] [wp_i y2] h _
  refine wp_s (pc' := 1107) ji_0_1106 rfl rfl rfl ?_
  refine wp_s (pc' := 1108) ji_0_1107 rfl rfl rfl ?_
  refine wp_s (pc' := 1109) ji_0_1108 rfl rfl rfl ?_
  refine wp_s (pc' := 1110) ji_0_1109 rfl rfl rfl ?_
  refine wp_s (pc' := 1111) ji_0_1110 rfl rfl rfl ?_
  refine wp_iadd (x := i) (y := 1) (z := i + 1) ji_0_1111 (by omega) ?_
  refine wp_ial (x := i + 1) ji_0_1112 W.1.2.2.2 (by omega) (by omega) (by omega) (hsl (i + 1).toNat (by omega)) ?_
  have e3 := el_r sl (i + 1).toNat
  obtain ⟨fs4, hc4⟩ := lw_c138 W.1
  refine wp_vc (d := 1199) (as := [.ref 138, wp_i (sx_el sl (i + 1).toNat)]) (rest := []) ji_0_1113 jc_0_140 rfl hc4 jk_288.symm (Nat.le_of_ble_eq_true rfl) rfl (by rw [jn_288]; rfl) (tg_288 AM L  W (by omega)) (fun v h R => ?_)
  obtain ⟨y4, rfl, -, s4, W, L9, fq⟩ := R
  have H := HT_q H (ht_b L).1 (ht_b L).2 fq
  have L := L9
  show wp_R 1200 0 1116 [some (.ref 0), some (.ref 9), some (.ref 138), some (wp_i i)] [wp_i y4] h _
  refine wp_s (pc' := 1117) ji_0_1116 rfl rfl rfl ?_
  refine wp_goto (t := 1550) ji_0_1117 rfl ?_
  exact hQ h ⟨_, _, _, _, L, H, WS_le W (by omega), by omega⟩
theorem lz9_30 (AM : lw_AM) {sl : List Value} {h : mj_H} {B i : Int} (Y : lw_V9 sl h B) (hi : 0 ≤ i ∧ i + 6 ≤ sl.length) (hl : sl.length ≤ 3072) (hsl : ∀ k, k < sl.length → sl[k]? = some (wp_i (sx_el sl k))) (hB : 0 ≤ B ∧ B ≤ 125000000) {Q : Option Value → mj_H → Prop} (hQ : ∀ h, lw_V9 sl h (B + 239976) → wp_R 1200 0 1550 [some (.ref 0), some (.ref 9), some (.ref 138), some (wp_i i)] [] h Q) : wp_R 1200 0 1120 [some (.ref 0), some (.ref 9), some (.ref 138), some (wp_i i)] [] h Q := by
  obtain ⟨s, tc, tr, M, L, H, W, hMB⟩ := Y
  refine wp_s (pc' := 1121) ji_0_1120 rfl rfl rfl ?_
  refine wp_s (pc' := 1122) ji_0_1121 rfl rfl rfl ?_
  refine wp_s (pc' := 1123) ji_0_1122 rfl rfl rfl ?_
  refine wp_s (pc' := 1124) ji_0_1123 rfl rfl rfl ?_
  refine wp_iadd (x := i) (y := 1) (z := i + 1) ji_0_1124 (by omega) ?_
  refine wp_ial (x := i + 1) ji_0_1125 W.1.2.2.2 (by omega) (by omega) (by omega) (hsl (i + 1).toNat (by omega)) ?_
  have e1 := el_r sl (i + 1).toNat
  obtain ⟨fs2, hc2⟩ := lw_c9 W.1
  refine wp_vc (d := 1199) (as := [.ref 9, wp_i (sx_el sl (i + 1).toNat)]) (rest := []) ji_0_1126 jc_0_141 rfl hc2 jk_129.symm (Nat.le_of_ble_eq_true rfl) rfl (by rw [jn_129]; rfl) (tg_129 AM L  W (by omega)) (fun v h R => ?_)
  obtain ⟨y2, rfl, -, s2, W, L9, fq⟩ := R
  have H := HT_q H (ht_b L).1 (ht_b L).2 fq
  have L := L9
  show wp_R 1200 0 1129 [some (.ref 0), some (.ref 9), some (.ref 138), some (wp_i i)] [wp_i y2] h _
  refine wp_s (pc' := 1130) ji_0_1129 rfl rfl rfl ?_
  refine wp_s (pc' := 1131) ji_0_1130 rfl rfl rfl ?_
  refine wp_s (pc' := 1132) ji_0_1131 rfl rfl rfl ?_
  refine wp_s (pc' := 1133) ji_0_1132 rfl rfl rfl ?_
  refine wp_s (pc' := 1134) ji_0_1133 rfl rfl rfl ?_
  refine wp_iadd (x := i) (y := 1) (z := i + 1) ji_0_1134 (by omega) ?_
  refine wp_ial (x := i + 1) ji_0_1135 W.1.2.2.2 (by omega) (by omega) (by omega) (hsl (i + 1).toNat (by omega)) ?_
  have e3 := el_r sl (i + 1).toNat
  obtain ⟨fs4, hc4⟩ := lw_c138 W.1
  refine wp_vc (d := 1199) (as := [.ref 138, wp_i (sx_el sl (i + 1).toNat)]) (rest := []) ji_0_1136 jc_0_144 rfl hc4 jk_290.symm (Nat.le_of_ble_eq_true rfl) rfl (by rw [jn_290]; rfl) (tg_290 AM L  W (by omega)) (fun v h R => ?_)
  obtain ⟨y4, rfl, -, s4, W, L9, fq⟩ := R
  have H := HT_q H (ht_b L).1 (ht_b L).2 fq
  have L := L9
  show wp_R 1200 0 1139 [some (.ref 0), some (.ref 9), some (.ref 138), some (wp_i i)] [wp_i y4] h _
  refine wp_s (pc' := 1140) ji_0_1139 rfl rfl rfl ?_
  refine wp_goto (t := 1550) ji_0_1140 rfl ?_
  exact hQ h ⟨_, _, _, _, L, H, WS_le W (by omega), by omega⟩
theorem lz9_31 (AM : lw_AM) {sl : List Value} {h : mj_H} {B i : Int} (Y : lw_V9 sl h B) (hi : 0 ≤ i ∧ i + 6 ≤ sl.length) (hl : sl.length ≤ 3072) (hsl : ∀ k, k < sl.length → sl[k]? = some (wp_i (sx_el sl k))) (hB : 0 ≤ B ∧ B ≤ 125000000) {Q : Option Value → mj_H → Prop} (hQ : ∀ h, lw_V9 sl h (B + 239976) → wp_R 1200 0 1550 [some (.ref 0), some (.ref 9), some (.ref 138), some (wp_i i)] [] h Q) : wp_R 1200 0 1143 [some (.ref 0), some (.ref 9), some (.ref 138), some (wp_i i)] [] h Q := by
  obtain ⟨s, tc, tr, M, L, H, W, hMB⟩ := Y
  refine wp_s (pc' := 1144) ji_0_1143 rfl rfl rfl ?_
  obtain ⟨fs1, hc1⟩ := lw_c9 W.1
  refine wp_vc (d := 1199) (as := [.ref 9]) (rest := []) ji_0_1144 jc_0_145 rfl hc1 jk_131.symm (Nat.le_of_ble_eq_true rfl) rfl (by rw [jn_131]; rfl) (tg_131 AM L  W (by omega)) (fun v h R => ?_)
  obtain ⟨y1, rfl, -, s1, W, L9, fq⟩ := R
  have H := HT_q H (ht_b L).1 (ht_b L).2 fq
  have L := L9
  show wp_R 1200 0 1147 [some (.ref 0), some (.ref 9), some (.ref 138), some (wp_i i)] [wp_i y1] h _
  refine wp_s (pc' := 1148) ji_0_1147 rfl rfl rfl ?_
  refine wp_s (pc' := 1149) ji_0_1148 rfl rfl rfl ?_
  obtain ⟨fs2, hc2⟩ := lw_c138 W.1
  refine wp_vc (d := 1199) (as := [.ref 138]) (rest := []) ji_0_1149 jc_0_148 rfl hc2 jk_292.symm (Nat.le_of_ble_eq_true rfl) rfl (by rw [jn_292]; rfl) (tg_292 AM L  W (by omega)) (fun v h R => ?_)
  obtain ⟨y2, rfl, -, s2, W, L9, fq⟩ := R
  have H := HT_q H (ht_b L).1 (ht_b L).2 fq
  have L := L9
  show wp_R 1200 0 1152 [some (.ref 0), some (.ref 9), some (.ref 138), some (wp_i i)] [wp_i y2] h _
  refine wp_s (pc' := 1153) ji_0_1152 rfl rfl rfl ?_
  refine wp_goto (t := 1550) ji_0_1153 rfl ?_
  exact hQ h ⟨_, _, _, _, L, H, WS_le W (by omega), by omega⟩
theorem lz9_32 (AM : lw_AM) {sl : List Value} {h : mj_H} {B i : Int} (Y : lw_V9 sl h B) (hi : 0 ≤ i ∧ i + 6 ≤ sl.length) (hl : sl.length ≤ 3072) (hsl : ∀ k, k < sl.length → sl[k]? = some (wp_i (sx_el sl k))) (hB : 0 ≤ B ∧ B ≤ 125000000) {Q : Option Value → mj_H → Prop} (hQ : ∀ h, lw_V9 sl h (B + 239976) → wp_R 1200 0 1550 [some (.ref 0), some (.ref 9), some (.ref 138), some (wp_i i)] [] h Q) : wp_R 1200 0 1156 [some (.ref 0), some (.ref 9), some (.ref 138), some (wp_i i)] [] h Q := by
  obtain ⟨s, tc, tr, M, L, H, W, hMB⟩ := Y
  refine wp_s (pc' := 1157) ji_0_1156 rfl rfl rfl ?_
  refine wp_s (pc' := 1158) ji_0_1157 rfl rfl rfl ?_
  refine wp_s (pc' := 1159) ji_0_1158 rfl rfl rfl ?_
  refine wp_s (pc' := 1160) ji_0_1159 rfl rfl rfl ?_
  refine wp_iadd (x := i) (y := 1) (z := i + 1) ji_0_1160 (by omega) ?_
  refine wp_ial (x := i + 1) ji_0_1161 W.1.2.2.2 (by omega) (by omega) (by omega) (hsl (i + 1).toNat (by omega)) ?_
  have e1 := el_r sl (i + 1).toNat
  refine wp_s (pc' := 1163) ji_0_1162 rfl rfl rfl ?_
  refine wp_s (pc' := 1164) ji_0_1163 rfl rfl rfl ?_
  refine wp_s (pc' := 1165) ji_0_1164 rfl rfl rfl ?_
  refine wp_iadd (x := i) (y := 2) (z := i + 2) ji_0_1165 (by omega) ?_
  refine wp_ial (x := i + 2) ji_0_1166 W.1.2.2.2 (by omega) (by omega) (by omega) (hsl (i + 2).toNat (by omega)) ?_
  have e2 := el_r sl (i + 2).toNat
  refine wp_s (pc' := 1168) ji_0_1167 rfl rfl rfl ?_
  refine wp_s (pc' := 1169) ji_0_1168 rfl rfl rfl ?_
  refine wp_s (pc' := 1170) ji_0_1169 rfl rfl rfl ?_
  refine wp_iadd (x := i) (y := 3) (z := i + 3) ji_0_1170 (by omega) ?_
  refine wp_ial (x := i + 3) ji_0_1171 W.1.2.2.2 (by omega) (by omega) (by omega) (hsl (i + 3).toNat (by omega)) ?_
  have e3 := el_r sl (i + 3).toNat
  refine wp_if (t := 1179) ji_0_1172 rfl (by omega) (fun (hb4 : (sx_el sl (i + 3).toNat : Int) = 0) => ?_) (fun (hb4 : ¬ ((sx_el sl (i + 3).toNat : Int) = 0)) => ?_)
  · refine wp_s (pc' := 1180) ji_0_1179 rfl rfl rfl ?_
    obtain ⟨fs5, hc5⟩ := lw_c9 W.1
    refine wp_vc (d := 1199) (as := [.ref 9, wp_i (sx_el sl (i + 1).toNat), wp_i (sx_el sl (i + 2).toNat), wp_i 0]) (rest := []) ji_0_1180 jc_0_149 rfl hc5 jk_134.symm (Nat.le_of_ble_eq_true rfl) rfl (by rw [jn_134]; rfl) (tg_134 AM L (Or.inl rfl) W (by omega)) (fun v h R => ?_)
    obtain ⟨y5, rfl, -, s5, W, L9, fq⟩ := R
    have H := HT_q H (ht_b L).1 (ht_b L).2 fq
    have L := L9
    show wp_R 1200 0 1183 [some (.ref 0), some (.ref 9), some (.ref 138), some (wp_i i)] [wp_i y5] h _
    refine wp_s (pc' := 1184) ji_0_1183 rfl rfl rfl ?_
    refine wp_s (pc' := 1185) ji_0_1184 rfl rfl rfl ?_
    refine wp_s (pc' := 1186) ji_0_1185 rfl rfl rfl ?_
    refine wp_s (pc' := 1187) ji_0_1186 rfl rfl rfl ?_
    refine wp_s (pc' := 1188) ji_0_1187 rfl rfl rfl ?_
    refine wp_iadd (x := i) (y := 1) (z := i + 1) ji_0_1188 (by omega) ?_
    refine wp_ial (x := i + 1) ji_0_1189 W.1.2.2.2 (by omega) (by omega) (by omega) (hsl (i + 1).toNat (by omega)) ?_
    have e6 := el_r sl (i + 1).toNat
    refine wp_s (pc' := 1191) ji_0_1190 rfl rfl rfl ?_
    refine wp_s (pc' := 1192) ji_0_1191 rfl rfl rfl ?_
    refine wp_s (pc' := 1193) ji_0_1192 rfl rfl rfl ?_
    refine wp_iadd (x := i) (y := 2) (z := i + 2) ji_0_1193 (by omega) ?_
    refine wp_ial (x := i + 2) ji_0_1194 W.1.2.2.2 (by omega) (by omega) (by omega) (hsl (i + 2).toNat (by omega)) ?_
    have e7 := el_r sl (i + 2).toNat
    refine wp_s (pc' := 1196) ji_0_1195 rfl rfl rfl ?_
    refine wp_s (pc' := 1197) ji_0_1196 rfl rfl rfl ?_
    refine wp_s (pc' := 1198) ji_0_1197 rfl rfl rfl ?_
    refine wp_iadd (x := i) (y := 3) (z := i + 3) ji_0_1198 (by omega) ?_
    refine wp_ial (x := i + 3) ji_0_1199 W.1.2.2.2 (by omega) (by omega) (by omega) (hsl (i + 3).toNat (by omega)) ?_
    have e8 := el_r sl (i + 3).toNat
    refine wp_if (t := 1207) ji_0_1200 rfl (by omega) (fun (hb9 : (sx_el sl (i + 3).toNat : Int) = 0) => ?_) (fun (hb9 : ¬ ((sx_el sl (i + 3).toNat : Int) = 0)) => (by exfalso; omega))
    refine wp_s (pc' := 1208) ji_0_1207 rfl rfl rfl ?_
    obtain ⟨fs10, hc10⟩ := lw_c138 W.1
    refine wp_vc (d := 1199) (as := [.ref 138, wp_i (sx_el sl (i + 1).toNat), wp_i (sx_el sl (i + 2).toNat), wp_i 0]) (rest := []) ji_0_1208 jc_0_153 rfl hc10 jk_293.symm (Nat.le_of_ble_eq_true rfl) rfl (by rw [jn_293]; rfl) (tg_293 AM L (Or.inl rfl) W (by omega)) (fun v h R => ?_)
    obtain ⟨y10, rfl, -, s10, W, L9, fq⟩ := R
    have H := HT_q H (ht_b L).1 (ht_b L).2 fq
    have L := L9
    show wp_R 1200 0 1211 [some (.ref 0), some (.ref 9), some (.ref 138), some (wp_i i)] [wp_i y10] h _
    refine wp_s (pc' := 1212) ji_0_1211 rfl rfl rfl ?_
    refine wp_goto (t := 1550) ji_0_1212 rfl ?_
    exact hQ h ⟨_, _, _, _, L, H, WS_le W (by omega), by omega⟩
  · refine wp_s (pc' := 1176) ji_0_1175 rfl rfl rfl ?_
    refine wp_goto (t := 1180) ji_0_1176 rfl ?_
    obtain ⟨fs11, hc11⟩ := lw_c9 W.1
    refine wp_vc (d := 1199) (as := [.ref 9, wp_i (sx_el sl (i + 1).toNat), wp_i (sx_el sl (i + 2).toNat), wp_i 1]) (rest := []) ji_0_1180 jc_0_149 rfl hc11 jk_134.symm (Nat.le_of_ble_eq_true rfl) rfl (by rw [jn_134]; rfl) (tg_134 AM L (Or.inr rfl) W (by omega)) (fun v h R => ?_)
    obtain ⟨y11, rfl, -, s11, W, L9, fq⟩ := R
    have H := HT_q H (ht_b L).1 (ht_b L).2 fq
    have L := L9
    show wp_R 1200 0 1183 [some (.ref 0), some (.ref 9), some (.ref 138), some (wp_i i)] [wp_i y11] h _
    refine wp_s (pc' := 1184) ji_0_1183 rfl rfl rfl ?_
    refine wp_s (pc' := 1185) ji_0_1184 rfl rfl rfl ?_
    refine wp_s (pc' := 1186) ji_0_1185 rfl rfl rfl ?_
    refine wp_s (pc' := 1187) ji_0_1186 rfl rfl rfl ?_
    refine wp_s (pc' := 1188) ji_0_1187 rfl rfl rfl ?_
    refine wp_iadd (x := i) (y := 1) (z := i + 1) ji_0_1188 (by omega) ?_
    refine wp_ial (x := i + 1) ji_0_1189 W.1.2.2.2 (by omega) (by omega) (by omega) (hsl (i + 1).toNat (by omega)) ?_
    have e12 := el_r sl (i + 1).toNat
    refine wp_s (pc' := 1191) ji_0_1190 rfl rfl rfl ?_
    refine wp_s (pc' := 1192) ji_0_1191 rfl rfl rfl ?_
    refine wp_s (pc' := 1193) ji_0_1192 rfl rfl rfl ?_
    refine wp_iadd (x := i) (y := 2) (z := i + 2) ji_0_1193 (by omega) ?_
    refine wp_ial (x := i + 2) ji_0_1194 W.1.2.2.2 (by omega) (by omega) (by omega) (hsl (i + 2).toNat (by omega)) ?_
    have e13 := el_r sl (i + 2).toNat
    refine wp_s (pc' := 1196) ji_0_1195 rfl rfl rfl ?_
    refine wp_s (pc' := 1197) ji_0_1196 rfl rfl rfl ?_
    refine wp_s (pc' := 1198) ji_0_1197 rfl rfl rfl ?_
    refine wp_iadd (x := i) (y := 3) (z := i + 3) ji_0_1198 (by omega) ?_
    refine wp_ial (x := i + 3) ji_0_1199 W.1.2.2.2 (by omega) (by omega) (by omega) (hsl (i + 3).toNat (by omega)) ?_
    have e14 := el_r sl (i + 3).toNat
    refine wp_if (t := 1207) ji_0_1200 rfl (by omega) (fun (hb15 : (sx_el sl (i + 3).toNat : Int) = 0) => (by exfalso; omega)) (fun (hb15 : ¬ ((sx_el sl (i + 3).toNat : Int) = 0)) => ?_)
    refine wp_s (pc' := 1204) ji_0_1203 rfl rfl rfl ?_
    refine wp_goto (t := 1208) ji_0_1204 rfl ?_
    obtain ⟨fs16, hc16⟩ := lw_c138 W.1
    refine wp_vc (d := 1199) (as := [.ref 138, wp_i (sx_el sl (i + 1).toNat), wp_i (sx_el sl (i + 2).toNat), wp_i 1]) (rest := []) ji_0_1208 jc_0_153 rfl hc16 jk_293.symm (Nat.le_of_ble_eq_true rfl) rfl (by rw [jn_293]; rfl) (tg_293 AM L (Or.inr rfl) W (by omega)) (fun v h R => ?_)
    obtain ⟨y16, rfl, -, s16, W, L9, fq⟩ := R
    have H := HT_q H (ht_b L).1 (ht_b L).2 fq
    have L := L9
    show wp_R 1200 0 1211 [some (.ref 0), some (.ref 9), some (.ref 138), some (wp_i i)] [wp_i y16] h _
    refine wp_s (pc' := 1212) ji_0_1211 rfl rfl rfl ?_
    refine wp_goto (t := 1550) ji_0_1212 rfl ?_
    exact hQ h ⟨_, _, _, _, L, H, WS_le W (by omega), by omega⟩
theorem lz9_33 (AM : lw_AM) {sl : List Value} {h : mj_H} {B i : Int} (Y : lw_V9 sl h B) (hi : 0 ≤ i ∧ i + 6 ≤ sl.length) (hl : sl.length ≤ 3072) (hsl : ∀ k, k < sl.length → sl[k]? = some (wp_i (sx_el sl k))) (hB : 0 ≤ B ∧ B ≤ 125000000) {Q : Option Value → mj_H → Prop} (hQ : ∀ h, lw_V9 sl h (B + 239976) → wp_R 1200 0 1550 [some (.ref 0), some (.ref 9), some (.ref 138), some (wp_i i)] [] h Q) : wp_R 1200 0 1215 [some (.ref 0), some (.ref 9), some (.ref 138), some (wp_i i)] [] h Q := by
  obtain ⟨s, tc, tr, M, L, H, W, hMB⟩ := Y
  refine wp_s (pc' := 1216) ji_0_1215 rfl rfl rfl ?_
  refine wp_s (pc' := 1217) ji_0_1216 rfl rfl rfl ?_
  refine wp_s (pc' := 1218) ji_0_1217 rfl rfl rfl ?_
  refine wp_s (pc' := 1219) ji_0_1218 rfl rfl rfl ?_
  refine wp_iadd (x := i) (y := 1) (z := i + 1) ji_0_1219 (by omega) ?_
  refine wp_ial (x := i + 1) ji_0_1220 W.1.2.2.2 (by omega) (by omega) (by omega) (hsl (i + 1).toNat (by omega)) ?_
  have e1 := el_r sl (i + 1).toNat
  obtain ⟨fs2, hc2⟩ := lw_c9 W.1
  refine wp_vc (d := 1199) (as := [.ref 9, wp_i (sx_el sl (i + 1).toNat)]) (rest := []) ji_0_1221 jc_0_154 rfl hc2 jk_138.symm (Nat.le_of_ble_eq_true rfl) rfl (by rw [jn_138]; rfl) (tg_138 AM L  W (by omega)) (fun v h R => ?_)
  obtain ⟨y2, rfl, -, s2, W, L9, fq⟩ := R
  have H := HT_q H (ht_b L).1 (ht_b L).2 fq
  have L := L9
  show wp_R 1200 0 1224 [some (.ref 0), some (.ref 9), some (.ref 138), some (wp_i i)] [wp_i y2] h _
  refine wp_s (pc' := 1225) ji_0_1224 rfl rfl rfl ?_
  refine wp_s (pc' := 1226) ji_0_1225 rfl rfl rfl ?_
  refine wp_s (pc' := 1227) ji_0_1226 rfl rfl rfl ?_
  refine wp_s (pc' := 1228) ji_0_1227 rfl rfl rfl ?_
  refine wp_s (pc' := 1229) ji_0_1228 rfl rfl rfl ?_
  refine wp_iadd (x := i) (y := 1) (z := i + 1) ji_0_1229 (by omega) ?_
  refine wp_ial (x := i + 1) ji_0_1230 W.1.2.2.2 (by omega) (by omega) (by omega) (hsl (i + 1).toNat (by omega)) ?_
  have e3 := el_r sl (i + 1).toNat
  obtain ⟨fs4, hc4⟩ := lw_c138 W.1
  refine wp_vc (d := 1199) (as := [.ref 138, wp_i (sx_el sl (i + 1).toNat)]) (rest := []) ji_0_1231 jc_0_157 rfl hc4 jk_297.symm (Nat.le_of_ble_eq_true rfl) rfl (by rw [jn_297]; rfl) (tg_297 AM L  W (by omega)) (fun v h R => ?_)
  obtain ⟨y4, rfl, -, s4, W, L9, fq⟩ := R
  have H := HT_q H (ht_b L).1 (ht_b L).2 fq
  have L := L9
  show wp_R 1200 0 1234 [some (.ref 0), some (.ref 9), some (.ref 138), some (wp_i i)] [wp_i y4] h _
  refine wp_s (pc' := 1235) ji_0_1234 rfl rfl rfl ?_
  refine wp_goto (t := 1550) ji_0_1235 rfl ?_
  exact hQ h ⟨_, _, _, _, L, H, WS_le W (by omega), by omega⟩
theorem lz9_34 (AM : lw_AM) {sl : List Value} {h : mj_H} {B i : Int} (Y : lw_V9 sl h B) (hi : 0 ≤ i ∧ i + 6 ≤ sl.length) (hl : sl.length ≤ 3072) (hsl : ∀ k, k < sl.length → sl[k]? = some (wp_i (sx_el sl k))) (hB : 0 ≤ B ∧ B ≤ 125000000) {Q : Option Value → mj_H → Prop} (hQ : ∀ h, lw_V9 sl h (B + 239976) → wp_R 1200 0 1550 [some (.ref 0), some (.ref 9), some (.ref 138), some (wp_i i)] [] h Q) : wp_R 1200 0 1238 [some (.ref 0), some (.ref 9), some (.ref 138), some (wp_i i)] [] h Q := by
  obtain ⟨s, tc, tr, M, L, H, W, hMB⟩ := Y
  refine wp_s (pc' := 1239) ji_0_1238 rfl rfl rfl ?_
  refine wp_s (pc' := 1240) ji_0_1239 rfl rfl rfl ?_
  refine wp_s (pc' := 1241) ji_0_1240 rfl rfl rfl ?_
  refine wp_s (pc' := 1242) ji_0_1241 rfl rfl rfl ?_
  refine wp_iadd (x := i) (y := 1) (z := i + 1) ji_0_1242 (by omega) ?_
  refine wp_ial (x := i + 1) ji_0_1243 W.1.2.2.2 (by omega) (by omega) (by omega) (hsl (i + 1).toNat (by omega)) ?_
  have e1 := el_r sl (i + 1).toNat
  refine wp_s (pc' := 1245) ji_0_1244 rfl rfl rfl ?_
  refine wp_s (pc' := 1246) ji_0_1245 rfl rfl rfl ?_
  refine wp_s (pc' := 1247) ji_0_1246 rfl rfl rfl ?_
  refine wp_iadd (x := i) (y := 2) (z := i + 2) ji_0_1247 (by omega) ?_
  refine wp_ial (x := i + 2) ji_0_1248 W.1.2.2.2 (by omega) (by omega) (by omega) (hsl (i + 2).toNat (by omega)) ?_
  have e2 := el_r sl (i + 2).toNat
  refine wp_s (pc' := 1250) ji_0_1249 rfl rfl rfl ?_
  refine wp_s (pc' := 1251) ji_0_1250 rfl rfl rfl ?_
  refine wp_s (pc' := 1252) ji_0_1251 rfl rfl rfl ?_
  refine wp_iadd (x := i) (y := 3) (z := i + 3) ji_0_1252 (by omega) ?_
  refine wp_ial (x := i + 3) ji_0_1253 W.1.2.2.2 (by omega) (by omega) (by omega) (hsl (i + 3).toNat (by omega)) ?_
  have e3 := el_r sl (i + 3).toNat
  obtain ⟨fs4, hc4⟩ := lw_c9 W.1
  refine wp_vc (d := 1199) (as := [.ref 9, wp_i (sx_el sl (i + 1).toNat), wp_i (sx_el sl (i + 2).toNat), wp_i (sx_el sl (i + 3).toNat)]) (rest := []) ji_0_1254 jc_0_158 rfl hc4 jk_140.symm (Nat.le_of_ble_eq_true rfl) rfl (by rw [jn_140]; rfl) (tg_140 AM L  W (by omega)) (fun v h R => ?_)
  obtain ⟨y4, rfl, -, s4, W, L9, fq⟩ := R
  have H := HT_q H (ht_b L).1 (ht_b L).2 fq
  have L := L9
  show wp_R 1200 0 1257 [some (.ref 0), some (.ref 9), some (.ref 138), some (wp_i i)] [wp_i y4] h _
  refine wp_s (pc' := 1258) ji_0_1257 rfl rfl rfl ?_
  refine wp_s (pc' := 1259) ji_0_1258 rfl rfl rfl ?_
  refine wp_s (pc' := 1260) ji_0_1259 rfl rfl rfl ?_
  refine wp_s (pc' := 1261) ji_0_1260 rfl rfl rfl ?_
  refine wp_s (pc' := 1262) ji_0_1261 rfl rfl rfl ?_
  refine wp_iadd (x := i) (y := 1) (z := i + 1) ji_0_1262 (by omega) ?_
  refine wp_ial (x := i + 1) ji_0_1263 W.1.2.2.2 (by omega) (by omega) (by omega) (hsl (i + 1).toNat (by omega)) ?_
  have e5 := el_r sl (i + 1).toNat
  refine wp_s (pc' := 1265) ji_0_1264 rfl rfl rfl ?_
  refine wp_s (pc' := 1266) ji_0_1265 rfl rfl rfl ?_
  refine wp_s (pc' := 1267) ji_0_1266 rfl rfl rfl ?_
  refine wp_iadd (x := i) (y := 2) (z := i + 2) ji_0_1267 (by omega) ?_
  refine wp_ial (x := i + 2) ji_0_1268 W.1.2.2.2 (by omega) (by omega) (by omega) (hsl (i + 2).toNat (by omega)) ?_
  have e6 := el_r sl (i + 2).toNat
  refine wp_s (pc' := 1270) ji_0_1269 rfl rfl rfl ?_
  refine wp_s (pc' := 1271) ji_0_1270 rfl rfl rfl ?_
  refine wp_s (pc' := 1272) ji_0_1271 rfl rfl rfl ?_
  refine wp_iadd (x := i) (y := 3) (z := i + 3) ji_0_1272 (by omega) ?_
  refine wp_ial (x := i + 3) ji_0_1273 W.1.2.2.2 (by omega) (by omega) (by omega) (hsl (i + 3).toNat (by omega)) ?_
  have e7 := el_r sl (i + 3).toNat
  obtain ⟨fs8, hc8⟩ := lw_c138 W.1
  refine wp_vc (d := 1199) (as := [.ref 138, wp_i (sx_el sl (i + 1).toNat), wp_i (sx_el sl (i + 2).toNat), wp_i (sx_el sl (i + 3).toNat)]) (rest := []) ji_0_1274 jc_0_161 rfl hc8 jk_298.symm (Nat.le_of_ble_eq_true rfl) rfl (by rw [jn_298]; rfl) (tg_298 AM L  W (by omega)) (fun v h R => ?_)
  obtain ⟨y8, rfl, -, s8, W, L9, fq⟩ := R
  have H := HT_q H (ht_b L).1 (ht_b L).2 fq
  have L := L9
  show wp_R 1200 0 1277 [some (.ref 0), some (.ref 9), some (.ref 138), some (wp_i i)] [wp_i y8] h _
  refine wp_s (pc' := 1278) ji_0_1277 rfl rfl rfl ?_
  refine wp_goto (t := 1550) ji_0_1278 rfl ?_
  exact hQ h ⟨_, _, _, _, L, H, WS_le W (by omega), by omega⟩
theorem lz9_35 (AM : lw_AM) {sl : List Value} {h : mj_H} {B i : Int} (Y : lw_V9 sl h B) (hi : 0 ≤ i ∧ i + 6 ≤ sl.length) (hl : sl.length ≤ 3072) (hsl : ∀ k, k < sl.length → sl[k]? = some (wp_i (sx_el sl k))) (hB : 0 ≤ B ∧ B ≤ 125000000) {Q : Option Value → mj_H → Prop} (hQ : ∀ h, lw_V9 sl h (B + 239976) → wp_R 1200 0 1550 [some (.ref 0), some (.ref 9), some (.ref 138), some (wp_i i)] [] h Q) : wp_R 1200 0 1281 [some (.ref 0), some (.ref 9), some (.ref 138), some (wp_i i)] [] h Q := by
  obtain ⟨s, tc, tr, M, L, H, W, hMB⟩ := Y
  refine wp_s (pc' := 1282) ji_0_1281 rfl rfl rfl ?_
  refine wp_s (pc' := 1283) ji_0_1282 rfl rfl rfl ?_
  refine wp_s (pc' := 1284) ji_0_1283 rfl rfl rfl ?_
  refine wp_s (pc' := 1285) ji_0_1284 rfl rfl rfl ?_
  refine wp_iadd (x := i) (y := 1) (z := i + 1) ji_0_1285 (by omega) ?_
  refine wp_ial (x := i + 1) ji_0_1286 W.1.2.2.2 (by omega) (by omega) (by omega) (hsl (i + 1).toNat (by omega)) ?_
  have e1 := el_r sl (i + 1).toNat
  refine wp_s (pc' := 1288) ji_0_1287 rfl rfl rfl ?_
  refine wp_s (pc' := 1289) ji_0_1288 rfl rfl rfl ?_
  refine wp_s (pc' := 1290) ji_0_1289 rfl rfl rfl ?_
  refine wp_iadd (x := i) (y := 2) (z := i + 2) ji_0_1290 (by omega) ?_
  refine wp_ial (x := i + 2) ji_0_1291 W.1.2.2.2 (by omega) (by omega) (by omega) (hsl (i + 2).toNat (by omega)) ?_
  have e2 := el_r sl (i + 2).toNat
  refine wp_s (pc' := 1293) ji_0_1292 rfl rfl rfl ?_
  refine wp_s (pc' := 1294) ji_0_1293 rfl rfl rfl ?_
  refine wp_s (pc' := 1295) ji_0_1294 rfl rfl rfl ?_
  refine wp_iadd (x := i) (y := 3) (z := i + 3) ji_0_1295 (by omega) ?_
  refine wp_ial (x := i + 3) ji_0_1296 W.1.2.2.2 (by omega) (by omega) (by omega) (hsl (i + 3).toNat (by omega)) ?_
  have e3 := el_r sl (i + 3).toNat
  obtain ⟨fs4, hc4⟩ := lw_c9 W.1
  refine wp_vc (d := 1199) (as := [.ref 9, wp_i (sx_el sl (i + 1).toNat), wp_i (sx_el sl (i + 2).toNat), wp_i (sx_el sl (i + 3).toNat)]) (rest := []) ji_0_1297 jc_0_162 rfl hc4 jk_142.symm (Nat.le_of_ble_eq_true rfl) rfl (by rw [jn_142]; rfl) (tg_142 AM L  W (by omega)) (fun v h R => ?_)
  obtain ⟨y4, rfl, -, s4, W, L9, fq⟩ := R
  have H := HT_q H (ht_b L).1 (ht_b L).2 fq
  have L := L9
  show wp_R 1200 0 1300 [some (.ref 0), some (.ref 9), some (.ref 138), some (wp_i i)] [wp_i y4] h _
  refine wp_s (pc' := 1301) ji_0_1300 rfl rfl rfl ?_
  refine wp_s (pc' := 1302) ji_0_1301 rfl rfl rfl ?_
  refine wp_s (pc' := 1303) ji_0_1302 rfl rfl rfl ?_
  refine wp_s (pc' := 1304) ji_0_1303 rfl rfl rfl ?_
  refine wp_s (pc' := 1305) ji_0_1304 rfl rfl rfl ?_
  refine wp_iadd (x := i) (y := 1) (z := i + 1) ji_0_1305 (by omega) ?_
  refine wp_ial (x := i + 1) ji_0_1306 W.1.2.2.2 (by omega) (by omega) (by omega) (hsl (i + 1).toNat (by omega)) ?_
  have e5 := el_r sl (i + 1).toNat
  refine wp_s (pc' := 1308) ji_0_1307 rfl rfl rfl ?_
  refine wp_s (pc' := 1309) ji_0_1308 rfl rfl rfl ?_
  refine wp_s (pc' := 1310) ji_0_1309 rfl rfl rfl ?_
  refine wp_iadd (x := i) (y := 2) (z := i + 2) ji_0_1310 (by omega) ?_
  refine wp_ial (x := i + 2) ji_0_1311 W.1.2.2.2 (by omega) (by omega) (by omega) (hsl (i + 2).toNat (by omega)) ?_
  have e6 := el_r sl (i + 2).toNat
  refine wp_s (pc' := 1313) ji_0_1312 rfl rfl rfl ?_
  refine wp_s (pc' := 1314) ji_0_1313 rfl rfl rfl ?_
  refine wp_s (pc' := 1315) ji_0_1314 rfl rfl rfl ?_
  refine wp_iadd (x := i) (y := 3) (z := i + 3) ji_0_1315 (by omega) ?_
  refine wp_ial (x := i + 3) ji_0_1316 W.1.2.2.2 (by omega) (by omega) (by omega) (hsl (i + 3).toNat (by omega)) ?_
  have e7 := el_r sl (i + 3).toNat
  obtain ⟨fs8, hc8⟩ := lw_c138 W.1
  refine wp_vc (d := 1199) (as := [.ref 138, wp_i (sx_el sl (i + 1).toNat), wp_i (sx_el sl (i + 2).toNat), wp_i (sx_el sl (i + 3).toNat)]) (rest := []) ji_0_1317 jc_0_165 rfl hc8 jk_299.symm (Nat.le_of_ble_eq_true rfl) rfl (by rw [jn_299]; rfl) (tg_299 AM L  W (by omega)) (fun v h R => ?_)
  obtain ⟨y8, rfl, -, s8, W, L9, fq⟩ := R
  have H := HT_q H (ht_b L).1 (ht_b L).2 fq
  have L := L9
  show wp_R 1200 0 1320 [some (.ref 0), some (.ref 9), some (.ref 138), some (wp_i i)] [wp_i y8] h _
  refine wp_s (pc' := 1321) ji_0_1320 rfl rfl rfl ?_
  refine wp_goto (t := 1550) ji_0_1321 rfl ?_
  exact hQ h ⟨_, _, _, _, L, H, WS_le W (by omega), by omega⟩
theorem lz9_36 (AM : lw_AM) {sl : List Value} {h : mj_H} {B i : Int} (Y : lw_V9 sl h B) (hi : 0 ≤ i ∧ i + 6 ≤ sl.length) (hl : sl.length ≤ 3072) (hsl : ∀ k, k < sl.length → sl[k]? = some (wp_i (sx_el sl k))) (hB : 0 ≤ B ∧ B ≤ 125000000) {Q : Option Value → mj_H → Prop} (hQ : ∀ h, lw_V9 sl h (B + 239976) → wp_R 1200 0 1550 [some (.ref 0), some (.ref 9), some (.ref 138), some (wp_i i)] [] h Q) : wp_R 1200 0 1324 [some (.ref 0), some (.ref 9), some (.ref 138), some (wp_i i)] [] h Q := by
  obtain ⟨s, tc, tr, M, L, H, W, hMB⟩ := Y
  refine wp_s (pc' := 1325) ji_0_1324 rfl rfl rfl ?_
  refine wp_s (pc' := 1326) ji_0_1325 rfl rfl rfl ?_
  refine wp_s (pc' := 1327) ji_0_1326 rfl rfl rfl ?_
  refine wp_s (pc' := 1328) ji_0_1327 rfl rfl rfl ?_
  refine wp_iadd (x := i) (y := 1) (z := i + 1) ji_0_1328 (by omega) ?_
  refine wp_ial (x := i + 1) ji_0_1329 W.1.2.2.2 (by omega) (by omega) (by omega) (hsl (i + 1).toNat (by omega)) ?_
  have e1 := el_r sl (i + 1).toNat
  refine wp_s (pc' := 1331) ji_0_1330 rfl rfl rfl ?_
  refine wp_s (pc' := 1332) ji_0_1331 rfl rfl rfl ?_
  refine wp_s (pc' := 1333) ji_0_1332 rfl rfl rfl ?_
  refine wp_iadd (x := i) (y := 2) (z := i + 2) ji_0_1333 (by omega) ?_
  refine wp_ial (x := i + 2) ji_0_1334 W.1.2.2.2 (by omega) (by omega) (by omega) (hsl (i + 2).toNat (by omega)) ?_
  have e2 := el_r sl (i + 2).toNat
  refine wp_if (t := 1342) ji_0_1335 rfl (by omega) (fun (hb3 : (sx_el sl (i + 2).toNat : Int) = 0) => ?_) (fun (hb3 : ¬ ((sx_el sl (i + 2).toNat : Int) = 0)) => ?_)
  · refine wp_s (pc' := 1343) ji_0_1342 rfl rfl rfl ?_
    obtain ⟨fs4, hc4⟩ := lw_c9 W.1
    refine wp_vc (d := 1199) (as := [.ref 9, wp_i (sx_el sl (i + 1).toNat), wp_i 0]) (rest := []) ji_0_1343 jc_0_166 rfl hc4 jk_143.symm (Nat.le_of_ble_eq_true rfl) rfl (by rw [jn_143]; rfl) (tc_Found AM L (el_r _ _) (Or.inl rfl) W (by omega)) (fun v h R => ?_)
    obtain ⟨rfl, W⟩ := R
    show wp_R 1200 0 1346 [some (.ref 0), some (.ref 9), some (.ref 138), some (wp_i i)] [wp_i ((fdC s (sx_el sl (i + 1).toNat) 0).1)] h _
    refine wp_s (pc' := 1347) ji_0_1346 rfl rfl rfl ?_
    refine wp_s (pc' := 1348) ji_0_1347 rfl rfl rfl ?_
    refine wp_s (pc' := 1349) ji_0_1348 rfl rfl rfl ?_
    refine wp_s (pc' := 1350) ji_0_1349 rfl rfl rfl ?_
    refine wp_s (pc' := 1351) ji_0_1350 rfl rfl rfl ?_
    refine wp_iadd (x := i) (y := 1) (z := i + 1) ji_0_1351 (by omega) ?_
    refine wp_ial (x := i + 1) ji_0_1352 W.1.2.2.2 (by omega) (by omega) (by omega) (hsl (i + 1).toNat (by omega)) ?_
    have e5 := el_r sl (i + 1).toNat
    refine wp_s (pc' := 1354) ji_0_1353 rfl rfl rfl ?_
    refine wp_s (pc' := 1355) ji_0_1354 rfl rfl rfl ?_
    refine wp_s (pc' := 1356) ji_0_1355 rfl rfl rfl ?_
    refine wp_iadd (x := i) (y := 2) (z := i + 2) ji_0_1356 (by omega) ?_
    refine wp_ial (x := i + 2) ji_0_1357 W.1.2.2.2 (by omega) (by omega) (by omega) (hsl (i + 2).toNat (by omega)) ?_
    have e6 := el_r sl (i + 2).toNat
    refine wp_if (t := 1365) ji_0_1358 rfl (by omega) (fun (hb7 : (sx_el sl (i + 2).toNat : Int) = 0) => ?_) (fun (hb7 : ¬ ((sx_el sl (i + 2).toNat : Int) = 0)) => (by exfalso; omega))
    refine wp_s (pc' := 1366) ji_0_1365 rfl rfl rfl ?_
    obtain ⟨fs8, hc8⟩ := lw_c138 W.1
    refine wp_vc (d := 1199) (as := [.ref 138, wp_i (sx_el sl (i + 1).toNat), wp_i 0]) (rest := []) ji_0_1366 jc_0_170 rfl hc8 jk_300.symm (Nat.le_of_ble_eq_true rfl) rfl (by rw [jn_300]; rfl) (tr_Found AM L (el_r _ _) (Or.inl rfl) (by omega) W (by omega)) (fun v h R => ?_)
    obtain ⟨rfl, W⟩ := R
    have H := ht_Found L H (p := sx_el sl (i + 1).toNat) (b := 0)
    obtain ⟨ee, L⟩ := lw_Found L (p := sx_el sl (i + 1).toNat) (b := 0) (Or.inl rfl)
    rw [ee]
    show wp_R 1200 0 1369 [some (.ref 0), some (.ref 9), some (.ref 138), some (wp_i i)] [wp_i ((fdC s (sx_el sl (i + 1).toNat) 0).1)] h _
    refine wp_s (pc' := 1370) ji_0_1369 rfl rfl rfl ?_
    refine wp_goto (t := 1550) ji_0_1370 rfl ?_
    exact hQ h ⟨_, _, _, _, L, H, WS_le W (by omega), by omega⟩
  · refine wp_s (pc' := 1339) ji_0_1338 rfl rfl rfl ?_
    refine wp_goto (t := 1343) ji_0_1339 rfl ?_
    obtain ⟨fs9, hc9⟩ := lw_c9 W.1
    refine wp_vc (d := 1199) (as := [.ref 9, wp_i (sx_el sl (i + 1).toNat), wp_i 1]) (rest := []) ji_0_1343 jc_0_166 rfl hc9 jk_143.symm (Nat.le_of_ble_eq_true rfl) rfl (by rw [jn_143]; rfl) (tc_Found AM L (el_r _ _) (Or.inr rfl) W (by omega)) (fun v h R => ?_)
    obtain ⟨rfl, W⟩ := R
    show wp_R 1200 0 1346 [some (.ref 0), some (.ref 9), some (.ref 138), some (wp_i i)] [wp_i ((fdC s (sx_el sl (i + 1).toNat) 1).1)] h _
    refine wp_s (pc' := 1347) ji_0_1346 rfl rfl rfl ?_
    refine wp_s (pc' := 1348) ji_0_1347 rfl rfl rfl ?_
    refine wp_s (pc' := 1349) ji_0_1348 rfl rfl rfl ?_
    refine wp_s (pc' := 1350) ji_0_1349 rfl rfl rfl ?_
    refine wp_s (pc' := 1351) ji_0_1350 rfl rfl rfl ?_
    refine wp_iadd (x := i) (y := 1) (z := i + 1) ji_0_1351 (by omega) ?_
    refine wp_ial (x := i + 1) ji_0_1352 W.1.2.2.2 (by omega) (by omega) (by omega) (hsl (i + 1).toNat (by omega)) ?_
    have e10 := el_r sl (i + 1).toNat
    refine wp_s (pc' := 1354) ji_0_1353 rfl rfl rfl ?_
    refine wp_s (pc' := 1355) ji_0_1354 rfl rfl rfl ?_
    refine wp_s (pc' := 1356) ji_0_1355 rfl rfl rfl ?_
    refine wp_iadd (x := i) (y := 2) (z := i + 2) ji_0_1356 (by omega) ?_
    refine wp_ial (x := i + 2) ji_0_1357 W.1.2.2.2 (by omega) (by omega) (by omega) (hsl (i + 2).toNat (by omega)) ?_
    have e11 := el_r sl (i + 2).toNat
    refine wp_if (t := 1365) ji_0_1358 rfl (by omega) (fun (hb12 : (sx_el sl (i + 2).toNat : Int) = 0) => (by exfalso; omega)) (fun (hb12 : ¬ ((sx_el sl (i + 2).toNat : Int) = 0)) => ?_)
    refine wp_s (pc' := 1362) ji_0_1361 rfl rfl rfl ?_
    refine wp_goto (t := 1366) ji_0_1362 rfl ?_
    obtain ⟨fs13, hc13⟩ := lw_c138 W.1
    refine wp_vc (d := 1199) (as := [.ref 138, wp_i (sx_el sl (i + 1).toNat), wp_i 1]) (rest := []) ji_0_1366 jc_0_170 rfl hc13 jk_300.symm (Nat.le_of_ble_eq_true rfl) rfl (by rw [jn_300]; rfl) (tr_Found AM L (el_r _ _) (Or.inr rfl) (by omega) W (by omega)) (fun v h R => ?_)
    obtain ⟨rfl, W⟩ := R
    have H := ht_Found L H (p := sx_el sl (i + 1).toNat) (b := 1)
    obtain ⟨ee, L⟩ := lw_Found L (p := sx_el sl (i + 1).toNat) (b := 1) (Or.inr rfl)
    rw [ee]
    show wp_R 1200 0 1369 [some (.ref 0), some (.ref 9), some (.ref 138), some (wp_i i)] [wp_i ((fdC s (sx_el sl (i + 1).toNat) 1).1)] h _
    refine wp_s (pc' := 1370) ji_0_1369 rfl rfl rfl ?_
    refine wp_goto (t := 1550) ji_0_1370 rfl ?_
    exact hQ h ⟨_, _, _, _, L, H, WS_le W (by omega), by omega⟩
theorem lz9_37 (AM : lw_AM) {sl : List Value} {h : mj_H} {B i : Int} (Y : lw_V9 sl h B) (hi : 0 ≤ i ∧ i + 6 ≤ sl.length) (hl : sl.length ≤ 3072) (hsl : ∀ k, k < sl.length → sl[k]? = some (wp_i (sx_el sl k))) (hB : 0 ≤ B ∧ B ≤ 125000000) {Q : Option Value → mj_H → Prop} (hQ : ∀ h, lw_V9 sl h (B + 239976) → wp_R 1200 0 1550 [some (.ref 0), some (.ref 9), some (.ref 138), some (wp_i i)] [] h Q) : wp_R 1200 0 1373 [some (.ref 0), some (.ref 9), some (.ref 138), some (wp_i i)] [] h Q := by
  obtain ⟨s, tc, tr, M, L, H, W, hMB⟩ := Y
  refine wp_s (pc' := 1374) ji_0_1373 rfl rfl rfl ?_
  refine wp_s (pc' := 1375) ji_0_1374 rfl rfl rfl ?_
  refine wp_s (pc' := 1376) ji_0_1375 rfl rfl rfl ?_
  refine wp_s (pc' := 1377) ji_0_1376 rfl rfl rfl ?_
  refine wp_iadd (x := i) (y := 1) (z := i + 1) ji_0_1377 (by omega) ?_
  refine wp_ial (x := i + 1) ji_0_1378 W.1.2.2.2 (by omega) (by omega) (by omega) (hsl (i + 1).toNat (by omega)) ?_
  have e1 := el_r sl (i + 1).toNat
  refine wp_if (t := 1386) ji_0_1379 rfl (by omega) (fun (hb2 : (sx_el sl (i + 1).toNat : Int) = 0) => ?_) (fun (hb2 : ¬ ((sx_el sl (i + 1).toNat : Int) = 0)) => ?_)
  · refine wp_s (pc' := 1387) ji_0_1386 rfl rfl rfl ?_
    obtain ⟨fs3, hc3⟩ := lw_c9 W.1
    refine wp_vc (d := 1199) (as := [.ref 9, wp_i 0]) (rest := []) ji_0_1387 jc_0_171 rfl hc3 jk_145.symm (Nat.le_of_ble_eq_true rfl) rfl (by rw [jn_145]; rfl) (tg_145 AM L (Or.inl rfl) W (by omega)) (fun v h R => ?_)
    obtain ⟨y3, rfl, -, s3, W, L9, fq⟩ := R
    have H := HT_q H (ht_b L).1 (ht_b L).2 fq
    have L := L9
    show wp_R 1200 0 1390 [some (.ref 0), some (.ref 9), some (.ref 138), some (wp_i i)] [wp_i y3] h _
    refine wp_s (pc' := 1391) ji_0_1390 rfl rfl rfl ?_
    refine wp_s (pc' := 1392) ji_0_1391 rfl rfl rfl ?_
    refine wp_s (pc' := 1393) ji_0_1392 rfl rfl rfl ?_
    refine wp_s (pc' := 1394) ji_0_1393 rfl rfl rfl ?_
    refine wp_s (pc' := 1395) ji_0_1394 rfl rfl rfl ?_
    refine wp_iadd (x := i) (y := 1) (z := i + 1) ji_0_1395 (by omega) ?_
    refine wp_ial (x := i + 1) ji_0_1396 W.1.2.2.2 (by omega) (by omega) (by omega) (hsl (i + 1).toNat (by omega)) ?_
    have e4 := el_r sl (i + 1).toNat
    refine wp_if (t := 1404) ji_0_1397 rfl (by omega) (fun (hb5 : (sx_el sl (i + 1).toNat : Int) = 0) => ?_) (fun (hb5 : ¬ ((sx_el sl (i + 1).toNat : Int) = 0)) => (by exfalso; omega))
    refine wp_s (pc' := 1405) ji_0_1404 rfl rfl rfl ?_
    obtain ⟨fs6, hc6⟩ := lw_c138 W.1
    refine wp_vc (d := 1199) (as := [.ref 138, wp_i 0]) (rest := []) ji_0_1405 jc_0_175 rfl hc6 jk_301.symm (Nat.le_of_ble_eq_true rfl) rfl (by rw [jn_301]; rfl) (tg_301 AM L (Or.inl rfl) W (by omega)) (fun v h R => ?_)
    obtain ⟨y6, rfl, -, s6, W, L9, fq⟩ := R
    have H := HT_q H (ht_b L).1 (ht_b L).2 fq
    have L := L9
    show wp_R 1200 0 1408 [some (.ref 0), some (.ref 9), some (.ref 138), some (wp_i i)] [wp_i y6] h _
    refine wp_s (pc' := 1409) ji_0_1408 rfl rfl rfl ?_
    refine wp_goto (t := 1550) ji_0_1409 rfl ?_
    exact hQ h ⟨_, _, _, _, L, H, WS_le W (by omega), by omega⟩
  · refine wp_s (pc' := 1383) ji_0_1382 rfl rfl rfl ?_
    refine wp_goto (t := 1387) ji_0_1383 rfl ?_
    obtain ⟨fs7, hc7⟩ := lw_c9 W.1
    refine wp_vc (d := 1199) (as := [.ref 9, wp_i 1]) (rest := []) ji_0_1387 jc_0_171 rfl hc7 jk_145.symm (Nat.le_of_ble_eq_true rfl) rfl (by rw [jn_145]; rfl) (tg_145 AM L (Or.inr rfl) W (by omega)) (fun v h R => ?_)
    obtain ⟨y7, rfl, -, s7, W, L9, fq⟩ := R
    have H := HT_q H (ht_b L).1 (ht_b L).2 fq
    have L := L9
    show wp_R 1200 0 1390 [some (.ref 0), some (.ref 9), some (.ref 138), some (wp_i i)] [wp_i y7] h _
    refine wp_s (pc' := 1391) ji_0_1390 rfl rfl rfl ?_
    refine wp_s (pc' := 1392) ji_0_1391 rfl rfl rfl ?_
    refine wp_s (pc' := 1393) ji_0_1392 rfl rfl rfl ?_
    refine wp_s (pc' := 1394) ji_0_1393 rfl rfl rfl ?_
    refine wp_s (pc' := 1395) ji_0_1394 rfl rfl rfl ?_
    refine wp_iadd (x := i) (y := 1) (z := i + 1) ji_0_1395 (by omega) ?_
    refine wp_ial (x := i + 1) ji_0_1396 W.1.2.2.2 (by omega) (by omega) (by omega) (hsl (i + 1).toNat (by omega)) ?_
    have e8 := el_r sl (i + 1).toNat
    refine wp_if (t := 1404) ji_0_1397 rfl (by omega) (fun (hb9 : (sx_el sl (i + 1).toNat : Int) = 0) => (by exfalso; omega)) (fun (hb9 : ¬ ((sx_el sl (i + 1).toNat : Int) = 0)) => ?_)
    refine wp_s (pc' := 1401) ji_0_1400 rfl rfl rfl ?_
    refine wp_goto (t := 1405) ji_0_1401 rfl ?_
    obtain ⟨fs10, hc10⟩ := lw_c138 W.1
    refine wp_vc (d := 1199) (as := [.ref 138, wp_i 1]) (rest := []) ji_0_1405 jc_0_175 rfl hc10 jk_301.symm (Nat.le_of_ble_eq_true rfl) rfl (by rw [jn_301]; rfl) (tg_301 AM L (Or.inr rfl) W (by omega)) (fun v h R => ?_)
    obtain ⟨y10, rfl, -, s10, W, L9, fq⟩ := R
    have H := HT_q H (ht_b L).1 (ht_b L).2 fq
    have L := L9
    show wp_R 1200 0 1408 [some (.ref 0), some (.ref 9), some (.ref 138), some (wp_i i)] [wp_i y10] h _
    refine wp_s (pc' := 1409) ji_0_1408 rfl rfl rfl ?_
    refine wp_goto (t := 1550) ji_0_1409 rfl ?_
    exact hQ h ⟨_, _, _, _, L, H, WS_le W (by omega), by omega⟩
theorem lz9_38 (AM : lw_AM) {sl : List Value} {h : mj_H} {B i : Int} (Y : lw_V9 sl h B) (hi : 0 ≤ i ∧ i + 6 ≤ sl.length) (hl : sl.length ≤ 3072) (hsl : ∀ k, k < sl.length → sl[k]? = some (wp_i (sx_el sl k))) (hB : 0 ≤ B ∧ B ≤ 125000000) {Q : Option Value → mj_H → Prop} (hQ : ∀ h, lw_V9 sl h (B + 239976) → wp_R 1200 0 1550 [some (.ref 0), some (.ref 9), some (.ref 138), some (wp_i i)] [] h Q) : wp_R 1200 0 1412 [some (.ref 0), some (.ref 9), some (.ref 138), some (wp_i i)] [] h Q := by
  obtain ⟨s, tc, tr, M, L, H, W, hMB⟩ := Y
  refine wp_s (pc' := 1413) ji_0_1412 rfl rfl rfl ?_
  refine wp_s (pc' := 1414) ji_0_1413 rfl rfl rfl ?_
  refine wp_s (pc' := 1415) ji_0_1414 rfl rfl rfl ?_
  refine wp_s (pc' := 1416) ji_0_1415 rfl rfl rfl ?_
  refine wp_iadd (x := i) (y := 1) (z := i + 1) ji_0_1416 (by omega) ?_
  refine wp_ial (x := i + 1) ji_0_1417 W.1.2.2.2 (by omega) (by omega) (by omega) (hsl (i + 1).toNat (by omega)) ?_
  have e1 := el_r sl (i + 1).toNat
  refine wp_s (pc' := 1419) ji_0_1418 rfl rfl rfl ?_
  refine wp_s (pc' := 1420) ji_0_1419 rfl rfl rfl ?_
  refine wp_s (pc' := 1421) ji_0_1420 rfl rfl rfl ?_
  refine wp_iadd (x := i) (y := 2) (z := i + 2) ji_0_1421 (by omega) ?_
  refine wp_ial (x := i + 2) ji_0_1422 W.1.2.2.2 (by omega) (by omega) (by omega) (hsl (i + 2).toNat (by omega)) ?_
  have e2 := el_r sl (i + 2).toNat
  obtain ⟨fs3, hc3⟩ := lw_c9 W.1
  refine wp_vc (d := 1199) (as := [.ref 9, wp_i (sx_el sl (i + 1).toNat), wp_i (sx_el sl (i + 2).toNat)]) (rest := []) ji_0_1423 jc_0_176 rfl hc3 jk_151.symm (Nat.le_of_ble_eq_true rfl) rfl (by rw [jn_151]; rfl) (tc_Ahead AM L (el_r _ _) (el_r _ _) W (by omega)) (fun v h R => ?_)
  obtain ⟨rfl, W⟩ := R
  show wp_R 1200 0 1426 [some (.ref 0), some (.ref 9), some (.ref 138), some (wp_i i)] [wp_i ((adC s (sx_el sl (i + 1).toNat) (sx_el sl (i + 2).toNat)).1)] h _
  refine wp_s (pc' := 1427) ji_0_1426 rfl rfl rfl ?_
  refine wp_s (pc' := 1428) ji_0_1427 rfl rfl rfl ?_
  refine wp_s (pc' := 1429) ji_0_1428 rfl rfl rfl ?_
  refine wp_s (pc' := 1430) ji_0_1429 rfl rfl rfl ?_
  refine wp_s (pc' := 1431) ji_0_1430 rfl rfl rfl ?_
  refine wp_iadd (x := i) (y := 1) (z := i + 1) ji_0_1431 (by omega) ?_
  refine wp_ial (x := i + 1) ji_0_1432 W.1.2.2.2 (by omega) (by omega) (by omega) (hsl (i + 1).toNat (by omega)) ?_
  have e4 := el_r sl (i + 1).toNat
  refine wp_s (pc' := 1434) ji_0_1433 rfl rfl rfl ?_
  refine wp_s (pc' := 1435) ji_0_1434 rfl rfl rfl ?_
  refine wp_s (pc' := 1436) ji_0_1435 rfl rfl rfl ?_
  refine wp_iadd (x := i) (y := 2) (z := i + 2) ji_0_1436 (by omega) ?_
  refine wp_ial (x := i + 2) ji_0_1437 W.1.2.2.2 (by omega) (by omega) (by omega) (hsl (i + 2).toNat (by omega)) ?_
  have e5 := el_r sl (i + 2).toNat
  obtain ⟨fs6, hc6⟩ := lw_c138 W.1
  refine wp_vc (d := 1199) (as := [.ref 138, wp_i (sx_el sl (i + 1).toNat), wp_i (sx_el sl (i + 2).toNat)]) (rest := []) ji_0_1438 jc_0_179 rfl hc6 jk_306.symm (Nat.le_of_ble_eq_true rfl) rfl (by rw [jn_306]; rfl) (tr_Ahead AM L (el_r _ _) (el_r _ _) (by omega) W (by omega)) (fun v h R => ?_)
  obtain ⟨rfl, W⟩ := R
  have H := ht_Ahead L H (x := sx_el sl (i + 1).toNat) (y := sx_el sl (i + 2).toNat)
  obtain ⟨ee, L⟩ := lw_Ahead L (x := sx_el sl (i + 1).toNat) (y := sx_el sl (i + 2).toNat)
  rw [ee]
  show wp_R 1200 0 1441 [some (.ref 0), some (.ref 9), some (.ref 138), some (wp_i i)] [wp_i ((adC s (sx_el sl (i + 1).toNat) (sx_el sl (i + 2).toNat)).1)] h _
  refine wp_s (pc' := 1442) ji_0_1441 rfl rfl rfl ?_
  refine wp_goto (t := 1550) ji_0_1442 rfl ?_
  exact hQ h ⟨_, _, _, _, L, H, WS_le W (by omega), by omega⟩
theorem lz9_39 (AM : lw_AM) {sl : List Value} {h : mj_H} {B i : Int} (Y : lw_V9 sl h B) (hi : 0 ≤ i ∧ i + 6 ≤ sl.length) (hl : sl.length ≤ 3072) (hsl : ∀ k, k < sl.length → sl[k]? = some (wp_i (sx_el sl k))) (hB : 0 ≤ B ∧ B ≤ 125000000) {Q : Option Value → mj_H → Prop} (hQ : ∀ h, lw_V9 sl h (B + 239976) → wp_R 1200 0 1550 [some (.ref 0), some (.ref 9), some (.ref 138), some (wp_i i)] [] h Q) : wp_R 1200 0 1445 [some (.ref 0), some (.ref 9), some (.ref 138), some (wp_i i)] [] h Q := by
  obtain ⟨s, tc, tr, M, L, H, W, hMB⟩ := Y
  refine wp_s (pc' := 1446) ji_0_1445 rfl rfl rfl ?_
  refine wp_s (pc' := 1447) ji_0_1446 rfl rfl rfl ?_
  refine wp_s (pc' := 1448) ji_0_1447 rfl rfl rfl ?_
  refine wp_s (pc' := 1449) ji_0_1448 rfl rfl rfl ?_
  refine wp_iadd (x := i) (y := 1) (z := i + 1) ji_0_1449 (by omega) ?_
  refine wp_ial (x := i + 1) ji_0_1450 W.1.2.2.2 (by omega) (by omega) (by omega) (hsl (i + 1).toNat (by omega)) ?_
  have e1 := el_r sl (i + 1).toNat
  obtain ⟨fs2, hc2⟩ := lw_c9 W.1
  refine wp_vc (d := 1199) (as := [.ref 9, wp_i (sx_el sl (i + 1).toNat)]) (rest := []) ji_0_1451 jc_0_180 rfl hc2 jk_153.symm (Nat.le_of_ble_eq_true rfl) rfl (by rw [jn_153]; rfl) (tg_153 AM L  W (by omega)) (fun v h R => ?_)
  obtain ⟨y2, rfl, -, s2, W, L9, fq⟩ := R
  have H := HT_q H (ht_b L).1 (ht_b L).2 fq
  have L := L9
  show wp_R 1200 0 1454 [some (.ref 0), some (.ref 9), some (.ref 138), some (wp_i i)] [wp_i y2] h _
  refine wp_s (pc' := 1455) ji_0_1454 rfl rfl rfl ?_
  refine wp_s (pc' := 1456) ji_0_1455 rfl rfl rfl ?_
  refine wp_s (pc' := 1457) ji_0_1456 rfl rfl rfl ?_
  refine wp_s (pc' := 1458) ji_0_1457 rfl rfl rfl ?_
  refine wp_s (pc' := 1459) ji_0_1458 rfl rfl rfl ?_
  refine wp_iadd (x := i) (y := 1) (z := i + 1) ji_0_1459 (by omega) ?_
  refine wp_ial (x := i + 1) ji_0_1460 W.1.2.2.2 (by omega) (by omega) (by omega) (hsl (i + 1).toNat (by omega)) ?_
  have e3 := el_r sl (i + 1).toNat
  obtain ⟨fs4, hc4⟩ := lw_c138 W.1
  refine wp_vc (d := 1199) (as := [.ref 138, wp_i (sx_el sl (i + 1).toNat)]) (rest := []) ji_0_1461 jc_0_183 rfl hc4 jk_307.symm (Nat.le_of_ble_eq_true rfl) rfl (by rw [jn_307]; rfl) (tg_307 AM L  W (by omega)) (fun v h R => ?_)
  obtain ⟨y4, rfl, -, s4, W, L9, fq⟩ := R
  have H := HT_q H (ht_b L).1 (ht_b L).2 fq
  have L := L9
  show wp_R 1200 0 1464 [some (.ref 0), some (.ref 9), some (.ref 138), some (wp_i i)] [wp_i y4] h _
  refine wp_s (pc' := 1465) ji_0_1464 rfl rfl rfl ?_
  refine wp_goto (t := 1550) ji_0_1465 rfl ?_
  exact hQ h ⟨_, _, _, _, L, H, WS_le W (by omega), by omega⟩
theorem lz9_40 (AM : lw_AM) {sl : List Value} {h : mj_H} {B i : Int} (Y : lw_V9 sl h B) (hi : 0 ≤ i ∧ i + 6 ≤ sl.length) (hl : sl.length ≤ 3072) (hsl : ∀ k, k < sl.length → sl[k]? = some (wp_i (sx_el sl k))) (hB : 0 ≤ B ∧ B ≤ 125000000) {Q : Option Value → mj_H → Prop} (hQ : ∀ h, lw_V9 sl h (B + 239976) → wp_R 1200 0 1550 [some (.ref 0), some (.ref 9), some (.ref 138), some (wp_i i)] [] h Q) : wp_R 1200 0 1468 [some (.ref 0), some (.ref 9), some (.ref 138), some (wp_i i)] [] h Q := by
  obtain ⟨s, tc, tr, M, L, H, W, hMB⟩ := Y
  refine wp_s (pc' := 1469) ji_0_1468 rfl rfl rfl ?_
  refine wp_s (pc' := 1470) ji_0_1469 rfl rfl rfl ?_
  refine wp_s (pc' := 1471) ji_0_1470 rfl rfl rfl ?_
  refine wp_s (pc' := 1472) ji_0_1471 rfl rfl rfl ?_
  refine wp_iadd (x := i) (y := 1) (z := i + 1) ji_0_1472 (by omega) ?_
  refine wp_ial (x := i + 1) ji_0_1473 W.1.2.2.2 (by omega) (by omega) (by omega) (hsl (i + 1).toNat (by omega)) ?_
  have e1 := el_r sl (i + 1).toNat
  refine wp_s (pc' := 1475) ji_0_1474 rfl rfl rfl ?_
  refine wp_s (pc' := 1476) ji_0_1475 rfl rfl rfl ?_
  refine wp_s (pc' := 1477) ji_0_1476 rfl rfl rfl ?_
  refine wp_iadd (x := i) (y := 2) (z := i + 2) ji_0_1477 (by omega) ?_
  refine wp_ial (x := i + 2) ji_0_1478 W.1.2.2.2 (by omega) (by omega) (by omega) (hsl (i + 2).toNat (by omega)) ?_
  have e2 := el_r sl (i + 2).toNat
  obtain ⟨fs3, hc3⟩ := lw_c9 W.1
  refine wp_vc (d := 1199) (as := [.ref 9, wp_i (sx_el sl (i + 1).toNat), wp_i (sx_el sl (i + 2).toNat)]) (rest := []) ji_0_1479 jc_0_184 rfl hc3 jk_158.symm (Nat.le_of_ble_eq_true rfl) rfl (by rw [jn_158]; rfl) (tq_158 AM L (el_r _ _) (el_r _ _) (by omega) H W (by omega)) (fun v h R => ?_)
  obtain ⟨s3, rfl, W, L9, fq⟩ := R
  have H := HT_q H (ht_b L).1 (ht_b L).2 fq
  have L := L9
  show wp_R 1200 0 1482 [some (.ref 0), some (.ref 9), some (.ref 138), some (wp_i i)] [wp_i (q_158 s3 (sx_el sl (i + 1).toNat) (sx_el sl (i + 2).toNat))] h _
  refine wp_s (pc' := 1483) ji_0_1482 rfl rfl rfl ?_
  refine wp_s (pc' := 1484) ji_0_1483 rfl rfl rfl ?_
  refine wp_s (pc' := 1485) ji_0_1484 rfl rfl rfl ?_
  refine wp_s (pc' := 1486) ji_0_1485 rfl rfl rfl ?_
  refine wp_iadd (x := i) (y := 1) (z := i + 1) ji_0_1486 (by omega) ?_
  refine wp_ial (x := i + 1) ji_0_1487 W.1.2.2.2 (by omega) (by omega) (by omega) (hsl (i + 1).toNat (by omega)) ?_
  have e4 := el_r sl (i + 1).toNat
  refine wp_s (pc' := 1489) ji_0_1488 rfl rfl rfl ?_
  refine wp_s (pc' := 1490) ji_0_1489 rfl rfl rfl ?_
  refine wp_s (pc' := 1491) ji_0_1490 rfl rfl rfl ?_
  refine wp_iadd (x := i) (y := 2) (z := i + 2) ji_0_1491 (by omega) ?_
  refine wp_ial (x := i + 2) ji_0_1492 W.1.2.2.2 (by omega) (by omega) (by omega) (hsl (i + 2).toNat (by omega)) ?_
  have e5 := el_r sl (i + 2).toNat
  obtain ⟨fs6, hc6⟩ := lw_c138 W.1
  refine wp_vc (d := 1199) (as := [.ref 138, wp_i (sx_el sl (i + 1).toNat), wp_i (sx_el sl (i + 2).toNat)]) (rest := [wp_i (q_158 s3 (sx_el sl (i + 1).toNat) (sx_el sl (i + 2).toNat))]) ji_0_1493 jc_0_187 rfl hc6 jk_311.symm (Nat.le_of_ble_eq_true rfl) rfl (by rw [jn_311]; rfl) (tq_311 AM L (el_r _ _) (el_r _ _) (by omega) H W (by omega)) (fun v h R => ?_)
  obtain ⟨rfl, s6, W, L9, fq⟩ := R
  have H := HT_q H (ht_b L).1 (ht_b L).2 fq
  have L := L9
  show wp_R 1200 0 1496 [some (.ref 0), some (.ref 9), some (.ref 138), some (wp_i i)] [wp_i (q_158 s3 (sx_el sl (i + 1).toNat) (sx_el sl (i + 2).toNat)), wp_i (q_158 s3 (sx_el sl (i + 1).toNat) (sx_el sl (i + 2).toNat))] h _
  refine wp_ceq (t := 1550) ji_0_1496 rfl ?_
  exact hQ h ⟨_, _, _, _, L, H, WS_le W (by omega), by omega⟩
theorem lz9_41 (AM : lw_AM) {sl : List Value} {h : mj_H} {B i : Int} (Y : lw_V9 sl h B) (hi : 0 ≤ i ∧ i + 6 ≤ sl.length) (hl : sl.length ≤ 3072) (hsl : ∀ k, k < sl.length → sl[k]? = some (wp_i (sx_el sl k))) (hB : 0 ≤ B ∧ B ≤ 125000000) {Q : Option Value → mj_H → Prop} (hQ : ∀ h, lw_V9 sl h (B + 239976) → wp_R 1200 0 1550 [some (.ref 0), some (.ref 9), some (.ref 138), some (wp_i i)] [] h Q) : wp_R 1200 0 1501 [some (.ref 0), some (.ref 9), some (.ref 138), some (wp_i i)] [] h Q := by
  obtain ⟨s, tc, tr, M, L, H, W, hMB⟩ := Y
  refine wp_s (pc' := 1502) ji_0_1501 rfl rfl rfl ?_
  obtain ⟨fs1, hc1⟩ := lw_c9 W.1
  refine wp_vc (d := 1199) (as := [.ref 9]) (rest := []) ji_0_1502 jc_0_188 rfl hc1 jk_160.symm (Nat.le_of_ble_eq_true rfl) rfl (by rw [jn_160]; rfl) (tc_Image AM L W (by omega)) (fun v h R => ?_)
  obtain ⟨rfl, t, W, KC9⟩ := R
  show wp_R 1200 0 1505 [some (.ref 0), some (.ref 9), some (.ref 138), some (wp_i i)] [wp_i (s 48 10)] h _
  refine wp_s (pc' := 1506) ji_0_1505 rfl rfl rfl ?_
  refine wp_s (pc' := 1507) ji_0_1506 rfl rfl rfl ?_
  obtain ⟨fs2, hc2⟩ := lw_c138 W.1
  refine wp_vc (d := 1199) (as := [.ref 138]) (rest := []) ji_0_1507 jc_0_191 rfl hc2 jk_312.symm (Nat.le_of_ble_eq_true rfl) rfl (by rw [jn_312]; rfl) (tr_Image AM L KC9 W (by omega)) (fun v h R => ?_)
  obtain ⟨rfl, W⟩ := R
  have H := ht_Image L H KC9
  have L := lw_Image L KC9
  show wp_R 1200 0 1510 [some (.ref 0), some (.ref 9), some (.ref 138), some (wp_i i)] [wp_i (s 48 10)] h _
  refine wp_s (pc' := 1511) ji_0_1510 rfl rfl rfl ?_
  refine wp_goto (t := 1550) ji_0_1511 rfl ?_
  exact hQ h ⟨_, _, _, _, L, H, WS_le W (by omega), by omega⟩
theorem lz9_42 (AM : lw_AM) {sl : List Value} {h : mj_H} {B i : Int} (Y : lw_V9 sl h B) (hi : 0 ≤ i ∧ i + 6 ≤ sl.length) (hl : sl.length ≤ 3072) (hsl : ∀ k, k < sl.length → sl[k]? = some (wp_i (sx_el sl k))) (hB : 0 ≤ B ∧ B ≤ 125000000) {Q : Option Value → mj_H → Prop} (hQ : ∀ h, lw_V9 sl h (B + 239976) → wp_R 1200 0 1550 [some (.ref 0), some (.ref 9), some (.ref 138), some (wp_i i)] [] h Q) : wp_R 1200 0 1514 [some (.ref 0), some (.ref 9), some (.ref 138), some (wp_i i)] [] h Q := by
  obtain ⟨s, tc, tr, M, L, H, W, hMB⟩ := Y
  refine wp_s (pc' := 1515) ji_0_1514 rfl rfl rfl ?_
  obtain ⟨fs1, hc1⟩ := lw_c9 W.1
  refine wp_vc (d := 1199) (as := [.ref 9]) (rest := []) ji_0_1515 jc_0_192 rfl hc1 jk_166.symm (Nat.le_of_ble_eq_true rfl) rfl (by rw [jn_166]; rfl) (tc_Back AM L W (by omega)) (fun v h R => ?_)
  obtain ⟨rfl, t, W, KC9⟩ := R
  show wp_R 1200 0 1518 [some (.ref 0), some (.ref 9), some (.ref 138), some (wp_i i)] [wp_i (s 70 10)] h _
  refine wp_s (pc' := 1519) ji_0_1518 rfl rfl rfl ?_
  refine wp_s (pc' := 1520) ji_0_1519 rfl rfl rfl ?_
  obtain ⟨fs2, hc2⟩ := lw_c138 W.1
  refine wp_vc (d := 1199) (as := [.ref 138]) (rest := []) ji_0_1520 jc_0_195 rfl hc2 jk_313.symm (Nat.le_of_ble_eq_true rfl) rfl (by rw [jn_313]; rfl) (tr_Back AM L KC9 W (by omega)) (fun v h R => ?_)
  obtain ⟨rfl, W⟩ := R
  have H := ht_Back L H KC9
  have L := lw_Back L KC9
  show wp_R 1200 0 1523 [some (.ref 0), some (.ref 9), some (.ref 138), some (wp_i i)] [wp_i (s 70 10)] h _
  refine wp_s (pc' := 1524) ji_0_1523 rfl rfl rfl ?_
  refine wp_goto (t := 1550) ji_0_1524 rfl ?_
  exact hQ h ⟨_, _, _, _, L, H, WS_le W (by omega), by omega⟩
theorem lz9_43 (AM : lw_AM) {sl : List Value} {h : mj_H} {B i : Int} (Y : lw_V9 sl h B) (hi : 0 ≤ i ∧ i + 6 ≤ sl.length) (hl : sl.length ≤ 3072) (hsl : ∀ k, k < sl.length → sl[k]? = some (wp_i (sx_el sl k))) (hB : 0 ≤ B ∧ B ≤ 125000000) {Q : Option Value → mj_H → Prop} (hQ : ∀ h, lw_V9 sl h (B + 239976) → wp_R 1200 0 1550 [some (.ref 0), some (.ref 9), some (.ref 138), some (wp_i i)] [] h Q) : wp_R 1200 0 1527 [some (.ref 0), some (.ref 9), some (.ref 138), some (wp_i i)] [] h Q := by
  obtain ⟨s, tc, tr, M, L, H, W, hMB⟩ := Y
  refine wp_s (pc' := 1528) ji_0_1527 rfl rfl rfl ?_
  refine wp_s (pc' := 1529) ji_0_1528 rfl rfl rfl ?_
  refine wp_s (pc' := 1530) ji_0_1529 rfl rfl rfl ?_
  refine wp_s (pc' := 1531) ji_0_1530 rfl rfl rfl ?_
  refine wp_iadd (x := i) (y := 1) (z := i + 1) ji_0_1531 (by omega) ?_
  refine wp_ial (x := i + 1) ji_0_1532 W.1.2.2.2 (by omega) (by omega) (by omega) (hsl (i + 1).toNat (by omega)) ?_
  have e1 := el_r sl (i + 1).toNat
  obtain ⟨fs2, hc2⟩ := lw_c9 W.1
  refine wp_vc (d := 1199) (as := [.ref 9, wp_i (sx_el sl (i + 1).toNat)]) (rest := []) ji_0_1533 jc_0_196 rfl hc2 jk_167.symm (Nat.le_of_ble_eq_true rfl) rfl (by rw [jn_167]; rfl) (tg_167 AM L  W (by omega)) (fun v h R => ?_)
  obtain ⟨y2, rfl, -, s2, W, L9, fq⟩ := R
  have H := HT_q H (ht_b L).1 (ht_b L).2 fq
  have L := L9
  show wp_R 1200 0 1536 [some (.ref 0), some (.ref 9), some (.ref 138), some (wp_i i)] [wp_i y2] h _
  refine wp_s (pc' := 1537) ji_0_1536 rfl rfl rfl ?_
  refine wp_s (pc' := 1538) ji_0_1537 rfl rfl rfl ?_
  refine wp_s (pc' := 1539) ji_0_1538 rfl rfl rfl ?_
  refine wp_s (pc' := 1540) ji_0_1539 rfl rfl rfl ?_
  refine wp_s (pc' := 1541) ji_0_1540 rfl rfl rfl ?_
  refine wp_iadd (x := i) (y := 1) (z := i + 1) ji_0_1541 (by omega) ?_
  refine wp_ial (x := i + 1) ji_0_1542 W.1.2.2.2 (by omega) (by omega) (by omega) (hsl (i + 1).toNat (by omega)) ?_
  have e3 := el_r sl (i + 1).toNat
  obtain ⟨fs4, hc4⟩ := lw_c138 W.1
  refine wp_vc (d := 1199) (as := [.ref 138, wp_i (sx_el sl (i + 1).toNat)]) (rest := []) ji_0_1543 jc_0_199 rfl hc4 jk_314.symm (Nat.le_of_ble_eq_true rfl) rfl (by rw [jn_314]; rfl) (tg_314 AM L  W (by omega)) (fun v h R => ?_)
  obtain ⟨y4, rfl, -, s4, W, L9, fq⟩ := R
  have H := HT_q H (ht_b L).1 (ht_b L).2 fq
  have L := L9
  show wp_R 1200 0 1546 [some (.ref 0), some (.ref 9), some (.ref 138), some (wp_i i)] [wp_i y4] h _
  refine wp_s (pc' := 1547) ji_0_1546 rfl rfl rfl ?_
  refine wp_goto (t := 1550) ji_0_1547 rfl ?_
  exact hQ h ⟨_, _, _, _, L, H, WS_le W (by omega), by omega⟩
