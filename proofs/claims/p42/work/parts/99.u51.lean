/-! -/
set_option maxRecDepth 100000 in
theorem ji_246_0 : mj_ins 246 0 = some (.aload_n 0) := by decide +kernel
set_option maxRecDepth 100000 in
theorem ji_246_1 : mj_ins 246 1 = some (.iload_n 1) := by decide +kernel
set_option maxRecDepth 100000 in
theorem ji_246_2 : mj_ins 246 2 = some (.invokevirtual 345) := by decide +kernel
set_option maxRecDepth 100000 in
theorem jc_246_345 : mj_cal 246 345 = some (2, 247, 1) := by decide +kernel
set_option maxRecDepth 100000 in
theorem ji_246_5 : mj_ins 246 5 = some (.ifCond .eq 20) := by decide +kernel
set_option maxRecDepth 100000 in
theorem ji_246_25 : mj_ins 246 25 = some (.iconst 0) := by decide +kernel
set_option maxRecDepth 100000 in
theorem ji_246_26 : mj_ins 246 26 = some (.ireturn) := by decide +kernel
set_option maxRecDepth 100000 in
theorem jr_246 : mj_ret 246 = some .boolean := by decide +kernel
set_option maxRecDepth 100000 in
theorem ji_246_8 : mj_ins 246 8 = some (.aload_n 0) := by decide +kernel
set_option maxRecDepth 100000 in
theorem ji_246_9 : mj_ins 246 9 = some (.iload_n 2) := by decide +kernel
set_option maxRecDepth 100000 in
theorem ji_246_10 : mj_ins 246 10 = some (.invokevirtual 348) := by decide +kernel
set_option maxRecDepth 100000 in
theorem jc_246_348 : mj_cal 246 348 = some (2, 248, 1) := by decide +kernel
set_option maxRecDepth 100000 in
theorem jn_248 : mj_nl 248 = 2 := by decide +kernel
set_option maxRecDepth 100000 in
theorem jk_248 : mj_cls 248 = 11 := by decide +kernel
set_option maxRecDepth 100000 in
theorem ji_246_13 : mj_ins 246 13 = some (.ifCond .eq 12) := by decide +kernel
set_option maxRecDepth 100000 in
theorem ji_246_16 : mj_ins 246 16 = some (.aload_n 0) := by decide +kernel
set_option maxRecDepth 100000 in
theorem ji_246_17 : mj_ins 246 17 = some (.iload_n 1) := by decide +kernel
set_option maxRecDepth 100000 in
theorem ji_246_18 : mj_ins 246 18 = some (.iload_n 2) := by decide +kernel
set_option maxRecDepth 100000 in
theorem ji_246_19 : mj_ins 246 19 = some (.invokevirtual 351) := by decide +kernel
set_option maxRecDepth 100000 in
theorem jc_246_351 : mj_cal 246 351 = some (2, 249, 2) := by decide +kernel
set_option maxRecDepth 100000 in
theorem jn_249 : mj_nl 249 = 3 := by decide +kernel
set_option maxRecDepth 100000 in
theorem jk_249 : mj_cls 249 = 11 := by decide +kernel
set_option maxRecDepth 100000 in
theorem ji_246_22 : mj_ins 246 22 = some (.ifCond .ne 5) := by decide +kernel
set_option maxRecDepth 100000 in
theorem ji_246_27 : mj_ins 246 27 = some (.aload_n 0) := by decide +kernel
set_option maxRecDepth 100000 in
theorem ji_246_28 : mj_ins 246 28 = some (.invokevirtual 336) := by decide +kernel
set_option maxRecDepth 100000 in
theorem jc_246_336 : mj_cal 246 336 = some (2, 219, 0) := by decide +kernel
set_option maxRecDepth 100000 in
theorem ji_246_31 : mj_ins 246 31 = some (.aload_n 0) := by decide +kernel
set_option maxRecDepth 100000 in
theorem ji_246_32 : mj_ins 246 32 = some (.iload_n 1) := by decide +kernel
set_option maxRecDepth 100000 in
theorem ji_246_33 : mj_ins 246 33 = some (.iload_n 2) := by decide +kernel
set_option maxRecDepth 100000 in
theorem ji_246_34 : mj_ins 246 34 = some (.invokevirtual 354) := by decide +kernel
set_option maxRecDepth 100000 in
theorem jc_246_354 : mj_cal 246 354 = some (2, 250, 2) := by decide +kernel
set_option maxRecDepth 100000 in
theorem jn_250 : mj_nl 250 = 3 := by decide +kernel
set_option maxRecDepth 100000 in
theorem jk_250 : mj_cls 250 = 11 := by decide +kernel
set_option maxRecDepth 100000 in
theorem ji_246_37 : mj_ins 246 37 = some (.iconst 1) := by decide +kernel
set_option maxRecDepth 100000 in
theorem ji_246_38 : mj_ins 246 38 = some (.ireturn) := by decide +kernel
set_option maxRecDepth 100000 in
theorem ji_251_0 : mj_ins 251 0 = some (.aload_n 0) := by decide +kernel
set_option maxRecDepth 100000 in
theorem ji_251_1 : mj_ins 251 1 = some (.iload_n 1) := by decide +kernel
set_option maxRecDepth 100000 in
theorem ji_251_2 : mj_ins 251 2 = some (.invokevirtual 345) := by decide +kernel
set_option maxRecDepth 100000 in
theorem jc_251_345 : mj_cal 251 345 = some (2, 247, 1) := by decide +kernel
set_option maxRecDepth 100000 in
theorem ji_251_5 : mj_ins 251 5 = some (.ifCond .eq 20) := by decide +kernel
set_option maxRecDepth 100000 in
theorem ji_251_25 : mj_ins 251 25 = some (.iconst 0) := by decide +kernel
set_option maxRecDepth 100000 in
theorem ji_251_26 : mj_ins 251 26 = some (.ireturn) := by decide +kernel
set_option maxRecDepth 100000 in
theorem jr_251 : mj_ret 251 = some .boolean := by decide +kernel
set_option maxRecDepth 100000 in
theorem ji_251_8 : mj_ins 251 8 = some (.aload_n 0) := by decide +kernel
set_option maxRecDepth 100000 in
theorem ji_251_9 : mj_ins 251 9 = some (.iload_n 2) := by decide +kernel
set_option maxRecDepth 100000 in
theorem ji_251_10 : mj_ins 251 10 = some (.invokevirtual 348) := by decide +kernel
set_option maxRecDepth 100000 in
theorem jc_251_348 : mj_cal 251 348 = some (2, 248, 1) := by decide +kernel
set_option maxRecDepth 100000 in
theorem ji_251_13 : mj_ins 251 13 = some (.ifCond .eq 12) := by decide +kernel
set_option maxRecDepth 100000 in
theorem ji_251_16 : mj_ins 251 16 = some (.aload_n 0) := by decide +kernel
set_option maxRecDepth 100000 in
theorem ji_251_17 : mj_ins 251 17 = some (.iload_n 1) := by decide +kernel
set_option maxRecDepth 100000 in
theorem ji_251_18 : mj_ins 251 18 = some (.iload_n 2) := by decide +kernel
set_option maxRecDepth 100000 in
theorem ji_251_19 : mj_ins 251 19 = some (.invokevirtual 74) := by decide +kernel
set_option maxRecDepth 100000 in
theorem jc_251_74 : mj_cal 251 74 = some (2, 223, 2) := by decide +kernel
set_option maxRecDepth 100000 in
theorem ji_251_22 : mj_ins 251 22 = some (.ifCond .ne 5) := by decide +kernel
set_option maxRecDepth 100000 in
theorem ji_251_27 : mj_ins 251 27 = some (.aload_n 0) := by decide +kernel
set_option maxRecDepth 100000 in
theorem ji_251_28 : mj_ins 251 28 = some (.invokevirtual 336) := by decide +kernel
set_option maxRecDepth 100000 in
theorem jc_251_336 : mj_cal 251 336 = some (2, 219, 0) := by decide +kernel
set_option maxRecDepth 100000 in
theorem ji_251_31 : mj_ins 251 31 = some (.aload_n 0) := by decide +kernel
set_option maxRecDepth 100000 in
theorem ji_251_32 : mj_ins 251 32 = some (.iload_n 1) := by decide +kernel
set_option maxRecDepth 100000 in
theorem ji_251_33 : mj_ins 251 33 = some (.iload_n 2) := by decide +kernel
set_option maxRecDepth 100000 in
theorem ji_251_34 : mj_ins 251 34 = some (.invokevirtual 324) := by decide +kernel
set_option maxRecDepth 100000 in
theorem jc_251_324 : mj_cal 251 324 = some (2, 241, 2) := by decide +kernel
set_option maxRecDepth 100000 in
theorem ji_251_37 : mj_ins 251 37 = some (.iconst 1) := by decide +kernel
set_option maxRecDepth 100000 in
theorem ji_251_38 : mj_ins 251 38 = some (.ireturn) := by decide +kernel
set_option maxRecDepth 100000 in
theorem ji_252_0 : mj_ins 252 0 = some (.aload_n 0) := by decide +kernel
set_option maxRecDepth 100000 in
theorem ji_252_1 : mj_ins 252 1 = some (.iload_n 1) := by decide +kernel
set_option maxRecDepth 100000 in
theorem ji_252_2 : mj_ins 252 2 = some (.invokevirtual 348) := by decide +kernel
set_option maxRecDepth 100000 in
theorem jc_252_348 : mj_cal 252 348 = some (2, 248, 1) := by decide +kernel
set_option maxRecDepth 100000 in
theorem ji_252_5 : mj_ins 252 5 = some (.ifCond .eq 24) := by decide +kernel
set_option maxRecDepth 100000 in
theorem ji_252_29 : mj_ins 252 29 = some (.iconst (-1)) := by decide +kernel
set_option maxRecDepth 100000 in
theorem ji_252_30 : mj_ins 252 30 = some (.ireturn) := by decide +kernel
set_option maxRecDepth 100000 in
theorem jr_252 : mj_ret 252 = some .int := by decide +kernel
set_option maxRecDepth 100000 in
theorem ji_252_8 : mj_ins 252 8 = some (.iload_n 2) := by decide +kernel
set_option maxRecDepth 100000 in
theorem ji_252_9 : mj_ins 252 9 = some (.iconst 1) := by decide +kernel
set_option maxRecDepth 100000 in
theorem ji_252_10 : mj_ins 252 10 = some (.bipush 99) := by decide +kernel
set_option maxRecDepth 100000 in
theorem ji_252_12 : mj_ins 252 12 = some (.invokestatic 66) := by decide +kernel
set_option maxRecDepth 100000 in
theorem jc_252_66 : mj_cal 252 66 = some (1, 171, 3) := by decide +kernel
set_option maxRecDepth 100000 in
theorem ji_252_15 : mj_ins 252 15 = some (.ifCond .eq 14) := by decide +kernel
set_option maxRecDepth 100000 in
theorem ji_252_18 : mj_ins 252 18 = some (.aload_n 0) := by decide +kernel
set_option maxRecDepth 100000 in
theorem ji_252_19 : mj_ins 252 19 = some (.iload_n 1) := by decide +kernel
set_option maxRecDepth 100000 in
theorem ji_252_20 : mj_ins 252 20 = some (.invokevirtual 289) := by decide +kernel
set_option maxRecDepth 100000 in
theorem jc_252_289 : mj_cal 252 289 = some (2, 220, 1) := by decide +kernel
set_option maxRecDepth 100000 in
theorem ji_252_23 : mj_ins 252 23 = some (.iload_n 2) := by decide +kernel
set_option maxRecDepth 100000 in
theorem ji_252_24 : mj_ins 252 24 = some (.isub) := by decide +kernel
set_option maxRecDepth 100000 in
theorem ji_252_25 : mj_ins 252 25 = some (.iconst 1) := by decide +kernel
set_option maxRecDepth 100000 in
theorem ji_252_26 : mj_ins 252 26 = some (.if_icmp .ge 5) := by decide +kernel
set_option maxRecDepth 100000 in
theorem ji_252_31 : mj_ins 252 31 = some (.aload_n 0) := by decide +kernel
set_option maxRecDepth 100000 in
theorem ji_252_32 : mj_ins 252 32 = some (.invokevirtual 336) := by decide +kernel
set_option maxRecDepth 100000 in
theorem jc_252_336 : mj_cal 252 336 = some (2, 219, 0) := by decide +kernel
set_option maxRecDepth 100000 in
theorem ji_252_35 : mj_ins 252 35 = some (.aload_n 0) := by decide +kernel
set_option maxRecDepth 100000 in
theorem ji_252_36 : mj_ins 252 36 = some (.iload_n 1) := by decide +kernel
set_option maxRecDepth 100000 in
theorem ji_252_37 : mj_ins 252 37 = some (.iload_n 2) := by decide +kernel
set_option maxRecDepth 100000 in
theorem ji_252_38 : mj_ins 252 38 = some (.invokevirtual 357) := by decide +kernel
set_option maxRecDepth 100000 in
theorem jc_252_357 : mj_cal 252 357 = some (2, 253, 2) := by decide +kernel
set_option maxRecDepth 100000 in
theorem jn_253 : mj_nl 253 = 4 := by decide +kernel
set_option maxRecDepth 100000 in
theorem jk_253 : mj_cls 253 = 11 := by decide +kernel
set_option maxRecDepth 100000 in
theorem ji_252_41 : mj_ins 252 41 = some (.aload_n 0) := by decide +kernel
set_option maxRecDepth 100000 in
theorem ji_252_42 : mj_ins 252 42 = some (.iload_n 1) := by decide +kernel
set_option maxRecDepth 100000 in
theorem ji_252_43 : mj_ins 252 43 = some (.invokevirtual 289) := by decide +kernel
set_option maxRecDepth 100000 in
theorem ji_252_46 : mj_ins 252 46 = some (.ireturn) := by decide +kernel
set_option maxRecDepth 100000 in
theorem ji_254_0 : mj_ins 254 0 = some (.iload_n 1) := by decide +kernel
set_option maxRecDepth 100000 in
theorem ji_254_1 : mj_ins 254 1 = some (.iconst 0) := by decide +kernel
set_option maxRecDepth 100000 in
theorem ji_254_2 : mj_ins 254 2 = some (.bipush 9) := by decide +kernel
set_option maxRecDepth 100000 in
theorem ji_254_4 : mj_ins 254 4 = some (.invokestatic 66) := by decide +kernel
set_option maxRecDepth 100000 in
theorem jc_254_66 : mj_cal 254 66 = some (1, 171, 3) := by decide +kernel
set_option maxRecDepth 100000 in
theorem ji_254_7 : mj_ins 254 7 = some (.ifCond .eq 14) := by decide +kernel
set_option maxRecDepth 100000 in
theorem ji_254_21 : mj_ins 254 21 = some (.iconst 0) := by decide +kernel
set_option maxRecDepth 100000 in
theorem ji_254_22 : mj_ins 254 22 = some (.ireturn) := by decide +kernel
set_option maxRecDepth 100000 in
theorem jr_254 : mj_ret 254 = some .boolean := by decide +kernel
set_option maxRecDepth 100000 in
theorem ji_254_10 : mj_ins 254 10 = some (.aload_n 0) := by decide +kernel
set_option maxRecDepth 100000 in
theorem ji_254_11 : mj_ins 254 11 = some (.getfield 7) := by decide +kernel
set_option maxRecDepth 100000 in
theorem jf_254_7 : mj_fld 254 7 = some (11, 0, (.array .int), false) := by decide +kernel
set_option maxRecDepth 100000 in
theorem ji_254_14 : mj_ins 254 14 = some (.bipush 9) := by decide +kernel
set_option maxRecDepth 100000 in
theorem ji_254_16 : mj_ins 254 16 = some (.iaload) := by decide +kernel
set_option maxRecDepth 100000 in
theorem ji_254_17 : mj_ins 254 17 = some (.iload_n 1) := by decide +kernel
set_option maxRecDepth 100000 in
theorem ji_254_18 : mj_ins 254 18 = some (.if_icmp .ne 5) := by decide +kernel
set_option maxRecDepth 100000 in
theorem ji_254_23 : mj_ins 254 23 = some (.aload_n 0) := by decide +kernel
set_option maxRecDepth 100000 in
theorem ji_254_24 : mj_ins 254 24 = some (.invokevirtual 336) := by decide +kernel
set_option maxRecDepth 100000 in
theorem jc_254_336 : mj_cal 254 336 = some (2, 219, 0) := by decide +kernel
set_option maxRecDepth 100000 in
theorem ji_254_27 : mj_ins 254 27 = some (.aload_n 0) := by decide +kernel
set_option maxRecDepth 100000 in
theorem ji_254_28 : mj_ins 254 28 = some (.getfield 7) := by decide +kernel
set_option maxRecDepth 100000 in
theorem ji_254_31 : mj_ins 254 31 = some (.bipush 9) := by decide +kernel
set_option maxRecDepth 100000 in
theorem ji_254_33 : mj_ins 254 33 = some (.iload_n 1) := by decide +kernel
set_option maxRecDepth 100000 in
theorem ji_254_34 : mj_ins 254 34 = some (.iastore) := by decide +kernel
set_option maxRecDepth 100000 in
theorem ji_254_35 : mj_ins 254 35 = some (.iconst 1) := by decide +kernel
set_option maxRecDepth 100000 in
theorem ji_254_36 : mj_ins 254 36 = some (.ireturn) := by decide +kernel
/-! steps of the reference; laid by program (wp_u51.py) -/
theorem prW_RG {s : sg_} {p : Int} (hp : 0 ≤ p ∧ p < 8) (G : RG s) : ∀ n : Nat, n ≤ 6 → RG (prW s p n)
  | 0, _ => G
  | n + 1, hn => by
    have G1 := prW_RG hp G n (by omega)
    show RG (if _ then _ else _)
    split
    · rename_i c
      have a := G1.a p hp
      have hh := G1.h n p (by omega) hp
      have he := G1.e n p (by omega) hp
      have hf := G1.f n p (by omega) hp (by omega)
      exact RG_up G1 (w := (n : Int)) (by omega) hp (fun j h1 h2 => up_k h1) (by unfold htR; rw [up_e]; omega) (by rw [up_k (by omega)]; exact he) (fun _ => by rw [up_k (by omega)]; exact hf)
    · exact G1
theorem RG_tall {s : sg_} (G : RG s) {p y : Int} (hp : 0 ≤ p ∧ p < 8) (hy : 0 ≤ y ∧ y ≤ 99) : RG (up s 139 (16 + 3 * p) y) := RG_mk
  (a_ := fun q hq => by
      by_cases c : q = p
      · rw [c, up_e]; exact hy
      · rw [up_k (by omega)]; exact G.a q hq)
  (pl_ := fun q hq => by rw [up_k (by omega)]; exact G.pl q hq)
  (n_ := fun q hq => by rw [up_k (by omega)]; exact G.n q hq)
  (h_ := fun u q hu hq => by
      show -1 ≤ up s 139 (16 + 3 * p) y 139 (52 + 2 * (8 * u + q) + 0) ∧ up s 139 (16 + 3 * p) y 139 (52 + 2 * (8 * u + q) + 0) ≤ 99
      rw [up_k (by omega)]
      exact G.h u q hu hq)
  (e_ := fun u q hu hq => by rw [up_k (by omega)]; exact G.e u q hu hq)
  (f_ := fun u q hu hq => by
      show ¬ up s 139 (16 + 3 * p) y 139 (52 + 2 * (8 * u + q) + 0) = -1 → up s 139 (16 + 3 * p) y 139 (52 + 2 * (8 * u + q) + 1) ≤ 99
      rw [up_k (by omega), up_k (by omega)]
      exact G.f u q hu hq)
  (w_ := by rw [up_k (by omega)]; exact G.w)
  (o_ := by rw [up_k (by omega)]; exact G.o)
  (x_ := by rw [up_k (by omega)]; exact G.x)
  (d_ := by rw [up_k (by omega)]; exact G.d)
  (p0_ := by rw [up_k (by omega)]; exact G.p0)
  (w0_ := by rw [up_k (by omega)]; exact G.w0)
theorem prR_RG {s : sg_} (G : RG s) {p n : Int} (hp : 0 ≤ p ∧ p < 8) (hn : 0 ≤ n) (ht : n ≤ s 139 (16 + 3 * p)) : RG (prR s p n) := by
  have a := G.a p hp
  have w0 := G.w0
  exact prW_RG hp (RG_tall G hp (by omega)) _ (by omega)
theorem prR_j {s : sg_} {p n : Int} (hp : 0 ≤ p ∧ p < 8) {b : Nat} {j : Int} (h : ¬ b = 139 ∨ (j < 52 ∧ ¬ j = 16 + 3 * p)) : prR s p n b j = s b j := by
  unfold prR
  rw [prW_fr hp.1 (by omega)]
  rcases h with h | h
  · exact up_a h
  · exact up_k h.2
theorem prR_t {s : sg_} {p n : Int} (hp : 0 ≤ p ∧ p < 8) : prR s p n 139 (16 + 3 * p) = s 139 (16 + 3 * p) - n := by
  unfold prR
  rw [prW_fr hp.1 (Or.inr (by omega)), up_e]
theorem uc_246 {nn d : Nat} {h : mj_H} {s : sg_} (C : CS h s) {cr : crs} {M : Int} (T : RT s cr M) {w p : Int} (hw : wp_r w) (hp : wp_r p) : wl_R nn (d + 4) 246 0 [some (.ref 138), some (wp_i w), some (wp_i p)] [] h (fun v1 h1 => (v1 = some (wp_i 1) ∧ ((0 ≤ w ∧ w < s 139 1) ∧ (0 ≤ p ∧ p < s 139 0) ∧ mrR s w p) ∧ CS h1 (rsR (keepR s) w p)) ∨ (v1 = some (wp_i 0) ∧ ¬ ((0 ≤ w ∧ w < s 139 1) ∧ (0 ≤ p ∧ p < s 139 0) ∧ mrR s w p) ∧ CS h1 s)) := by
  have i0 := T.rs.g.p0
  have i1 := T.rs.g.w0
  refine wl_s (pc' := 1) ji_246_0 rfl rfl rfl ?_
  refine wl_s (pc' := 2) ji_246_1 rfl rfl rfl ?_
  obtain ⟨q2, hq2⟩ := cs_c C (by decide) sq_138
  refine wl_vc (d := d + 3) (as := [.ref 138, wp_i w]) (rest := []) ji_246_2 jc_246_345 rfl hq2 jk_247.symm (Nat.le_of_ble_eq_true rfl) rfl (by rw [jn_247]; rfl) (uc_247 (d := d + 2) C i1 (w := w) hw) (fun v1 h1 R => ?_)
  obtain ⟨ee, y3, rfl, hy3a, hy3b⟩ := R
  rw [ee]
  clear ee
  show wl_R _ _ 246 5 [some (.ref 138), some (wp_i w), some (wp_i p)] [wp_i y3] _ _
  refine wl_if (t := 25) ji_246_5 rfl (by omega) (fun (hb4 : (y3 : Int) = 0) => ?_) (fun (hb4 : ¬ ((y3 : Int) = 0)) => ?_)
  · refine wl_s (pc' := 26) ji_246_25 rfl rfl rfl ?_
    exact wl_ri ji_246_26 jr_246 (pv_nb (by omega)) (Or.inr ⟨rfl, fun z => (by have z1 := z.1; have z2 := z.2.1; omega), C⟩)
  · refine wl_s (pc' := 9) ji_246_8 rfl rfl rfl ?_
    refine wl_s (pc' := 10) ji_246_9 rfl rfl rfl ?_
    obtain ⟨q6, hq6⟩ := cs_c C (by decide) sq_138
    refine wl_vc (d := d + 3) (as := [.ref 138, wp_i p]) (rest := []) ji_246_10 jc_246_348 rfl hq6 jk_248.symm (Nat.le_of_ble_eq_true rfl) rfl (by rw [jn_248]; rfl) (uc_248 (d := d + 2) C i0 (p := p) hp) (fun v1 h5 R => ?_)
    obtain ⟨ee, y7, rfl, hy7a, hy7b⟩ := R
    rw [ee]
    clear ee
    show wl_R _ _ 246 13 [some (.ref 138), some (wp_i w), some (wp_i p)] [wp_i y7] _ _
    refine wl_if (t := 25) ji_246_13 rfl (by omega) (fun (hb8 : (y7 : Int) = 0) => ?_) (fun (hb8 : ¬ ((y7 : Int) = 0)) => ?_)
    · refine wl_s (pc' := 26) ji_246_25 rfl rfl rfl ?_
      exact wl_ri ji_246_26 jr_246 (pv_nb (by omega)) (Or.inr ⟨rfl, fun z => (by have z1 := z.1; have z2 := z.2.1; omega), C⟩)
    · refine wl_s (pc' := 17) ji_246_16 rfl rfl rfl ?_
      refine wl_s (pc' := 18) ji_246_17 rfl rfl rfl ?_
      refine wl_s (pc' := 19) ji_246_18 rfl rfl rfl ?_
      obtain ⟨q10, hq10⟩ := cs_c C (by decide) sq_138
      refine wl_vc (d := d + 3) (as := [.ref 138, wp_i w, wp_i p]) (rest := []) ji_246_19 jc_246_351 rfl hq10 jk_249.symm (Nat.le_of_ble_eq_true rfl) rfl (by rw [jn_249]; rfl) (uc_249 (d := d) C i1 (w := w) (p := p) (by omega) (by omega)) (fun v1 h9 R => ?_)
      obtain ⟨ee, y11, rfl, hy11a, hy11b⟩ := R
      rw [ee]
      clear ee
      show wl_R _ _ 246 22 [some (.ref 138), some (wp_i w), some (wp_i p)] [wp_i y11] _ _
      refine wl_if (t := 27) ji_246_22 rfl (by omega) (fun (hb12 : ¬ (y11 : Int) = 0) => ?_) (fun (hb12 : ¬ (¬ (y11 : Int) = 0)) => ?_)
      · refine wl_s (pc' := 28) ji_246_27 rfl rfl rfl ?_
        obtain ⟨q14, hq14⟩ := cs_c C (by decide) sq_138
        refine wl_vc (d := d + 3) (as := [.ref 138]) (rest := []) ji_246_28 jc_246_336 rfl hq14 jk_219.symm (Nat.le_of_ble_eq_true rfl) rfl (by rw [jn_219]; rfl) (uc_219 (d := d + 2) T.k C) (fun v1 h13 R => ?_)
        obtain ⟨rfl, C⟩ := R
        obtain ⟨t, et⟩ : ∃ z9_, keepR s = z9_ := ⟨_, rfl⟩
        rw [et] at C
        have T1 : RT t cr M := et ▸ keepR_RT T
        have j1 := T1.rs.g.w0
        show wl_R _ _ 246 31 [some (.ref 138), some (wp_i w), some (wp_i p)] [] h13 _
        refine wl_s (pc' := 32) ji_246_31 rfl rfl rfl ?_
        refine wl_s (pc' := 33) ji_246_32 rfl rfl rfl ?_
        refine wl_s (pc' := 34) ji_246_33 rfl rfl rfl ?_
        obtain ⟨q16, hq16⟩ := cs_c C (by decide) sq_138
        refine wl_vc (d := d + 3) (as := [.ref 138, wp_i w, wp_i p]) (rest := []) ji_246_34 jc_246_354 rfl hq16 jk_250.symm (Nat.le_of_ble_eq_true rfl) rfl (by rw [jn_250]; rfl) (uc_250 (d := d + 2) C (w := w) (p := p) (by omega) (by omega)) (fun v1 h15 R => ?_)
        obtain ⟨rfl, C⟩ := R
        have C : CS h15 (rsR t w p) := C
        show wl_R _ _ 246 37 [some (.ref 138), some (wp_i w), some (wp_i p)] [] h15 _
        refine wl_s (pc' := 38) ji_246_37 rfl rfl rfl ?_
        exact wl_ri ji_246_38 jr_246 (pv_nb (by omega)) (Or.inl ⟨rfl, ⟨by omega, by omega, hy11b.mp (by omega)⟩, by rw [et]; exact C⟩)
      · refine wl_s (pc' := 26) ji_246_25 rfl rfl rfl ?_
        exact wl_ri ji_246_26 jr_246 (pv_nb (by omega)) (Or.inr ⟨rfl, fun z => (by have := hy11b.mpr z.2.2; omega), C⟩)
theorem uc_251 {nn d : Nat} {h : mj_H} {s : sg_} (C : CS h s) {cr : crs} {M : Int} (T : RT s cr M) {w p : Int} (hw : wp_r w) (hp : wp_r p) : wl_R nn (d + 2) 251 0 [some (.ref 138), some (wp_i w), some (wp_i p)] [] h (fun v1 h1 => (v1 = some (wp_i 1) ∧ ((0 ≤ w ∧ w < s 139 1) ∧ (0 ≤ p ∧ p < s 139 0) ∧ ¬ s 139 (52 + 2 * (8 * w + p) + 0) = -1) ∧ CS h1 (gnR (keepR s) w p)) ∨ (v1 = some (wp_i 0) ∧ ¬ ((0 ≤ w ∧ w < s 139 1) ∧ (0 ≤ p ∧ p < s 139 0) ∧ ¬ s 139 (52 + 2 * (8 * w + p) + 0) = -1) ∧ CS h1 s)) := by
  have i0 := T.rs.g.p0
  have i1 := T.rs.g.w0
  refine wl_s (pc' := 1) ji_251_0 rfl rfl rfl ?_
  refine wl_s (pc' := 2) ji_251_1 rfl rfl rfl ?_
  obtain ⟨q2, hq2⟩ := cs_c C (by decide) sq_138
  refine wl_vc (d := d + 1) (as := [.ref 138, wp_i w]) (rest := []) ji_251_2 jc_251_345 rfl hq2 jk_247.symm (Nat.le_of_ble_eq_true rfl) rfl (by rw [jn_247]; rfl) (uc_247 (d := d) C i1 (w := w) hw) (fun v1 h1 R => ?_)
  obtain ⟨ee, y3, rfl, hy3a, hy3b⟩ := R
  rw [ee]
  clear ee
  show wl_R _ _ 251 5 [some (.ref 138), some (wp_i w), some (wp_i p)] [wp_i y3] _ _
  refine wl_if (t := 25) ji_251_5 rfl (by omega) (fun (hb4 : (y3 : Int) = 0) => ?_) (fun (hb4 : ¬ ((y3 : Int) = 0)) => ?_)
  · refine wl_s (pc' := 26) ji_251_25 rfl rfl rfl ?_
    exact wl_ri ji_251_26 jr_251 (pv_nb (by omega)) (Or.inr ⟨rfl, fun z => (by have z1 := z.1; have z2 := z.2.1; omega), C⟩)
  · refine wl_s (pc' := 9) ji_251_8 rfl rfl rfl ?_
    refine wl_s (pc' := 10) ji_251_9 rfl rfl rfl ?_
    obtain ⟨q6, hq6⟩ := cs_c C (by decide) sq_138
    refine wl_vc (d := d + 1) (as := [.ref 138, wp_i p]) (rest := []) ji_251_10 jc_251_348 rfl hq6 jk_248.symm (Nat.le_of_ble_eq_true rfl) rfl (by rw [jn_248]; rfl) (uc_248 (d := d) C i0 (p := p) hp) (fun v1 h5 R => ?_)
    obtain ⟨ee, y7, rfl, hy7a, hy7b⟩ := R
    rw [ee]
    clear ee
    show wl_R _ _ 251 13 [some (.ref 138), some (wp_i w), some (wp_i p)] [wp_i y7] _ _
    refine wl_if (t := 25) ji_251_13 rfl (by omega) (fun (hb8 : (y7 : Int) = 0) => ?_) (fun (hb8 : ¬ ((y7 : Int) = 0)) => ?_)
    · refine wl_s (pc' := 26) ji_251_25 rfl rfl rfl ?_
      exact wl_ri ji_251_26 jr_251 (pv_nb (by omega)) (Or.inr ⟨rfl, fun z => (by have z1 := z.1; have z2 := z.2.1; omega), C⟩)
    · refine wl_s (pc' := 17) ji_251_16 rfl rfl rfl ?_
      refine wl_s (pc' := 18) ji_251_17 rfl rfl rfl ?_
      refine wl_s (pc' := 19) ji_251_18 rfl rfl rfl ?_
      obtain ⟨q10, hq10⟩ := cs_c C (by decide) sq_138
      refine wl_vc (d := d + 1) (as := [.ref 138, wp_i w, wp_i p]) (rest := []) ji_251_19 jc_251_74 rfl hq10 jk_223.symm (Nat.le_of_ble_eq_true rfl) rfl (by rw [jn_223]; rfl) (uc_223 (d := d) C (w := w) (p := p) (by omega) (by omega)) (fun v1 h9 R => ?_)
      obtain ⟨ee, y11, rfl, hy11a, hy11b⟩ := R
      rw [ee]
      clear ee
      show wl_R _ _ 251 22 [some (.ref 138), some (wp_i w), some (wp_i p)] [wp_i y11] _ _
      refine wl_if (t := 27) ji_251_22 rfl (by omega) (fun (hb12 : ¬ (y11 : Int) = 0) => ?_) (fun (hb12 : ¬ (¬ (y11 : Int) = 0)) => ?_)
      · refine wl_s (pc' := 28) ji_251_27 rfl rfl rfl ?_
        obtain ⟨q14, hq14⟩ := cs_c C (by decide) sq_138
        refine wl_vc (d := d + 1) (as := [.ref 138]) (rest := []) ji_251_28 jc_251_336 rfl hq14 jk_219.symm (Nat.le_of_ble_eq_true rfl) rfl (by rw [jn_219]; rfl) (uc_219 (d := d) T.k C) (fun v1 h13 R => ?_)
        obtain ⟨rfl, C⟩ := R
        obtain ⟨t, et⟩ : ∃ z9_, keepR s = z9_ := ⟨_, rfl⟩
        rw [et] at C
        have T1 : RT t cr M := et ▸ keepR_RT T
        have j1 := T1.rs.g.w0
        show wl_R _ _ 251 31 [some (.ref 138), some (wp_i w), some (wp_i p)] [] h13 _
        refine wl_s (pc' := 32) ji_251_31 rfl rfl rfl ?_
        refine wl_s (pc' := 33) ji_251_32 rfl rfl rfl ?_
        refine wl_s (pc' := 34) ji_251_33 rfl rfl rfl ?_
        obtain ⟨q16, hq16⟩ := cs_c C (by decide) sq_138
        refine wl_vc (d := d + 1) (as := [.ref 138, wp_i w, wp_i p]) (rest := []) ji_251_34 jc_251_324 rfl hq16 jk_241.symm (Nat.le_of_ble_eq_true rfl) rfl (by rw [jn_241]; rfl) (uc_241 (d := d) C (w := w) (p := p) (by omega) (by omega)) (fun v1 h15 R => ?_)
        obtain ⟨rfl, C⟩ := R
        have C : CS h15 (gnR t w p) := C
        show wl_R _ _ 251 37 [some (.ref 138), some (wp_i w), some (wp_i p)] [] h15 _
        refine wl_s (pc' := 38) ji_251_37 rfl rfl rfl ?_
        exact wl_ri ji_251_38 jr_251 (pv_nb (by omega)) (Or.inl ⟨rfl, ⟨by omega, by omega, hy11b.mp (by omega)⟩, by rw [et]; exact C⟩)
      · refine wl_s (pc' := 26) ji_251_25 rfl rfl rfl ?_
        exact wl_ri ji_251_26 jr_251 (pv_nb (by omega)) (Or.inr ⟨rfl, fun z => (by have := hy11b.mpr z.2.2; omega), C⟩)
theorem uc_252 {nn d : Nat} {h : mj_H} {s : sg_} (C : CS h s) {cr : crs} {M : Int} (T : RT s cr M) {p n : Int} (hp : wp_r p) (hn : wp_r n) : wl_R nn (d + 2) 252 0 [some (.ref 138), some (wp_i p), some (wp_i n)] [] h (fun v1 h1 => (v1 = some (wp_i (s 139 (16 + 3 * p) - n)) ∧ ((0 ≤ p ∧ p < s 139 0) ∧ 1 ≤ n ∧ n ≤ 99 ∧ n < s 139 (16 + 3 * p)) ∧ CS h1 (prR (keepR s) p n)) ∨ (v1 = some (wp_i (-1)) ∧ ¬ ((0 ≤ p ∧ p < s 139 0) ∧ 1 ≤ n ∧ n ≤ 99 ∧ n < s 139 (16 + 3 * p)) ∧ CS h1 s)) := by
  have i0 := T.rs.g.p0
  have i1 := T.rs.g.w0
  refine wl_s (pc' := 1) ji_252_0 rfl rfl rfl ?_
  refine wl_s (pc' := 2) ji_252_1 rfl rfl rfl ?_
  obtain ⟨q2, hq2⟩ := cs_c C (by decide) sq_138
  refine wl_vc (d := d + 1) (as := [.ref 138, wp_i p]) (rest := []) ji_252_2 jc_252_348 rfl hq2 jk_248.symm (Nat.le_of_ble_eq_true rfl) rfl (by rw [jn_248]; rfl) (uc_248 (d := d) C i0 (p := p) hp) (fun v1 h1 R => ?_)
  obtain ⟨ee, y3, rfl, hy3a, hy3b⟩ := R
  rw [ee]
  clear ee
  show wl_R _ _ 252 5 [some (.ref 138), some (wp_i p), some (wp_i n)] [wp_i y3] _ _
  refine wl_if (t := 29) ji_252_5 rfl (by omega) (fun (hb4 : (y3 : Int) = 0) => ?_) (fun (hb4 : ¬ ((y3 : Int) = 0)) => ?_)
  · refine wl_s (pc' := 30) ji_252_29 rfl rfl rfl ?_
    exact wl_ri ji_252_30 jr_252 rfl (Or.inr ⟨rfl, by omega, C⟩)
  · refine wl_s (pc' := 9) ji_252_8 rfl rfl rfl ?_
    refine wl_s (pc' := 10) ji_252_9 rfl rfl rfl ?_
    refine wl_bp ji_252_10 rfl ?_
    refine wl_sc (d := d + 1) (as := [wp_i n, wp_i 1, wp_i 99]) (rest := []) ji_252_12 jc_252_66 (Nat.le_of_ble_eq_true rfl) rfl (Nat.le_of_ble_eq_true rfl) rfl (by rw [jn_171]; rfl) (uc_171 (d := d + 1) (x := n) (a := 1) (b := 99) (by omega) (by omega) (by omega)) (fun v1 h5 R => ?_)
    obtain ⟨ee, y6, rfl, hy6a, hy6b⟩ := R
    rw [ee]
    clear ee
    show wl_R _ _ 252 15 [some (.ref 138), some (wp_i p), some (wp_i n)] [wp_i y6] _ _
    refine wl_if (t := 29) ji_252_15 rfl (by omega) (fun (hb7 : (y6 : Int) = 0) => ?_) (fun (hb7 : ¬ ((y6 : Int) = 0)) => ?_)
    · refine wl_s (pc' := 30) ji_252_29 rfl rfl rfl ?_
      exact wl_ri ji_252_30 jr_252 rfl (Or.inr ⟨rfl, by omega, C⟩)
    · refine wl_s (pc' := 19) ji_252_18 rfl rfl rfl ?_
      refine wl_s (pc' := 20) ji_252_19 rfl rfl rfl ?_
      obtain ⟨q9, hq9⟩ := cs_c C (by decide) sq_138
      refine wl_vc (d := d + 1) (as := [.ref 138, wp_i p]) (rest := []) ji_252_20 jc_252_289 rfl hq9 jk_220.symm (Nat.le_of_ble_eq_true rfl) rfl (by rw [jn_220]; rfl) (uc_220 (d := d + 1) C (p := p) (by omega)) (fun v1 h8 R => ?_)
      obtain ⟨ee, rfl⟩ := R
      rw [ee]
      clear ee
      show wl_R _ _ 252 23 [some (.ref 138), some (wp_i p), some (wp_i n)] [wp_i (s 139 (16 + 3 * p))] _ _
      have rt := T.rs.g.a p (by omega)
      refine wl_s (pc' := 24) ji_252_23 rfl rfl rfl ?_
      refine wl_isub (x := s 139 (16 + 3 * p)) (y := n) (z := s 139 (16 + 3 * p) - n) ji_252_24 (by omega) ?_
      refine wl_s (pc' := 26) ji_252_25 rfl rfl rfl ?_
      refine wl_icmp (t := 31) ji_252_26 rfl (by omega) (by omega) (fun (hb10 : (1 : Int) ≤ (s 139 (16 + 3 * p) - n)) => ?_) (fun (hb10 : ¬ ((1 : Int) ≤ (s 139 (16 + 3 * p) - n))) => ?_)
      · refine wl_s (pc' := 32) ji_252_31 rfl rfl rfl ?_
        obtain ⟨q12, hq12⟩ := cs_c C (by decide) sq_138
        refine wl_vc (d := d + 1) (as := [.ref 138]) (rest := []) ji_252_32 jc_252_336 rfl hq12 jk_219.symm (Nat.le_of_ble_eq_true rfl) rfl (by rw [jn_219]; rfl) (uc_219 (d := d) T.k C) (fun v1 h11 R => ?_)
        obtain ⟨rfl, C⟩ := R
        obtain ⟨t, et⟩ : ∃ z9_, keepR s = z9_ := ⟨_, rfl⟩
        rw [et] at C
        have T1 : RT t cr M := et ▸ keepR_RT T
        have j1 := T1.rs.g.w0
        have k5 : t 139 (16 + 3 * p) = s 139 (16 + 3 * p) := by rw [← et, keepR_fr T.k.1 (Or.inr ⟨by omega, by omega⟩)]
        show wl_R _ _ 252 35 [some (.ref 138), some (wp_i p), some (wp_i n)] [] h11 _
        refine wl_s (pc' := 36) ji_252_35 rfl rfl rfl ?_
        refine wl_s (pc' := 37) ji_252_36 rfl rfl rfl ?_
        refine wl_s (pc' := 38) ji_252_37 rfl rfl rfl ?_
        obtain ⟨q14, hq14⟩ := cs_c C (by decide) sq_138
        refine wl_vc (d := d + 1) (as := [.ref 138, wp_i p, wp_i n]) (rest := []) ji_252_38 jc_252_357 rfl hq14 jk_253.symm (Nat.le_of_ble_eq_true rfl) rfl (by rw [jn_253]; rfl) (uc_253 (d := d) C j1 (p := p) (n := n) (by omega) (T1.rs.g.a p (by omega)) (by omega)) (fun v1 h13 R => ?_)
        obtain ⟨rfl, C⟩ := R
        have C : CS h13 (prR t p n) := C
        obtain ⟨u, eu⟩ : ∃ z9_, prR t p n = z9_ := ⟨_, rfl⟩
        rw [eu] at C
        have ut : u 139 (16 + 3 * p) = s 139 (16 + 3 * p) - n := by rw [← eu, prR_t (by omega), k5]
        show wl_R _ _ 252 41 [some (.ref 138), some (wp_i p), some (wp_i n)] [] h13 _
        refine wl_s (pc' := 42) ji_252_41 rfl rfl rfl ?_
        refine wl_s (pc' := 43) ji_252_42 rfl rfl rfl ?_
        obtain ⟨q16, hq16⟩ := cs_c C (by decide) sq_138
        refine wl_vc (d := d + 1) (as := [.ref 138, wp_i p]) (rest := []) ji_252_43 jc_252_289 rfl hq16 jk_220.symm (Nat.le_of_ble_eq_true rfl) rfl (by rw [jn_220]; rfl) (uc_220 (d := d + 1) C (p := p) (by omega)) (fun v1 h15 R => ?_)
        obtain ⟨ee, rfl⟩ := R
        rw [ee]
        clear ee
        show wl_R _ _ 252 46 [some (.ref 138), some (wp_i p), some (wp_i n)] [wp_i (u 139 (16 + 3 * p))] _ _
        rw [ut]
        exact wl_ri ji_252_46 jr_252 rfl (Or.inl ⟨rfl, by omega, by rw [et, eu]; exact C⟩)
      · refine wl_s (pc' := 30) ji_252_29 rfl rfl rfl ?_
        exact wl_ri ji_252_30 jr_252 rfl (Or.inr ⟨rfl, by omega, C⟩)
theorem uc_254 {nn d : Nat} {h : mj_H} {s : sg_} (C : CS h s) {cr : crs} {M : Int} (T : RT s cr M) {w : Int} (hw : wp_r w) : wl_R nn (d + 2) 254 0 [some (.ref 138), some (wp_i w)] [] h (fun v1 h1 => (v1 = some (wp_i 1) ∧ ((0 ≤ w ∧ w ≤ 9) ∧ ¬ w = s 139 9) ∧ CS h1 (up (keepR s) 139 9 w)) ∨ (v1 = some (wp_i 0) ∧ ¬ ((0 ≤ w ∧ w ≤ 9) ∧ ¬ w = s 139 9) ∧ CS h1 s)) := by
  have i0 := T.rs.g.p0
  have i1 := T.rs.g.w0
  refine wl_s (pc' := 1) ji_254_0 rfl rfl rfl ?_
  refine wl_s (pc' := 2) ji_254_1 rfl rfl rfl ?_
  refine wl_bp ji_254_2 rfl ?_
  refine wl_sc (d := d + 1) (as := [wp_i w, wp_i 0, wp_i 9]) (rest := []) ji_254_4 jc_254_66 (Nat.le_of_ble_eq_true rfl) rfl (Nat.le_of_ble_eq_true rfl) rfl (by rw [jn_171]; rfl) (uc_171 (d := d + 1) (x := w) (a := 0) (b := 9) (by omega) (by omega) (by omega)) (fun v1 h1 R => ?_)
  obtain ⟨ee, y2, rfl, hy2a, hy2b⟩ := R
  rw [ee]
  clear ee
  show wl_R _ _ 254 7 [some (.ref 138), some (wp_i w)] [wp_i y2] _ _
  refine wl_if (t := 21) ji_254_7 rfl (by omega) (fun (hb3 : (y2 : Int) = 0) => ?_) (fun (hb3 : ¬ ((y2 : Int) = 0)) => ?_)
  · refine wl_s (pc' := 22) ji_254_21 rfl rfl rfl ?_
    exact wl_ri ji_254_22 jr_254 (pv_nb (by omega)) (Or.inr ⟨rfl, by omega, C⟩)
  · refine wl_s (pc' := 11) ji_254_10 rfl rfl rfl ?_
    refine cs_gr (r := 139) (k := 0) C (by decide) sq_138 rfl ji_254_11 jf_254_7 ?_
    refine wl_bp ji_254_14 rfl ?_
    refine cs_l (x := 9) C (by decide) (by decide) sq_139 (by omega) ji_254_16 (fun ld40 ld41 ld42 => ?_)
    refine wl_s (pc' := 18) ji_254_17 rfl rfl rfl ?_
    refine wl_icmp (t := 23) ji_254_18 rfl (by omega) (by omega) (fun (hb5 : ¬ (s 139 9 : Int) = w) => ?_) (fun (hb5 : ¬ (¬ (s 139 9 : Int) = w)) => ?_)
    · refine wl_s (pc' := 24) ji_254_23 rfl rfl rfl ?_
      obtain ⟨q7, hq7⟩ := cs_c C (by decide) sq_138
      refine wl_vc (d := d + 1) (as := [.ref 138]) (rest := []) ji_254_24 jc_254_336 rfl hq7 jk_219.symm (Nat.le_of_ble_eq_true rfl) rfl (by rw [jn_219]; rfl) (uc_219 (d := d) T.k C) (fun v1 h6 R => ?_)
      obtain ⟨rfl, C⟩ := R
      obtain ⟨t, et⟩ : ∃ z9_, keepR s = z9_ := ⟨_, rfl⟩
      rw [et] at C
      have T1 : RT t cr M := et ▸ keepR_RT T
      have j1 := T1.rs.g.w0
      show wl_R _ _ 254 27 [some (.ref 138), some (wp_i w)] [] h6 _
      refine wl_s (pc' := 28) ji_254_27 rfl rfl rfl ?_
      refine cs_gr (r := 139) (k := 0) C (by decide) sq_138 rfl ji_254_28 jf_254_7 ?_
      refine wl_bp ji_254_31 rfl ?_
      refine wl_s (pc' := 34) ji_254_33 rfl rfl rfl ?_
      refine cs_s (x := 9) (y := w) C (by decide) sq_139 (by omega) (by omega) ji_254_34 (fun h st80 st81 C => ?_)
      obtain ⟨s9, es9⟩ : ∃ z9_, up t 139 9 w = z9_ := ⟨_, rfl⟩
      rw [es9] at C
      refine wl_s (pc' := 36) ji_254_35 rfl rfl rfl ?_
      exact wl_ri ji_254_36 jr_254 (pv_nb (by omega)) (Or.inl ⟨rfl, by omega, cs_mono C (by rw [et, es9])⟩)
    · refine wl_s (pc' := 22) ji_254_21 rfl rfl rfl ?_
      exact wl_ri ji_254_22 jr_254 (pv_nb (by omega)) (Or.inr ⟨rfl, by omega, C⟩)
