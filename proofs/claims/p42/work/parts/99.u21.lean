/-! -/
/-! -/
set_option maxRecDepth 100000 in
theorem ji_220_0 : mj_ins 220 0 = some (.aload_n 0) := by decide +kernel
set_option maxRecDepth 100000 in
theorem ji_220_1 : mj_ins 220 1 = some (.getfield 7) := by decide +kernel
set_option maxRecDepth 100000 in
theorem sq_138 : sh_T[138]? = some (11, [142, 143, 144, 145, 0, 0, 0, 0, 0, 0, 0, 1, 0, 0, 0, 146, 0, 0, 0, 0, 0, 0, 147, 148, 149, 0, 150, 151, 152, 153, 154], 0, 0) := by decide +kernel
set_option maxRecDepth 100000 in
theorem jf_220_7 : mj_fld 220 7 = some (11, 0, (.array .int), false) := by decide +kernel
set_option maxRecDepth 100000 in
theorem ji_220_4 : mj_ins 220 4 = some (.bipush 16) := by decide +kernel
set_option maxRecDepth 100000 in
theorem ji_220_6 : mj_ins 220 6 = some (.iconst 3) := by decide +kernel
set_option maxRecDepth 100000 in
theorem ji_220_7 : mj_ins 220 7 = some (.iload_n 1) := by decide +kernel
set_option maxRecDepth 100000 in
theorem ji_220_8 : mj_ins 220 8 = some (.imul) := by decide +kernel
set_option maxRecDepth 100000 in
theorem ji_220_9 : mj_ins 220 9 = some (.iadd) := by decide +kernel
set_option maxRecDepth 100000 in
theorem ji_220_10 : mj_ins 220 10 = some (.iaload) := by decide +kernel
set_option maxRecDepth 100000 in
theorem sq_139 : sh_T[139]? = some (1000, [], 6044, 0) := by decide +kernel
set_option maxRecDepth 100000 in
theorem ji_220_11 : mj_ins 220 11 = some (.ireturn) := by decide +kernel
set_option maxRecDepth 100000 in
theorem jr_220 : mj_ret 220 = some .int := by decide +kernel
set_option maxRecDepth 100000 in
theorem ji_230_0 : mj_ins 230 0 = some (.aload_n 0) := by decide +kernel
set_option maxRecDepth 100000 in
theorem ji_230_1 : mj_ins 230 1 = some (.getfield 7) := by decide +kernel
set_option maxRecDepth 100000 in
theorem jf_230_7 : mj_fld 230 7 = some (11, 0, (.array .int), false) := by decide +kernel
set_option maxRecDepth 100000 in
theorem ji_230_4 : mj_ins 230 4 = some (.bipush 16) := by decide +kernel
set_option maxRecDepth 100000 in
theorem ji_230_6 : mj_ins 230 6 = some (.iconst 3) := by decide +kernel
set_option maxRecDepth 100000 in
theorem ji_230_7 : mj_ins 230 7 = some (.iload_n 1) := by decide +kernel
set_option maxRecDepth 100000 in
theorem ji_230_8 : mj_ins 230 8 = some (.imul) := by decide +kernel
set_option maxRecDepth 100000 in
theorem ji_230_9 : mj_ins 230 9 = some (.iadd) := by decide +kernel
set_option maxRecDepth 100000 in
theorem ji_230_10 : mj_ins 230 10 = some (.iconst 1) := by decide +kernel
set_option maxRecDepth 100000 in
theorem ji_230_11 : mj_ins 230 11 = some (.iadd) := by decide +kernel
set_option maxRecDepth 100000 in
theorem ji_230_12 : mj_ins 230 12 = some (.iaload) := by decide +kernel
set_option maxRecDepth 100000 in
theorem ji_230_13 : mj_ins 230 13 = some (.ireturn) := by decide +kernel
set_option maxRecDepth 100000 in
theorem jr_230 : mj_ret 230 = some .int := by decide +kernel
set_option maxRecDepth 100000 in
theorem ji_239_0 : mj_ins 239 0 = some (.aload_n 0) := by decide +kernel
set_option maxRecDepth 100000 in
theorem ji_239_1 : mj_ins 239 1 = some (.getfield 7) := by decide +kernel
set_option maxRecDepth 100000 in
theorem jf_239_7 : mj_fld 239 7 = some (11, 0, (.array .int), false) := by decide +kernel
set_option maxRecDepth 100000 in
theorem ji_239_4 : mj_ins 239 4 = some (.bipush 52) := by decide +kernel
set_option maxRecDepth 100000 in
theorem ji_239_6 : mj_ins 239 6 = some (.iconst 2) := by decide +kernel
set_option maxRecDepth 100000 in
theorem ji_239_7 : mj_ins 239 7 = some (.bipush 8) := by decide +kernel
set_option maxRecDepth 100000 in
theorem ji_239_9 : mj_ins 239 9 = some (.iload_n 1) := by decide +kernel
set_option maxRecDepth 100000 in
theorem ji_239_10 : mj_ins 239 10 = some (.imul) := by decide +kernel
set_option maxRecDepth 100000 in
theorem ji_239_11 : mj_ins 239 11 = some (.iload_n 2) := by decide +kernel
set_option maxRecDepth 100000 in
theorem ji_239_12 : mj_ins 239 12 = some (.iadd) := by decide +kernel
set_option maxRecDepth 100000 in
theorem ji_239_13 : mj_ins 239 13 = some (.imul) := by decide +kernel
set_option maxRecDepth 100000 in
theorem ji_239_14 : mj_ins 239 14 = some (.iadd) := by decide +kernel
set_option maxRecDepth 100000 in
theorem ji_239_15 : mj_ins 239 15 = some (.iload_n 3) := by decide +kernel
set_option maxRecDepth 100000 in
theorem ji_239_16 : mj_ins 239 16 = some (.iadd) := by decide +kernel
set_option maxRecDepth 100000 in
theorem ji_239_17 : mj_ins 239 17 = some (.iload 4) := by decide +kernel
set_option maxRecDepth 100000 in
theorem ji_239_19 : mj_ins 239 19 = some (.iastore) := by decide +kernel
set_option maxRecDepth 100000 in
theorem ji_239_20 : mj_ins 239 20 = some (.return_) := by decide +kernel
set_option maxRecDepth 100000 in
theorem jr_239 : mj_ret 239 = none := by decide +kernel
set_option maxRecDepth 100000 in
theorem ji_241_0 : mj_ins 241 0 = some (.aload_n 0) := by decide +kernel
set_option maxRecDepth 100000 in
theorem ji_241_1 : mj_ins 241 1 = some (.iload_n 1) := by decide +kernel
set_option maxRecDepth 100000 in
theorem ji_241_2 : mj_ins 241 2 = some (.iload_n 2) := by decide +kernel
set_option maxRecDepth 100000 in
theorem ji_241_3 : mj_ins 241 3 = some (.iconst 0) := by decide +kernel
set_option maxRecDepth 100000 in
theorem ji_241_4 : mj_ins 241 4 = some (.iconst (-1)) := by decide +kernel
set_option maxRecDepth 100000 in
theorem ji_241_5 : mj_ins 241 5 = some (.invokevirtual 317) := by decide +kernel
set_option maxRecDepth 100000 in
theorem jc_241_317 : mj_cal 241 317 = some (2, 239, 4) := by decide +kernel
set_option maxRecDepth 100000 in
theorem jn_239 : mj_nl 239 = 5 := by decide +kernel
set_option maxRecDepth 100000 in
theorem jk_239 : mj_cls 239 = 11 := by decide +kernel
set_option maxRecDepth 100000 in
theorem ji_241_8 : mj_ins 241 8 = some (.aload_n 0) := by decide +kernel
set_option maxRecDepth 100000 in
theorem ji_241_9 : mj_ins 241 9 = some (.iload_n 1) := by decide +kernel
set_option maxRecDepth 100000 in
theorem ji_241_10 : mj_ins 241 10 = some (.iload_n 2) := by decide +kernel
set_option maxRecDepth 100000 in
theorem ji_241_11 : mj_ins 241 11 = some (.iconst 1) := by decide +kernel
set_option maxRecDepth 100000 in
theorem ji_241_12 : mj_ins 241 12 = some (.iconst 0) := by decide +kernel
set_option maxRecDepth 100000 in
theorem ji_241_13 : mj_ins 241 13 = some (.invokevirtual 317) := by decide +kernel
set_option maxRecDepth 100000 in
theorem ji_241_16 : mj_ins 241 16 = some (.return_) := by decide +kernel
set_option maxRecDepth 100000 in
theorem jr_241 : mj_ret 241 = none := by decide +kernel
set_option maxRecDepth 100000 in
theorem ji_223_0 : mj_ins 223 0 = some (.aload_n 0) := by decide +kernel
set_option maxRecDepth 100000 in
theorem ji_223_1 : mj_ins 223 1 = some (.iload_n 1) := by decide +kernel
set_option maxRecDepth 100000 in
theorem ji_223_2 : mj_ins 223 2 = some (.iload_n 2) := by decide +kernel
set_option maxRecDepth 100000 in
theorem ji_223_3 : mj_ins 223 3 = some (.iconst 0) := by decide +kernel
set_option maxRecDepth 100000 in
theorem ji_223_4 : mj_ins 223 4 = some (.invokevirtual 70) := by decide +kernel
set_option maxRecDepth 100000 in
theorem jc_223_70 : mj_cal 223 70 = some (2, 224, 3) := by decide +kernel
set_option maxRecDepth 100000 in
theorem ji_223_7 : mj_ins 223 7 = some (.iconst (-1)) := by decide +kernel
set_option maxRecDepth 100000 in
theorem ji_223_8 : mj_ins 223 8 = some (.if_icmp .eq 7) := by decide +kernel
set_option maxRecDepth 100000 in
theorem ji_223_15 : mj_ins 223 15 = some (.iconst 0) := by decide +kernel
set_option maxRecDepth 100000 in
theorem ji_223_16 : mj_ins 223 16 = some (.ireturn) := by decide +kernel
set_option maxRecDepth 100000 in
theorem jr_223 : mj_ret 223 = some .boolean := by decide +kernel
set_option maxRecDepth 100000 in
theorem ji_223_11 : mj_ins 223 11 = some (.iconst 1) := by decide +kernel
set_option maxRecDepth 100000 in
theorem ji_223_12 : mj_ins 223 12 = some (.goto 4) := by decide +kernel
set_option maxRecDepth 100000 in
theorem ji_229_0 : mj_ins 229 0 = some (.iconst 0) := by decide +kernel
set_option maxRecDepth 100000 in
theorem ji_229_1 : mj_ins 229 1 = some (.istore_n 1) := by decide +kernel
set_option maxRecDepth 100000 in
theorem ji_229_2 : mj_ins 229 2 = some (.iconst 0) := by decide +kernel
set_option maxRecDepth 100000 in
theorem ji_229_3 : mj_ins 229 3 = some (.istore_n 2) := by decide +kernel
set_option maxRecDepth 100000 in
theorem ji_229_4 : mj_ins 229 4 = some (.iload_n 2) := by decide +kernel
set_option maxRecDepth 100000 in
theorem ji_229_5 : mj_ins 229 5 = some (.bipush 9) := by decide +kernel
set_option maxRecDepth 100000 in
theorem ji_229_7 : mj_ins 229 7 = some (.if_icmp .ge 17) := by decide +kernel
set_option maxRecDepth 100000 in
theorem ji_229_10 : mj_ins 229 10 = some (.iload_n 1) := by decide +kernel
set_option maxRecDepth 100000 in
theorem ji_229_11 : mj_ins 229 11 = some (.iload_n 0) := by decide +kernel
set_option maxRecDepth 100000 in
theorem ji_229_12 : mj_ins 229 12 = some (.iload_n 2) := by decide +kernel
set_option maxRecDepth 100000 in
theorem ji_229_13 : mj_ins 229 13 = some (.ishr) := by decide +kernel
set_option maxRecDepth 100000 in
theorem ji_229_14 : mj_ins 229 14 = some (.iconst 1) := by decide +kernel
set_option maxRecDepth 100000 in
theorem ji_229_15 : mj_ins 229 15 = some (.iand) := by decide +kernel
set_option maxRecDepth 100000 in
theorem ji_229_16 : mj_ins 229 16 = some (.iadd) := by decide +kernel
set_option maxRecDepth 100000 in
theorem ji_229_17 : mj_ins 229 17 = some (.istore_n 1) := by decide +kernel
set_option maxRecDepth 100000 in
theorem ji_229_18 : mj_ins 229 18 = some (.iinc 2 1) := by decide +kernel
set_option maxRecDepth 100000 in
theorem ji_229_21 : mj_ins 229 21 = some (.goto (-17)) := by decide +kernel
set_option maxRecDepth 100000 in
theorem ji_229_24 : mj_ins 229 24 = some (.iload_n 1) := by decide +kernel
set_option maxRecDepth 100000 in
theorem ji_229_25 : mj_ins 229 25 = some (.ireturn) := by decide +kernel
set_option maxRecDepth 100000 in
theorem jr_229 : mj_ret 229 = some .int := by decide +kernel
/-! the reference's leaves; laid by program (wp_u21.py) -/
theorem uc_171 {nn d : Nat} {h : mj_H} {x a b : Int} (hx : wp_r x) (ha : wp_r a) (hb : wp_r b) : wl_R nn d 171 0 [some (wp_i x), some (wp_i a), some (wp_i b)] [] h (fun v1 h1 => h1 = h ∧ ∃ y : Int, v1 = some (wp_i y) ∧ (y = 0 ∨ y = 1) ∧ (y = 1 ↔ a ≤ x ∧ x ≤ b)) := by
  refine wl_s (pc' := 1) ji_171_0 rfl rfl rfl ?_
  refine wl_s (pc' := 2) ji_171_1 rfl rfl rfl ?_
  refine wl_icmp (t := 14) ji_171_2 rfl (by omega) (by omega) (fun (hb1 : (x : Int) < a) => ?_) (fun (hb1 : ¬ ((x : Int) < a)) => ?_)
  · refine wl_s (pc' := 15) ji_171_14 rfl rfl rfl ?_
    exact wl_ri ji_171_15 jr_171 (pv_nb (by omega)) (⟨rfl, 0, rfl, by omega, by omega⟩)
  · refine wl_s (pc' := 6) ji_171_5 rfl rfl rfl ?_
    refine wl_s (pc' := 7) ji_171_6 rfl rfl rfl ?_
    refine wl_icmp (t := 14) ji_171_7 rfl (by omega) (by omega) (fun (hb2 : (b : Int) < x) => ?_) (fun (hb2 : ¬ ((b : Int) < x)) => ?_)
    · refine wl_s (pc' := 15) ji_171_14 rfl rfl rfl ?_
      exact wl_ri ji_171_15 jr_171 (pv_nb (by omega)) (⟨rfl, 0, rfl, by omega, by omega⟩)
    · refine wl_s (pc' := 11) ji_171_10 rfl rfl rfl ?_
      refine wl_goto (t := 15) ji_171_11 rfl ?_
      exact wl_ri ji_171_15 jr_171 (pv_nb (by omega)) (⟨rfl, 1, rfl, by omega, by omega⟩)
theorem uc_220 {nn d : Nat} {h : mj_H} {s : sg_} (C : CS h s) {p : Int} (hp : 0 ≤ p ∧ p < 8) : wl_R nn d 220 0 [some (.ref 138), some (wp_i p)] [] h (fun v1 h1 => h1 = h ∧ v1 = some (wp_i (s 139 (16 + 3 * p)))) := by
  refine wl_s (pc' := 1) ji_220_0 rfl rfl rfl ?_
  refine cs_gr (r := 139) (k := 0) C (by decide) sq_138 rfl ji_220_1 jf_220_7 ?_
  refine wl_bp ji_220_4 rfl ?_
  refine wl_s (pc' := 7) ji_220_6 rfl rfl rfl ?_
  refine wl_s (pc' := 8) ji_220_7 rfl rfl rfl ?_
  refine wl_imul (x := 3) (y := p) (z := 3 * p) ji_220_8 (by omega) ?_
  refine wl_iadd (x := 16) (y := 3 * p) (z := 16 + (3 * p)) ji_220_9 (by omega) ?_
  refine cs_l (x := 16 + (3 * p)) C (by decide) (by decide) sq_139 (by omega) ji_220_10 (fun ld10 ld11 ld12 => ?_)
  exact wl_ri ji_220_11 jr_220 rfl (⟨rfl, rfl⟩)
theorem uc_227 {nn d : Nat} {h : mj_H} {s : sg_} (C : CS h s) {w : Int} (hw : 0 ≤ w ∧ w < 6) : wl_R nn d 227 0 [some (.ref 138), some (wp_i w)] [] h (fun v1 h1 => h1 = h ∧ v1 = some (wp_i (s 139 (40 + 2 * w)))) := by
  refine wl_s (pc' := 1) ji_227_0 rfl rfl rfl ?_
  refine cs_gr (r := 139) (k := 0) C (by decide) sq_138 rfl ji_227_1 jf_227_7 ?_
  refine wl_bp ji_227_4 rfl ?_
  refine wl_s (pc' := 7) ji_227_6 rfl rfl rfl ?_
  refine wl_s (pc' := 8) ji_227_7 rfl rfl rfl ?_
  refine wl_imul (x := 2) (y := w) (z := 2 * w) ji_227_8 (by omega) ?_
  refine wl_iadd (x := 40) (y := 2 * w) (z := 40 + (2 * w)) ji_227_9 (by omega) ?_
  refine cs_l (x := 40 + (2 * w)) C (by decide) (by decide) sq_139 (by omega) ji_227_10 (fun ld10 ld11 ld12 => ?_)
  exact wl_ri ji_227_11 jr_227 rfl (⟨rfl, rfl⟩)
theorem uc_230 {nn d : Nat} {h : mj_H} {s : sg_} (C : CS h s) {p : Int} (hp : 0 ≤ p ∧ p < 8) : wl_R nn d 230 0 [some (.ref 138), some (wp_i p)] [] h (fun v1 h1 => h1 = h ∧ v1 = some (wp_i (s 139 (16 + 3 * p + 1)))) := by
  refine wl_s (pc' := 1) ji_230_0 rfl rfl rfl ?_
  refine cs_gr (r := 139) (k := 0) C (by decide) sq_138 rfl ji_230_1 jf_230_7 ?_
  refine wl_bp ji_230_4 rfl ?_
  refine wl_s (pc' := 7) ji_230_6 rfl rfl rfl ?_
  refine wl_s (pc' := 8) ji_230_7 rfl rfl rfl ?_
  refine wl_imul (x := 3) (y := p) (z := 3 * p) ji_230_8 (by omega) ?_
  refine wl_iadd (x := 16) (y := 3 * p) (z := 16 + (3 * p)) ji_230_9 (by omega) ?_
  refine wl_s (pc' := 11) ji_230_10 rfl rfl rfl ?_
  refine wl_iadd (x := 16 + (3 * p)) (y := 1) (z := 16 + (3 * p) + 1) ji_230_11 (by omega) ?_
  refine cs_l (x := 16 + (3 * p) + 1) C (by decide) (by decide) sq_139 (by omega) ji_230_12 (fun ld10 ld11 ld12 => ?_)
  exact wl_ri ji_230_13 jr_230 rfl (⟨rfl, rfl⟩)
theorem uc_224 {nn d : Nat} {h : mj_H} {s : sg_} (C : CS h s) {w p k : Int} (hw : 0 ≤ w ∧ w < 6) (hp : 0 ≤ p ∧ p < 8) (hk : 0 ≤ k ∧ k < 2) : wl_R nn d 224 0 [some (.ref 138), some (wp_i w), some (wp_i p), some (wp_i k)] [] h (fun v1 h1 => h1 = h ∧ v1 = some (wp_i (s 139 (52 + 2 * (8 * w + p) + k)))) := by
  refine wl_s (pc' := 1) ji_224_0 rfl rfl rfl ?_
  refine cs_gr (r := 139) (k := 0) C (by decide) sq_138 rfl ji_224_1 jf_224_7 ?_
  refine wl_bp ji_224_4 rfl ?_
  refine wl_s (pc' := 7) ji_224_6 rfl rfl rfl ?_
  refine wl_bp ji_224_7 rfl ?_
  refine wl_s (pc' := 10) ji_224_9 rfl rfl rfl ?_
  refine wl_imul (x := 8) (y := w) (z := 8 * w) ji_224_10 (by omega) ?_
  refine wl_s (pc' := 12) ji_224_11 rfl rfl rfl ?_
  refine wl_iadd (x := 8 * w) (y := p) (z := 8 * w + p) ji_224_12 (by omega) ?_
  refine wl_imul (x := 2) (y := 8 * w + p) (z := 2 * (8 * w + p)) ji_224_13 (by omega) ?_
  refine wl_iadd (x := 52) (y := 2 * (8 * w + p)) (z := 52 + (2 * (8 * w + p))) ji_224_14 (by omega) ?_
  refine wl_s (pc' := 16) ji_224_15 rfl rfl rfl ?_
  refine wl_iadd (x := 52 + (2 * (8 * w + p))) (y := k) (z := 52 + (2 * (8 * w + p)) + k) ji_224_16 (by omega) ?_
  refine cs_l (x := 52 + (2 * (8 * w + p)) + k) C (by decide) (by decide) sq_139 (by omega) ji_224_17 (fun ld10 ld11 ld12 => ?_)
  exact wl_ri ji_224_18 jr_224 rfl (⟨rfl, rfl⟩)
theorem uc_239 {nn d : Nat} {h : mj_H} {s : sg_} (C : CS h s) {w p k v : Int} (hw : 0 ≤ w ∧ w < 6) (hp : 0 ≤ p ∧ p < 8) (hk : 0 ≤ k ∧ k < 2) (hv : wp_r v) : wl_R nn d 239 0 [some (.ref 138), some (wp_i w), some (wp_i p), some (wp_i k), some (wp_i v)] [] h (fun v1 h1 => v1 = none ∧ CS h1 (up s 139 (52 + 2 * (8 * w + p) + k) v)) := by
  refine wl_s (pc' := 1) ji_239_0 rfl rfl rfl ?_
  refine cs_gr (r := 139) (k := 0) C (by decide) sq_138 rfl ji_239_1 jf_239_7 ?_
  refine wl_bp ji_239_4 rfl ?_
  refine wl_s (pc' := 7) ji_239_6 rfl rfl rfl ?_
  refine wl_bp ji_239_7 rfl ?_
  refine wl_s (pc' := 10) ji_239_9 rfl rfl rfl ?_
  refine wl_imul (x := 8) (y := w) (z := 8 * w) ji_239_10 (by omega) ?_
  refine wl_s (pc' := 12) ji_239_11 rfl rfl rfl ?_
  refine wl_iadd (x := 8 * w) (y := p) (z := 8 * w + p) ji_239_12 (by omega) ?_
  refine wl_imul (x := 2) (y := 8 * w + p) (z := 2 * (8 * w + p)) ji_239_13 (by omega) ?_
  refine wl_iadd (x := 52) (y := 2 * (8 * w + p)) (z := 52 + (2 * (8 * w + p))) ji_239_14 (by omega) ?_
  refine wl_s (pc' := 16) ji_239_15 rfl rfl rfl ?_
  refine wl_iadd (x := 52 + (2 * (8 * w + p))) (y := k) (z := 52 + (2 * (8 * w + p)) + k) ji_239_16 (by omega) ?_
  refine wl_s (pc' := 19) ji_239_17 rfl rfl rfl ?_
  refine cs_s (x := 52 + (2 * (8 * w + p)) + k) (y := v) C (by decide) sq_139 (by omega) (by omega) ji_239_19 (fun h st10 st11 C => ?_)
  obtain ⟨s2, es2⟩ : ∃ z9_, up s 139 (52 + (2 * (8 * w + p)) + k) v = z9_ := ⟨_, rfl⟩
  rw [es2] at C
  exact wl_rv ji_239_20 jr_239 (⟨rfl, cs_mono C (by rw [es2])⟩)
theorem uc_241 {nn d : Nat} {h : mj_H} {s : sg_} (C : CS h s) {w p : Int} (hw : 0 ≤ w ∧ w < 6) (hp : 0 ≤ p ∧ p < 8) : wl_R nn (d + 1) 241 0 [some (.ref 138), some (wp_i w), some (wp_i p)] [] h (fun v1 h1 => v1 = none ∧ CS h1 (up (up s 139 (52 + 2 * (8 * w + p) + 0) (-1)) 139 (52 + 2 * (8 * w + p) + 1) 0)) := by
  refine wl_s (pc' := 1) ji_241_0 rfl rfl rfl ?_
  refine wl_s (pc' := 2) ji_241_1 rfl rfl rfl ?_
  refine wl_s (pc' := 3) ji_241_2 rfl rfl rfl ?_
  refine wl_s (pc' := 4) ji_241_3 rfl rfl rfl ?_
  refine wl_s (pc' := 5) ji_241_4 rfl rfl rfl ?_
  obtain ⟨q2, hq2⟩ := cs_c C (by decide) sq_138
  refine wl_vc (d := d) (as := [.ref 138, wp_i w, wp_i p, wp_i 0, wp_i (-1)]) (rest := []) ji_241_5 jc_241_317 rfl hq2 jk_239.symm (Nat.le_of_ble_eq_true rfl) rfl (by rw [jn_239]; rfl) (uc_239 (d := d) C (w := w) (p := p) (k := 0) (v := -1) (by omega) (by omega) (by omega) (by omega)) (fun v1 h1 R => ?_)
  obtain ⟨rfl, C⟩ := R
  obtain ⟨s3, es3⟩ : ∃ z9_, up s 139 (52 + 2 * (8 * w + p) + 0) (-1) = z9_ := ⟨_, rfl⟩
  rw [es3] at C
  show wl_R _ _ 241 8 [some (.ref 138), some (wp_i w), some (wp_i p)] [] h1 _
  refine wl_s (pc' := 9) ji_241_8 rfl rfl rfl ?_
  refine wl_s (pc' := 10) ji_241_9 rfl rfl rfl ?_
  refine wl_s (pc' := 11) ji_241_10 rfl rfl rfl ?_
  refine wl_s (pc' := 12) ji_241_11 rfl rfl rfl ?_
  refine wl_s (pc' := 13) ji_241_12 rfl rfl rfl ?_
  obtain ⟨q5, hq5⟩ := cs_c C (by decide) sq_138
  refine wl_vc (d := d) (as := [.ref 138, wp_i w, wp_i p, wp_i 1, wp_i 0]) (rest := []) ji_241_13 jc_241_317 rfl hq5 jk_239.symm (Nat.le_of_ble_eq_true rfl) rfl (by rw [jn_239]; rfl) (uc_239 (d := d) C (w := w) (p := p) (k := 1) (v := 0) (by omega) (by omega) (by omega) (by omega)) (fun v1 h4 R => ?_)
  obtain ⟨rfl, C⟩ := R
  obtain ⟨s6, es6⟩ : ∃ z9_, up s3 139 (52 + 2 * (8 * w + p) + 1) 0 = z9_ := ⟨_, rfl⟩
  rw [es6] at C
  show wl_R _ _ 241 16 [some (.ref 138), some (wp_i w), some (wp_i p)] [] h4 _
  exact wl_rv ji_241_16 jr_241 (⟨rfl, cs_mono C (by rw [es3, es6])⟩)
theorem uc_223 {nn d : Nat} {h : mj_H} {s : sg_} (C : CS h s) {w p : Int} (hw : 0 ≤ w ∧ w < 6) (hp : 0 ≤ p ∧ p < 8) : wl_R nn (d + 1) 223 0 [some (.ref 138), some (wp_i w), some (wp_i p)] [] h (fun v1 h1 => h1 = h ∧ ∃ y : Int, v1 = some (wp_i y) ∧ (y = 0 ∨ y = 1) ∧ (y = 1 ↔ ¬ s 139 (52 + 2 * (8 * w + p) + 0) = -1)) := by
  refine wl_s (pc' := 1) ji_223_0 rfl rfl rfl ?_
  refine wl_s (pc' := 2) ji_223_1 rfl rfl rfl ?_
  refine wl_s (pc' := 3) ji_223_2 rfl rfl rfl ?_
  refine wl_s (pc' := 4) ji_223_3 rfl rfl rfl ?_
  obtain ⟨q2, hq2⟩ := cs_c C (by decide) sq_138
  refine wl_vc (d := d) (as := [.ref 138, wp_i w, wp_i p, wp_i 0]) (rest := []) ji_223_4 jc_223_70 rfl hq2 jk_224.symm (Nat.le_of_ble_eq_true rfl) rfl (by rw [jn_224]; rfl) (uc_224 (d := d) C (w := w) (p := p) (k := 0) (by omega) (by omega) (by omega)) (fun v1 h1 R => ?_)
  obtain ⟨ee, rfl⟩ := R
  rw [ee]
  clear ee
  show wl_R _ _ 223 7 [some (.ref 138), some (wp_i w), some (wp_i p)] [wp_i (s 139 (52 + 2 * (8 * w + p) + 0))] _ _
  have gr3 : wp_r (s 139 (52 + 2 * (8 * w + p) + 0)) := cs_ri (k := (52 + 2 * (8 * w + p) + 0).toNat) C (by decide) (by decide) sq_139 (by omega) rfl (by show _ < 0 + 6044; omega)
  refine wl_s (pc' := 8) ji_223_7 rfl rfl rfl ?_
  refine wl_icmp (t := 15) ji_223_8 rfl (by omega) (by omega) (fun (hb4 : (s 139 (52 + 2 * (8 * w + p) + 0) : Int) = (-1)) => ?_) (fun (hb4 : ¬ ((s 139 (52 + 2 * (8 * w + p) + 0) : Int) = (-1))) => ?_)
  · refine wl_s (pc' := 16) ji_223_15 rfl rfl rfl ?_
    exact wl_ri ji_223_16 jr_223 (pv_nb (by omega)) (⟨rfl, 0, rfl, by omega, by omega⟩)
  · refine wl_s (pc' := 12) ji_223_11 rfl rfl rfl ?_
    refine wl_goto (t := 16) ji_223_12 rfl ?_
    exact wl_ri ji_223_16 jr_223 (pv_nb (by omega)) (⟨rfl, 1, rfl, by omega, by omega⟩)
theorem sb_all : ∀ x : Fin 512, ∀ i : Fin 9, (Int32.ofInt x.val >>> (Int32.ofInt i.val &&& 31)) &&& Int32.ofInt 1 = Int32.ofInt ((x.val : Int) / 2 ^ i.val % 2) := by decide +kernel
theorem sb_i {x : Int} (hx : 0 ≤ x ∧ x ≤ 511) (i : Nat) (hi : i < 9) : (Int32.ofInt x >>> (Int32.ofInt (i : Int) &&& 31)) &&& Int32.ofInt 1 = Int32.ofInt (x / 2 ^ i % 2) := by
  have := sb_all ⟨x.toNat, by omega⟩ ⟨i, hi⟩
  have e : ((x.toNat : Nat) : Int) = x := by omega
  simp only [e] at this
  exact this
theorem uc_229 {nn d : Nat} {h : mj_H} {x : Int} (hx : 0 ≤ x ∧ x ≤ 511) : wl_R nn d 229 0 [some (wp_i x), none, none] [] h (fun v1 h1 => h1 = h ∧ v1 = some (wp_i (bcn x))) := by
  refine wl_s (pc' := 1) ji_229_0 rfl rfl rfl ?_
  refine wl_s (pc' := 2) (lv' := [some (wp_i x), some (wp_i 0), none]) ji_229_1 rfl rfl rfl ?_
  refine wl_s (pc' := 3) ji_229_2 rfl rfl rfl ?_
  refine wl_s (pc' := 4) (lv' := [some (wp_i x), some (wp_i 0), some (wp_i 0)]) ji_229_3 rfl rfl rfl ?_
  refine wl_s (pc' := 5) ji_229_4 rfl rfl rfl ?_
  refine wl_bp ji_229_5 rfl ?_
  refine wl_icmp (t := 24) ji_229_7 rfl (by omega) (by omega) (fun (hb1 : (9 : Int) ≤ 0) => (by exfalso; omega)) (fun (hb1 : ¬ ((9 : Int) ≤ 0)) => ?_)
  refine wl_s (pc' := 11) ji_229_10 rfl rfl rfl ?_
  refine wl_s (pc' := 12) ji_229_11 rfl rfl rfl ?_
  refine wl_s (pc' := 13) ji_229_12 rfl rfl rfl ?_
  refine wl_s (pc' := 14) ji_229_13 rfl rfl rfl ?_
  refine wl_s (pc' := 15) ji_229_14 rfl rfl rfl ?_
  refine wl_s (pc' := 16) (lv' := [some (wp_i x), some (wp_i 0), some (wp_i 0)]) (st' := [wp_i (x / 1 % 2), wp_i 0]) (h' := h) ji_229_15 rfl rfl (congrArg (fun z => (some (16, [some (wp_i x), some (wp_i 0), some (wp_i 0)], [Value.int z, wp_i 0], h) : Option mj_S)) (sb_i hx 0 (by decide))) ?_
  refine wl_iadd (x := 0) (y := x / 1 % 2) (z := 0 + (x / 1 % 2)) ji_229_16 (by omega) ?_
  refine wl_s (pc' := 18) (lv' := [some (wp_i x), some (wp_i (0 + (x / 1 % 2))), some (wp_i 0)]) ji_229_17 rfl rfl rfl ?_
  refine wl_iinc (x := 0) (z := 1) (lv' := [some (wp_i x), some (wp_i (0 + (x / 1 % 2))), some (wp_i 1)]) ji_229_18 rfl (Nat.le_of_ble_eq_true rfl) (by omega) rfl ?_
  refine wl_goto (t := 4) ji_229_21 rfl ?_
  refine wl_s (pc' := 5) ji_229_4 rfl rfl rfl ?_
  refine wl_bp ji_229_5 rfl ?_
  refine wl_icmp (t := 24) ji_229_7 rfl (by omega) (by omega) (fun (hb2 : (9 : Int) ≤ 1) => (by exfalso; omega)) (fun (hb2 : ¬ ((9 : Int) ≤ 1)) => ?_)
  refine wl_s (pc' := 11) ji_229_10 rfl rfl rfl ?_
  refine wl_s (pc' := 12) ji_229_11 rfl rfl rfl ?_
  refine wl_s (pc' := 13) ji_229_12 rfl rfl rfl ?_
  refine wl_s (pc' := 14) ji_229_13 rfl rfl rfl ?_
  refine wl_s (pc' := 15) ji_229_14 rfl rfl rfl ?_
  refine wl_s (pc' := 16) (lv' := [some (wp_i x), some (wp_i (0 + (x / 1 % 2))), some (wp_i 1)]) (st' := [wp_i (x / 2 % 2), wp_i (0 + (x / 1 % 2))]) (h' := h) ji_229_15 rfl rfl (congrArg (fun z => (some (16, [some (wp_i x), some (wp_i (0 + (x / 1 % 2))), some (wp_i 1)], [Value.int z, wp_i (0 + (x / 1 % 2))], h) : Option mj_S)) (sb_i hx 1 (by decide))) ?_
  refine wl_iadd (x := 0 + (x / 1 % 2)) (y := x / 2 % 2) (z := 0 + (x / 1 % 2) + (x / 2 % 2)) ji_229_16 (by omega) ?_
  refine wl_s (pc' := 18) (lv' := [some (wp_i x), some (wp_i (0 + (x / 1 % 2) + (x / 2 % 2))), some (wp_i 1)]) ji_229_17 rfl rfl rfl ?_
  refine wl_iinc (x := 1) (z := 2) (lv' := [some (wp_i x), some (wp_i (0 + (x / 1 % 2) + (x / 2 % 2))), some (wp_i 2)]) ji_229_18 rfl (Nat.le_of_ble_eq_true rfl) (by omega) rfl ?_
  refine wl_goto (t := 4) ji_229_21 rfl ?_
  refine wl_s (pc' := 5) ji_229_4 rfl rfl rfl ?_
  refine wl_bp ji_229_5 rfl ?_
  refine wl_icmp (t := 24) ji_229_7 rfl (by omega) (by omega) (fun (hb3 : (9 : Int) ≤ 2) => (by exfalso; omega)) (fun (hb3 : ¬ ((9 : Int) ≤ 2)) => ?_)
  refine wl_s (pc' := 11) ji_229_10 rfl rfl rfl ?_
  refine wl_s (pc' := 12) ji_229_11 rfl rfl rfl ?_
  refine wl_s (pc' := 13) ji_229_12 rfl rfl rfl ?_
  refine wl_s (pc' := 14) ji_229_13 rfl rfl rfl ?_
  refine wl_s (pc' := 15) ji_229_14 rfl rfl rfl ?_
  refine wl_s (pc' := 16) (lv' := [some (wp_i x), some (wp_i (0 + (x / 1 % 2) + (x / 2 % 2))), some (wp_i 2)]) (st' := [wp_i (x / 4 % 2), wp_i (0 + (x / 1 % 2) + (x / 2 % 2))]) (h' := h) ji_229_15 rfl rfl (congrArg (fun z => (some (16, [some (wp_i x), some (wp_i (0 + (x / 1 % 2) + (x / 2 % 2))), some (wp_i 2)], [Value.int z, wp_i (0 + (x / 1 % 2) + (x / 2 % 2))], h) : Option mj_S)) (sb_i hx 2 (by decide))) ?_
  refine wl_iadd (x := 0 + (x / 1 % 2) + (x / 2 % 2)) (y := x / 4 % 2) (z := 0 + (x / 1 % 2) + (x / 2 % 2) + (x / 4 % 2)) ji_229_16 (by omega) ?_
  refine wl_s (pc' := 18) (lv' := [some (wp_i x), some (wp_i (0 + (x / 1 % 2) + (x / 2 % 2) + (x / 4 % 2))), some (wp_i 2)]) ji_229_17 rfl rfl rfl ?_
  refine wl_iinc (x := 2) (z := 3) (lv' := [some (wp_i x), some (wp_i (0 + (x / 1 % 2) + (x / 2 % 2) + (x / 4 % 2))), some (wp_i 3)]) ji_229_18 rfl (Nat.le_of_ble_eq_true rfl) (by omega) rfl ?_
  refine wl_goto (t := 4) ji_229_21 rfl ?_
  refine wl_s (pc' := 5) ji_229_4 rfl rfl rfl ?_
  refine wl_bp ji_229_5 rfl ?_
  refine wl_icmp (t := 24) ji_229_7 rfl (by omega) (by omega) (fun (hb4 : (9 : Int) ≤ 3) => (by exfalso; omega)) (fun (hb4 : ¬ ((9 : Int) ≤ 3)) => ?_)
  refine wl_s (pc' := 11) ji_229_10 rfl rfl rfl ?_
  refine wl_s (pc' := 12) ji_229_11 rfl rfl rfl ?_
  refine wl_s (pc' := 13) ji_229_12 rfl rfl rfl ?_
  refine wl_s (pc' := 14) ji_229_13 rfl rfl rfl ?_
  refine wl_s (pc' := 15) ji_229_14 rfl rfl rfl ?_
  refine wl_s (pc' := 16) (lv' := [some (wp_i x), some (wp_i (0 + (x / 1 % 2) + (x / 2 % 2) + (x / 4 % 2))), some (wp_i 3)]) (st' := [wp_i (x / 8 % 2), wp_i (0 + (x / 1 % 2) + (x / 2 % 2) + (x / 4 % 2))]) (h' := h) ji_229_15 rfl rfl (congrArg (fun z => (some (16, [some (wp_i x), some (wp_i (0 + (x / 1 % 2) + (x / 2 % 2) + (x / 4 % 2))), some (wp_i 3)], [Value.int z, wp_i (0 + (x / 1 % 2) + (x / 2 % 2) + (x / 4 % 2))], h) : Option mj_S)) (sb_i hx 3 (by decide))) ?_
  refine wl_iadd (x := 0 + (x / 1 % 2) + (x / 2 % 2) + (x / 4 % 2)) (y := x / 8 % 2) (z := 0 + (x / 1 % 2) + (x / 2 % 2) + (x / 4 % 2) + (x / 8 % 2)) ji_229_16 (by omega) ?_
  refine wl_s (pc' := 18) (lv' := [some (wp_i x), some (wp_i (0 + (x / 1 % 2) + (x / 2 % 2) + (x / 4 % 2) + (x / 8 % 2))), some (wp_i 3)]) ji_229_17 rfl rfl rfl ?_
  refine wl_iinc (x := 3) (z := 4) (lv' := [some (wp_i x), some (wp_i (0 + (x / 1 % 2) + (x / 2 % 2) + (x / 4 % 2) + (x / 8 % 2))), some (wp_i 4)]) ji_229_18 rfl (Nat.le_of_ble_eq_true rfl) (by omega) rfl ?_
  refine wl_goto (t := 4) ji_229_21 rfl ?_
  refine wl_s (pc' := 5) ji_229_4 rfl rfl rfl ?_
  refine wl_bp ji_229_5 rfl ?_
  refine wl_icmp (t := 24) ji_229_7 rfl (by omega) (by omega) (fun (hb5 : (9 : Int) ≤ 4) => (by exfalso; omega)) (fun (hb5 : ¬ ((9 : Int) ≤ 4)) => ?_)
  refine wl_s (pc' := 11) ji_229_10 rfl rfl rfl ?_
  refine wl_s (pc' := 12) ji_229_11 rfl rfl rfl ?_
  refine wl_s (pc' := 13) ji_229_12 rfl rfl rfl ?_
  refine wl_s (pc' := 14) ji_229_13 rfl rfl rfl ?_
  refine wl_s (pc' := 15) ji_229_14 rfl rfl rfl ?_
  refine wl_s (pc' := 16) (lv' := [some (wp_i x), some (wp_i (0 + (x / 1 % 2) + (x / 2 % 2) + (x / 4 % 2) + (x / 8 % 2))), some (wp_i 4)]) (st' := [wp_i (x / 16 % 2), wp_i (0 + (x / 1 % 2) + (x / 2 % 2) + (x / 4 % 2) + (x / 8 % 2))]) (h' := h) ji_229_15 rfl rfl (congrArg (fun z => (some (16, [some (wp_i x), some (wp_i (0 + (x / 1 % 2) + (x / 2 % 2) + (x / 4 % 2) + (x / 8 % 2))), some (wp_i 4)], [Value.int z, wp_i (0 + (x / 1 % 2) + (x / 2 % 2) + (x / 4 % 2) + (x / 8 % 2))], h) : Option mj_S)) (sb_i hx 4 (by decide))) ?_
  refine wl_iadd (x := 0 + (x / 1 % 2) + (x / 2 % 2) + (x / 4 % 2) + (x / 8 % 2)) (y := x / 16 % 2) (z := 0 + (x / 1 % 2) + (x / 2 % 2) + (x / 4 % 2) + (x / 8 % 2) + (x / 16 % 2)) ji_229_16 (by omega) ?_
  refine wl_s (pc' := 18) (lv' := [some (wp_i x), some (wp_i (0 + (x / 1 % 2) + (x / 2 % 2) + (x / 4 % 2) + (x / 8 % 2) + (x / 16 % 2))), some (wp_i 4)]) ji_229_17 rfl rfl rfl ?_
  refine wl_iinc (x := 4) (z := 5) (lv' := [some (wp_i x), some (wp_i (0 + (x / 1 % 2) + (x / 2 % 2) + (x / 4 % 2) + (x / 8 % 2) + (x / 16 % 2))), some (wp_i 5)]) ji_229_18 rfl (Nat.le_of_ble_eq_true rfl) (by omega) rfl ?_
  refine wl_goto (t := 4) ji_229_21 rfl ?_
  refine wl_s (pc' := 5) ji_229_4 rfl rfl rfl ?_
  refine wl_bp ji_229_5 rfl ?_
  refine wl_icmp (t := 24) ji_229_7 rfl (by omega) (by omega) (fun (hb6 : (9 : Int) ≤ 5) => (by exfalso; omega)) (fun (hb6 : ¬ ((9 : Int) ≤ 5)) => ?_)
  refine wl_s (pc' := 11) ji_229_10 rfl rfl rfl ?_
  refine wl_s (pc' := 12) ji_229_11 rfl rfl rfl ?_
  refine wl_s (pc' := 13) ji_229_12 rfl rfl rfl ?_
  refine wl_s (pc' := 14) ji_229_13 rfl rfl rfl ?_
  refine wl_s (pc' := 15) ji_229_14 rfl rfl rfl ?_
  refine wl_s (pc' := 16) (lv' := [some (wp_i x), some (wp_i (0 + (x / 1 % 2) + (x / 2 % 2) + (x / 4 % 2) + (x / 8 % 2) + (x / 16 % 2))), some (wp_i 5)]) (st' := [wp_i (x / 32 % 2), wp_i (0 + (x / 1 % 2) + (x / 2 % 2) + (x / 4 % 2) + (x / 8 % 2) + (x / 16 % 2))]) (h' := h) ji_229_15 rfl rfl (congrArg (fun z => (some (16, [some (wp_i x), some (wp_i (0 + (x / 1 % 2) + (x / 2 % 2) + (x / 4 % 2) + (x / 8 % 2) + (x / 16 % 2))), some (wp_i 5)], [Value.int z, wp_i (0 + (x / 1 % 2) + (x / 2 % 2) + (x / 4 % 2) + (x / 8 % 2) + (x / 16 % 2))], h) : Option mj_S)) (sb_i hx 5 (by decide))) ?_
  refine wl_iadd (x := 0 + (x / 1 % 2) + (x / 2 % 2) + (x / 4 % 2) + (x / 8 % 2) + (x / 16 % 2)) (y := x / 32 % 2) (z := 0 + (x / 1 % 2) + (x / 2 % 2) + (x / 4 % 2) + (x / 8 % 2) + (x / 16 % 2) + (x / 32 % 2)) ji_229_16 (by omega) ?_
  refine wl_s (pc' := 18) (lv' := [some (wp_i x), some (wp_i (0 + (x / 1 % 2) + (x / 2 % 2) + (x / 4 % 2) + (x / 8 % 2) + (x / 16 % 2) + (x / 32 % 2))), some (wp_i 5)]) ji_229_17 rfl rfl rfl ?_
  refine wl_iinc (x := 5) (z := 6) (lv' := [some (wp_i x), some (wp_i (0 + (x / 1 % 2) + (x / 2 % 2) + (x / 4 % 2) + (x / 8 % 2) + (x / 16 % 2) + (x / 32 % 2))), some (wp_i 6)]) ji_229_18 rfl (Nat.le_of_ble_eq_true rfl) (by omega) rfl ?_
  refine wl_goto (t := 4) ji_229_21 rfl ?_
  refine wl_s (pc' := 5) ji_229_4 rfl rfl rfl ?_
  refine wl_bp ji_229_5 rfl ?_
  refine wl_icmp (t := 24) ji_229_7 rfl (by omega) (by omega) (fun (hb7 : (9 : Int) ≤ 6) => (by exfalso; omega)) (fun (hb7 : ¬ ((9 : Int) ≤ 6)) => ?_)
  refine wl_s (pc' := 11) ji_229_10 rfl rfl rfl ?_
  refine wl_s (pc' := 12) ji_229_11 rfl rfl rfl ?_
  refine wl_s (pc' := 13) ji_229_12 rfl rfl rfl ?_
  refine wl_s (pc' := 14) ji_229_13 rfl rfl rfl ?_
  refine wl_s (pc' := 15) ji_229_14 rfl rfl rfl ?_
  refine wl_s (pc' := 16) (lv' := [some (wp_i x), some (wp_i (0 + (x / 1 % 2) + (x / 2 % 2) + (x / 4 % 2) + (x / 8 % 2) + (x / 16 % 2) + (x / 32 % 2))), some (wp_i 6)]) (st' := [wp_i (x / 64 % 2), wp_i (0 + (x / 1 % 2) + (x / 2 % 2) + (x / 4 % 2) + (x / 8 % 2) + (x / 16 % 2) + (x / 32 % 2))]) (h' := h) ji_229_15 rfl rfl (congrArg (fun z => (some (16, [some (wp_i x), some (wp_i (0 + (x / 1 % 2) + (x / 2 % 2) + (x / 4 % 2) + (x / 8 % 2) + (x / 16 % 2) + (x / 32 % 2))), some (wp_i 6)], [Value.int z, wp_i (0 + (x / 1 % 2) + (x / 2 % 2) + (x / 4 % 2) + (x / 8 % 2) + (x / 16 % 2) + (x / 32 % 2))], h) : Option mj_S)) (sb_i hx 6 (by decide))) ?_
  refine wl_iadd (x := 0 + (x / 1 % 2) + (x / 2 % 2) + (x / 4 % 2) + (x / 8 % 2) + (x / 16 % 2) + (x / 32 % 2)) (y := x / 64 % 2) (z := 0 + (x / 1 % 2) + (x / 2 % 2) + (x / 4 % 2) + (x / 8 % 2) + (x / 16 % 2) + (x / 32 % 2) + (x / 64 % 2)) ji_229_16 (by omega) ?_
  refine wl_s (pc' := 18) (lv' := [some (wp_i x), some (wp_i (0 + (x / 1 % 2) + (x / 2 % 2) + (x / 4 % 2) + (x / 8 % 2) + (x / 16 % 2) + (x / 32 % 2) + (x / 64 % 2))), some (wp_i 6)]) ji_229_17 rfl rfl rfl ?_
  refine wl_iinc (x := 6) (z := 7) (lv' := [some (wp_i x), some (wp_i (0 + (x / 1 % 2) + (x / 2 % 2) + (x / 4 % 2) + (x / 8 % 2) + (x / 16 % 2) + (x / 32 % 2) + (x / 64 % 2))), some (wp_i 7)]) ji_229_18 rfl (Nat.le_of_ble_eq_true rfl) (by omega) rfl ?_
  refine wl_goto (t := 4) ji_229_21 rfl ?_
  refine wl_s (pc' := 5) ji_229_4 rfl rfl rfl ?_
  refine wl_bp ji_229_5 rfl ?_
  refine wl_icmp (t := 24) ji_229_7 rfl (by omega) (by omega) (fun (hb8 : (9 : Int) ≤ 7) => (by exfalso; omega)) (fun (hb8 : ¬ ((9 : Int) ≤ 7)) => ?_)
  refine wl_s (pc' := 11) ji_229_10 rfl rfl rfl ?_
  refine wl_s (pc' := 12) ji_229_11 rfl rfl rfl ?_
  refine wl_s (pc' := 13) ji_229_12 rfl rfl rfl ?_
  refine wl_s (pc' := 14) ji_229_13 rfl rfl rfl ?_
  refine wl_s (pc' := 15) ji_229_14 rfl rfl rfl ?_
  refine wl_s (pc' := 16) (lv' := [some (wp_i x), some (wp_i (0 + (x / 1 % 2) + (x / 2 % 2) + (x / 4 % 2) + (x / 8 % 2) + (x / 16 % 2) + (x / 32 % 2) + (x / 64 % 2))), some (wp_i 7)]) (st' := [wp_i (x / 128 % 2), wp_i (0 + (x / 1 % 2) + (x / 2 % 2) + (x / 4 % 2) + (x / 8 % 2) + (x / 16 % 2) + (x / 32 % 2) + (x / 64 % 2))]) (h' := h) ji_229_15 rfl rfl (congrArg (fun z => (some (16, [some (wp_i x), some (wp_i (0 + (x / 1 % 2) + (x / 2 % 2) + (x / 4 % 2) + (x / 8 % 2) + (x / 16 % 2) + (x / 32 % 2) + (x / 64 % 2))), some (wp_i 7)], [Value.int z, wp_i (0 + (x / 1 % 2) + (x / 2 % 2) + (x / 4 % 2) + (x / 8 % 2) + (x / 16 % 2) + (x / 32 % 2) + (x / 64 % 2))], h) : Option mj_S)) (sb_i hx 7 (by decide))) ?_
  refine wl_iadd (x := 0 + (x / 1 % 2) + (x / 2 % 2) + (x / 4 % 2) + (x / 8 % 2) + (x / 16 % 2) + (x / 32 % 2) + (x / 64 % 2)) (y := x / 128 % 2) (z := 0 + (x / 1 % 2) + (x / 2 % 2) + (x / 4 % 2) + (x / 8 % 2) + (x / 16 % 2) + (x / 32 % 2) + (x / 64 % 2) + (x / 128 % 2)) ji_229_16 (by omega) ?_
  refine wl_s (pc' := 18) (lv' := [some (wp_i x), some (wp_i (0 + (x / 1 % 2) + (x / 2 % 2) + (x / 4 % 2) + (x / 8 % 2) + (x / 16 % 2) + (x / 32 % 2) + (x / 64 % 2) + (x / 128 % 2))), some (wp_i 7)]) ji_229_17 rfl rfl rfl ?_
  refine wl_iinc (x := 7) (z := 8) (lv' := [some (wp_i x), some (wp_i (0 + (x / 1 % 2) + (x / 2 % 2) + (x / 4 % 2) + (x / 8 % 2) + (x / 16 % 2) + (x / 32 % 2) + (x / 64 % 2) + (x / 128 % 2))), some (wp_i 8)]) ji_229_18 rfl (Nat.le_of_ble_eq_true rfl) (by omega) rfl ?_
  refine wl_goto (t := 4) ji_229_21 rfl ?_
  refine wl_s (pc' := 5) ji_229_4 rfl rfl rfl ?_
  refine wl_bp ji_229_5 rfl ?_
  refine wl_icmp (t := 24) ji_229_7 rfl (by omega) (by omega) (fun (hb9 : (9 : Int) ≤ 8) => (by exfalso; omega)) (fun (hb9 : ¬ ((9 : Int) ≤ 8)) => ?_)
  refine wl_s (pc' := 11) ji_229_10 rfl rfl rfl ?_
  refine wl_s (pc' := 12) ji_229_11 rfl rfl rfl ?_
  refine wl_s (pc' := 13) ji_229_12 rfl rfl rfl ?_
  refine wl_s (pc' := 14) ji_229_13 rfl rfl rfl ?_
  refine wl_s (pc' := 15) ji_229_14 rfl rfl rfl ?_
  refine wl_s (pc' := 16) (lv' := [some (wp_i x), some (wp_i (0 + (x / 1 % 2) + (x / 2 % 2) + (x / 4 % 2) + (x / 8 % 2) + (x / 16 % 2) + (x / 32 % 2) + (x / 64 % 2) + (x / 128 % 2))), some (wp_i 8)]) (st' := [wp_i (x / 256 % 2), wp_i (0 + (x / 1 % 2) + (x / 2 % 2) + (x / 4 % 2) + (x / 8 % 2) + (x / 16 % 2) + (x / 32 % 2) + (x / 64 % 2) + (x / 128 % 2))]) (h' := h) ji_229_15 rfl rfl (congrArg (fun z => (some (16, [some (wp_i x), some (wp_i (0 + (x / 1 % 2) + (x / 2 % 2) + (x / 4 % 2) + (x / 8 % 2) + (x / 16 % 2) + (x / 32 % 2) + (x / 64 % 2) + (x / 128 % 2))), some (wp_i 8)], [Value.int z, wp_i (0 + (x / 1 % 2) + (x / 2 % 2) + (x / 4 % 2) + (x / 8 % 2) + (x / 16 % 2) + (x / 32 % 2) + (x / 64 % 2) + (x / 128 % 2))], h) : Option mj_S)) (sb_i hx 8 (by decide))) ?_
  refine wl_iadd (x := 0 + (x / 1 % 2) + (x / 2 % 2) + (x / 4 % 2) + (x / 8 % 2) + (x / 16 % 2) + (x / 32 % 2) + (x / 64 % 2) + (x / 128 % 2)) (y := x / 256 % 2) (z := 0 + (x / 1 % 2) + (x / 2 % 2) + (x / 4 % 2) + (x / 8 % 2) + (x / 16 % 2) + (x / 32 % 2) + (x / 64 % 2) + (x / 128 % 2) + (x / 256 % 2)) ji_229_16 (by omega) ?_
  refine wl_s (pc' := 18) (lv' := [some (wp_i x), some (wp_i (0 + (x / 1 % 2) + (x / 2 % 2) + (x / 4 % 2) + (x / 8 % 2) + (x / 16 % 2) + (x / 32 % 2) + (x / 64 % 2) + (x / 128 % 2) + (x / 256 % 2))), some (wp_i 8)]) ji_229_17 rfl rfl rfl ?_
  refine wl_iinc (x := 8) (z := 9) (lv' := [some (wp_i x), some (wp_i (0 + (x / 1 % 2) + (x / 2 % 2) + (x / 4 % 2) + (x / 8 % 2) + (x / 16 % 2) + (x / 32 % 2) + (x / 64 % 2) + (x / 128 % 2) + (x / 256 % 2))), some (wp_i 9)]) ji_229_18 rfl (Nat.le_of_ble_eq_true rfl) (by omega) rfl ?_
  refine wl_goto (t := 4) ji_229_21 rfl ?_
  refine wl_s (pc' := 5) ji_229_4 rfl rfl rfl ?_
  refine wl_bp ji_229_5 rfl ?_
  refine wl_icmp (t := 24) ji_229_7 rfl (by omega) (by omega) (fun (hb10 : (9 : Int) ≤ 9) => ?_) (fun (hb10 : ¬ ((9 : Int) ≤ 9)) => (by exfalso; omega))
  refine wl_s (pc' := 25) ji_229_24 rfl rfl rfl ?_
  exact wl_ri ji_229_25 jr_229 rfl (⟨rfl, congrArg (fun z => some (wp_i z)) (by unfold bcn; omega)⟩)
