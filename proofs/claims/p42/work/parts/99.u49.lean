/-! -/
set_option maxRecDepth 100000 in
theorem ji_248_0 : mj_ins 248 0 = some (.iload_n 1) := by decide +kernel
set_option maxRecDepth 100000 in
theorem ji_248_1 : mj_ins 248 1 = some (.iconst 0) := by decide +kernel
set_option maxRecDepth 100000 in
theorem ji_248_2 : mj_ins 248 2 = some (.aload_n 0) := by decide +kernel
set_option maxRecDepth 100000 in
theorem ji_248_3 : mj_ins 248 3 = some (.getfield 7) := by decide +kernel
set_option maxRecDepth 100000 in
theorem jf_248_7 : mj_fld 248 7 = some (11, 0, (.array .int), false) := by decide +kernel
set_option maxRecDepth 100000 in
theorem ji_248_6 : mj_ins 248 6 = some (.iconst 0) := by decide +kernel
set_option maxRecDepth 100000 in
theorem ji_248_7 : mj_ins 248 7 = some (.iaload) := by decide +kernel
set_option maxRecDepth 100000 in
theorem ji_248_8 : mj_ins 248 8 = some (.iconst 1) := by decide +kernel
set_option maxRecDepth 100000 in
theorem ji_248_9 : mj_ins 248 9 = some (.isub) := by decide +kernel
set_option maxRecDepth 100000 in
theorem ji_248_10 : mj_ins 248 10 = some (.invokestatic 66) := by decide +kernel
set_option maxRecDepth 100000 in
theorem jc_248_66 : mj_cal 248 66 = some (1, 171, 3) := by decide +kernel
set_option maxRecDepth 100000 in
theorem ji_248_13 : mj_ins 248 13 = some (.ireturn) := by decide +kernel
set_option maxRecDepth 100000 in
theorem jr_248 : mj_ret 248 = some .boolean := by decide +kernel
set_option maxRecDepth 100000 in
theorem ji_249_0 : mj_ins 249 0 = some (.aload_n 0) := by decide +kernel
set_option maxRecDepth 100000 in
theorem ji_249_1 : mj_ins 249 1 = some (.iload_n 1) := by decide +kernel
set_option maxRecDepth 100000 in
theorem ji_249_2 : mj_ins 249 2 = some (.iload_n 2) := by decide +kernel
set_option maxRecDepth 100000 in
theorem ji_249_3 : mj_ins 249 3 = some (.invokevirtual 74) := by decide +kernel
set_option maxRecDepth 100000 in
theorem jc_249_74 : mj_cal 249 74 = some (2, 223, 2) := by decide +kernel
set_option maxRecDepth 100000 in
theorem ji_249_6 : mj_ins 249 6 = some (.ifCond .ne 19) := by decide +kernel
set_option maxRecDepth 100000 in
theorem ji_249_25 : mj_ins 249 25 = some (.iconst 0) := by decide +kernel
set_option maxRecDepth 100000 in
theorem ji_249_26 : mj_ins 249 26 = some (.ireturn) := by decide +kernel
set_option maxRecDepth 100000 in
theorem jr_249 : mj_ret 249 = some .boolean := by decide +kernel
set_option maxRecDepth 100000 in
theorem ji_249_9 : mj_ins 249 9 = some (.aload_n 0) := by decide +kernel
set_option maxRecDepth 100000 in
theorem ji_249_10 : mj_ins 249 10 = some (.iload_n 2) := by decide +kernel
set_option maxRecDepth 100000 in
theorem ji_249_11 : mj_ins 249 11 = some (.invokevirtual 292) := by decide +kernel
set_option maxRecDepth 100000 in
theorem jc_249_292 : mj_cal 249 292 = some (2, 228, 1) := by decide +kernel
set_option maxRecDepth 100000 in
theorem ji_249_14 : mj_ins 249 14 = some (.invokestatic 295) := by decide +kernel
set_option maxRecDepth 100000 in
theorem jc_249_295 : mj_cal 249 295 = some (1, 229, 1) := by decide +kernel
set_option maxRecDepth 100000 in
theorem ji_249_17 : mj_ins 249 17 = some (.iconst 2) := by decide +kernel
set_option maxRecDepth 100000 in
theorem ji_249_18 : mj_ins 249 18 = some (.if_icmp .ge 7) := by decide +kernel
set_option maxRecDepth 100000 in
theorem ji_249_21 : mj_ins 249 21 = some (.iconst 1) := by decide +kernel
set_option maxRecDepth 100000 in
theorem ji_249_22 : mj_ins 249 22 = some (.goto 4) := by decide +kernel
set_option maxRecDepth 100000 in
theorem ji_250_0 : mj_ins 250 0 = some (.aload_n 0) := by decide +kernel
set_option maxRecDepth 100000 in
theorem ji_250_1 : mj_ins 250 1 = some (.iload_n 1) := by decide +kernel
set_option maxRecDepth 100000 in
theorem ji_250_2 : mj_ins 250 2 = some (.iload_n 2) := by decide +kernel
set_option maxRecDepth 100000 in
theorem ji_250_3 : mj_ins 250 3 = some (.iconst 0) := by decide +kernel
set_option maxRecDepth 100000 in
theorem ji_250_4 : mj_ins 250 4 = some (.iconst 0) := by decide +kernel
set_option maxRecDepth 100000 in
theorem ji_250_5 : mj_ins 250 5 = some (.invokevirtual 317) := by decide +kernel
set_option maxRecDepth 100000 in
theorem jc_250_317 : mj_cal 250 317 = some (2, 239, 4) := by decide +kernel
set_option maxRecDepth 100000 in
theorem ji_250_8 : mj_ins 250 8 = some (.aload_n 0) := by decide +kernel
set_option maxRecDepth 100000 in
theorem ji_250_9 : mj_ins 250 9 = some (.iload_n 1) := by decide +kernel
set_option maxRecDepth 100000 in
theorem ji_250_10 : mj_ins 250 10 = some (.iload_n 2) := by decide +kernel
set_option maxRecDepth 100000 in
theorem ji_250_11 : mj_ins 250 11 = some (.iconst 1) := by decide +kernel
set_option maxRecDepth 100000 in
theorem ji_250_12 : mj_ins 250 12 = some (.iconst 0) := by decide +kernel
set_option maxRecDepth 100000 in
theorem ji_250_13 : mj_ins 250 13 = some (.invokevirtual 317) := by decide +kernel
set_option maxRecDepth 100000 in
theorem ji_250_16 : mj_ins 250 16 = some (.return_) := by decide +kernel
set_option maxRecDepth 100000 in
theorem jr_250 : mj_ret 250 = none := by decide +kernel
/-! the reference's poles, powers, what may be hoisted; laid by program (wp_u49.py) -/
theorem uc_247 {nn d : Nat} {h : mj_H} {s : sg_} (C : CS h s) (i1 : 0 ≤ s 139 1 ∧ s 139 1 ≤ 6) {w : Int} (hw : wp_r w) : wl_R nn (d + 1) 247 0 [some (.ref 138), some (wp_i w)] [] h (fun v1 h1 => h1 = h ∧ ∃ y : Int, v1 = some (wp_i y) ∧ (y = 0 ∨ y = 1) ∧ (y = 1 ↔ 0 ≤ w ∧ w < s 139 1)) := by
  refine wl_s (pc' := 1) ji_247_0 rfl rfl rfl ?_
  refine wl_s (pc' := 2) ji_247_1 rfl rfl rfl ?_
  refine wl_s (pc' := 3) ji_247_2 rfl rfl rfl ?_
  refine cs_gr (r := 139) (k := 0) C (by decide) sq_138 rfl ji_247_3 jf_247_7 ?_
  refine wl_s (pc' := 7) ji_247_6 rfl rfl rfl ?_
  refine cs_l (x := 1) C (by decide) (by decide) sq_139 (by omega) ji_247_7 (fun ld10 ld11 ld12 => ?_)
  refine wl_s (pc' := 9) ji_247_8 rfl rfl rfl ?_
  refine wl_isub (x := s 139 1) (y := 1) (z := s 139 1 - 1) ji_247_9 (by omega) ?_
  refine wl_sc (d := d) (as := [wp_i w, wp_i 0, wp_i (s 139 1 - 1)]) (rest := []) ji_247_10 jc_247_66 (Nat.le_of_ble_eq_true rfl) rfl (Nat.le_of_ble_eq_true rfl) rfl (by rw [jn_171]; rfl) (uc_171 (d := d) (x := w) (a := 0) (b := s 139 1 - 1) (by omega) (by omega) (by omega)) (fun v1 h2 R => ?_)
  obtain ⟨ee, y3, rfl, hy3a, hy3b⟩ := R
  rw [ee]
  clear ee
  show wl_R _ _ 247 13 [some (.ref 138), some (wp_i w)] [wp_i y3] _ _
  exact wl_ri ji_247_13 jr_247 (pv_nb (by omega)) (⟨rfl, y3, rfl, by omega, by omega⟩)
theorem uc_248 {nn d : Nat} {h : mj_H} {s : sg_} (C : CS h s) (i0 : 0 ≤ s 139 0 ∧ s 139 0 ≤ 8) {p : Int} (hp : wp_r p) : wl_R nn (d + 1) 248 0 [some (.ref 138), some (wp_i p)] [] h (fun v1 h1 => h1 = h ∧ ∃ y : Int, v1 = some (wp_i y) ∧ (y = 0 ∨ y = 1) ∧ (y = 1 ↔ 0 ≤ p ∧ p < s 139 0)) := by
  refine wl_s (pc' := 1) ji_248_0 rfl rfl rfl ?_
  refine wl_s (pc' := 2) ji_248_1 rfl rfl rfl ?_
  refine wl_s (pc' := 3) ji_248_2 rfl rfl rfl ?_
  refine cs_gr (r := 139) (k := 0) C (by decide) sq_138 rfl ji_248_3 jf_248_7 ?_
  refine wl_s (pc' := 7) ji_248_6 rfl rfl rfl ?_
  refine cs_l (x := 0) C (by decide) (by decide) sq_139 (by omega) ji_248_7 (fun ld10 ld11 ld12 => ?_)
  refine wl_s (pc' := 9) ji_248_8 rfl rfl rfl ?_
  refine wl_isub (x := s 139 0) (y := 1) (z := s 139 0 - 1) ji_248_9 (by omega) ?_
  refine wl_sc (d := d) (as := [wp_i p, wp_i 0, wp_i (s 139 0 - 1)]) (rest := []) ji_248_10 jc_248_66 (Nat.le_of_ble_eq_true rfl) rfl (Nat.le_of_ble_eq_true rfl) rfl (by rw [jn_171]; rfl) (uc_171 (d := d) (x := p) (a := 0) (b := s 139 0 - 1) (by omega) (by omega) (by omega)) (fun v1 h2 R => ?_)
  obtain ⟨ee, y3, rfl, hy3a, hy3b⟩ := R
  rw [ee]
  clear ee
  show wl_R _ _ 248 13 [some (.ref 138), some (wp_i p)] [wp_i y3] _ _
  exact wl_ri ji_248_13 jr_248 (pv_nb (by omega)) (⟨rfl, y3, rfl, by omega, by omega⟩)
/-- whether a flag may be hoisted, in the reference -/
abbrev mrR (s : sg_) (w p : Int) : Prop := s 139 (52 + 2 * (8 * w + p) + 0) = -1 ∧ bcn (flg (fun j => s 139 (52 + 2 * (8 * j + p) + 0)) (s 139 1).toNat) < 2
def rsR (s : sg_) (w p : Int) : sg_ := up (up s 139 (52 + 2 * (8 * w + p) + 0) 0) 139 (52 + 2 * (8 * w + p) + 1) 0
def gnR (s : sg_) (w p : Int) : sg_ := up (up s 139 (52 + 2 * (8 * w + p) + 0) (-1)) 139 (52 + 2 * (8 * w + p) + 1) 0
theorem uc_249 {nn d : Nat} {h : mj_H} {s : sg_} (C : CS h s) (i1 : 0 ≤ s 139 1 ∧ s 139 1 ≤ 6) {w p : Int} (hw : 0 ≤ w ∧ w < 6) (hp : 0 ≤ p ∧ p < 8) : wl_R nn (d + 3) 249 0 [some (.ref 138), some (wp_i w), some (wp_i p)] [] h (fun v1 h1 => h1 = h ∧ ∃ y : Int, v1 = some (wp_i y) ∧ (y = 0 ∨ y = 1) ∧ (y = 1 ↔ mrR s w p)) := by
  refine wl_s (pc' := 1) ji_249_0 rfl rfl rfl ?_
  refine wl_s (pc' := 2) ji_249_1 rfl rfl rfl ?_
  refine wl_s (pc' := 3) ji_249_2 rfl rfl rfl ?_
  obtain ⟨q2, hq2⟩ := cs_c C (by decide) sq_138
  refine wl_vc (d := d + 2) (as := [.ref 138, wp_i w, wp_i p]) (rest := []) ji_249_3 jc_249_74 rfl hq2 jk_223.symm (Nat.le_of_ble_eq_true rfl) rfl (by rw [jn_223]; rfl) (uc_223 (d := d + 1) C (w := w) (p := p) (by omega) (by omega)) (fun v1 h1 R => ?_)
  obtain ⟨ee, y3, rfl, hy3a, hy3b⟩ := R
  rw [ee]
  clear ee
  show wl_R _ _ 249 6 [some (.ref 138), some (wp_i w), some (wp_i p)] [wp_i y3] _ _
  refine wl_if (t := 25) ji_249_6 rfl (by omega) (fun (hb4 : ¬ (y3 : Int) = 0) => ?_) (fun (hb4 : ¬ (¬ (y3 : Int) = 0)) => ?_)
  · refine wl_s (pc' := 26) ji_249_25 rfl rfl rfl ?_
    exact wl_ri ji_249_26 jr_249 (pv_nb (by omega)) (⟨rfl, 0, rfl, by omega, by unfold mrR; omega⟩)
  · refine wl_s (pc' := 10) ji_249_9 rfl rfl rfl ?_
    refine wl_s (pc' := 11) ji_249_10 rfl rfl rfl ?_
    obtain ⟨q6, hq6⟩ := cs_c C (by decide) sq_138
    refine wl_vc (d := d + 2) (as := [.ref 138, wp_i p]) (rest := []) ji_249_11 jc_249_292 rfl hq6 jk_228.symm (Nat.le_of_ble_eq_true rfl) rfl (by rw [jn_228]; rfl) (uc_228 (d := d) C i1 (p := p) (by omega)) (fun v1 h5 R => ?_)
    obtain ⟨ee, rfl⟩ := R
    rw [ee]
    clear ee
    show wl_R _ _ 249 14 [some (.ref 138), some (wp_i w), some (wp_i p)] [wp_i (flg (fun j => s 139 (52 + 2 * (8 * j + p) + 0)) (s 139 1).toNat)] _ _
    have hfl := flg_6 (fun j => s 139 (52 + 2 * (8 * j + p) + 0)) (n := (s 139 1).toNat) (by omega)
    refine wl_sc (d := d + 2) (as := [wp_i (flg (fun j => s 139 (52 + 2 * (8 * j + p) + 0)) (s 139 1).toNat)]) (rest := []) ji_249_14 jc_249_295 (Nat.le_of_ble_eq_true rfl) rfl (Nat.le_of_ble_eq_true rfl) rfl (by rw [jn_229]; rfl) (uc_229 (d := d + 2) (x := flg (fun j => s 139 (52 + 2 * (8 * j + p) + 0)) (s 139 1).toNat) (by omega)) (fun v1 h7 R => ?_)
    obtain ⟨ee, rfl⟩ := R
    rw [ee]
    clear ee
    show wl_R _ _ 249 17 [some (.ref 138), some (wp_i w), some (wp_i p)] [wp_i (bcn (flg (fun j => s 139 (52 + 2 * (8 * j + p) + 0)) (s 139 1).toNat))] _ _
    have hbc := bcn_r (flg (fun j => s 139 (52 + 2 * (8 * j + p) + 0)) (s 139 1).toNat)
    refine wl_s (pc' := 18) ji_249_17 rfl rfl rfl ?_
    refine wl_icmp (t := 25) ji_249_18 rfl (by omega) (by omega) (fun (hb8 : (2 : Int) ≤ (bcn (flg (fun j => s 139 (52 + 2 * (8 * j + p) + 0)) (s 139 1).toNat))) => ?_) (fun (hb8 : ¬ ((2 : Int) ≤ (bcn (flg (fun j => s 139 (52 + 2 * (8 * j + p) + 0)) (s 139 1).toNat)))) => ?_)
    · refine wl_s (pc' := 26) ji_249_25 rfl rfl rfl ?_
      exact wl_ri ji_249_26 jr_249 (pv_nb (by omega)) (⟨rfl, 0, rfl, by omega, by unfold mrR; omega⟩)
    · refine wl_s (pc' := 22) ji_249_21 rfl rfl rfl ?_
      refine wl_goto (t := 26) ji_249_22 rfl ?_
      exact wl_ri ji_249_26 jr_249 (pv_nb (by omega)) (⟨rfl, 1, rfl, by omega, by unfold mrR; omega⟩)
theorem uc_250 {nn d : Nat} {h : mj_H} {s : sg_} (C : CS h s) {w p : Int} (hw : 0 ≤ w ∧ w < 6) (hp : 0 ≤ p ∧ p < 8) : wl_R nn (d + 1) 250 0 [some (.ref 138), some (wp_i w), some (wp_i p)] [] h (fun v1 h1 => v1 = none ∧ CS h1 (rsR s w p)) := by
  refine wl_s (pc' := 1) ji_250_0 rfl rfl rfl ?_
  refine wl_s (pc' := 2) ji_250_1 rfl rfl rfl ?_
  refine wl_s (pc' := 3) ji_250_2 rfl rfl rfl ?_
  refine wl_s (pc' := 4) ji_250_3 rfl rfl rfl ?_
  refine wl_s (pc' := 5) ji_250_4 rfl rfl rfl ?_
  obtain ⟨q2, hq2⟩ := cs_c C (by decide) sq_138
  refine wl_vc (d := d) (as := [.ref 138, wp_i w, wp_i p, wp_i 0, wp_i 0]) (rest := []) ji_250_5 jc_250_317 rfl hq2 jk_239.symm (Nat.le_of_ble_eq_true rfl) rfl (by rw [jn_239]; rfl) (uc_239 (d := d) C (w := w) (p := p) (k := 0) (v := 0) (by omega) (by omega) (by omega) (by omega)) (fun v1 h1 R => ?_)
  obtain ⟨rfl, C⟩ := R
  obtain ⟨s3, es3⟩ : ∃ z9_, up s 139 (52 + 2 * (8 * w + p) + 0) 0 = z9_ := ⟨_, rfl⟩
  rw [es3] at C
  show wl_R _ _ 250 8 [some (.ref 138), some (wp_i w), some (wp_i p)] [] h1 _
  refine wl_s (pc' := 9) ji_250_8 rfl rfl rfl ?_
  refine wl_s (pc' := 10) ji_250_9 rfl rfl rfl ?_
  refine wl_s (pc' := 11) ji_250_10 rfl rfl rfl ?_
  refine wl_s (pc' := 12) ji_250_11 rfl rfl rfl ?_
  refine wl_s (pc' := 13) ji_250_12 rfl rfl rfl ?_
  obtain ⟨q5, hq5⟩ := cs_c C (by decide) sq_138
  refine wl_vc (d := d) (as := [.ref 138, wp_i w, wp_i p, wp_i 1, wp_i 0]) (rest := []) ji_250_13 jc_250_317 rfl hq5 jk_239.symm (Nat.le_of_ble_eq_true rfl) rfl (by rw [jn_239]; rfl) (uc_239 (d := d) C (w := w) (p := p) (k := 1) (v := 0) (by omega) (by omega) (by omega) (by omega)) (fun v1 h4 R => ?_)
  obtain ⟨rfl, C⟩ := R
  obtain ⟨s6, es6⟩ : ∃ z9_, up s3 139 (52 + 2 * (8 * w + p) + 1) 0 = z9_ := ⟨_, rfl⟩
  rw [es6] at C
  show wl_R _ _ 250 16 [some (.ref 138), some (wp_i w), some (wp_i p)] [] h4 _
  exact wl_rv ji_250_16 jr_250 (⟨rfl, cs_mono C (by unfold rsR; rw [es3, es6])⟩)
