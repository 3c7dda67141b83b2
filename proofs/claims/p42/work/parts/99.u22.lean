/-! -/
/-! -/
set_option maxRecDepth 100000 in
theorem ji_228_4 : mj_ins 228 4 = some (.iload_n 3) := by decide +kernel
set_option maxRecDepth 100000 in
theorem ji_228_5 : mj_ins 228 5 = some (.aload_n 0) := by decide +kernel
set_option maxRecDepth 100000 in
theorem ji_228_6 : mj_ins 228 6 = some (.getfield 7) := by decide +kernel
set_option maxRecDepth 100000 in
theorem jf_228_7 : mj_fld 228 7 = some (11, 0, (.array .int), false) := by decide +kernel
set_option maxRecDepth 100000 in
theorem ji_228_9 : mj_ins 228 9 = some (.iconst 1) := by decide +kernel
set_option maxRecDepth 100000 in
theorem ji_228_10 : mj_ins 228 10 = some (.iaload) := by decide +kernel
set_option maxRecDepth 100000 in
theorem ji_228_11 : mj_ins 228 11 = some (.if_icmp .ge 28) := by decide +kernel
set_option maxRecDepth 100000 in
theorem ji_228_39 : mj_ins 228 39 = some (.iload_n 2) := by decide +kernel
set_option maxRecDepth 100000 in
theorem ji_228_40 : mj_ins 228 40 = some (.ireturn) := by decide +kernel
set_option maxRecDepth 100000 in
theorem jr_228 : mj_ret 228 = some .int := by decide +kernel
set_option maxRecDepth 100000 in
theorem ji_228_14 : mj_ins 228 14 = some (.iload_n 2) := by decide +kernel
set_option maxRecDepth 100000 in
theorem ji_228_15 : mj_ins 228 15 = some (.aload_n 0) := by decide +kernel
set_option maxRecDepth 100000 in
theorem ji_228_16 : mj_ins 228 16 = some (.iload_n 3) := by decide +kernel
set_option maxRecDepth 100000 in
theorem ji_228_17 : mj_ins 228 17 = some (.iload_n 1) := by decide +kernel
set_option maxRecDepth 100000 in
theorem ji_228_18 : mj_ins 228 18 = some (.invokevirtual 74) := by decide +kernel
set_option maxRecDepth 100000 in
theorem jc_228_74 : mj_cal 228 74 = some (2, 223, 2) := by decide +kernel
set_option maxRecDepth 100000 in
theorem jn_223 : mj_nl 223 = 3 := by decide +kernel
set_option maxRecDepth 100000 in
theorem jk_223 : mj_cls 223 = 11 := by decide +kernel
set_option maxRecDepth 100000 in
theorem ji_228_21 : mj_ins 228 21 = some (.ifCond .eq 9) := by decide +kernel
set_option maxRecDepth 100000 in
theorem ji_228_30 : mj_ins 228 30 = some (.iconst 0) := by decide +kernel
set_option maxRecDepth 100000 in
theorem ji_228_31 : mj_ins 228 31 = some (.ior) := by decide +kernel
set_option maxRecDepth 100000 in
theorem ji_228_32 : mj_ins 228 32 = some (.istore_n 2) := by decide +kernel
set_option maxRecDepth 100000 in
theorem ji_228_33 : mj_ins 228 33 = some (.iinc 3 1) := by decide +kernel
set_option maxRecDepth 100000 in
theorem ji_228_36 : mj_ins 228 36 = some (.goto (-32)) := by decide +kernel
set_option maxRecDepth 100000 in
theorem ji_228_24 : mj_ins 228 24 = some (.iconst 1) := by decide +kernel
set_option maxRecDepth 100000 in
theorem ji_228_25 : mj_ins 228 25 = some (.iload_n 3) := by decide +kernel
set_option maxRecDepth 100000 in
theorem ji_228_26 : mj_ins 228 26 = some (.ishl) := by decide +kernel
set_option maxRecDepth 100000 in
theorem ji_228_27 : mj_ins 228 27 = some (.goto 4) := by decide +kernel
set_option maxRecDepth 100000 in
theorem ji_228_0 : mj_ins 228 0 = some (.iconst 0) := by decide +kernel
set_option maxRecDepth 100000 in
theorem ji_228_1 : mj_ins 228 1 = some (.istore_n 2) := by decide +kernel
set_option maxRecDepth 100000 in
theorem ji_228_2 : mj_ins 228 2 = some (.iconst 0) := by decide +kernel
set_option maxRecDepth 100000 in
theorem ji_228_3 : mj_ins 228 3 = some (.istore_n 3) := by decide +kernel
/-! the reference's names; laid by program (wp_u22.py) -/
theorem uc_228l {d : Nat} {h : mj_H} {s : sg_} (C : CS h s) (h1 : 0 ≤ s 139 1 ∧ s 139 1 ≤ 6) {p : Int} (hp : 0 ≤ p ∧ p < 8) : ∀ (nn w : Nat), (w : Int) ≤ s 139 1 → wl_R nn (d + 2) 228 4 [some (.ref 138), some (wp_i p), some (wp_i (flg (fun j => s 139 (52 + 2 * (8 * j + p) + 0)) w)), some (wp_i ((w : Int)))] [] h (fun v1 h1 => h1 = h ∧ v1 = some (wp_i (flg (fun j => s 139 (52 + 2 * (8 * j + p) + 0)) (s 139 1).toNat))) := by
  intro nn
  induction nn with
  | zero => intros; exact wl_0
  | succ nn ih =>
    intro w hw
    have hfl := flg_r (fun j => s 139 (52 + 2 * (8 * j + p) + 0)) w
    refine wl_s1 (pc' := 5) ji_228_4 rfl rfl rfl ?_
    refine wl_s (pc' := 6) ji_228_5 rfl rfl rfl ?_
    refine cs_gr (r := 139) (k := 0) C (by decide) sq_138 rfl ji_228_6 jf_228_7 ?_
    refine wl_s (pc' := 10) ji_228_9 rfl rfl rfl ?_
    refine cs_l (x := 1) C (by decide) (by decide) sq_139 (by omega) ji_228_10 (fun ld10 ld11 ld12 => ?_)
    refine wl_icmp (t := 39) ji_228_11 rfl (by omega) (by omega) (fun (hb2 : (s 139 1 : Int) ≤ ((w : Int))) => ?_) (fun (hb2 : ¬ ((s 139 1 : Int) ≤ ((w : Int)))) => ?_)
    · refine wl_s (pc' := 40) ji_228_39 rfl rfl rfl ?_
      exact wl_ri ji_228_40 jr_228 rfl (⟨rfl, by rw [show w = (s 139 1).toNat by omega]⟩)
    · refine wl_s (pc' := 15) ji_228_14 rfl rfl rfl ?_
      refine wl_s (pc' := 16) ji_228_15 rfl rfl rfl ?_
      refine wl_s (pc' := 17) ji_228_16 rfl rfl rfl ?_
      refine wl_s (pc' := 18) ji_228_17 rfl rfl rfl ?_
      obtain ⟨q4, hq4⟩ := cs_c C (by decide) sq_138
      refine wl_vc (d := d + 1) (as := [.ref 138, wp_i ((w : Int)), wp_i p]) (rest := [wp_i (flg (fun j => s 139 (52 + 2 * (8 * j + p) + 0)) w)]) ji_228_18 jc_228_74 rfl hq4 jk_223.symm (Nat.le_of_ble_eq_true rfl) rfl (by rw [jn_223]; rfl) (uc_223 (d := d) C (w := (w : Int)) (p := p) (by omega) (by omega)) (fun v1 h3 R => ?_)
      obtain ⟨ee, y5, rfl, hy5a, hy5b⟩ := R
      rw [ee]
      clear ee
      show wl_R _ _ 228 21 [some (.ref 138), some (wp_i p), some (wp_i (flg (fun j => s 139 (52 + 2 * (8 * j + p) + 0)) w)), some (wp_i ((w : Int)))] [wp_i y5, wp_i (flg (fun j => s 139 (52 + 2 * (8 * j + p) + 0)) w)] _ _
      refine wl_if (t := 30) ji_228_21 rfl (by omega) (fun (hb6 : (y5 : Int) = 0) => ?_) (fun (hb6 : ¬ ((y5 : Int) = 0)) => ?_)
      · refine wl_s (pc' := 31) ji_228_30 rfl rfl rfl ?_
        refine wl_s (pc' := 32) (lv' := [some (.ref 138), some (wp_i p), some (wp_i (flg (fun j => s 139 (52 + 2 * (8 * j + p) + 0)) w)), some (wp_i ((w : Int)))]) (st' := [wp_i (flg (fun j => s 139 (52 + 2 * (8 * j + p) + 0)) w)]) (h' := h) ji_228_31 rfl rfl (congrArg (fun z => (some (32, [some (.ref 138), some (wp_i p), some (wp_i (flg (fun j => s 139 (52 + 2 * (8 * j + p) + 0)) w)), some (wp_i ((w : Int)))], [Value.int z], h) : Option mj_S)) (Int32.or_zero (a := Int32.ofInt (flg (fun j => s 139 (52 + 2 * (8 * j + p) + 0)) w)))) ?_
        refine wl_s (pc' := 33) (lv' := [some (.ref 138), some (wp_i p), some (wp_i (flg (fun j => s 139 (52 + 2 * (8 * j + p) + 0)) w)), some (wp_i ((w : Int)))]) ji_228_32 rfl rfl rfl ?_
        refine wl_iinc (x := (w : Int)) (z := (w : Int) + 1) (lv' := [some (.ref 138), some (wp_i p), some (wp_i (flg (fun j => s 139 (52 + 2 * (8 * j + p) + 0)) w)), some (wp_i ((w : Int) + 1))]) ji_228_33 rfl (Nat.le_of_ble_eq_true rfl) (by omega) rfl ?_
        refine wl_goto (t := 4) ji_228_36 rfl ?_
        have e1 : (w : Int) + 1 = ((w + 1 : Nat) : Int) := by omega
        rw [e1]
        rw [show flg (fun j => s 139 (52 + 2 * (8 * j + p) + 0)) w = flg (fun j => s 139 (52 + 2 * (8 * j + p) + 0)) (w + 1) by show _ = flg (fun j => s 139 (52 + 2 * (8 * j + p) + 0)) w + _; rw [if_pos (Classical.byContradiction (fun c => by have := hy5b.mpr c; omega))]; omega]
        exact ih (w + 1) (by omega)
      · refine wl_s (pc' := 25) ji_228_24 rfl rfl rfl ?_
        refine wl_s (pc' := 26) ji_228_25 rfl rfl rfl ?_
        refine wl_s (pc' := 27) ji_228_26 rfl rfl rfl ?_
        refine wl_goto (t := 31) ji_228_27 rfl ?_
        refine wl_s (pc' := 32) (lv' := [some (.ref 138), some (wp_i p), some (wp_i (flg (fun j => s 139 (52 + 2 * (8 * j + p) + 0)) w)), some (wp_i ((w : Int)))]) (st' := [wp_i (flg (fun j => s 139 (52 + 2 * (8 * j + p) + 0)) w + 2 ^ w)]) (h' := h) ji_228_31 rfl rfl (congrArg (fun z => (some (32, [some (.ref 138), some (wp_i p), some (wp_i (flg (fun j => s 139 (52 + 2 * (8 * j + p) + 0)) w)), some (wp_i ((w : Int)))], [Value.int z], h) : Option mj_S)) (bi_or2 hfl (by omega))) ?_
        refine wl_s (pc' := 33) (lv' := [some (.ref 138), some (wp_i p), some (wp_i (flg (fun j => s 139 (52 + 2 * (8 * j + p) + 0)) w + 2 ^ w)), some (wp_i ((w : Int)))]) ji_228_32 rfl rfl rfl ?_
        refine wl_iinc (x := (w : Int)) (z := (w : Int) + 1) (lv' := [some (.ref 138), some (wp_i p), some (wp_i (flg (fun j => s 139 (52 + 2 * (8 * j + p) + 0)) w + 2 ^ w)), some (wp_i ((w : Int) + 1))]) ji_228_33 rfl (Nat.le_of_ble_eq_true rfl) (by omega) rfl ?_
        refine wl_goto (t := 4) ji_228_36 rfl ?_
        have e1 : (w : Int) + 1 = ((w + 1 : Nat) : Int) := by omega
        rw [e1]
        rw [show flg (fun j => s 139 (52 + 2 * (8 * j + p) + 0)) w + 2 ^ w = flg (fun j => s 139 (52 + 2 * (8 * j + p) + 0)) (w + 1) by show _ = flg (fun j => s 139 (52 + 2 * (8 * j + p) + 0)) w + _; rw [if_neg (hy5b.mp (by omega))]]
        exact ih (w + 1) (by omega)
theorem uc_228 {nn d : Nat} {h : mj_H} {s : sg_} (C : CS h s) (h1 : 0 ≤ s 139 1 ∧ s 139 1 ≤ 6) {p : Int} (hp : 0 ≤ p ∧ p < 8) : wl_R nn (d + 2) 228 0 [some (.ref 138), some (wp_i p), none, none] [] h (fun v1 h1 => h1 = h ∧ v1 = some (wp_i (flg (fun j => s 139 (52 + 2 * (8 * j + p) + 0)) (s 139 1).toNat))) := by
  refine wl_s (pc' := 1) ji_228_0 rfl rfl rfl ?_
  refine wl_s (pc' := 2) (lv' := [some (.ref 138), some (wp_i p), some (wp_i 0), none]) ji_228_1 rfl rfl rfl ?_
  refine wl_s (pc' := 3) ji_228_2 rfl rfl rfl ?_
  refine wl_s (pc' := 4) (lv' := [some (.ref 138), some (wp_i p), some (wp_i 0), some (wp_i 0)]) ji_228_3 rfl rfl rfl ?_
  exact uc_228l C h1 hp nn 0 (by omega)
