/-! -/
/-! -/
set_option maxRecDepth 100000 in
theorem ji_218_2 : mj_ins 218 2 = some (.iload_n 2) := by decide +kernel
set_option maxRecDepth 100000 in
theorem ji_218_3 : mj_ins 218 3 = some (.iload_n 1) := by decide +kernel
set_option maxRecDepth 100000 in
theorem ji_218_4 : mj_ins 218 4 = some (.if_icmp .ge 32) := by decide +kernel
set_option maxRecDepth 100000 in
theorem ji_218_36 : mj_ins 218 36 = some (.iconst 1) := by decide +kernel
set_option maxRecDepth 100000 in
theorem ji_218_37 : mj_ins 218 37 = some (.ireturn) := by decide +kernel
set_option maxRecDepth 100000 in
theorem jr_218 : mj_ret 218 = some .boolean := by decide +kernel
set_option maxRecDepth 100000 in
theorem ji_218_7 : mj_ins 218 7 = some (.aload_n 0) := by decide +kernel
set_option maxRecDepth 100000 in
theorem ji_218_8 : mj_ins 218 8 = some (.getfield 7) := by decide +kernel
set_option maxRecDepth 100000 in
theorem jf_218_7 : mj_fld 218 7 = some (11, 0, (.array .int), false) := by decide +kernel
set_option maxRecDepth 100000 in
theorem ji_218_11 : mj_ins 218 11 = some (.bipush 8) := by decide +kernel
set_option maxRecDepth 100000 in
theorem ji_218_13 : mj_ins 218 13 = some (.iaload) := by decide +kernel
set_option maxRecDepth 100000 in
theorem ji_218_14 : mj_ins 218 14 = some (.sipush 9999) := by decide +kernel
set_option maxRecDepth 100000 in
theorem ji_218_17 : mj_ins 218 17 = some (.if_icmp .ne 5) := by decide +kernel
set_option maxRecDepth 100000 in
theorem ji_218_22 : mj_ins 218 22 = some (.aload_n 0) := by decide +kernel
set_option maxRecDepth 100000 in
theorem ji_218_23 : mj_ins 218 23 = some (.invokevirtual 336) := by decide +kernel
set_option maxRecDepth 100000 in
theorem jc_218_336 : mj_cal 218 336 = some (2, 219, 0) := by decide +kernel
set_option maxRecDepth 100000 in
theorem jn_219 : mj_nl 219 = 3 := by decide +kernel
set_option maxRecDepth 100000 in
theorem jk_219 : mj_cls 219 = 11 := by decide +kernel
set_option maxRecDepth 100000 in
theorem ji_218_26 : mj_ins 218 26 = some (.aload_n 0) := by decide +kernel
set_option maxRecDepth 100000 in
theorem ji_218_27 : mj_ins 218 27 = some (.invokevirtual 339) := by decide +kernel
set_option maxRecDepth 100000 in
theorem jc_218_339 : mj_cal 218 339 = some (2, 221, 0) := by decide +kernel
set_option maxRecDepth 100000 in
theorem jn_221 : mj_nl 221 = 1 := by decide +kernel
set_option maxRecDepth 100000 in
theorem jk_221 : mj_cls 221 = 11 := by decide +kernel
set_option maxRecDepth 100000 in
theorem ji_218_30 : mj_ins 218 30 = some (.iinc 2 1) := by decide +kernel
set_option maxRecDepth 100000 in
theorem ji_218_33 : mj_ins 218 33 = some (.goto (-31)) := by decide +kernel
set_option maxRecDepth 100000 in
theorem ji_218_20 : mj_ins 218 20 = some (.iconst 0) := by decide +kernel
set_option maxRecDepth 100000 in
theorem ji_218_21 : mj_ins 218 21 = some (.ireturn) := by decide +kernel
set_option maxRecDepth 100000 in
theorem ji_218_0 : mj_ins 218 0 = some (.iconst 0) := by decide +kernel
set_option maxRecDepth 100000 in
theorem ji_218_1 : mj_ins 218 1 = some (.istore_n 2) := by decide +kernel
/-! n hours of the reference, run; laid by program (wp_u48.py) -/
theorem uc_218l {d : Nat} {s : sg_} {cr : crs} {M n : Int} (hn : 0 ≤ n ∧ n ≤ 10000) (hM : M ≤ 1000000000) (h8 : 0 ≤ s 139 8 ∧ s 139 8 ≤ 9999) : ∀ (nn i : Nat) (t : sg_) (h : mj_H), CS h t → t = hrsR cr s i → ((i : Int) ≤ n ∧ s 139 8 + (i : Int) ≤ 9999) → RT t cr (M + (i : Int)) → t 139 8 = s 139 8 + (i : Int) → wl_R nn (d + 9) 218 2 [some (.ref 138), some (wp_i n), some (wp_i ((i : Int)))] [] h (fun v1 h1 => ∃ y : Int, v1 = some (wp_i y) ∧ (y = 0 ∨ y = 1) ∧ (y = 1 ↔ min n (9999 - s 139 8) = n) ∧ CS h1 (hrsR cr s (min n (9999 - s 139 8)).toNat)) := by
  intro nn
  induction nn with
  | zero => intros; exact wl_0
  | succ nn ih =>
    intro i t h C et hi T e8
    refine wl_s1 (pc' := 3) ji_218_2 rfl rfl rfl ?_
    refine wl_s (pc' := 4) ji_218_3 rfl rfl rfl ?_
    refine wl_icmp (t := 36) ji_218_4 rfl (by omega) (by omega) (fun (hb1 : (n : Int) ≤ ((i : Int))) => ?_) (fun (hb1 : ¬ ((n : Int) ≤ ((i : Int)))) => ?_)
    · refine wl_s (pc' := 37) ji_218_36 rfl rfl rfl ?_
      exact wl_ri ji_218_37 jr_218 (pv_nb (by omega)) (⟨1, rfl, by omega, by omega, cs_mono C (by rw [et, show i = (min n (9999 - s 139 8)).toNat by omega])⟩)
    · refine wl_s (pc' := 8) ji_218_7 rfl rfl rfl ?_
      refine cs_gr (r := 139) (k := 0) C (by decide) sq_138 rfl ji_218_8 jf_218_7 ?_
      refine wl_bp ji_218_11 rfl ?_
      refine cs_l (x := 8) C (by decide) (by decide) sq_139 (by omega) ji_218_13 (fun ld20 ld21 ld22 => ?_)
      refine wl_sp ji_218_14 rfl ?_
      refine wl_icmp (t := 22) ji_218_17 rfl (by omega) (by omega) (fun (hb3 : ¬ (t 139 8 : Int) = 9999) => ?_) (fun (hb3 : ¬ (¬ (t 139 8 : Int) = 9999)) => ?_)
      · refine wl_s (pc' := 23) ji_218_22 rfl rfl rfl ?_
        obtain ⟨q5, hq5⟩ := cs_c C (by decide) sq_138
        refine wl_vc (d := d + 8) (as := [.ref 138]) (rest := []) ji_218_23 jc_218_336 rfl hq5 jk_219.symm (Nat.le_of_ble_eq_true rfl) rfl (by rw [jn_219]; rfl) (uc_219 (d := d + 7) T.k C) (fun v1 h4 R => ?_)
        obtain ⟨rfl, C⟩ := R
        show wl_R _ _ 218 26 [some (.ref 138), some (wp_i n), some (wp_i ((i : Int)))] [] h4 _
        refine wl_s (pc' := 27) ji_218_26 rfl rfl rfl ?_
        obtain ⟨q7, hq7⟩ := cs_c C (by decide) sq_138
        refine wl_vc (d := d + 8) (as := [.ref 138]) (rest := []) ji_218_27 jc_218_339 rfl hq7 jk_221.symm (Nat.le_of_ble_eq_true rfl) rfl (by rw [jn_221]; rfl) (uc_221 (d := d) C (keepR_RT T).rs (by have := (keepR_RT T).b; omega)) (fun v1 h6 R => ?_)
        obtain ⟨rfl, C⟩ := R
        show wl_R _ _ 218 30 [some (.ref 138), some (wp_i n), some (wp_i ((i : Int)))] [] h6 _
        refine wl_iinc (x := (i : Int)) (z := (i : Int) + 1) (lv' := [some (.ref 138), some (wp_i n), some (wp_i ((i : Int) + 1))]) ji_218_30 rfl (Nat.le_of_ble_eq_true rfl) (by omega) rfl ?_
        refine wl_goto (t := 2) ji_218_33 rfl ?_
        rw [show (i : Int) + 1 = ((i + 1 : Nat) : Int) by omega]
        have q8 : keepR t 139 8 = t 139 8 := keepR_fr T.k.1 (Or.inr ⟨by decide, by decide⟩)
        exact ih (i + 1) _ _ (cs_mono C (by rw [et]; rfl)) rfl (by omega) (by rw [show M + ((i + 1 : Nat) : Int) = M + (i : Int) + 1 by omega]; show RT (hourR cr (keepR (hrsR cr s i))) cr _; rw [← et]; exact hourR_RT (keepR_RT T) (by rw [q8]; omega)) (by show hourR cr (keepR (hrsR cr s i)) 139 8 = _; rw [← et, hourR_8, q8]; omega)
      · refine wl_s (pc' := 21) ji_218_20 rfl rfl rfl ?_
        exact wl_ri ji_218_21 jr_218 (pv_nb (by omega)) (⟨0, rfl, by omega, by omega, cs_mono C (by rw [et, show i = (min n (9999 - s 139 8)).toNat by omega])⟩)
theorem uc_218 {nn d : Nat} {h : mj_H} {s : sg_} (C : CS h s) {cr : crs} {M n : Int} (hn : 0 ≤ n ∧ n ≤ 10000) (hM : M ≤ 1000000000) (T : RT s cr M) : wl_R nn (d + 9) 218 0 [some (.ref 138), some (wp_i n), none] [] h (fun v1 h1 => ∃ y : Int, v1 = some (wp_i y) ∧ (y = 0 ∨ y = 1) ∧ (y = 1 ↔ min n (9999 - s 139 8) = n) ∧ CS h1 (hrsR cr s (min n (9999 - s 139 8)).toNat)) := by
  refine wl_s (pc' := 1) ji_218_0 rfl rfl rfl ?_
  refine wl_s (pc' := 2) (lv' := [some (.ref 138), some (wp_i n), some (wp_i 0)]) ji_218_1 rfl rfl rfl ?_
  have o : 0 ≤ s 139 8 ∧ s 139 8 ≤ 9999 := ⟨T.rs.g.o.1, T.o9⟩
  exact uc_218l hn hM o nn 0 s h C rfl (by omega) (by rw [show M + ((0 : Nat) : Int) = M by omega]; exact T) (by omega)
