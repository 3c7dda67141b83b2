/-! -/
set_option maxRecDepth 100000 in
theorem ji_253_17 : mj_ins 253 17 = some (.iload_n 3) := by decide +kernel
set_option maxRecDepth 100000 in
theorem ji_253_18 : mj_ins 253 18 = some (.aload_n 0) := by decide +kernel
set_option maxRecDepth 100000 in
theorem ji_253_19 : mj_ins 253 19 = some (.getfield 7) := by decide +kernel
set_option maxRecDepth 100000 in
theorem jf_253_7 : mj_fld 253 7 = some (11, 0, (.array .int), false) := by decide +kernel
set_option maxRecDepth 100000 in
theorem ji_253_22 : mj_ins 253 22 = some (.iconst 1) := by decide +kernel
set_option maxRecDepth 100000 in
theorem ji_253_23 : mj_ins 253 23 = some (.iaload) := by decide +kernel
set_option maxRecDepth 100000 in
theorem ji_253_24 : mj_ins 253 24 = some (.if_icmp .ge 36) := by decide +kernel
set_option maxRecDepth 100000 in
theorem ji_253_60 : mj_ins 253 60 = some (.return_) := by decide +kernel
set_option maxRecDepth 100000 in
theorem jr_253 : mj_ret 253 = none := by decide +kernel
set_option maxRecDepth 100000 in
theorem ji_253_27 : mj_ins 253 27 = some (.aload_n 0) := by decide +kernel
set_option maxRecDepth 100000 in
theorem ji_253_28 : mj_ins 253 28 = some (.iload_n 3) := by decide +kernel
set_option maxRecDepth 100000 in
theorem ji_253_29 : mj_ins 253 29 = some (.iload_n 1) := by decide +kernel
set_option maxRecDepth 100000 in
theorem ji_253_30 : mj_ins 253 30 = some (.iconst 0) := by decide +kernel
set_option maxRecDepth 100000 in
theorem ji_253_31 : mj_ins 253 31 = some (.invokevirtual 70) := by decide +kernel
set_option maxRecDepth 100000 in
theorem jc_253_70 : mj_cal 253 70 = some (2, 224, 3) := by decide +kernel
set_option maxRecDepth 100000 in
theorem ji_253_34 : mj_ins 253 34 = some (.aload_n 0) := by decide +kernel
set_option maxRecDepth 100000 in
theorem ji_253_35 : mj_ins 253 35 = some (.iload_n 1) := by decide +kernel
set_option maxRecDepth 100000 in
theorem ji_253_36 : mj_ins 253 36 = some (.invokevirtual 289) := by decide +kernel
set_option maxRecDepth 100000 in
theorem jc_253_289 : mj_cal 253 289 = some (2, 220, 1) := by decide +kernel
set_option maxRecDepth 100000 in
theorem ji_253_39 : mj_ins 253 39 = some (.if_icmp .le 15) := by decide +kernel
set_option maxRecDepth 100000 in
theorem ji_253_54 : mj_ins 253 54 = some (.iinc 3 1) := by decide +kernel
set_option maxRecDepth 100000 in
theorem ji_253_57 : mj_ins 253 57 = some (.goto (-40)) := by decide +kernel
set_option maxRecDepth 100000 in
theorem ji_253_42 : mj_ins 253 42 = some (.aload_n 0) := by decide +kernel
set_option maxRecDepth 100000 in
theorem ji_253_43 : mj_ins 253 43 = some (.iload_n 3) := by decide +kernel
set_option maxRecDepth 100000 in
theorem ji_253_44 : mj_ins 253 44 = some (.iload_n 1) := by decide +kernel
set_option maxRecDepth 100000 in
theorem ji_253_45 : mj_ins 253 45 = some (.iconst 0) := by decide +kernel
set_option maxRecDepth 100000 in
theorem ji_253_46 : mj_ins 253 46 = some (.aload_n 0) := by decide +kernel
set_option maxRecDepth 100000 in
theorem ji_253_47 : mj_ins 253 47 = some (.iload_n 1) := by decide +kernel
set_option maxRecDepth 100000 in
theorem ji_253_48 : mj_ins 253 48 = some (.invokevirtual 289) := by decide +kernel
set_option maxRecDepth 100000 in
theorem ji_253_51 : mj_ins 253 51 = some (.invokevirtual 317) := by decide +kernel
set_option maxRecDepth 100000 in
theorem jc_253_317 : mj_cal 253 317 = some (2, 239, 4) := by decide +kernel
set_option maxRecDepth 100000 in
theorem ji_253_0 : mj_ins 253 0 = some (.aload_n 0) := by decide +kernel
set_option maxRecDepth 100000 in
theorem ji_253_1 : mj_ins 253 1 = some (.getfield 7) := by decide +kernel
set_option maxRecDepth 100000 in
theorem ji_253_4 : mj_ins 253 4 = some (.bipush 16) := by decide +kernel
set_option maxRecDepth 100000 in
theorem ji_253_6 : mj_ins 253 6 = some (.iconst 3) := by decide +kernel
set_option maxRecDepth 100000 in
theorem ji_253_7 : mj_ins 253 7 = some (.iload_n 1) := by decide +kernel
set_option maxRecDepth 100000 in
theorem ji_253_8 : mj_ins 253 8 = some (.imul) := by decide +kernel
set_option maxRecDepth 100000 in
theorem ji_253_9 : mj_ins 253 9 = some (.iadd) := by decide +kernel
set_option maxRecDepth 100000 in
theorem ji_253_10 : mj_ins 253 10 = some (.dup2) := by decide +kernel
set_option maxRecDepth 100000 in
theorem ji_253_11 : mj_ins 253 11 = some (.iaload) := by decide +kernel
set_option maxRecDepth 100000 in
theorem ji_253_12 : mj_ins 253 12 = some (.iload_n 2) := by decide +kernel
set_option maxRecDepth 100000 in
theorem ji_253_13 : mj_ins 253 13 = some (.isub) := by decide +kernel
set_option maxRecDepth 100000 in
theorem ji_253_14 : mj_ins 253 14 = some (.iastore) := by decide +kernel
set_option maxRecDepth 100000 in
theorem ji_253_15 : mj_ins 253 15 = some (.iconst 0) := by decide +kernel
set_option maxRecDepth 100000 in
theorem ji_253_16 : mj_ins 253 16 = some (.istore_n 3) := by decide +kernel
/-! the reference's prunings; laid by program (wp_u50.py) -/
def prW (s : sg_) (p : Int) : Nat → sg_
  | 0 => s
  | w + 1 => if prW s p w 139 (16 + 3 * p) < htR (prW s p w) w p then up (prW s p w) 139 (52 + 2 * (8 * w + p) + 0) (prW s p w 139 (16 + 3 * p)) else prW s p w
def prR (s : sg_) (p n : Int) : sg_ := prW (up s 139 (16 + 3 * p) (s 139 (16 + 3 * p) - n)) p (s 139 1).toNat
theorem prW_fr {s : sg_} {p : Int} (hp : 0 ≤ p) {b : Nat} {j : Int} (h : ¬ b = 139 ∨ j < 52) : ∀ n : Nat, prW s p n b j = s b j
  | 0 => rfl
  | n + 1 => by
    show (if _ then _ else _ : sg_) b j = _
    split
    · refine Eq.trans ?_ (prW_fr hp h n)
      rcases h with h | h
      · exact up_a h
      · exact up_k (by omega)
    · exact prW_fr hp h n
theorem uc_253l {d : Nat} {u : sg_} {p n : Int} (hp : 0 ≤ p ∧ p < 8) (i1 : 0 ≤ u 139 1 ∧ u 139 1 ≤ 6) : ∀ (nn w : Nat) (h : mj_H), CS h (prW u p w) → (w : Int) ≤ u 139 1 → wl_R nn (d + 1) 253 17 [some (.ref 138), some (wp_i p), some (wp_i n), some (wp_i ((w : Int)))] [] h (fun v1 h1 => v1 = none ∧ CS h1 (prW u p (u 139 1).toNat)) := by
  intro nn
  induction nn with
  | zero => intros; exact wl_0
  | succ nn ih =>
    intro w h C hw0
    obtain ⟨t, et⟩ : ∃ t, prW u p w = t := ⟨_, rfl⟩
    rw [et] at C
    have t1 : t 139 1 = u 139 1 := by rw [← et, prW_fr hp.1 (Or.inr (by decide))]
    have rH : (w : Int) < 6 → wp_r (t 139 (52 + 2 * (8 * (w : Int) + p) + 0)) := fun q => cs_ri (k := (52 + 2 * (8 * (w : Int) + p) + 0).toNat) C (by decide) (by decide) sq_139 (by omega) rfl (by show _ < 0 + 6044; omega)
    have rT : wp_r (t 139 (16 + 3 * p)) := cs_ri (k := (16 + 3 * p).toNat) C (by decide) (by decide) sq_139 (by omega) rfl (by show _ < 0 + 6044; omega)
    obtain ⟨H, eH⟩ : ∃ H, t 139 (52 + 2 * (8 * (w : Int) + p) + 0) = H := ⟨_, rfl⟩
    obtain ⟨T, eT⟩ : ∃ T, t 139 (16 + 3 * p) = T := ⟨_, rfl⟩
    rw [eH] at rH
    rw [eT] at rT
    refine wl_s1 (pc' := 18) ji_253_17 rfl rfl rfl ?_
    refine wl_s (pc' := 19) ji_253_18 rfl rfl rfl ?_
    refine cs_gr (r := 139) (k := 0) C (by decide) sq_138 rfl ji_253_19 jf_253_7 ?_
    refine wl_s (pc' := 23) ji_253_22 rfl rfl rfl ?_
    refine cs_l (x := 1) C (by decide) (by decide) sq_139 (by omega) ji_253_23 (fun ld10 ld11 ld12 => ?_)
    rw [t1] at ld12 ⊢
    refine wl_icmp (t := 60) ji_253_24 rfl (by omega) (by omega) (fun (hb2 : (u 139 1 : Int) ≤ ((w : Int))) => ?_) (fun (hb2 : ¬ ((u 139 1 : Int) ≤ ((w : Int)))) => ?_)
    · exact wl_rv ji_253_60 jr_253 (⟨rfl, cs_mono C (by rw [← et, show w = (u 139 1).toNat by omega])⟩)
    · refine wl_s (pc' := 28) ji_253_27 rfl rfl rfl ?_
      refine wl_s (pc' := 29) ji_253_28 rfl rfl rfl ?_
      refine wl_s (pc' := 30) ji_253_29 rfl rfl rfl ?_
      refine wl_s (pc' := 31) ji_253_30 rfl rfl rfl ?_
      obtain ⟨q4, hq4⟩ := cs_c C (by decide) sq_138
      refine wl_vc (d := d) (as := [.ref 138, wp_i ((w : Int)), wp_i p, wp_i 0]) (rest := []) ji_253_31 jc_253_70 rfl hq4 jk_224.symm (Nat.le_of_ble_eq_true rfl) rfl (by rw [jn_224]; rfl) (uc_224 (d := d) C (w := (w : Int)) (p := p) (k := 0) (by omega) (by omega) (by omega)) (fun v1 h3 R => ?_)
      obtain ⟨ee, rfl⟩ := R
      rw [ee]
      clear ee
      rw [eH]
      show wl_R _ _ 253 34 [some (.ref 138), some (wp_i p), some (wp_i n), some (wp_i ((w : Int)))] [wp_i H] _ _
      refine wl_s (pc' := 35) ji_253_34 rfl rfl rfl ?_
      refine wl_s (pc' := 36) ji_253_35 rfl rfl rfl ?_
      obtain ⟨q6, hq6⟩ := cs_c C (by decide) sq_138
      refine wl_vc (d := d) (as := [.ref 138, wp_i p]) (rest := [wp_i H]) ji_253_36 jc_253_289 rfl hq6 jk_220.symm (Nat.le_of_ble_eq_true rfl) rfl (by rw [jn_220]; rfl) (uc_220 (d := d) C (p := p) (by omega)) (fun v1 h5 R => ?_)
      obtain ⟨ee, rfl⟩ := R
      rw [ee]
      clear ee
      rw [eT]
      show wl_R _ _ 253 39 [some (.ref 138), some (wp_i p), some (wp_i n), some (wp_i ((w : Int)))] [wp_i T, wp_i H] _ _
      refine wl_icmp (t := 54) ji_253_39 rfl (by omega) (by omega) (fun (hb7 : (H : Int) ≤ T) => ?_) (fun (hb7 : ¬ ((H : Int) ≤ T)) => ?_)
      · refine wl_iinc (x := (w : Int)) (z := (w : Int) + 1) (lv' := [some (.ref 138), some (wp_i p), some (wp_i n), some (wp_i ((w : Int) + 1))]) ji_253_54 rfl (Nat.le_of_ble_eq_true rfl) (by omega) rfl ?_
        refine wl_goto (t := 17) ji_253_57 rfl ?_
        rw [show (w : Int) + 1 = ((w + 1 : Nat) : Int) by omega]
        exact ih (w + 1) _ (cs_mono C (by rw [← et]; exact (if_neg (show ¬ prW u p w 139 (16 + 3 * p) < htR (prW u p w) w p by rw [et, eT]; unfold htR; rw [eH]; omega)).symm)) (by omega)
      · refine wl_s (pc' := 43) ji_253_42 rfl rfl rfl ?_
        refine wl_s (pc' := 44) ji_253_43 rfl rfl rfl ?_
        refine wl_s (pc' := 45) ji_253_44 rfl rfl rfl ?_
        refine wl_s (pc' := 46) ji_253_45 rfl rfl rfl ?_
        refine wl_s (pc' := 47) ji_253_46 rfl rfl rfl ?_
        refine wl_s (pc' := 48) ji_253_47 rfl rfl rfl ?_
        obtain ⟨q9, hq9⟩ := cs_c C (by decide) sq_138
        refine wl_vc (d := d) (as := [.ref 138, wp_i p]) (rest := [wp_i 0, wp_i p, wp_i ((w : Int)), .ref 138]) ji_253_48 jc_253_289 rfl hq9 jk_220.symm (Nat.le_of_ble_eq_true rfl) rfl (by rw [jn_220]; rfl) (uc_220 (d := d) C (p := p) (by omega)) (fun v1 h8 R => ?_)
        obtain ⟨ee, rfl⟩ := R
        rw [ee]
        clear ee
        rw [eT]
        show wl_R _ _ 253 51 [some (.ref 138), some (wp_i p), some (wp_i n), some (wp_i ((w : Int)))] [wp_i T, wp_i 0, wp_i p, wp_i ((w : Int)), .ref 138] _ _
        obtain ⟨q11, hq11⟩ := cs_c C (by decide) sq_138
        refine wl_vc (d := d) (as := [.ref 138, wp_i ((w : Int)), wp_i p, wp_i 0, wp_i T]) (rest := []) ji_253_51 jc_253_317 rfl hq11 jk_239.symm (Nat.le_of_ble_eq_true rfl) rfl (by rw [jn_239]; rfl) (uc_239 (d := d) C (w := (w : Int)) (p := p) (k := 0) (v := T) (by omega) (by omega) (by omega) (by omega)) (fun v1 h10 R => ?_)
        obtain ⟨rfl, C⟩ := R
        obtain ⟨s12, es12⟩ : ∃ z9_, up t 139 (52 + 2 * (8 * (w : Int) + p) + 0) T = z9_ := ⟨_, rfl⟩
        rw [es12] at C
        show wl_R _ _ 253 54 [some (.ref 138), some (wp_i p), some (wp_i n), some (wp_i ((w : Int)))] [] h10 _
        refine wl_iinc (x := (w : Int)) (z := (w : Int) + 1) (lv' := [some (.ref 138), some (wp_i p), some (wp_i n), some (wp_i ((w : Int) + 1))]) ji_253_54 rfl (Nat.le_of_ble_eq_true rfl) (by omega) rfl ?_
        refine wl_goto (t := 17) ji_253_57 rfl ?_
        rw [show (w : Int) + 1 = ((w + 1 : Nat) : Int) by omega]
        exact ih (w + 1) _ (cs_mono C (by rw [← es12, ← eT, ← et]; exact (if_pos (show prW u p w 139 (16 + 3 * p) < htR (prW u p w) w p by rw [et, eT]; unfold htR; rw [eH]; omega)).symm)) (by omega)
theorem uc_253 {nn d : Nat} {h : mj_H} {s : sg_} (C : CS h s) (i1 : 0 ≤ s 139 1 ∧ s 139 1 ≤ 6) {p n : Int} (hp : 0 ≤ p ∧ p < 8) (ha : 0 ≤ s 139 (16 + 3 * p) ∧ s 139 (16 + 3 * p) ≤ 99) (hn : 0 ≤ n ∧ n ≤ 99) : wl_R nn (d + 1) 253 0 [some (.ref 138), some (wp_i p), some (wp_i n), none] [] h (fun v1 h1 => v1 = none ∧ CS h1 (prR s p n)) := by
  refine wl_s (pc' := 1) ji_253_0 rfl rfl rfl ?_
  refine cs_gr (r := 139) (k := 0) C (by decide) sq_138 rfl ji_253_1 jf_253_7 ?_
  refine wl_bp ji_253_4 rfl ?_
  refine wl_s (pc' := 7) ji_253_6 rfl rfl rfl ?_
  refine wl_s (pc' := 8) ji_253_7 rfl rfl rfl ?_
  refine wl_imul (x := 3) (y := p) (z := 3 * p) ji_253_8 (by omega) ?_
  refine wl_iadd (x := 16) (y := 3 * p) (z := 16 + (3 * p)) ji_253_9 (by omega) ?_
  refine wl_s (pc' := 11) ji_253_10 rfl rfl rfl ?_
  refine cs_l (x := 16 + (3 * p)) C (by decide) (by decide) sq_139 (by omega) ji_253_11 (fun ld10 ld11 ld12 => ?_)
  refine wl_s (pc' := 13) ji_253_12 rfl rfl rfl ?_
  refine wl_isub (x := s 139 (16 + (3 * p))) (y := n) (z := s 139 (16 + (3 * p)) - n) ji_253_13 (by omega) ?_
  refine cs_s (x := 16 + (3 * p)) (y := s 139 (16 + (3 * p)) - n) C (by decide) sq_139 (by omega) (by omega) ji_253_14 (fun h st20 st21 C => ?_)
  obtain ⟨s3, es3⟩ : ∃ z9_, up s 139 (16 + (3 * p)) (s 139 (16 + (3 * p)) - n) = z9_ := ⟨_, rfl⟩
  rw [es3] at C
  refine wl_s (pc' := 16) ji_253_15 rfl rfl rfl ?_
  refine wl_s (pc' := 17) (lv' := [some (.ref 138), some (wp_i p), some (wp_i n), some (wp_i 0)]) ji_253_16 rfl rfl rfl ?_
  have ev1 : s3 139 1 = s 139 1 := by rw [← es3, up_k (by omega)]
  refine wl_mono (uc_253l (u := s3) hp (by omega) nn 0 _ C (by omega)) (fun v1 h1 R => ⟨R.1, cs_mono R.2 ?_⟩)
  unfold prR; rw [es3, ev1]
