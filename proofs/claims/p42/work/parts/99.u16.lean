/-! -/
/-! -/
set_option maxRecDepth 100000 in
theorem ji_58_18 : mj_ins 58 18 = some (.iload_n 3) := by decide +kernel
set_option maxRecDepth 100000 in
theorem ji_58_19 : mj_ins 58 19 = some (.iload_n 2) := by decide +kernel
set_option maxRecDepth 100000 in
theorem ji_58_20 : mj_ins 58 20 = some (.if_icmp .ge 17) := by decide +kernel
set_option maxRecDepth 100000 in
theorem ji_58_37 : mj_ins 58 37 = some (.iload_n 2) := by decide +kernel
set_option maxRecDepth 100000 in
theorem ji_58_38 : mj_ins 58 38 = some (.iload_n 1) := by decide +kernel
set_option maxRecDepth 100000 in
theorem ji_58_39 : mj_ins 58 39 = some (.if_icmp .ne 7) := by decide +kernel
set_option maxRecDepth 100000 in
theorem ji_58_46 : mj_ins 58 46 = some (.iconst 0) := by decide +kernel
set_option maxRecDepth 100000 in
theorem ji_58_47 : mj_ins 58 47 = some (.ireturn) := by decide +kernel
set_option maxRecDepth 100000 in
theorem jr_58 : mj_ret 58 = some .boolean := by decide +kernel
set_option maxRecDepth 100000 in
theorem ji_58_42 : mj_ins 58 42 = some (.iconst 1) := by decide +kernel
set_option maxRecDepth 100000 in
theorem ji_58_43 : mj_ins 58 43 = some (.goto 4) := by decide +kernel
set_option maxRecDepth 100000 in
theorem ji_58_23 : mj_ins 58 23 = some (.aload_n 0) := by decide +kernel
set_option maxRecDepth 100000 in
theorem ji_58_24 : mj_ins 58 24 = some (.invokevirtual 108) := by decide +kernel
set_option maxRecDepth 100000 in
theorem jc_58_108 : mj_cal 58 108 = some (2, 59, 0) := by decide +kernel
set_option maxRecDepth 100000 in
theorem jn_59 : mj_nl 59 = 1 := by decide +kernel
set_option maxRecDepth 100000 in
theorem jk_59 : mj_cls 59 = 2 := by decide +kernel
set_option maxRecDepth 100000 in
theorem ji_58_27 : mj_ins 58 27 = some (.aload_n 0) := by decide +kernel
set_option maxRecDepth 100000 in
theorem ji_58_28 : mj_ins 58 28 = some (.invokevirtual 111) := by decide +kernel
set_option maxRecDepth 100000 in
theorem jc_58_111 : mj_cal 58 111 = some (2, 61, 0) := by decide +kernel
set_option maxRecDepth 100000 in
theorem jn_61 : mj_nl 61 = 3 := by decide +kernel
set_option maxRecDepth 100000 in
theorem jk_61 : mj_cls 61 = 2 := by decide +kernel
set_option maxRecDepth 100000 in
theorem ji_58_31 : mj_ins 58 31 = some (.iinc 3 1) := by decide +kernel
set_option maxRecDepth 100000 in
theorem ji_58_34 : mj_ins 58 34 = some (.goto (-16)) := by decide +kernel
set_option maxRecDepth 100000 in
theorem ji_58_0 : mj_ins 58 0 = some (.iload_n 1) := by decide +kernel
set_option maxRecDepth 100000 in
theorem ji_58_1 : mj_ins 58 1 = some (.sipush 9999) := by decide +kernel
set_option maxRecDepth 100000 in
theorem ji_58_4 : mj_ins 58 4 = some (.aload_n 0) := by decide +kernel
set_option maxRecDepth 100000 in
theorem ji_58_5 : mj_ins 58 5 = some (.getfield 12) := by decide +kernel
set_option maxRecDepth 100000 in
theorem jf_58_12 : mj_fld 58 12 = some (2, 0, (.object "ForestOfPoles$Forest"), false) := by decide +kernel
set_option maxRecDepth 100000 in
theorem ji_58_8 : mj_ins 58 8 = some (.getfield 81) := by decide +kernel
set_option maxRecDepth 100000 in
theorem jf_58_81 : mj_fld 58 81 = some (3, 10, .int, true) := by decide +kernel
set_option maxRecDepth 100000 in
theorem ji_58_11 : mj_ins 58 11 = some (.isub) := by decide +kernel
set_option maxRecDepth 100000 in
theorem ji_58_12 : mj_ins 58 12 = some (.invokestatic 102) := by decide +kernel
set_option maxRecDepth 100000 in
theorem jc_58_102 : mj_cal 58 102 = some (11, 0, 0) := by decide +kernel
set_option maxRecDepth 100000 in
theorem ji_58_15 : mj_ins 58 15 = some (.istore_n 2) := by decide +kernel
set_option maxRecDepth 100000 in
theorem ji_58_16 : mj_ins 58 16 = some (.iconst 0) := by decide +kernel
set_option maxRecDepth 100000 in
theorem ji_58_17 : mj_ins 58 17 = some (.istore_n 3) := by decide +kernel
/-! n hours with their steps, in the class; laid by program (wp_u16.py) -/
theorem cpy_fr {s : sg_} {a0 a1 : Nat} {sp dp n : Int} {b : Nat} {j : Int} (h : ¬ b = a1) : cpy s a0 sp a1 dp n b j = s b j := if_neg (fun z => h z.1)
theorem kpR_fr {s : sg_} {a : Int} {b : Nat} {j : Int} (h9 : ¬ b = 59) (h0 : ¬ b = 60) : kpR s a b j = s b j := by
  unfold kpR
  rw [cpy_fr h0, cpy_fr h0, cpy_fr h0, cpy_fr h0, cpy_fr h0, up_a h0, up_a h0, up_a h0, up_a h0, up_a h0, up_a h0, up_a h9]
theorem kpR_59 {s : sg_} {a : Int} {j : Int} : kpR s a 59 j = up s 59 2 (s 59 2 + 1) 59 j := by
  unfold kpR
  rw [cpy_fr (by decide), cpy_fr (by decide), cpy_fr (by decide), cpy_fr (by decide), cpy_fr (by decide), up_a (by decide), up_a (by decide), up_a (by decide), up_a (by decide), up_a (by decide), up_a (by decide)]
theorem kpP_fr {s : sg_} {b : Nat} {j : Int} (h9 : ¬ b = 59) : kpP s b j = s b j := by
  unfold kpP
  split
  · rw [up_a h9, up_a h9]
  · rfl
theorem keepC_fr {s : sg_} {b : Nat} {j : Int} (h9 : ¬ b = 59) (h0 : ¬ b = 60) : keepC s b j = s b j := (kpR_fr h9 h0).trans (kpP_fr h9)
theorem keepC_59 (s : sg_) : (s 59 2 = 30 ∧ keepC s 59 1 = (s 59 1 + 1) % 30 ∧ keepC s 59 2 = 30) ∨ (¬ s 59 2 = 30 ∧ keepC s 59 1 = s 59 1 ∧ keepC s 59 2 = s 59 2 + 1) := by
  unfold keepC
  rw [kpR_59, kpR_59, up_k (by decide), up_e]
  by_cases h : s 59 2 = 30
  · refine Or.inl ⟨h, ?_, ?_⟩
    · unfold kpP
      rw [if_pos h, up_k (by decide), up_e]
    · unfold kpP
      rw [if_pos h, up_e]
      rfl
  · refine Or.inr ⟨h, ?_, ?_⟩ <;> (unfold kpP; rw [if_neg h])
theorem IG_f {s s1 : sg_} {F : Nat} (e : ∀ (b : Nat) (j : Int), F ≤ b → b ≤ F + 7 → s1 b j = s b j) (G : IG s F) : IG s1 F := ⟨IF_f e G.1, fun k a b c => by
  rw [e (F + 7) k (by omega) (by omega)]
  rw [e (F + 6) k (by omega) (by omega)] at c
  exact G.2 k a b c⟩
theorem keepC_NV {tc : tcs} {s : sg_} (N : NV s tc) : NV (keepC s) tc := by
  have he := N.e
  have hc := N.c
  have h := keepC_59 s
  exact NV_f N (fun b j hb => keepC_fr (by omega) (by omega)) (IG_f (fun b j h1 h2 => keepC_fr (by omega) (by omega)) N.g) (by rw [keepC_fr (by decide) (by decide)]; exact N.h) (by rw [keepC_fr (by decide) (by decide)]; exact N.b) (by omega)
def hrsC (tc : tcs) (s : sg_) : Nat → sg_
  | 0 => s
  | n + 1 => hrC tc (keepC (hrsC tc s n))
theorem hrsC_10 {tc : tcs} {s : sg_} : ∀ n : Nat, hrsC tc s n 48 10 = s 48 10 + n
  | 0 => by show s 48 10 = s 48 10 + ((0 : Nat) : Int); omega
  | n + 1 => by
    show hrC tc (keepC (hrsC tc s n)) 48 10 = _
    rw [hrC_10, keepC_fr (by decide) (by decide), hrsC_10 n]
    omega
theorem hrsC_NV {tc : tcs} {s : sg_} (N : NV s tc) : ∀ n : Nat, s 48 10 + n ≤ 9999 → NV (hrsC tc s n) tc
  | 0, _ => N
  | n + 1, h => hrC_NV (keepC_NV (hrsC_NV N n (by omega))) (by rw [keepC_fr (by decide) (by decide), hrsC_10]; omega)
theorem uc_58l {d : Nat} {s : sg_} {tc : tcs} (N0 : NV s tc) {n can : Int} (hn : wp_r n) (hc : can ≤ n ∧ s 48 10 + can ≤ 9999) (hcr : wp_r can) : ∀ (nn i : Nat) (h : mj_H), CS h (hrsC tc s i) → ((i : Int) ≤ can ∨ (i = 0 ∧ can < 0)) → wl_R nn (d + 6) 58 18 [some (.ref 47), some (wp_i n), some (wp_i can), some (wp_i ((i : Int)))] [] h (fun v1 h1 => ∃ y : Int, v1 = some (wp_i y) ∧ (y = 0 ∨ y = 1) ∧ (y = 1 ↔ can = n) ∧ CS h1 (hrsC tc s can.toNat)) := by
  intro nn
  induction nn with
  | zero => intros; exact wl_0
  | succ nn ih =>
    intro i h C hi
    have h10 := N0.g.1.2.2.2.2.2.2.2.1
    have N : s 48 10 + (i : Int) ≤ 9999 → NV (hrsC tc s i) tc := fun q => hrsC_NV N0 i q
    have N := N (by have := N0.h; omega)
    refine wl_s1 (pc' := 19) ji_58_18 rfl rfl rfl ?_
    refine wl_s (pc' := 20) ji_58_19 rfl rfl rfl ?_
    refine wl_icmp (t := 37) ji_58_20 rfl (by omega) (by omega) (fun (hb1 : (can : Int) ≤ ((i : Int))) => ?_) (fun (hb1 : ¬ ((can : Int) ≤ ((i : Int)))) => ?_)
    · refine wl_s (pc' := 38) ji_58_37 rfl rfl rfl ?_
      refine wl_s (pc' := 39) ji_58_38 rfl rfl rfl ?_
      refine wl_icmp (t := 46) ji_58_39 rfl (by omega) (by omega) (fun (hb2 : ¬ (can : Int) = n) => ?_) (fun (hb2 : ¬ (¬ (can : Int) = n)) => ?_)
      · refine wl_s (pc' := 47) ji_58_46 rfl rfl rfl ?_
        exact wl_ri ji_58_47 jr_58 (pv_nb (by omega)) (⟨0, rfl, by omega, by omega, cs_mono C (by rw [show i = can.toNat by omega])⟩)
      · refine wl_s (pc' := 43) ji_58_42 rfl rfl rfl ?_
        refine wl_goto (t := 47) ji_58_43 rfl ?_
        exact wl_ri ji_58_47 jr_58 (pv_nb (by omega)) (⟨1, rfl, by omega, by omega, cs_mono C (by rw [show i = can.toNat by omega])⟩)
    · refine wl_s (pc' := 24) ji_58_23 rfl rfl rfl ?_
      obtain ⟨q4, hq4⟩ := cs_c C (by decide) sq_47
      refine wl_vc (d := d + 5) (as := [.ref 47]) (rest := []) ji_58_24 jc_58_108 rfl hq4 jk_59.symm (Nat.le_of_ble_eq_true rfl) rfl (by rw [jn_59]; rfl) (uc_59 (d := d + 4) C N.e N.c) (fun v1 h3 R => ?_)
      obtain ⟨rfl, C⟩ := R
      show wl_R _ _ 58 27 [some (.ref 47), some (wp_i n), some (wp_i can), some (wp_i ((i : Int)))] [] h3 _
      refine wl_s (pc' := 28) ji_58_27 rfl rfl rfl ?_
      obtain ⟨q6, hq6⟩ := cs_c C (by decide) sq_47
      refine wl_vc (d := d + 5) (as := [.ref 47]) (rest := []) ji_58_28 jc_58_111 rfl hq6 jk_61.symm (Nat.le_of_ble_eq_true rfl) rfl (by rw [jn_61]; rfl) (uc_61 (d := d) C (keepC_NV N) (by rw [keepC_fr (by decide) (by decide), hrsC_10]; omega)) (fun v1 h5 R => ?_)
      obtain ⟨rfl, C⟩ := R
      show wl_R _ _ 58 31 [some (.ref 47), some (wp_i n), some (wp_i can), some (wp_i ((i : Int)))] [] h5 _
      refine wl_iinc (x := (i : Int)) (z := (i : Int) + 1) (lv' := [some (.ref 47), some (wp_i n), some (wp_i can), some (wp_i ((i : Int) + 1))]) ji_58_31 rfl (Nat.le_of_ble_eq_true rfl) (by omega) rfl ?_
      refine wl_goto (t := 18) ji_58_34 rfl ?_
      rw [show (i : Int) + 1 = ((i + 1 : Nat) : Int) by omega]
      exact ih (i + 1) _ C (by omega)
theorem uc_58 {nn d : Nat} {h : mj_H} {s : sg_} (C : CS h s) {tc : tcs} (N : NV s tc) {n : Int} (hn : wp_r n) : wl_R nn (d + 6) 58 0 [some (.ref 47), some (wp_i n), none, none] [] h (fun v1 h1 => ∃ y : Int, v1 = some (wp_i y) ∧ (y = 0 ∨ y = 1) ∧ (y = 1 ↔ min n (9999 - s 48 10) = n) ∧ CS h1 (hrsC tc s (min n (9999 - s 48 10)).toNat)) := by
  have h10 := N.g.1.2.2.2.2.2.2.2.1
  have hN := N.h
  refine wl_s (pc' := 1) ji_58_0 rfl rfl rfl ?_
  refine wl_sp ji_58_1 rfl ?_
  refine wl_s (pc' := 5) ji_58_4 rfl rfl rfl ?_
  refine cs_gr (r := 48) (k := 0) C (by decide) sq_47 rfl ji_58_5 jf_58_12 ?_
  refine cs_gi (k := 10) (kI := 10) C (by decide) (by decide) sq_48 rfl rfl ji_58_8 jf_58_81 ?_
  have bd1 : wp_r (s 48 10) := cs_ri (k := 10) (kI := 10) C (by decide) (by decide) sq_48 rfl rfl (show 10 < 13 by decide)
  refine wl_isub (x := 9999) (y := s 48 10) (z := 9999 - (s 48 10)) ji_58_11 (by omega) ?_
  refine wl_mn (a := n) (b := 9999 - (s 48 10)) ji_58_12 jc_58_102 (Nat.le_of_ble_eq_true rfl) (by omega) (by omega) ?_
  refine wl_s (pc' := 16) (lv' := [some (.ref 47), some (wp_i n), some (wp_i (min n (9999 - (s 48 10)))), none]) ji_58_15 rfl rfl rfl ?_
  refine wl_s (pc' := 17) ji_58_16 rfl rfl rfl ?_
  refine wl_s (pc' := 18) (lv' := [some (.ref 47), some (wp_i n), some (wp_i (min n (9999 - (s 48 10)))), some (wp_i 0)]) ji_58_17 rfl rfl rfl ?_
  exact uc_58l N hn (by omega) (by omega) nn 0 _ C (by omega)
