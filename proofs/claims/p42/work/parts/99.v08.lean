/-! -/
set_option maxRecDepth 100000 in
theorem ji_287_14 : mj_ins 287 14 = some (.iload_n 3) := by decide +kernel
set_option maxRecDepth 100000 in
theorem ji_287_15 : mj_ins 287 15 = some (.aload_n 0) := by decide +kernel
set_option maxRecDepth 100000 in
theorem ji_287_16 : mj_ins 287 16 = some (.iload_n 1) := by decide +kernel
set_option maxRecDepth 100000 in
theorem ji_287_17 : mj_ins 287 17 = some (.invokevirtual 289) := by decide +kernel
set_option maxRecDepth 100000 in
theorem jc_287_289 : mj_cal 287 289 = some (2, 220, 1) := by decide +kernel
set_option maxRecDepth 100000 in
theorem ji_287_20 : mj_ins 287 20 = some (.if_icmp .ge 44) := by decide +kernel
set_option maxRecDepth 100000 in
theorem ji_287_64 : mj_ins 287 64 = some (.iload_n 2) := by decide +kernel
set_option maxRecDepth 100000 in
theorem ji_287_65 : mj_ins 287 65 = some (.ireturn) := by decide +kernel
set_option maxRecDepth 100000 in
theorem jr_287 : mj_ret 287 = some .int := by decide +kernel
set_option maxRecDepth 100000 in
theorem ji_287_23 : mj_ins 287 23 = some (.iload_n 2) := by decide +kernel
set_option maxRecDepth 100000 in
theorem ji_287_24 : mj_ins 287 24 = some (.iconst (-1)) := by decide +kernel
set_option maxRecDepth 100000 in
theorem ji_287_25 : mj_ins 287 25 = some (.if_icmp .ne 39) := by decide +kernel
set_option maxRecDepth 100000 in
theorem ji_287_28 : mj_ins 287 28 = some (.aload_n 0) := by decide +kernel
set_option maxRecDepth 100000 in
theorem ji_287_29 : mj_ins 287 29 = some (.invokevirtual 400) := by decide +kernel
set_option maxRecDepth 100000 in
theorem jc_287_400 : mj_cal 287 400 = some (2, 273, 0) := by decide +kernel
set_option maxRecDepth 100000 in
theorem ji_287_32 : mj_ins 287 32 = some (.aload_n 0) := by decide +kernel
set_option maxRecDepth 100000 in
theorem ji_287_33 : mj_ins 287 33 = some (.iload_n 1) := by decide +kernel
set_option maxRecDepth 100000 in
theorem ji_287_34 : mj_ins 287 34 = some (.iload_n 3) := by decide +kernel
set_option maxRecDepth 100000 in
theorem ji_287_35 : mj_ins 287 35 = some (.invokevirtual 357) := by decide +kernel
set_option maxRecDepth 100000 in
theorem jc_287_357 : mj_cal 287 357 = some (2, 253, 2) := by decide +kernel
set_option maxRecDepth 100000 in
theorem ji_287_38 : mj_ins 287 38 = some (.aload_n 0) := by decide +kernel
set_option maxRecDepth 100000 in
theorem ji_287_39 : mj_ins 287 39 = some (.invokevirtual 327) := by decide +kernel
set_option maxRecDepth 100000 in
theorem jc_287_327 : mj_cal 287 327 = some (2, 242, 0) := by decide +kernel
set_option maxRecDepth 100000 in
theorem ji_287_42 : mj_ins 287 42 = some (.aload_n 0) := by decide +kernel
set_option maxRecDepth 100000 in
theorem ji_287_43 : mj_ins 287 43 = some (.getfield 7) := by decide +kernel
set_option maxRecDepth 100000 in
theorem jf_287_7 : mj_fld 287 7 = some (11, 0, (.array .int), false) := by decide +kernel
set_option maxRecDepth 100000 in
theorem ji_287_46 : mj_ins 287 46 = some (.bipush 10) := by decide +kernel
set_option maxRecDepth 100000 in
theorem ji_287_48 : mj_ins 287 48 = some (.iaload) := by decide +kernel
set_option maxRecDepth 100000 in
theorem ji_287_49 : mj_ins 287 49 = some (.if_icmp .eq 5) := by decide +kernel
set_option maxRecDepth 100000 in
theorem ji_287_54 : mj_ins 287 54 = some (.aload_n 0) := by decide +kernel
set_option maxRecDepth 100000 in
theorem ji_287_55 : mj_ins 287 55 = some (.invokevirtual 403) := by decide +kernel
set_option maxRecDepth 100000 in
theorem jc_287_403 : mj_cal 287 403 = some (2, 274, 0) := by decide +kernel
set_option maxRecDepth 100000 in
theorem ji_287_58 : mj_ins 287 58 = some (.iinc 3 1) := by decide +kernel
set_option maxRecDepth 100000 in
theorem ji_287_61 : mj_ins 287 61 = some (.goto (-47)) := by decide +kernel
set_option maxRecDepth 100000 in
theorem ji_287_52 : mj_ins 287 52 = some (.iload_n 3) := by decide +kernel
set_option maxRecDepth 100000 in
theorem ji_287_53 : mj_ins 287 53 = some (.istore_n 2) := by decide +kernel
set_option maxRecDepth 100000 in
theorem ji_287_0 : mj_ins 287 0 = some (.aload_n 0) := by decide +kernel
set_option maxRecDepth 100000 in
theorem ji_287_1 : mj_ins 287 1 = some (.iload_n 1) := by decide +kernel
set_option maxRecDepth 100000 in
theorem ji_287_2 : mj_ins 287 2 = some (.invokevirtual 348) := by decide +kernel
set_option maxRecDepth 100000 in
theorem jc_287_348 : mj_cal 287 348 = some (2, 248, 1) := by decide +kernel
set_option maxRecDepth 100000 in
theorem ji_287_5 : mj_ins 287 5 = some (.ifCond .ne 5) := by decide +kernel
set_option maxRecDepth 100000 in
theorem ji_287_10 : mj_ins 287 10 = some (.iconst (-1)) := by decide +kernel
set_option maxRecDepth 100000 in
theorem ji_287_11 : mj_ins 287 11 = some (.istore_n 2) := by decide +kernel
set_option maxRecDepth 100000 in
theorem ji_287_12 : mj_ins 287 12 = some (.iconst 0) := by decide +kernel
set_option maxRecDepth 100000 in
theorem ji_287_13 : mj_ins 287 13 = some (.istore_n 3) := by decide +kernel
set_option maxRecDepth 100000 in
theorem ji_287_8 : mj_ins 287 8 = some (.iconst (-1)) := by decide +kernel
set_option maxRecDepth 100000 in
theorem ji_287_9 : mj_ins 287 9 = some (.ireturn) := by decide +kernel
/-! the reference's strings; laid by program (wp_v08.py) -/
theorem prR_o {s : sg_} {p n : Int} (hp : 0 ≤ p ∧ p < 8) (i1 : 0 ≤ s 139 1 ∧ s 139 1 ≤ 6) {b : Nat} {j : Int} (hb : ¬ (b = 139 ∧ 8 ≤ j ∧ j < 148)) : prR s p n b j = s b j := by
  by_cases q : ¬ b = 139 ∨ j < 8
  · exact prR_j hp (by omega)
  · have e : b = 139 := by omega
    subst e
    exact prR_k hp i1 (by omega)
/-- the least pull, from i on -/
def lpR (cr : crs) (s : sg_) (p : Int) (n : Int) : Nat → Nat → Int
  | 0, _ => -1
  | k + 1, i => if (i : Int) < n then (if holdR (prR (bgR s) p (i : Int)) cr = s 139 10 then lpR cr s p n k (i + 1) else (i : Int)) else -1
theorem uc_287e {nn d : Nat} {h : mj_H} {s t : sg_} {p x i : Int} (C : CS h t) (hp : 0 ≤ p ∧ p < 8) (hx : 0 ≤ x ∧ x ≤ 99) (hi : wp_r i) (hr : 0 ≤ s 139 (16 + 3 * p) ∧ s 139 (16 + 3 * p) ≤ 99) (ft : ∀ (b : Nat) (j : Int), ¬ (b = 147 ∧ 8 ≤ j ∧ j < 148) → ¬ (b = 138 ∧ j = 25) → t b j = s b j) : wl_R nn (d + 7) 287 14 [some (.ref 138), some (wp_i p), some (wp_i x), some (wp_i i)] [] h (fun v1 h1 => v1 = some (wp_i x) ∧ ∃ t, CS h1 t ∧ ∀ (b : Nat) (j : Int), ¬ (b = 147 ∧ 8 ≤ j ∧ j < 148) → ¬ (b = 138 ∧ j = 25) → t b j = s b j) := by
  have et : t 139 (16 + 3 * p) = s 139 (16 + 3 * p) := ft _ _ (by omega) (by omega)
  refine wl_s (pc' := 15) ji_287_14 rfl rfl rfl ?_
  refine wl_s (pc' := 16) ji_287_15 rfl rfl rfl ?_
  refine wl_s (pc' := 17) ji_287_16 rfl rfl rfl ?_
  obtain ⟨q2, hq2⟩ := cs_c C (by decide) sq_138
  refine wl_vc (d := d + 6) (as := [.ref 138, wp_i p]) (rest := [wp_i i]) ji_287_17 jc_287_289 rfl hq2 jk_220.symm (Nat.le_of_ble_eq_true rfl) rfl (by rw [jn_220]; rfl) (uc_220 (d := d + 6) C hp) (fun v1 h1 R => ?_)
  obtain ⟨ee, rfl⟩ := R
  rw [ee]
  clear ee
  show wl_R _ _ 287 20 [some (.ref 138), some (wp_i p), some (wp_i x), some (wp_i i)] [wp_i (t 139 (16 + 3 * p)), wp_i i] _ _
  rw [et]
  refine wl_icmp (t := 64) ji_287_20 rfl (by omega) (by omega) (fun (hb3 : (s 139 (16 + 3 * p) : Int) ≤ i) => ?_) (fun (hb3 : ¬ ((s 139 (16 + 3 * p) : Int) ≤ i)) => ?_)
  · refine wl_s (pc' := 65) ji_287_64 rfl rfl rfl ?_
    exact wl_ri ji_287_65 jr_287 rfl (⟨rfl, t, C, ft⟩)
  · refine wl_s (pc' := 24) ji_287_23 rfl rfl rfl ?_
    refine wl_s (pc' := 25) ji_287_24 rfl rfl rfl ?_
    refine wl_icmp (t := 64) ji_287_25 rfl (by omega) (by omega) (fun (hb4 : ¬ (x : Int) = (-1)) => ?_) (fun (hb4 : ¬ (¬ (x : Int) = (-1))) => (by exfalso; omega))
    refine wl_s (pc' := 65) ji_287_64 rfl rfl rfl ?_
    exact wl_ri ji_287_65 jr_287 rfl (⟨rfl, t, C, ft⟩)
theorem uc_287l {d : Nat} {s : sg_} {cr : crs} {M p n : Int} (B : RT (bgR s) cr M) (hp : 0 ≤ p ∧ p < 8) (hn : 0 ≤ n ∧ n ≤ 99) (en : s 139 (16 + 3 * p) = n) : ∀ (nn i : Nat) (h : mj_H) (t : sg_), CS h t → (i : Int) ≤ n → (∀ (b : Nat) (j : Int), ¬ (b = 147 ∧ 8 ≤ j ∧ j < 148) → ¬ (b = 138 ∧ j = 25) → t b j = s b j) → wl_R nn (d + 7) 287 14 [some (.ref 138), some (wp_i p), some (wp_i (-1)), some (wp_i ((i : Int)))] [] h (fun v1 h1 => v1 = some (wp_i (lpR cr s p n (n.toNat - i) i)) ∧ ∃ t, CS h1 t ∧ ∀ (b : Nat) (j : Int), ¬ (b = 147 ∧ 8 ≤ j ∧ j < 148) → ¬ (b = 138 ∧ j = 25) → t b j = s b j) := by
  intro nn
  induction nn with
  | zero => intros; exact wl_0
  | succ nn ih =>
    intro i h t C hi ft
    have et : t 139 (16 + 3 * p) = s 139 (16 + 3 * p) := ft _ _ (by omega) (by omega)
    have eb : bgR s 139 (16 + 3 * p) = s 139 (16 + 3 * p) := bgR_fr (by omega) (by omega)
    have b10 := B.rs.g.d
    have e10b : bgR s 139 10 = s 139 10 := bgR_fr (by omega) (by omega)
    refine wl_s1 (pc' := 15) ji_287_14 rfl rfl rfl ?_
    refine wl_s (pc' := 16) ji_287_15 rfl rfl rfl ?_
    refine wl_s (pc' := 17) ji_287_16 rfl rfl rfl ?_
    obtain ⟨q2, hq2⟩ := cs_c C (by decide) sq_138
    refine wl_vc (d := d + 6) (as := [.ref 138, wp_i p]) (rest := [wp_i ((i : Int))]) ji_287_17 jc_287_289 rfl hq2 jk_220.symm (Nat.le_of_ble_eq_true rfl) rfl (by rw [jn_220]; rfl) (uc_220 (d := d + 6) C hp) (fun v1 h1 R => ?_)
    obtain ⟨ee, rfl⟩ := R
    rw [ee]
    clear ee
    show wl_R _ _ 287 20 [some (.ref 138), some (wp_i p), some (wp_i (-1)), some (wp_i ((i : Int)))] [wp_i (t 139 (16 + 3 * p)), wp_i ((i : Int))] _ _
    rw [et]
    refine wl_icmp (t := 64) ji_287_20 rfl (by omega) (by omega) (fun (hb3 : (s 139 (16 + 3 * p) : Int) ≤ ((i : Int))) => ?_) (fun (hb3 : ¬ ((s 139 (16 + 3 * p) : Int) ≤ ((i : Int)))) => ?_)
    · refine wl_s (pc' := 65) ji_287_64 rfl rfl rfl ?_
      exact wl_ri ji_287_65 jr_287 rfl (⟨congrArg (fun z => some (wp_i z)) (by rw [show n.toNat - i = 0 by omega]; rfl), t, C, ft⟩)
    · refine wl_s (pc' := 24) ji_287_23 rfl rfl rfl ?_
      refine wl_s (pc' := 25) ji_287_24 rfl rfl rfl ?_
      refine wl_icmp (t := 64) ji_287_25 rfl (by omega) (by omega) (fun (hb4 : ¬ (-1 : Int) = (-1)) => (by exfalso; omega)) (fun (hb4 : ¬ (¬ (-1 : Int) = (-1))) => ?_)
      refine wl_s (pc' := 29) ji_287_28 rfl rfl rfl ?_
      obtain ⟨q6, hq6⟩ := cs_c C (by decide) sq_138
      refine wl_vc (d := d + 6) (as := [.ref 138]) (rest := []) ji_287_29 jc_287_400 rfl hq6 jk_273.symm (Nat.le_of_ble_eq_true rfl) rfl (by rw [jn_273]; rfl) (uc_273 (d := d + 6) C) (fun v1 h5 R => ?_)
      obtain ⟨rfl, C⟩ := R
      rw [bg_same ft] at C
      show wl_R _ _ 287 32 [some (.ref 138), some (wp_i p), some (wp_i (-1)), some (wp_i ((i : Int)))] [] h5 _
      refine wl_s (pc' := 33) ji_287_32 rfl rfl rfl ?_
      refine wl_s (pc' := 34) ji_287_33 rfl rfl rfl ?_
      refine wl_s (pc' := 35) ji_287_34 rfl rfl rfl ?_
      obtain ⟨q8, hq8⟩ := cs_c C (by decide) sq_138
      refine wl_vc (d := d + 6) (as := [.ref 138, wp_i p, wp_i ((i : Int))]) (rest := []) ji_287_35 jc_287_357 rfl hq8 jk_253.symm (Nat.le_of_ble_eq_true rfl) rfl (by rw [jn_253]; rfl) (uc_253 (d := d + 5) C B.rs.g.w0 hp (by omega) (by omega)) (fun v1 h7 R => ?_)
      obtain ⟨rfl, C⟩ := R
      have B3 : RS (prR (bgR s) p (i : Int)) cr := RS_f B.rs (prR_RG B.rs.g hp (by omega) (by omega)) (prR_j hp (by omega)) (fun j => prR_j hp (by omega))
      have e10 : prR (bgR s) p (i : Int) 139 10 = s 139 10 := (prR_j hp (by omega)).trans (bgR_fr (by omega) (by omega))
      show wl_R _ _ 287 38 [some (.ref 138), some (wp_i p), some (wp_i (-1)), some (wp_i ((i : Int)))] [] h7 _
      refine wl_s (pc' := 39) ji_287_38 rfl rfl rfl ?_
      obtain ⟨q10, hq10⟩ := cs_c C (by decide) sq_138
      refine wl_vc (d := d + 6) (as := [.ref 138]) (rest := []) ji_287_39 jc_287_327 rfl hq10 jk_242.symm (Nat.le_of_ble_eq_true rfl) rfl (by rw [jn_242]; rfl) (uc_242 (d := d) C (RS_R B3)) (fun v1 h9 R => ?_)
      obtain ⟨rfl, C⟩ := R
      have hr := holdR_r (s := prR (bgR s) p (i : Int)) (cr := cr) B3.g.w0.2
      obtain ⟨hh, ehh⟩ : ∃ z9_, holdR (prR (bgR s) p (i : Int)) cr = z9_ := ⟨_, rfl⟩
      rw [ehh] at hr ⊢
      show wl_R _ _ 287 42 [some (.ref 138), some (wp_i p), some (wp_i (-1)), some (wp_i ((i : Int)))] [wp_i hh] h9 _
      refine wl_s (pc' := 43) ji_287_42 rfl rfl rfl ?_
      refine cs_gr (r := 139) (k := 0) C (by decide) sq_138 rfl ji_287_43 jf_287_7 ?_
      refine wl_bp ji_287_46 rfl ?_
      refine cs_l (x := 10) C (by decide) (by decide) sq_139 (by omega) ji_287_48 (fun ld110 ld111 ld112 => ?_)
      rw [e10] at ld112 ⊢
      refine wl_icmp (t := 54) ji_287_49 rfl (by omega) (by omega) (fun (hb12 : (hh : Int) = (s 139 10)) => ?_) (fun (hb12 : ¬ ((hh : Int) = (s 139 10))) => ?_)
      · refine wl_s (pc' := 55) ji_287_54 rfl rfl rfl ?_
        obtain ⟨q14, hq14⟩ := cs_c C (by decide) sq_138
        refine wl_vc (d := d + 6) (as := [.ref 138]) (rest := []) ji_287_55 jc_287_403 rfl hq14 jk_274.symm (Nat.le_of_ble_eq_true rfl) rfl (by rw [jn_274]; rfl) (uc_274 (d := d + 6) C) (fun v1 h13 R => ?_)
        obtain ⟨rfl, C⟩ := R
        have f2 : ∀ (b : Nat) (j : Int), ¬ (b = 147 ∧ 8 ≤ j ∧ j < 148) → ¬ (b = 138 ∧ j = 25) → pbR (prR (bgR s) p (i : Int)) b j = s b j := fun b j h1 h2 => pb_ok (fun b j hb => prR_o hp B.rs.g.w0 hb) b j h1 h2
        obtain ⟨t2, et2⟩ : ∃ z9_, pbR (prR (bgR s) p (i : Int)) = z9_ := ⟨_, rfl⟩
        rw [et2] at C f2
        show wl_R _ _ 287 58 [some (.ref 138), some (wp_i p), some (wp_i (-1)), some (wp_i ((i : Int)))] [] h13 _
        refine wl_iinc (x := (i : Int)) (z := (i : Int) + 1) (lv' := [some (.ref 138), some (wp_i p), some (wp_i (-1)), some (wp_i ((i : Int) + 1))]) ji_287_58 rfl (Nat.le_of_ble_eq_true rfl) (by omega) rfl ?_
        refine wl_goto (t := 14) ji_287_61 rfl ?_
        have eA : lpR cr s p n (n.toNat - i) i = lpR cr s p n (n.toNat - (i + 1)) (i + 1) := by { rw [show n.toNat - i = (n.toNat - (i + 1)) + 1 by omega]; exact (if_pos (by omega)).trans (if_pos (by rw [ehh]; omega)) }
        rw [eA, show (i : Int) + 1 = ((i + 1 : Nat) : Int) by omega]
        exact ih (i + 1) _ t2 C (by omega) f2
      · refine wl_s (pc' := 53) ji_287_52 rfl rfl rfl ?_
        refine wl_s (pc' := 54) (lv' := [some (.ref 138), some (wp_i p), some (wp_i ((i : Int))), some (wp_i ((i : Int)))]) ji_287_53 rfl rfl rfl ?_
        refine wl_s (pc' := 55) ji_287_54 rfl rfl rfl ?_
        obtain ⟨q16, hq16⟩ := cs_c C (by decide) sq_138
        refine wl_vc (d := d + 6) (as := [.ref 138]) (rest := []) ji_287_55 jc_287_403 rfl hq16 jk_274.symm (Nat.le_of_ble_eq_true rfl) rfl (by rw [jn_274]; rfl) (uc_274 (d := d + 6) C) (fun v1 h15 R => ?_)
        obtain ⟨rfl, C⟩ := R
        have f2 : ∀ (b : Nat) (j : Int), ¬ (b = 147 ∧ 8 ≤ j ∧ j < 148) → ¬ (b = 138 ∧ j = 25) → pbR (prR (bgR s) p (i : Int)) b j = s b j := fun b j h1 h2 => pb_ok (fun b j hb => prR_o hp B.rs.g.w0 hb) b j h1 h2
        obtain ⟨t2, et2⟩ : ∃ z9_, pbR (prR (bgR s) p (i : Int)) = z9_ := ⟨_, rfl⟩
        rw [et2] at C f2
        show wl_R _ _ 287 58 [some (.ref 138), some (wp_i p), some (wp_i ((i : Int))), some (wp_i ((i : Int)))] [] h15 _
        refine wl_iinc (x := (i : Int)) (z := (i : Int) + 1) (lv' := [some (.ref 138), some (wp_i p), some (wp_i ((i : Int))), some (wp_i ((i : Int) + 1))]) ji_287_58 rfl (Nat.le_of_ble_eq_true rfl) (by omega) rfl ?_
        refine wl_goto (t := 14) ji_287_61 rfl ?_
        have eA : lpR cr s p n (n.toNat - i) i = (i : Int) := by { rw [show n.toNat - i = (n.toNat - (i + 1)) + 1 by omega]; exact (if_pos (by omega)).trans (if_neg (by rw [ehh]; omega)) }
        rw [eA]
        exact uc_287e C hp (by omega) (by omega) (by omega) f2
theorem uc_287 {nn d : Nat} {h : mj_H} {s : sg_} (C : CS h s) {cr : crs} {M : Int} (T : RT s cr M) {p : Int} (hp : wp_r p) : wl_R nn (d + 7) 287 0 [some (.ref 138), some (wp_i p), none, none] [] h (fun v1 h1 => (¬ (0 ≤ p ∧ p < s 139 0) ∧ v1 = some (wp_i (-1)) ∧ CS h1 s) ∨ ((0 ≤ p ∧ p < s 139 0) ∧ v1 = some (wp_i (lpR cr s p (s 139 (16 + 3 * p)) (s 139 (16 + 3 * p)).toNat 0)) ∧ ∃ t, CS h1 t ∧ ∀ (b : Nat) (j : Int), ¬ (b = 147 ∧ 8 ≤ j ∧ j < 148) → ¬ (b = 138 ∧ j = 25) → t b j = s b j)) := by
  have p0 := T.rs.g.p0
  refine wl_s (pc' := 1) ji_287_0 rfl rfl rfl ?_
  refine wl_s (pc' := 2) ji_287_1 rfl rfl rfl ?_
  obtain ⟨q2, hq2⟩ := cs_c C (by decide) sq_138
  refine wl_vc (d := d + 6) (as := [.ref 138, wp_i p]) (rest := []) ji_287_2 jc_287_348 rfl hq2 jk_248.symm (Nat.le_of_ble_eq_true rfl) rfl (by rw [jn_248]; rfl) (uc_248 (d := d + 5) C T.rs.g.p0 (p := p) (by omega)) (fun v1 h1 R => ?_)
  obtain ⟨ee, y3, rfl, hy3a, hy3b⟩ := R
  rw [ee]
  clear ee
  show wl_R _ _ 287 5 [some (.ref 138), some (wp_i p), none, none] [wp_i y3] _ _
  refine wl_if (t := 10) ji_287_5 rfl (by omega) (fun (hb4 : ¬ (y3 : Int) = 0) => ?_) (fun (hb4 : ¬ (¬ (y3 : Int) = 0)) => ?_)
  · refine wl_s (pc' := 11) ji_287_10 rfl rfl rfl ?_
    refine wl_s (pc' := 12) (lv' := [some (.ref 138), some (wp_i p), some (wp_i (-1)), none]) ji_287_11 rfl rfl rfl ?_
    refine wl_s (pc' := 13) ji_287_12 rfl rfl rfl ?_
    refine wl_s (pc' := 14) (lv' := [some (.ref 138), some (wp_i p), some (wp_i (-1)), some (wp_i 0)]) ji_287_13 rfl rfl rfl ?_
    have ha := T.rs.g.a p (by omega)
    have hq : 0 ≤ p ∧ p < s 139 0 := by omega
    rw [show (0 : Int) = ((0 : Nat) : Int) from rfl]
    refine wl_mono (uc_287l (RT_q T (fun b j hb => bgR_fr (by omega) (by omega))) (by omega) (n := s 139 (16 + 3 * p)) ha rfl nn 0 _ s C (by omega) (fun _ _ _ _ => rfl)) (fun v1 h1 R => Or.inr ⟨hq, R⟩)
  · refine wl_s (pc' := 9) ji_287_8 rfl rfl rfl ?_
    exact wl_ri ji_287_9 jr_287 rfl (Or.inl ⟨by omega, rfl, C⟩)
