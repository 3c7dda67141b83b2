/-! -/
set_option maxRecDepth 100000 in
theorem sq_91 : sh_T[91]? = some (8, [95, 0, 0, 0, 0, 0], 0, 0) := by decide +kernel
set_option maxRecDepth 100000 in
theorem sq_92 : sh_T[92]? = some (1000, [], 300, 0) := by decide +kernel
set_option maxRecDepth 100000 in
theorem sq_142 : sh_T[142]? = some (1000, [], 300, 0) := by decide +kernel
set_option maxRecDepth 100000 in
theorem sq_93 : sh_T[93]? = some (9, [94, 2, 0, 0, 0, 0, 0, 97, 0, 0, 0, 0, 0], 0, 0) := by decide +kernel
/-! feed, end, fault, in both; laid by program (wp_u77.py) -/
/-- one of the four bytes of a word -/
def bty (v : Int) (k : Nat) : Int := ((Int32.ofInt v >>> (Int32.ofInt (8 * (k : Int)) &&& 31)) &&& Int32.ofInt 255).toInt
theorem bty_b (v : Int) (k : Nat) : 0 ≤ bty v k ∧ bty v k ≤ 255 := sx_iand2 (x := Int32.ofInt v >>> (Int32.ofInt (8 * (k : Int)) &&& 31)) (y := Int32.ofInt 255) (by decide)
theorem bty_i (v : Int) (k : Nat) : (Int32.ofInt v >>> (Int32.ofInt (8 * (k : Int)) &&& 31)) &&& Int32.ofInt 255 = Int32.ofInt (bty v k) := (Int32.ofInt_toInt _).symm
def apC (v : Int) : Nat → sg_ → sg_
  | 0, s => s
  | k + 1, s => apC v k (up (up s 92 (s 91 1) (bty v k)) 91 1 (s 91 1 + 1))
theorem uc_17l {d : Nat} {v : Int} (hv : wp_r v) : ∀ (nn k : Nat) (s : sg_) (l : Int) (h : mj_H), k ≤ 4 → l = 8 * (k : Int) - 8 → (0 ≤ s 91 1 ∧ s 91 1 + (k : Int) ≤ 300) → CS h s → wl_R nn d 17 3 [some (.ref 91), some (wp_i v), some (wp_i l)] [] h (fun v1 h1 => v1 = none ∧ CS h1 (apC v k s)) := by
  intro nn
  induction nn with
  | zero => intros; exact wl_0
  | succ nn ih =>
    intro k s l h k4 el b C
    rcases k with _ | k
    · obtain rfl : l = -8 := by omega
      refine wl_s1 (pc' := 4) ji_17_3 rfl rfl rfl ?_
      refine wl_if (t := 49) ji_17_4 rfl (by omega) (fun (hb1 : (-8 : Int) < 0) => ?_) (fun (hb1 : ¬ ((-8 : Int) < 0)) => (by exfalso; omega))
      exact wl_rv ji_17_49 jr_17 (⟨rfl, C⟩)
    · obtain rfl : l = 8 * (k : Int) := by omega
      refine wl_s1 (pc' := 4) ji_17_3 rfl rfl rfl ?_
      refine wl_if (t := 49) ji_17_4 rfl (by omega) (fun (hb1 : (8 * (k : Int) : Int) < 0) => (by exfalso; omega)) (fun (hb1 : ¬ ((8 * (k : Int) : Int) < 0)) => ?_)
      refine wl_s (pc' := 8) ji_17_7 rfl rfl rfl ?_
      refine cs_gi (k := 1) (kI := 1) C (by decide) (by decide) sq_91 rfl rfl ji_17_8 jf_17_15 ?_
      have bd2 : wp_r (s 91 1) := cs_ri (k := 1) (kI := 1) C (by decide) (by decide) sq_91 rfl rfl (show 1 < 6 by decide)
      refine wl_sp ji_17_11 rfl ?_
      refine wl_icmp (t := 49) ji_17_14 rfl (by omega) (by omega) (fun (hb3 : (300 : Int) ≤ (s 91 1)) => (by exfalso; omega)) (fun (hb3 : ¬ ((300 : Int) ≤ (s 91 1))) => ?_)
      refine wl_s (pc' := 18) ji_17_17 rfl rfl rfl ?_
      refine cs_gr (r := 92) (k := 0) C (by decide) sq_91 rfl ji_17_18 jf_17_11 ?_
      refine wl_s (pc' := 22) ji_17_21 rfl rfl rfl ?_
      refine cs_gi (k := 1) (kI := 1) C (by decide) (by decide) sq_91 rfl rfl ji_17_22 jf_17_15 ?_
      refine wl_s (pc' := 26) ji_17_25 rfl rfl rfl ?_
      refine wl_s (pc' := 27) ji_17_26 rfl rfl rfl ?_
      refine wl_s (pc' := 28) (st' := [.int (Int32.ofInt v >>> (Int32.ofInt (8 * (k : Int)) &&& 31)), wp_i (s 91 1), .ref 92]) ji_17_27 rfl rfl rfl ?_
      refine wl_sp ji_17_28 rfl ?_
      refine wl_s (pc' := 32) (lv' := [some (.ref 91), some (wp_i v), some (wp_i (8 * (k : Int)))]) (st' := [wp_i (bty v k), wp_i (s 91 1), .ref 92]) ji_17_31 rfl rfl (congrArg (fun z => (some (32, [some (.ref 91), some (wp_i v), some (wp_i (8 * (k : Int)))], [Value.int z, wp_i (s 91 1), .ref 92], h) : Option mj_S)) (bty_i v k)) ?_
      have yb := bty_b v k
      refine cs_s (x := s 91 1) (y := bty v k) C (by decide) sq_92 (by omega) (by omega) ji_17_32 (fun h st40 st41 C => ?_)
      obtain ⟨s5, es5⟩ : ∃ z9_, up s 92 (s 91 1) (bty v k) = z9_ := ⟨_, rfl⟩
      rw [es5] at C
      refine wl_s (pc' := 34) ji_17_33 rfl rfl rfl ?_
      refine wl_s (pc' := 35) ji_17_34 rfl rfl rfl ?_
      refine cs_gi (k := 1) (kI := 1) C (by decide) (by decide) sq_91 rfl rfl ji_17_35 jf_17_15 ?_
      have rd6 : s5 91 1 = s 91 1 := by rw [← es5, up_a (by omega)]
      rw [rd6]
      refine wl_s (pc' := 39) ji_17_38 rfl rfl rfl ?_
      refine wl_iadd (x := s 91 1) (y := 1) (z := s 91 1 + 1) ji_17_39 (by omega) ?_
      refine cs_pi (k := 1) (kI := 1) (y := s 91 1 + 1) C (by decide) sq_91 rfl rfl ji_17_40 jf_17_15 rfl rfl (by omega) (fun h C => ?_)
      obtain ⟨s7, es7⟩ : ∃ z9_, up s5 91 1 (s 91 1 + 1) = z9_ := ⟨_, rfl⟩
      rw [es7] at C
      refine wl_iinc (x := 8 * (k : Int)) (z := 8 * (k : Int) - 8) (lv' := [some (.ref 91), some (wp_i v), some (wp_i (8 * (k : Int) - 8))]) ji_17_43 rfl (Nat.le_of_ble_eq_true rfl) (by omega) rfl ?_
      refine wl_goto (t := 3) ji_17_46 rfl ?_
      have q := ih k s7 (8 * (k : Int) - 8) _ (by omega) (by omega) (by rw [← es7, ← es5, up_e]; omega) C
      rw [← es7, ← es5] at q
      exact q
theorem uc_17 {nn d : Nat} {h : mj_H} {s : sg_} (C : CS h s) {v : Int} (hv : wp_r v) (b : 0 ≤ s 91 1 ∧ s 91 1 + 4 ≤ 300) : wl_R nn d 17 0 [some (.ref 91), some (wp_i v), none] [] h (fun v1 h1 => v1 = none ∧ CS h1 (apC v 4 s)) := by
  refine wl_bp ji_17_0 rfl ?_
  refine wl_s (pc' := 3) (lv' := [some (.ref 91), some (wp_i v), some (wp_i 24)]) ji_17_2 rfl rfl rfl ?_
  exact uc_17l hv nn 4 s 24 h (by decide) (by decide) b C
theorem apC_1 {v : Int} : ∀ (k : Nat) (s : sg_), apC v k s 91 1 = s 91 1 + (k : Int)
  | 0, s => by show s 91 1 = s 91 1 + 0; omega
  | k + 1, s => by
    show apC v k _ 91 1 = _
    rw [apC_1 k, up_e]
    omega
theorem apC_o {v : Int} : ∀ (k : Nat) (s : sg_) (b : Nat) (j : Int), ¬ (b = 91 ∧ j = 1) → ¬ b = 92 → apC v k s b j = s b j
  | 0, _, _, _, _, _ => rfl
  | k + 1, s, b, j, h1, h2 => by
    show apC v k _ b j = _
    rw [apC_o k _ b j h1 h2, up_n h1, up_a h2]
def apR (v : Int) : Nat → sg_ → sg_
  | 0, s => s
  | k + 1, s => apR v k (up (up s 142 (s 138 4) (bty v k)) 138 4 (s 138 4 + 1))
theorem uc_174l {d : Nat} {v : Int} (hv : wp_r v) : ∀ (nn k : Nat) (s : sg_) (l : Int) (h : mj_H), k ≤ 4 → l = 8 * (k : Int) - 8 → (0 ≤ s 138 4 ∧ s 138 4 + (k : Int) ≤ 300) → CS h s → wl_R nn d 174 3 [some (.ref 138), some (wp_i v), some (wp_i l)] [] h (fun v1 h1 => v1 = none ∧ CS h1 (apR v k s)) := by
  intro nn
  induction nn with
  | zero => intros; exact wl_0
  | succ nn ih =>
    intro k s l h k4 el b C
    rcases k with _ | k
    · obtain rfl : l = -8 := by omega
      refine wl_s1 (pc' := 4) ji_174_3 rfl rfl rfl ?_
      refine wl_if (t := 39) ji_174_4 rfl (by omega) (fun (hb1 : (-8 : Int) < 0) => ?_) (fun (hb1 : ¬ ((-8 : Int) < 0)) => (by exfalso; omega))
      exact wl_rv ji_174_39 jr_174 (⟨rfl, C⟩)
    · obtain rfl : l = 8 * (k : Int) := by omega
      refine wl_s1 (pc' := 4) ji_174_3 rfl rfl rfl ?_
      refine wl_if (t := 39) ji_174_4 rfl (by omega) (fun (hb1 : (8 * (k : Int) : Int) < 0) => (by exfalso; omega)) (fun (hb1 : ¬ ((8 * (k : Int) : Int) < 0)) => ?_)
      refine wl_s (pc' := 8) ji_174_7 rfl rfl rfl ?_
      refine cs_gr (r := 142) (k := 3) C (by decide) sq_138 rfl ji_174_8 jf_174_19 ?_
      refine wl_s (pc' := 12) ji_174_11 rfl rfl rfl ?_
      refine cs_gi (k := 4) (kI := 4) C (by decide) (by decide) sq_138 rfl rfl ji_174_12 jf_174_78 ?_
      have bd2 : wp_r (s 138 4) := cs_ri (k := 4) (kI := 4) C (by decide) (by decide) sq_138 rfl rfl (show 4 < 31 by decide)
      refine wl_s (pc' := 16) ji_174_15 rfl rfl rfl ?_
      refine wl_s (pc' := 17) ji_174_16 rfl rfl rfl ?_
      refine wl_s (pc' := 18) (st' := [.int (Int32.ofInt v >>> (Int32.ofInt (8 * (k : Int)) &&& 31)), wp_i (s 138 4), .ref 142]) ji_174_17 rfl rfl rfl ?_
      refine wl_sp ji_174_18 rfl ?_
      refine wl_s (pc' := 22) (lv' := [some (.ref 138), some (wp_i v), some (wp_i (8 * (k : Int)))]) (st' := [wp_i (bty v k), wp_i (s 138 4), .ref 142]) ji_174_21 rfl rfl (congrArg (fun z => (some (22, [some (.ref 138), some (wp_i v), some (wp_i (8 * (k : Int)))], [Value.int z, wp_i (s 138 4), .ref 142], h) : Option mj_S)) (bty_i v k)) ?_
      have yb := bty_b v k
      refine cs_s (x := s 138 4) (y := bty v k) C (by decide) sq_142 (by omega) (by omega) ji_174_22 (fun h st30 st31 C => ?_)
      obtain ⟨s4, es4⟩ : ∃ z9_, up s 142 (s 138 4) (bty v k) = z9_ := ⟨_, rfl⟩
      rw [es4] at C
      refine wl_s (pc' := 24) ji_174_23 rfl rfl rfl ?_
      refine wl_s (pc' := 25) ji_174_24 rfl rfl rfl ?_
      refine cs_gi (k := 4) (kI := 4) C (by decide) (by decide) sq_138 rfl rfl ji_174_25 jf_174_78 ?_
      have rd5 : s4 138 4 = s 138 4 := by rw [← es4, up_a (by omega)]
      rw [rd5]
      refine wl_s (pc' := 29) ji_174_28 rfl rfl rfl ?_
      refine wl_iadd (x := s 138 4) (y := 1) (z := s 138 4 + 1) ji_174_29 (by omega) ?_
      refine cs_pi (k := 4) (kI := 4) (y := s 138 4 + 1) C (by decide) sq_138 rfl rfl ji_174_30 jf_174_78 rfl rfl (by omega) (fun h C => ?_)
      obtain ⟨s6, es6⟩ : ∃ z9_, up s4 138 4 (s 138 4 + 1) = z9_ := ⟨_, rfl⟩
      rw [es6] at C
      refine wl_iinc (x := 8 * (k : Int)) (z := 8 * (k : Int) - 8) (lv' := [some (.ref 138), some (wp_i v), some (wp_i (8 * (k : Int) - 8))]) ji_174_33 rfl (Nat.le_of_ble_eq_true rfl) (by omega) rfl ?_
      refine wl_goto (t := 3) ji_174_36 rfl ?_
      have q := ih k s6 (8 * (k : Int) - 8) _ (by omega) (by omega) (by rw [← es6, ← es4, up_e]; omega) C
      rw [← es6, ← es4] at q
      exact q
theorem uc_174 {nn d : Nat} {h : mj_H} {s : sg_} (C : CS h s) {v : Int} (hv : wp_r v) (b : 0 ≤ s 138 4 ∧ s 138 4 + 4 ≤ 300) : wl_R nn d 174 0 [some (.ref 138), some (wp_i v), none] [] h (fun v1 h1 => v1 = none ∧ CS h1 (apR v 4 s)) := by
  refine wl_bp ji_174_0 rfl ?_
  refine wl_s (pc' := 3) (lv' := [some (.ref 138), some (wp_i v), some (wp_i 24)]) ji_174_2 rfl rfl rfl ?_
  exact uc_174l hv nn 4 s 24 h (by decide) (by decide) b C
theorem apR_1 {v : Int} : ∀ (k : Nat) (s : sg_), apR v k s 138 4 = s 138 4 + (k : Int)
  | 0, s => by show s 138 4 = s 138 4 + 0; omega
  | k + 1, s => by
    show apR v k _ 138 4 = _
    rw [apR_1 k, up_e]
    omega
theorem apR_o {v : Int} : ∀ (k : Nat) (s : sg_) (b : Nat) (j : Int), ¬ (b = 138 ∧ j = 4) → ¬ b = 142 → apR v k s b j = s b j
  | 0, _, _, _, _, _ => rfl
  | k + 1, s, b, j, h1, h2 => by
    show apR v k _ b j = _
    rw [apR_o k _ b j h1 h2, up_n h1, up_a h2]
def fvC (s : sg_) (a b c e f : Int) : sg_ := apC f 4 (apC e 4 (apC c 4 (apC b 4 (apC a 4 s))))
theorem fvC_1 {s : sg_} {a b c e f : Int} : fvC s a b c e f 91 1 = s 91 1 + 20 := by
  unfold fvC
  rw [apC_1, apC_1, apC_1, apC_1, apC_1]
  omega
theorem fvC_o {s : sg_} {a b c e f : Int} (x : Nat) (j : Int) (h1 : ¬ (x = 91 ∧ j = 1)) (h2 : ¬ x = 92) : fvC s a b c e f x j = s x j := by
  unfold fvC
  rw [apC_o _ _ _ _ h1 h2, apC_o _ _ _ _ h1 h2, apC_o _ _ _ _ h1 h2, apC_o _ _ _ _ h1 h2, apC_o _ _ _ _ h1 h2]
def cFeed (s : sg_) (a b c e f : Int) : Int × sg_ := if s 91 1 + 20 ≤ 300 then (s 91 1 + 20, fvC s a b c e f) else (-1, s)
theorem uc_16 {nn d : Nat} {h : mj_H} {s : sg_} (C : CS h s) {a b c e f : Int} (q : 0 ≤ s 91 1 ∧ s 91 1 ≤ 300) (ha : wp_r a) (hb : wp_r b) (hc : wp_r c) (he : wp_r e) (hf : wp_r f) : wl_R nn (d + 1) 16 0 [some (.ref 9), some (wp_i a), some (wp_i b), some (wp_i c), some (wp_i e), some (wp_i f)] [] h (fun v1 h1 => v1 = some (wp_i (cFeed s a b c e f).1) ∧ CS h1 (cFeed s a b c e f).2) := by
  refine wl_s (pc' := 1) ji_16_0 rfl rfl rfl ?_
  refine cs_gr (r := 91) (k := 2) C (by decide) sq_9 rfl ji_16_1 jf_16_29 ?_
  refine cs_gi (k := 1) (kI := 1) C (by decide) (by decide) sq_91 rfl rfl ji_16_4 jf_16_62 ?_
  have bd1 : wp_r (s 91 1) := cs_ri (k := 1) (kI := 1) C (by decide) (by decide) sq_91 rfl rfl (show 1 < 6 by decide)
  refine wl_bp ji_16_7 rfl ?_
  refine wl_iadd (x := s 91 1) (y := 20) (z := s 91 1 + 20) ji_16_9 (by omega) ?_
  refine wl_sp ji_16_10 rfl ?_
  refine wl_icmp (t := 18) ji_16_13 rfl (by omega) (by omega) (fun (hb2 : (s 91 1 + 20 : Int) ≤ 300) => ?_) (fun (hb2 : ¬ ((s 91 1 + 20 : Int) ≤ 300)) => ?_)
  · refine wl_s (pc' := 19) ji_16_18 rfl rfl rfl ?_
    refine cs_gr (r := 91) (k := 2) C (by decide) sq_9 rfl ji_16_19 jf_16_29 ?_
    refine wl_s (pc' := 23) ji_16_22 rfl rfl rfl ?_
    obtain ⟨q4, hq4⟩ := cs_c C (by decide) sq_91
    refine wl_vc (d := d) (as := [.ref 91, wp_i a]) (rest := []) ji_16_23 jc_16_66 rfl hq4 jk_17.symm (Nat.le_of_ble_eq_true rfl) rfl (by rw [jn_17]; rfl) (uc_17 (d := d) C (v := a) (by omega) (by omega)) (fun v1 h3 R => ?_)
    obtain ⟨rfl, C⟩ := R
    obtain ⟨t1, et1⟩ : ∃ z9_, apC a 4 s = z9_ := ⟨_, rfl⟩
    have q0 : t1 91 1 = s 91 1 + 4 := by rw [← et1, apC_1]; omega
    rw [et1] at C
    show wl_R _ _ 16 26 [some (.ref 9), some (wp_i a), some (wp_i b), some (wp_i c), some (wp_i e), some (wp_i f)] [] h3 _
    refine wl_s (pc' := 27) ji_16_26 rfl rfl rfl ?_
    refine cs_gr (r := 91) (k := 2) C (by decide) sq_9 rfl ji_16_27 jf_16_29 ?_
    refine wl_s (pc' := 31) ji_16_30 rfl rfl rfl ?_
    obtain ⟨q6, hq6⟩ := cs_c C (by decide) sq_91
    refine wl_vc (d := d) (as := [.ref 91, wp_i b]) (rest := []) ji_16_31 jc_16_66 rfl hq6 jk_17.symm (Nat.le_of_ble_eq_true rfl) rfl (by rw [jn_17]; rfl) (uc_17 (d := d) C (v := b) (by omega) (by omega)) (fun v1 h5 R => ?_)
    obtain ⟨rfl, C⟩ := R
    obtain ⟨t2, et2⟩ : ∃ z9_, apC b 4 t1 = z9_ := ⟨_, rfl⟩
    have q1 : t2 91 1 = t1 91 1 + 4 := by rw [← et2, apC_1]; omega
    rw [et2] at C
    show wl_R _ _ 16 34 [some (.ref 9), some (wp_i a), some (wp_i b), some (wp_i c), some (wp_i e), some (wp_i f)] [] h5 _
    refine wl_s (pc' := 35) ji_16_34 rfl rfl rfl ?_
    refine cs_gr (r := 91) (k := 2) C (by decide) sq_9 rfl ji_16_35 jf_16_29 ?_
    refine wl_s (pc' := 39) ji_16_38 rfl rfl rfl ?_
    obtain ⟨q8, hq8⟩ := cs_c C (by decide) sq_91
    refine wl_vc (d := d) (as := [.ref 91, wp_i c]) (rest := []) ji_16_39 jc_16_66 rfl hq8 jk_17.symm (Nat.le_of_ble_eq_true rfl) rfl (by rw [jn_17]; rfl) (uc_17 (d := d) C (v := c) (by omega) (by omega)) (fun v1 h7 R => ?_)
    obtain ⟨rfl, C⟩ := R
    obtain ⟨t3, et3⟩ : ∃ z9_, apC c 4 t2 = z9_ := ⟨_, rfl⟩
    have q2 : t3 91 1 = t2 91 1 + 4 := by rw [← et3, apC_1]; omega
    rw [et3] at C
    show wl_R _ _ 16 42 [some (.ref 9), some (wp_i a), some (wp_i b), some (wp_i c), some (wp_i e), some (wp_i f)] [] h7 _
    refine wl_s (pc' := 43) ji_16_42 rfl rfl rfl ?_
    refine cs_gr (r := 91) (k := 2) C (by decide) sq_9 rfl ji_16_43 jf_16_29 ?_
    refine wl_s (pc' := 48) ji_16_46 rfl rfl rfl ?_
    obtain ⟨q10, hq10⟩ := cs_c C (by decide) sq_91
    refine wl_vc (d := d) (as := [.ref 91, wp_i e]) (rest := []) ji_16_48 jc_16_66 rfl hq10 jk_17.symm (Nat.le_of_ble_eq_true rfl) rfl (by rw [jn_17]; rfl) (uc_17 (d := d) C (v := e) (by omega) (by omega)) (fun v1 h9 R => ?_)
    obtain ⟨rfl, C⟩ := R
    obtain ⟨t4, et4⟩ : ∃ z9_, apC e 4 t3 = z9_ := ⟨_, rfl⟩
    have q3 : t4 91 1 = t3 91 1 + 4 := by rw [← et4, apC_1]; omega
    rw [et4] at C
    show wl_R _ _ 16 51 [some (.ref 9), some (wp_i a), some (wp_i b), some (wp_i c), some (wp_i e), some (wp_i f)] [] h9 _
    refine wl_s (pc' := 52) ji_16_51 rfl rfl rfl ?_
    refine cs_gr (r := 91) (k := 2) C (by decide) sq_9 rfl ji_16_52 jf_16_29 ?_
    refine wl_s (pc' := 57) ji_16_55 rfl rfl rfl ?_
    obtain ⟨q12, hq12⟩ := cs_c C (by decide) sq_91
    refine wl_vc (d := d) (as := [.ref 91, wp_i f]) (rest := []) ji_16_57 jc_16_66 rfl hq12 jk_17.symm (Nat.le_of_ble_eq_true rfl) rfl (by rw [jn_17]; rfl) (uc_17 (d := d) C (v := f) (by omega) (by omega)) (fun v1 h11 R => ?_)
    obtain ⟨rfl, C⟩ := R
    obtain ⟨t5, et5⟩ : ∃ z9_, apC f 4 t4 = z9_ := ⟨_, rfl⟩
    have q4 : t5 91 1 = t4 91 1 + 4 := by rw [← et5, apC_1]; omega
    rw [et5] at C
    show wl_R _ _ 16 60 [some (.ref 9), some (wp_i a), some (wp_i b), some (wp_i c), some (wp_i e), some (wp_i f)] [] h11 _
    refine wl_s (pc' := 61) ji_16_60 rfl rfl rfl ?_
    refine cs_gr (r := 91) (k := 2) C (by decide) sq_9 rfl ji_16_61 jf_16_29 ?_
    refine cs_gi (k := 1) (kI := 1) C (by decide) (by decide) sq_91 rfl rfl ji_16_64 jf_16_62 ?_
    have bd13 : wp_r (t5 91 1) := cs_ri (k := 1) (kI := 1) C (by decide) (by decide) sq_91 rfl rfl (show 1 < 6 by decide)
    exact wl_ri ji_16_67 jr_16 rfl ((by unfold cFeed; rw [if_pos (by omega)]; exact ⟨congrArg (fun z => some (wp_i z)) (by omega), cs_mono C (by show _ = fvC s a b c e f; unfold fvC; rw [et1, et2, et3, et4, et5])⟩))
  · refine wl_s (pc' := 17) ji_16_16 rfl rfl rfl ?_
    exact wl_ri ji_16_17 jr_16 rfl ((by unfold cFeed; rw [if_neg (by omega)]; exact ⟨rfl, C⟩))
def fvR (s : sg_) (a b c e f : Int) : sg_ := apR f 4 (apR e 4 (apR c 4 (apR b 4 (apR a 4 s))))
theorem fvR_1 {s : sg_} {a b c e f : Int} : fvR s a b c e f 138 4 = s 138 4 + 20 := by
  unfold fvR
  rw [apR_1, apR_1, apR_1, apR_1, apR_1]
  omega
theorem fvR_o {s : sg_} {a b c e f : Int} (x : Nat) (j : Int) (h1 : ¬ (x = 138 ∧ j = 4)) (h2 : ¬ x = 142) : fvR s a b c e f x j = s x j := by
  unfold fvR
  rw [apR_o _ _ _ _ h1 h2, apR_o _ _ _ _ h1 h2, apR_o _ _ _ _ h1 h2, apR_o _ _ _ _ h1 h2, apR_o _ _ _ _ h1 h2]
def rFeed (s : sg_) (a b c e f : Int) : Int × sg_ := if s 138 4 + 20 ≤ 300 then (s 138 4 + 20, fvR s a b c e f) else (-1, s)
theorem uc_173 {nn d : Nat} {h : mj_H} {s : sg_} (C : CS h s) {a b c e f : Int} (q : 0 ≤ s 138 4 ∧ s 138 4 ≤ 300) (ha : wp_r a) (hb : wp_r b) (hc : wp_r c) (he : wp_r e) (hf : wp_r f) : wl_R nn (d + 1) 173 0 [some (.ref 138), some (wp_i a), some (wp_i b), some (wp_i c), some (wp_i e), some (wp_i f)] [] h (fun v1 h1 => v1 = some (wp_i (rFeed s a b c e f).1) ∧ CS h1 (rFeed s a b c e f).2) := by
  refine wl_s (pc' := 1) ji_173_0 rfl rfl rfl ?_
  refine cs_gi (k := 4) (kI := 4) C (by decide) (by decide) sq_138 rfl rfl ji_173_1 jf_173_78 ?_
  have bd1 : wp_r (s 138 4) := cs_ri (k := 4) (kI := 4) C (by decide) (by decide) sq_138 rfl rfl (show 4 < 31 by decide)
  refine wl_bp ji_173_4 rfl ?_
  refine wl_iadd (x := s 138 4) (y := 20) (z := s 138 4 + 20) ji_173_6 (by omega) ?_
  refine wl_sp ji_173_7 rfl ?_
  refine wl_icmp (t := 15) ji_173_10 rfl (by omega) (by omega) (fun (hb2 : (s 138 4 + 20 : Int) ≤ 300) => ?_) (fun (hb2 : ¬ ((s 138 4 + 20 : Int) ≤ 300)) => ?_)
  · refine wl_s (pc' := 16) ji_173_15 rfl rfl rfl ?_
    refine wl_s (pc' := 17) ji_173_16 rfl rfl rfl ?_
    obtain ⟨q4, hq4⟩ := cs_c C (by decide) sq_138
    refine wl_vc (d := d) (as := [.ref 138, wp_i a]) (rest := []) ji_173_17 jc_173_81 rfl hq4 jk_174.symm (Nat.le_of_ble_eq_true rfl) rfl (by rw [jn_174]; rfl) (uc_174 (d := d) C (v := a) (by omega) (by omega)) (fun v1 h3 R => ?_)
    obtain ⟨rfl, C⟩ := R
    obtain ⟨t1, et1⟩ : ∃ z9_, apR a 4 s = z9_ := ⟨_, rfl⟩
    have q0 : t1 138 4 = s 138 4 + 4 := by rw [← et1, apR_1]; omega
    rw [et1] at C
    show wl_R _ _ 173 20 [some (.ref 138), some (wp_i a), some (wp_i b), some (wp_i c), some (wp_i e), some (wp_i f)] [] h3 _
    refine wl_s (pc' := 21) ji_173_20 rfl rfl rfl ?_
    refine wl_s (pc' := 22) ji_173_21 rfl rfl rfl ?_
    obtain ⟨q6, hq6⟩ := cs_c C (by decide) sq_138
    refine wl_vc (d := d) (as := [.ref 138, wp_i b]) (rest := []) ji_173_22 jc_173_81 rfl hq6 jk_174.symm (Nat.le_of_ble_eq_true rfl) rfl (by rw [jn_174]; rfl) (uc_174 (d := d) C (v := b) (by omega) (by omega)) (fun v1 h5 R => ?_)
    obtain ⟨rfl, C⟩ := R
    obtain ⟨t2, et2⟩ : ∃ z9_, apR b 4 t1 = z9_ := ⟨_, rfl⟩
    have q1 : t2 138 4 = t1 138 4 + 4 := by rw [← et2, apR_1]; omega
    rw [et2] at C
    show wl_R _ _ 173 25 [some (.ref 138), some (wp_i a), some (wp_i b), some (wp_i c), some (wp_i e), some (wp_i f)] [] h5 _
    refine wl_s (pc' := 26) ji_173_25 rfl rfl rfl ?_
    refine wl_s (pc' := 27) ji_173_26 rfl rfl rfl ?_
    obtain ⟨q8, hq8⟩ := cs_c C (by decide) sq_138
    refine wl_vc (d := d) (as := [.ref 138, wp_i c]) (rest := []) ji_173_27 jc_173_81 rfl hq8 jk_174.symm (Nat.le_of_ble_eq_true rfl) rfl (by rw [jn_174]; rfl) (uc_174 (d := d) C (v := c) (by omega) (by omega)) (fun v1 h7 R => ?_)
    obtain ⟨rfl, C⟩ := R
    obtain ⟨t3, et3⟩ : ∃ z9_, apR c 4 t2 = z9_ := ⟨_, rfl⟩
    have q2 : t3 138 4 = t2 138 4 + 4 := by rw [← et3, apR_1]; omega
    rw [et3] at C
    show wl_R _ _ 173 30 [some (.ref 138), some (wp_i a), some (wp_i b), some (wp_i c), some (wp_i e), some (wp_i f)] [] h7 _
    refine wl_s (pc' := 31) ji_173_30 rfl rfl rfl ?_
    refine wl_s (pc' := 33) ji_173_31 rfl rfl rfl ?_
    obtain ⟨q10, hq10⟩ := cs_c C (by decide) sq_138
    refine wl_vc (d := d) (as := [.ref 138, wp_i e]) (rest := []) ji_173_33 jc_173_81 rfl hq10 jk_174.symm (Nat.le_of_ble_eq_true rfl) rfl (by rw [jn_174]; rfl) (uc_174 (d := d) C (v := e) (by omega) (by omega)) (fun v1 h9 R => ?_)
    obtain ⟨rfl, C⟩ := R
    obtain ⟨t4, et4⟩ : ∃ z9_, apR e 4 t3 = z9_ := ⟨_, rfl⟩
    have q3 : t4 138 4 = t3 138 4 + 4 := by rw [← et4, apR_1]; omega
    rw [et4] at C
    show wl_R _ _ 173 36 [some (.ref 138), some (wp_i a), some (wp_i b), some (wp_i c), some (wp_i e), some (wp_i f)] [] h9 _
    refine wl_s (pc' := 37) ji_173_36 rfl rfl rfl ?_
    refine wl_s (pc' := 39) ji_173_37 rfl rfl rfl ?_
    obtain ⟨q12, hq12⟩ := cs_c C (by decide) sq_138
    refine wl_vc (d := d) (as := [.ref 138, wp_i f]) (rest := []) ji_173_39 jc_173_81 rfl hq12 jk_174.symm (Nat.le_of_ble_eq_true rfl) rfl (by rw [jn_174]; rfl) (uc_174 (d := d) C (v := f) (by omega) (by omega)) (fun v1 h11 R => ?_)
    obtain ⟨rfl, C⟩ := R
    obtain ⟨t5, et5⟩ : ∃ z9_, apR f 4 t4 = z9_ := ⟨_, rfl⟩
    have q4 : t5 138 4 = t4 138 4 + 4 := by rw [← et5, apR_1]; omega
    rw [et5] at C
    show wl_R _ _ 173 42 [some (.ref 138), some (wp_i a), some (wp_i b), some (wp_i c), some (wp_i e), some (wp_i f)] [] h11 _
    refine wl_s (pc' := 43) ji_173_42 rfl rfl rfl ?_
    refine cs_gi (k := 4) (kI := 4) C (by decide) (by decide) sq_138 rfl rfl ji_173_43 jf_173_78 ?_
    have bd13 : wp_r (t5 138 4) := cs_ri (k := 4) (kI := 4) C (by decide) (by decide) sq_138 rfl rfl (show 4 < 31 by decide)
    exact wl_ri ji_173_46 jr_173 rfl ((by unfold rFeed; rw [if_pos (by omega)]; exact ⟨congrArg (fun z => some (wp_i z)) (by omega), cs_mono C (by show _ = fvR s a b c e f; unfold fvR; rw [et1, et2, et3, et4, et5])⟩))
  · refine wl_s (pc' := 14) ji_173_13 rfl rfl rfl ?_
    exact wl_ri ji_173_14 jr_173 rfl ((by unfold rFeed; rw [if_neg (by omega)]; exact ⟨rfl, C⟩))
def cEnd (s : sg_) (x : Int) : Int × sg_ := if 0 ≤ x ∧ x ≤ s 91 1 then (x, up s 91 1 x) else (-1, s)
theorem uc_18 {nn d : Nat} {h : mj_H} {s : sg_} (C : CS h s) {x : Int} (hx : wp_r x) (q : 0 ≤ s 91 1 ∧ s 91 1 ≤ 300) : wl_R nn (d + 1) 18 0 [some (.ref 9), some (wp_i x)] [] h (fun v1 h1 => v1 = some (wp_i (cEnd s x).1) ∧ CS h1 (cEnd s x).2) := by
  refine wl_s (pc' := 1) ji_18_0 rfl rfl rfl ?_
  refine wl_if (t := 15) ji_18_1 rfl (by omega) (fun (hb1 : (x : Int) < 0) => ?_) (fun (hb1 : ¬ ((x : Int) < 0)) => ?_)
  · refine wl_s (pc' := 16) ji_18_15 rfl rfl rfl ?_
    exact wl_ri ji_18_16 jr_18 rfl ((by unfold cEnd; rw [if_neg (by omega)]; exact ⟨rfl, C⟩))
  · refine wl_s (pc' := 5) ji_18_4 rfl rfl rfl ?_
    refine wl_s (pc' := 6) ji_18_5 rfl rfl rfl ?_
    refine cs_gr (r := 91) (k := 2) C (by decide) sq_9 rfl ji_18_6 jf_18_29 ?_
    refine cs_gi (k := 1) (kI := 1) C (by decide) (by decide) sq_91 rfl rfl ji_18_9 jf_18_62 ?_
    have bd2 : wp_r (s 91 1) := cs_ri (k := 1) (kI := 1) C (by decide) (by decide) sq_91 rfl rfl (show 1 < 6 by decide)
    refine wl_icmp (t := 17) ji_18_12 rfl (by omega) (by omega) (fun (hb3 : (x : Int) ≤ (s 91 1)) => ?_) (fun (hb3 : ¬ ((x : Int) ≤ (s 91 1))) => ?_)
    · refine wl_s (pc' := 18) ji_18_17 rfl rfl rfl ?_
      refine cs_gr (r := 91) (k := 2) C (by decide) sq_9 rfl ji_18_18 jf_18_29 ?_
      refine wl_s (pc' := 22) ji_18_21 rfl rfl rfl ?_
      refine cs_pi (k := 1) (kI := 1) (y := x) C (by decide) sq_91 rfl rfl ji_18_22 jf_18_62 rfl rfl (by omega) (fun h C => ?_)
      obtain ⟨s4, es4⟩ : ∃ z9_, up s 91 1 x = z9_ := ⟨_, rfl⟩
      rw [es4] at C
      refine wl_s (pc' := 26) ji_18_25 rfl rfl rfl ?_
      exact wl_ri ji_18_26 jr_18 rfl ((by unfold cEnd; rw [if_pos (by omega)]; exact ⟨rfl, cs_mono C (by rw [es4])⟩))
    · refine wl_s (pc' := 16) ji_18_15 rfl rfl rfl ?_
      exact wl_ri ji_18_16 jr_18 rfl ((by unfold cEnd; rw [if_neg (by omega)]; exact ⟨rfl, C⟩))
def rEnd (s : sg_) (x : Int) : Int × sg_ := if 0 ≤ x ∧ x ≤ s 138 4 then (x, up s 138 4 x) else (-1, s)
theorem uc_175 {nn d : Nat} {h : mj_H} {s : sg_} (C : CS h s) {x : Int} (hx : wp_r x) (q : 0 ≤ s 138 4 ∧ s 138 4 ≤ 300) : wl_R nn (d + 1) 175 0 [some (.ref 138), some (wp_i x)] [] h (fun v1 h1 => v1 = some (wp_i (rEnd s x).1) ∧ CS h1 (rEnd s x).2) := by
  refine wl_s (pc' := 1) ji_175_0 rfl rfl rfl ?_
  refine wl_s (pc' := 2) ji_175_1 rfl rfl rfl ?_
  refine wl_s (pc' := 3) ji_175_2 rfl rfl rfl ?_
  refine cs_gi (k := 4) (kI := 4) C (by decide) (by decide) sq_138 rfl rfl ji_175_3 jf_175_78 ?_
  have bd1 : wp_r (s 138 4) := cs_ri (k := 4) (kI := 4) C (by decide) (by decide) sq_138 rfl rfl (show 4 < 31 by decide)
  refine wl_sc (d := d) (as := [wp_i x, wp_i 0, wp_i (s 138 4)]) (rest := []) ji_175_6 jc_175_66 (Nat.le_of_ble_eq_true rfl) rfl (Nat.le_of_ble_eq_true rfl) rfl (by rw [jn_171]; rfl) (uc_171 (d := d) (x := x) (a := 0) (b := s 138 4) (by omega) (by omega) (by omega)) (fun v1 h2 R => ?_)
  obtain ⟨ee, y3, rfl, hy3a, hy3b⟩ := R
  rw [ee]
  clear ee
  show wl_R _ _ 175 9 [some (.ref 138), some (wp_i x)] [wp_i y3] _ _
  refine wl_if (t := 14) ji_175_9 rfl (by omega) (fun (hb4 : ¬ (y3 : Int) = 0) => ?_) (fun (hb4 : ¬ (¬ (y3 : Int) = 0)) => ?_)
  · refine wl_s (pc' := 15) ji_175_14 rfl rfl rfl ?_
    refine wl_s (pc' := 16) ji_175_15 rfl rfl rfl ?_
    refine cs_pi (k := 4) (kI := 4) (y := x) C (by decide) sq_138 rfl rfl ji_175_16 jf_175_78 rfl rfl (by omega) (fun h C => ?_)
    obtain ⟨s5, es5⟩ : ∃ z9_, up s 138 4 x = z9_ := ⟨_, rfl⟩
    rw [es5] at C
    refine wl_s (pc' := 20) ji_175_19 rfl rfl rfl ?_
    exact wl_ri ji_175_20 jr_175 rfl ((by unfold rEnd; rw [if_pos (by omega)]; exact ⟨rfl, cs_mono C (by rw [es5])⟩))
  · refine wl_s (pc' := 13) ji_175_12 rfl rfl rfl ?_
    exact wl_ri ji_175_13 jr_175 rfl ((by unfold rEnd; rw [if_neg (by omega)]; exact ⟨rfl, C⟩))
def cFault (s : sg_) (x : Int) : Int := if s 93 2 = 0 then -1 else if x = 0 then s 93 3 else if x = 1 then s 93 4 else -1
def rFault (s : sg_) (x : Int) : Int := if x = 0 then s 138 5 else if x = 1 then s 138 6 else -1
theorem uc_54 {nn d : Nat} {h : mj_H} {s : sg_} (C : CS h s) {x : Int} (hx : wp_r x) : wl_R nn d 54 0 [some (.ref 9), some (wp_i x)] [] h (fun v1 h1 => h1 = h ∧ v1 = some (wp_i (cFault s x))) := by
  refine wl_s (pc' := 1) ji_54_0 rfl rfl rfl ?_
  refine cs_gr (r := 93) (k := 3) C (by decide) sq_9 rfl ji_54_1 jf_54_38 ?_
  refine cs_gi (k := 2) (kI := 2) C (by decide) (by decide) sq_93 rfl rfl ji_54_4 jf_54_84 ?_
  have bd1 : wp_r (s 93 2) := cs_ri (k := 2) (kI := 2) C (by decide) (by decide) sq_93 rfl rfl (show 2 < 13 by decide)
  refine wl_if (t := 12) ji_54_7 rfl (by omega) (fun (hb2 : ¬ (s 93 2 : Int) = 0) => ?_) (fun (hb2 : ¬ (¬ (s 93 2 : Int) = 0)) => ?_)
  · refine wl_s (pc' := 13) ji_54_12 rfl rfl rfl ?_
    rcases (show x = 0 ∨ x = 1 ∨ (¬ x = 0 ∧ ¬ x = 1) by omega) with q0 | q0 | q0
    · subst q0
      refine wl_s (pc' := 40) ji_54_13 rfl rfl rfl ?_
      refine wl_s (pc' := 41) ji_54_40 rfl rfl rfl ?_
      refine cs_gr (r := 93) (k := 3) C (by decide) sq_9 rfl ji_54_41 jf_54_38 ?_
      refine cs_gi (k := 3) (kI := 3) C (by decide) (by decide) sq_93 rfl rfl ji_54_44 jf_54_81 ?_
      have bd3 : wp_r (s 93 3) := cs_ri (k := 3) (kI := 3) C (by decide) (by decide) sq_93 rfl rfl (show 3 < 13 by decide)
      exact wl_ri ji_54_47 jr_54 rfl (⟨rfl, congrArg (fun z => some (wp_i z)) (by unfold cFault; (repeat' split) <;> omega)⟩)
    · subst q0
      refine wl_s (pc' := 48) ji_54_13 rfl rfl rfl ?_
      refine wl_s (pc' := 49) ji_54_48 rfl rfl rfl ?_
      refine cs_gr (r := 93) (k := 3) C (by decide) sq_9 rfl ji_54_49 jf_54_38 ?_
      refine cs_gi (k := 4) (kI := 4) C (by decide) (by decide) sq_93 rfl rfl ji_54_52 jf_54_88 ?_
      have bd4 : wp_r (s 93 4) := cs_ri (k := 4) (kI := 4) C (by decide) (by decide) sq_93 rfl rfl (show 4 < 13 by decide)
      exact wl_ri ji_54_55 jr_54 rfl (⟨rfl, congrArg (fun z => some (wp_i z)) (by unfold cFault; (repeat' split) <;> omega)⟩)
    · refine wl_s (pc' := 56) (lv' := [some (.ref 9), some (wp_i x)]) (st' := []) (h' := h) ji_54_13 rfl rfl ?_ ?_
      · simp only [mj_st, wp_ti hx]
        rw [if_pos (by decide)]
        simp only [Op.lookupswitch.offset_cons, Op.lookupswitch.offset_nil]
        rw [if_neg (by omega), if_neg (by omega)]
        rfl
      refine wl_s (pc' := 57) ji_54_56 rfl rfl rfl ?_
      exact wl_ri ji_54_57 jr_54 rfl (⟨rfl, congrArg (fun z => some (wp_i z)) (by unfold cFault; (repeat' split) <;> omega)⟩)
  · refine wl_s (pc' := 11) ji_54_10 rfl rfl rfl ?_
    exact wl_ri ji_54_11 jr_54 rfl (⟨rfl, congrArg (fun z => some (wp_i z)) (by unfold cFault; (repeat' split) <;> omega)⟩)
theorem uc_214 {nn d : Nat} {h : mj_H} {s : sg_} (C : CS h s) {x : Int} (hx : wp_r x) : wl_R nn d 214 0 [some (.ref 138), some (wp_i x)] [] h (fun v1 h1 => h1 = h ∧ v1 = some (wp_i (rFault s x))) := by
  refine wl_s (pc' := 1) ji_214_0 rfl rfl rfl ?_
  refine wl_if (t := 11) ji_214_1 rfl (by omega) (fun (hb1 : ¬ (x : Int) = 0) => ?_) (fun (hb1 : ¬ (¬ (x : Int) = 0)) => ?_)
  · refine wl_s (pc' := 12) ji_214_11 rfl rfl rfl ?_
    refine wl_s (pc' := 13) ji_214_12 rfl rfl rfl ?_
    refine wl_icmp (t := 23) ji_214_13 rfl (by omega) (by omega) (fun (hb2 : ¬ (x : Int) = 1) => ?_) (fun (hb2 : ¬ (¬ (x : Int) = 1)) => ?_)
    · refine wl_s (pc' := 24) ji_214_23 rfl rfl rfl ?_
      exact wl_ri ji_214_24 jr_214 rfl (⟨rfl, congrArg (fun z => some (wp_i z)) (by unfold rFault; (repeat' split) <;> omega)⟩)
    · refine wl_s (pc' := 17) ji_214_16 rfl rfl rfl ?_
      refine cs_gi (k := 6) (kI := 6) C (by decide) (by decide) sq_138 rfl rfl ji_214_17 jf_214_26 ?_
      have bd3 : wp_r (s 138 6) := cs_ri (k := 6) (kI := 6) C (by decide) (by decide) sq_138 rfl rfl (show 6 < 31 by decide)
      refine wl_goto (t := 24) ji_214_20 rfl ?_
      exact wl_ri ji_214_24 jr_214 rfl (⟨rfl, congrArg (fun z => some (wp_i z)) (by unfold rFault; (repeat' split) <;> omega)⟩)
  · refine wl_s (pc' := 5) ji_214_4 rfl rfl rfl ?_
    refine cs_gi (k := 5) (kI := 5) C (by decide) (by decide) sq_138 rfl rfl ji_214_5 jf_214_22 ?_
    have bd4 : wp_r (s 138 5) := cs_ri (k := 5) (kI := 5) C (by decide) (by decide) sq_138 rfl rfl (show 5 < 31 by decide)
    refine wl_goto (t := 24) ji_214_8 rfl ?_
    exact wl_ri ji_214_24 jr_214 rfl (⟨rfl, congrArg (fun z => some (wp_i z)) (by unfold rFault; (repeat' split) <;> omega)⟩)
