/-! -/
set_option maxRecDepth 100000 in
theorem jk_171 : mj_cls 171 = 11 := by decide +kernel
set_option maxRecDepth 100000 in
theorem jn_185 : mj_nl 185 = 6 := by decide +kernel
set_option maxRecDepth 100000 in
theorem jk_185 : mj_cls 185 = 11 := by decide +kernel
set_option maxRecDepth 100000 in
theorem jn_186 : mj_nl 186 = 5 := by decide +kernel
set_option maxRecDepth 100000 in
theorem jk_186 : mj_cls 186 = 11 := by decide +kernel
set_option maxRecDepth 100000 in
theorem jn_187 : mj_nl 187 = 4 := by decide +kernel
set_option maxRecDepth 100000 in
theorem jk_187 : mj_cls 187 = 11 := by decide +kernel
set_option maxRecDepth 100000 in
theorem jk_188 : mj_cls 188 = 11 := by decide +kernel
set_option maxRecDepth 100000 in
theorem jk_189 : mj_cls 189 = 11 := by decide +kernel
set_option maxRecDepth 100000 in
theorem jk_200 : mj_cls 200 = 11 := by decide +kernel
set_option maxRecDepth 100000 in
theorem ji_187_0 : mj_ins 187 0 = some (.iload_n 0) := by decide +kernel
set_option maxRecDepth 100000 in
theorem ji_187_1 : mj_ins 187 1 = some (.iload_n 1) := by decide +kernel
set_option maxRecDepth 100000 in
theorem ji_187_2 : mj_ins 187 2 = some (.iload_n 2) := by decide +kernel
set_option maxRecDepth 100000 in
theorem ji_187_3 : mj_ins 187 3 = some (.invokestatic 122) := by decide +kernel
set_option maxRecDepth 100000 in
theorem jc_187_122 : mj_cal 187 122 = some (1, 188, 3) := by decide +kernel
set_option maxRecDepth 100000 in
theorem ji_187_6 : mj_ins 187 6 = some (.bipush 8) := by decide +kernel
set_option maxRecDepth 100000 in
theorem ji_187_8 : mj_ins 187 8 = some (.lshl) := by decide +kernel
set_option maxRecDepth 100000 in
theorem ji_187_9 : mj_ins 187 9 = some (.iload_n 3) := by decide +kernel
set_option maxRecDepth 100000 in
theorem ji_187_10 : mj_ins 187 10 = some (.i2l) := by decide +kernel
set_option maxRecDepth 100000 in
theorem ji_187_11 : mj_ins 187 11 = some (.lor) := by decide +kernel
set_option maxRecDepth 100000 in
theorem ji_187_12 : mj_ins 187 12 = some (.lreturn) := by decide +kernel
set_option maxRecDepth 100000 in
theorem jr_187 : mj_ret 187 = some .long := by decide +kernel
set_option maxRecDepth 100000 in
theorem ji_186_0 : mj_ins 186 0 = some (.iload_n 0) := by decide +kernel
set_option maxRecDepth 100000 in
theorem ji_186_1 : mj_ins 186 1 = some (.iload_n 1) := by decide +kernel
set_option maxRecDepth 100000 in
theorem ji_186_2 : mj_ins 186 2 = some (.iload_n 2) := by decide +kernel
set_option maxRecDepth 100000 in
theorem ji_186_3 : mj_ins 186 3 = some (.iload_n 3) := by decide +kernel
set_option maxRecDepth 100000 in
theorem ji_186_4 : mj_ins 186 4 = some (.invokestatic 126) := by decide +kernel
set_option maxRecDepth 100000 in
theorem jc_186_126 : mj_cal 186 126 = some (1, 187, 4) := by decide +kernel
set_option maxRecDepth 100000 in
theorem ji_186_7 : mj_ins 186 7 = some (.bipush 8) := by decide +kernel
set_option maxRecDepth 100000 in
theorem ji_186_9 : mj_ins 186 9 = some (.lshl) := by decide +kernel
set_option maxRecDepth 100000 in
theorem ji_186_10 : mj_ins 186 10 = some (.iload 4) := by decide +kernel
set_option maxRecDepth 100000 in
theorem ji_186_12 : mj_ins 186 12 = some (.i2l) := by decide +kernel
set_option maxRecDepth 100000 in
theorem ji_186_13 : mj_ins 186 13 = some (.lor) := by decide +kernel
set_option maxRecDepth 100000 in
theorem ji_186_14 : mj_ins 186 14 = some (.lreturn) := by decide +kernel
set_option maxRecDepth 100000 in
theorem jr_186 : mj_ret 186 = some .long := by decide +kernel
set_option maxRecDepth 100000 in
theorem ji_185_0 : mj_ins 185 0 = some (.iload_n 0) := by decide +kernel
set_option maxRecDepth 100000 in
theorem ji_185_1 : mj_ins 185 1 = some (.iload_n 1) := by decide +kernel
set_option maxRecDepth 100000 in
theorem ji_185_2 : mj_ins 185 2 = some (.iload_n 2) := by decide +kernel
set_option maxRecDepth 100000 in
theorem ji_185_3 : mj_ins 185 3 = some (.iload_n 3) := by decide +kernel
set_option maxRecDepth 100000 in
theorem ji_185_4 : mj_ins 185 4 = some (.iload 4) := by decide +kernel
set_option maxRecDepth 100000 in
theorem ji_185_6 : mj_ins 185 6 = some (.invokestatic 130) := by decide +kernel
set_option maxRecDepth 100000 in
theorem jc_185_130 : mj_cal 185 130 = some (1, 186, 5) := by decide +kernel
set_option maxRecDepth 100000 in
theorem ji_185_9 : mj_ins 185 9 = some (.bipush 8) := by decide +kernel
set_option maxRecDepth 100000 in
theorem ji_185_11 : mj_ins 185 11 = some (.lshl) := by decide +kernel
set_option maxRecDepth 100000 in
theorem ji_185_12 : mj_ins 185 12 = some (.iload 5) := by decide +kernel
set_option maxRecDepth 100000 in
theorem ji_185_14 : mj_ins 185 14 = some (.i2l) := by decide +kernel
set_option maxRecDepth 100000 in
theorem ji_185_15 : mj_ins 185 15 = some (.lor) := by decide +kernel
set_option maxRecDepth 100000 in
theorem ji_185_16 : mj_ins 185 16 = some (.lreturn) := by decide +kernel
set_option maxRecDepth 100000 in
theorem jr_185 : mj_ret 185 = some .long := by decide +kernel
/-! the reference's reader: what it asks of its pile; laid by program (wp_rread2.py) -/
def opw : List Int → Int
  | [] => -1
  | c :: u => if 40 ≤ c then c else opw u
def cmd : List Int → Bool
  | [] => false
  | c :: u => if 4 < pr_rank c then cmd u else decide (pr_rank c = 4)
theorem pn_len {pl : List Value} : ∀ {u : List Int}, pn pl u → (u.length : Int) ≤ pl.length
  | [], _ => by show (0 : Int) ≤ _; omega
  | c :: u, e => by
    have := (List.getElem?_eq_some_iff.mp e.1.1).1
    show ((u.length + 1 : Nat) : Int) ≤ _
    omega
theorem pr_r (c : Int) : 0 ≤ pr_rank c ∧ pr_rank c ≤ 7 := by
  unfold pr_rank
  repeat' split
  all_goals omega
theorem wl_rl {nn d m pc : Nat} {lv : mj_L} {h : mj_H} {Q : Option Value → mj_H → Prop} {z : Int64} (hi : mj_ins m pc = some .lreturn) (ht : mj_ret m = some .long) (hq : Q (some (.long z)) h) : wl_R nn d m pc lv [.long z] h Q := by
  refine wl_e (v := some (.long z)) hi ?_ hq
  simp only [mj_end, ht]
theorem wr_onl {d : Nat} {h0 h : mj_H} {fs0 bl pl ts : List Value} {L p q t n x0 wr so pd op am wi ei oc cn : Int} {w : Nat} (V : rP h0 h fs0 bl L p q t n x0 wr so pd op am wi ei oc cn w pl ts) : ∀ (nn : Nat) (u : List Int), pn pl u → (u.length : Int) ≤ 1000 → wl_R nn d 198 7 [some (.ref 138), some (wp_i ((u.length : Int) - 1))] [] h (fun v h1 => h1 = h ∧ v = some (wp_i (opw u))) := by
  intro nn
  induction nn with
  | zero => intro u e hl; exact wl_0
  | succ nn ih =>
    intro u e hl
    cases u with
    | nil =>
      show wl_R (nn + 1) d 198 7 [some (.ref 138), some (wp_i (-1))] [] h _
      refine wl_s1 (pc' := 8) ji_198_7 rfl rfl rfl ?_
      refine wl_if (t := 28) ji_198_8 rfl (by omega) (fun (hb1 : (-1 : Int) < 0) => ?_) (fun (hb1 : ¬ ((-1 : Int) < 0)) => (by exfalso; omega))
      refine wl_s (pc' := 29) ji_198_28 rfl rfl rfl ?_
      refine wl_if (t := 36) ji_198_29 rfl (by omega) (fun (hb2 : (0 : Int) ≤ (-1)) => (by exfalso; omega)) (fun (hb2 : ¬ ((0 : Int) ≤ (-1))) => ?_)
      refine wl_s (pc' := 33) ji_198_32 rfl rfl rfl ?_
      refine wl_goto (t := 42) ji_198_33 rfl ?_
      exact wl_ri ji_198_42 jr_198 rfl ⟨rfl, rfl⟩
    | cons c u =>
      obtain ⟨⟨e1, e1b⟩, e2⟩ := e
      have hlc : ((c :: u).length : Int) = (u.length : Int) + 1 := rfl
      rw [hlc] at hl ⊢
      rw [show (u.length : Int) + 1 - 1 = (u.length : Int) by omega]
      have hrk := pr_r c
      refine wl_s1 (pc' := 8) ji_198_7 rfl rfl rfl ?_
      refine wl_if (t := 28) ji_198_8 rfl (by omega) (fun (hb1 : ((u.length : Int) : Int) < 0) => (by exfalso; omega)) (fun (hb1 : ¬ (((u.length : Int) : Int) < 0)) => ?_)
      refine wl_s (pc' := 12) ji_198_11 rfl rfl rfl ?_
      refine rp_g15 V ji_198_12 jf_198_29 ?_
      refine wl_s (pc' := 16) ji_198_15 rfl rfl rfl ?_
      refine rp_l (x := (u.length : Int)) V (by omega) ji_198_16 (fun y y1 y2 y3 => ?_)
      rw [show ((u.length : Int)).toNat = u.length by omega, e1] at y3
      cases y3
      refine wl_bp ji_198_17 rfl ?_
      refine wl_icmp (t := 28) ji_198_19 rfl (by omega) (by omega) (fun (hb2 : (40 : Int) ≤ c) => ?_) (fun (hb2 : ¬ ((40 : Int) ≤ c)) => ?_)
      · refine wl_s (pc' := 29) ji_198_28 rfl rfl rfl ?_
        refine wl_if (t := 36) ji_198_29 rfl (by omega) (fun (hb3 : (0 : Int) ≤ ((u.length : Int))) => ?_) (fun (hb3 : ¬ ((0 : Int) ≤ ((u.length : Int)))) => (by exfalso; omega))
        refine wl_s (pc' := 37) ji_198_36 rfl rfl rfl ?_
        refine rp_g15 V ji_198_37 jf_198_29 ?_
        refine wl_s (pc' := 41) ji_198_40 rfl rfl rfl ?_
        refine rp_l (x := (u.length : Int)) V (by omega) ji_198_41 (fun y y1 y2 y3 => ?_)
        rw [show ((u.length : Int)).toNat = u.length by omega, e1] at y3
        cases y3
        rw [show opw (c :: u) = c from if_pos (by omega)]
        exact wl_ri ji_198_42 jr_198 rfl ⟨rfl, rfl⟩
      · refine wl_iinc (x := (u.length : Int)) (z := (u.length : Int) - 1) (lv' := [some (.ref 138), some (wp_i ((u.length : Int) - 1))]) ji_198_22 rfl (Nat.le_of_ble_eq_true rfl) (by omega) rfl ?_
        refine wl_goto (t := 7) ji_198_25 rfl ?_
        rw [show opw (c :: u) = opw u from if_neg (by omega)]
        exact ih u e2 (by omega)
theorem wr_on {nn d : Nat} {h0 h : mj_H} {fs0 bl pl ts : List Value} {L p q t n x0 wr so pd op am wi ei oc cn : Int} {w : Nat} (V : rP h0 h fs0 bl L p q t n x0 wr so pd op am wi ei oc cn w pl ts) {u : List Int} (e : pn pl u) (hl : (u.length : Int) ≤ 1000) (hpd : pd = (u.length : Int)) : wl_R nn d 198 0 [some (.ref 138), none] [] h (fun v h1 => h1 = h ∧ v = some (wp_i (opw u))) := by
  subst hpd
  refine wl_s (pc' := 1) ji_198_0 rfl rfl rfl ?_
  refine rp_g16 V ji_198_1 jf_198_147 ?_
  refine wl_s (pc' := 5) ji_198_4 rfl rfl rfl ?_
  refine wl_isub (x := (u.length : Int)) (y := 1) (z := (u.length : Int) - 1) ji_198_5 rfl ?_
  refine wl_s (pc' := 7) (lv' := [some (.ref 138), some (wp_i ((u.length : Int) - 1))]) ji_198_6 rfl rfl rfl ?_
  exact wr_onl V nn u e hl
theorem wr_cml {d : Nat} {h0 h : mj_H} {fs0 bl pl ts : List Value} {L p q t n x0 wr so pd op am wi ei oc cn : Int} {w : Nat} (V : rP h0 h fs0 bl L p q t n x0 wr so pd op am wi ei oc cn w pl ts) : ∀ (nn : Nat) (u : List Int), pn pl u → (u.length : Int) ≤ 1000 → wl_R nn (d + 1) 199 7 [some (.ref 138), some (wp_i ((u.length : Int) - 1))] [] h (fun v h1 => h1 = h ∧ v = some (wp_i (bi (cmd u)))) := by
  intro nn
  induction nn with
  | zero => intro u e hl; exact wl_0
  | succ nn ih =>
    intro u e hl
    cases u with
    | nil =>
      show wl_R (nn + 1) (d + 1) 199 7 [some (.ref 138), some (wp_i (-1))] [] h _
      refine wl_s1 (pc' := 8) ji_199_7 rfl rfl rfl ?_
      refine wl_if (t := 30) ji_199_8 rfl (by omega) (fun (hb1 : (-1 : Int) < 0) => ?_) (fun (hb1 : ¬ ((-1 : Int) < 0)) => (by exfalso; omega))
      refine wl_s (pc' := 31) ji_199_30 rfl rfl rfl ?_
      refine wl_if (t := 51) ji_199_31 rfl (by omega) (fun (hb2 : (-1 : Int) < 0) => ?_) (fun (hb2 : ¬ ((-1 : Int) < 0)) => (by exfalso; omega))
      refine wl_s (pc' := 52) ji_199_51 rfl rfl rfl ?_
      exact wl_ri ji_199_52 jr_199 rfl ⟨rfl, rfl⟩
    | cons c u =>
      obtain ⟨⟨e1, e1b⟩, e2⟩ := e
      have hlc : ((c :: u).length : Int) = (u.length : Int) + 1 := rfl
      rw [hlc] at hl ⊢
      rw [show (u.length : Int) + 1 - 1 = (u.length : Int) by omega]
      have hrk := pr_r c
      refine wl_s1 (pc' := 8) ji_199_7 rfl rfl rfl ?_
      refine wl_if (t := 30) ji_199_8 rfl (by omega) (fun (hb1 : ((u.length : Int) : Int) < 0) => (by exfalso; omega)) (fun (hb1 : ¬ (((u.length : Int) : Int) < 0)) => ?_)
      refine wl_s (pc' := 12) ji_199_11 rfl rfl rfl ?_
      refine rp_g15 V ji_199_12 jf_199_29 ?_
      refine wl_s (pc' := 16) ji_199_15 rfl rfl rfl ?_
      refine rp_l (x := (u.length : Int)) V (by omega) ji_199_16 (fun y y1 y2 y3 => ?_)
      rw [show ((u.length : Int)).toNat = u.length by omega, e1] at y3
      cases y3
      refine wl_sc (d := d) (as := [wp_i c]) (rest := []) ji_199_17 jc_199_150 (Nat.le_of_ble_eq_true rfl) rfl (Nat.le_of_ble_eq_true rfl) rfl (by rw [jn_200]; rfl) (wp_wl (ws_rank (o := c) (by omega))) (fun v1 h1 R => ?_)
      obtain ⟨ee, rfl⟩ := R
      subst ee
      show wl_R _ _ 199 20 [some (.ref 138), some (wp_i ((u.length : Int)))] [wp_i (pr_rank c)] h1 _
      refine wl_s (pc' := 21) ji_199_20 rfl rfl rfl ?_
      refine wl_icmp (t := 30) ji_199_21 rfl (by omega) (by omega) (fun (hb2 : (pr_rank c : Int) ≤ 4) => ?_) (fun (hb2 : ¬ ((pr_rank c : Int) ≤ 4)) => ?_)
      · refine wl_s (pc' := 31) ji_199_30 rfl rfl rfl ?_
        refine wl_if (t := 51) ji_199_31 rfl (by omega) (fun (hb3 : ((u.length : Int) : Int) < 0) => (by exfalso; omega)) (fun (hb3 : ¬ (((u.length : Int) : Int) < 0)) => ?_)
        refine wl_s (pc' := 35) ji_199_34 rfl rfl rfl ?_
        refine rp_g15 V ji_199_35 jf_199_29 ?_
        refine wl_s (pc' := 39) ji_199_38 rfl rfl rfl ?_
        refine rp_l (x := (u.length : Int)) V (by omega) ji_199_39 (fun y y1 y2 y3 => ?_)
        rw [show ((u.length : Int)).toNat = u.length by omega, e1] at y3
        cases y3
        refine wl_sc (d := d) (as := [wp_i c]) (rest := []) ji_199_40 jc_199_150 (Nat.le_of_ble_eq_true rfl) rfl (Nat.le_of_ble_eq_true rfl) rfl (by rw [jn_200]; rfl) (wp_wl (ws_rank (o := c) (by omega))) (fun v1 h1 R => ?_)
        obtain ⟨ee, rfl⟩ := R
        subst ee
        show wl_R _ _ 199 43 [some (.ref 138), some (wp_i ((u.length : Int)))] [wp_i (pr_rank c)] h1 _
        refine wl_s (pc' := 44) ji_199_43 rfl rfl rfl ?_
        refine wl_icmp (t := 51) ji_199_44 rfl (by omega) (by omega) (fun (hb4 : ¬ (pr_rank c : Int) = 4) => ?_) (fun (hb4 : ¬ (¬ (pr_rank c : Int) = 4)) => ?_)
        · refine wl_s (pc' := 52) ji_199_51 rfl rfl rfl ?_
          show wl_R _ _ _ _ _ _ _ (fun v h1 => h1 = _ ∧ v = some (wp_i (bi (cmd (c :: u)))))
          rw [show cmd (c :: u) = false from (if_neg (by omega)).trans (decide_eq_false (by omega))]
          exact wl_ri ji_199_52 jr_199 rfl ⟨rfl, rfl⟩
        · refine wl_s (pc' := 48) ji_199_47 rfl rfl rfl ?_
          refine wl_goto (t := 52) ji_199_48 rfl ?_
          show wl_R _ _ _ _ _ _ _ (fun v h1 => h1 = _ ∧ v = some (wp_i (bi (cmd (c :: u)))))
          rw [show cmd (c :: u) = true from (if_neg (by omega)).trans (decide_eq_true (by omega))]
          exact wl_ri ji_199_52 jr_199 rfl ⟨rfl, rfl⟩
      · refine wl_iinc (x := (u.length : Int)) (z := (u.length : Int) - 1) (lv' := [some (.ref 138), some (wp_i ((u.length : Int) - 1))]) ji_199_24 rfl (Nat.le_of_ble_eq_true rfl) (by omega) rfl ?_
        refine wl_goto (t := 7) ji_199_27 rfl ?_
        show wl_R _ _ _ _ _ _ _ (fun v h1 => h1 = _ ∧ v = some (wp_i (bi (cmd (c :: u)))))
        rw [show cmd (c :: u) = cmd u from if_pos (by omega)]
        exact ih u e2 (by omega)
theorem wr_cm {nn d : Nat} {h0 h : mj_H} {fs0 bl pl ts : List Value} {L p q t n x0 wr so pd op am wi ei oc cn : Int} {w : Nat} (V : rP h0 h fs0 bl L p q t n x0 wr so pd op am wi ei oc cn w pl ts) {u : List Int} (e : pn pl u) (hl : (u.length : Int) ≤ 1000) (hpd : pd = (u.length : Int)) : wl_R nn (d + 1) 199 0 [some (.ref 138), none] [] h (fun v h1 => h1 = h ∧ v = some (wp_i (bi (cmd u)))) := by
  subst hpd
  refine wl_s (pc' := 1) ji_199_0 rfl rfl rfl ?_
  refine rp_g16 V ji_199_1 jf_199_147 ?_
  refine wl_s (pc' := 5) ji_199_4 rfl rfl rfl ?_
  refine wl_isub (x := (u.length : Int)) (y := 1) (z := (u.length : Int) - 1) ji_199_5 rfl ?_
  refine wl_s (pc' := 7) (lv' := [some (.ref 138), some (wp_i ((u.length : Int) - 1))]) ji_199_6 rfl rfl rfl ?_
  exact wr_cml V nn u e hl
theorem opw_r {pl : List Value} : ∀ {u : List Int}, pn pl u → -1 ≤ opw u ∧ opw u ≤ 41
  | [], _ => ⟨by decide, by decide⟩
  | c :: u, e => by
    have := opw_r e.2
    have := e.1.2
    show -1 ≤ (if 40 ≤ c then c else opw u) ∧ (if 40 ≤ c then c else opw u) ≤ 41
    split <;> omega
theorem wr_ah {nn d : Nat} {h0 h : mj_H} {fs0 bl pl ts : List Value} {L p q t n x0 wr so pd op am wi ei oc cn : Int} {w : Nat} (V : rP h0 h fs0 bl L p q t n x0 wr so pd op am wi ei oc cn w pl ts) {u : List Int} (e : pn pl u) (hl : (u.length : Int) ≤ 1000) (hpd : pd = (u.length : Int)) (hei : ei = 0 ∨ ei = 1) : wl_R nn (d + 1) 197 0 [some (.ref 138)] [] h (fun v h1 => h1 = h ∧ ∃ y : Int, v = some (wp_i y) ∧ (y = 0 ∨ y = 1) ∧ (y = 1 ↔ ei = 1 ∧ opw u = -1)) := by
  have hor := opw_r e
  refine wl_s (pc' := 1) ji_197_0 rfl rfl rfl ?_
  refine rp_g20 V ji_197_1 jf_197_160 ?_
  refine wl_if (t := 19) ji_197_4 rfl (by omega) (fun (hb1 : (ei : Int) = 0) => ?_) (fun (hb1 : ¬ ((ei : Int) = 0)) => ?_)
  · refine wl_s (pc' := 20) ji_197_19 rfl rfl rfl ?_
    exact wl_ri ji_197_20 jr_197 rfl ⟨rfl, 0, rfl, by omega, by omega⟩
  · refine wl_s (pc' := 8) ji_197_7 rfl rfl rfl ?_
    obtain ⟨cs, hcs⟩ := rp_c V
    refine wl_vc (d := d) (as := [.ref 138]) (rest := []) ji_197_8 jc_197_163 rfl hcs jk_198.symm (Nat.le_of_ble_eq_true rfl) rfl (by rw [jn_198]; rfl) (wr_on V e hl hpd) (fun v1 h1 R => ?_)
    obtain ⟨ee, rfl⟩ := R
    subst ee
    show wl_R _ _ 197 11 [some (.ref 138)] [wp_i (opw u)] h1 _
    refine wl_s (pc' := 12) ji_197_11 rfl rfl rfl ?_
    refine wl_icmp (t := 19) ji_197_12 rfl (by omega) (by omega) (fun (hb2 : ¬ (opw u : Int) = (-1)) => ?_) (fun (hb2 : ¬ (¬ (opw u : Int) = (-1))) => ?_)
    · refine wl_s (pc' := 20) ji_197_19 rfl rfl rfl ?_
      exact wl_ri ji_197_20 jr_197 rfl ⟨rfl, 0, rfl, by omega, by omega⟩
    · refine wl_s (pc' := 16) ji_197_15 rfl rfl rfl ?_
      refine wl_goto (t := 20) ji_197_16 rfl ?_
      exact wl_ri ji_197_20 jr_197 rfl ⟨rfl, 1, rfl, by omega, by omega⟩
theorem wd_lt2 {a b : Int} (ha : 0 ≤ a ∧ a ≤ 255) (hb : 0 ≤ b ∧ b ≤ 255) : wd [a, b] < 2 ^ 16 := by
  rw [show wd [a, b] = 256 * a.toNat + b.toNat by show wd1 (wd1 0 a) b = _; rw [show wd1 0 a = a.toNat by unfold wd1; rw [if_pos (by decide)]; omega]; unfold wd1; rw [if_pos (by omega)]]
  omega
theorem wr_w2 {nn d : Nat} {h : mj_H} {a b : Int} (ha : 0 ≤ a ∧ a ≤ 255) (hb : 0 ≤ b ∧ b ≤ 255) : wl_R nn d 189 0 [some (wp_i a), some (wp_i b)] [] h (fun v h1 => h1 = h ∧ v = some (.long (Int64.ofNat (wd [a, b])))) := by
  refine wl_s (pc' := 1) ji_189_0 rfl rfl rfl ?_
  refine wl_i2l (b := a) ji_189_1 (by omega) ?_
  refine wl_bp ji_189_2 rfl ?_
  refine wl_lshl (x := (a).toNat) ji_189_4 ?_
  refine wl_s (pc' := 6) ji_189_5 rfl rfl rfl ?_
  refine wl_i2l (b := b) ji_189_6 (by omega) ?_
  refine wl_lor (x := (a).toNat) (b := (b).toNat) ji_189_7 (by omega) (by omega) ?_
  exact wl_rl ji_189_8 jr_189 ⟨rfl, by rw [show wd [a, b] = 256 * a.toNat + b.toNat by show wd1 (wd1 0 a) b = _; rw [show wd1 0 a = a.toNat by unfold wd1; rw [if_pos (by decide)]; omega]; unfold wd1; rw [if_pos (by omega)]]⟩
theorem wd_lt3 {a b c : Int} (ha : 0 ≤ a ∧ a ≤ 255) (hb : 0 ≤ b ∧ b ≤ 255) (hc : 0 ≤ c ∧ c ≤ 255) : wd [a, b, c] < 2 ^ 24 := by
  have h0 := wd_lt2 ha hb
  rw [show [a, b, c] = [a, b] ++ [c] from rfl, wd_s]
  unfold wd1
  rw [if_pos (by omega)]
  omega
theorem wr_w3 {nn d : Nat} {h : mj_H} {a b c : Int} (ha : 0 ≤ a ∧ a ≤ 255) (hb : 0 ≤ b ∧ b ≤ 255) (hc : 0 ≤ c ∧ c ≤ 255) : wl_R nn (d + 1) 188 0 [some (wp_i a), some (wp_i b), some (wp_i c)] [] h (fun v h1 => h1 = h ∧ v = some (.long (Int64.ofNat (wd [a, b, c])))) := by
  refine wl_s (pc' := 1) ji_188_0 rfl rfl rfl ?_
  refine wl_s (pc' := 2) ji_188_1 rfl rfl rfl ?_
  refine wl_sc (d := d + 0) (as := [wp_i a, wp_i b]) (rest := []) ji_188_2 jc_188_118 (Nat.le_of_ble_eq_true rfl) rfl (Nat.le_of_ble_eq_true rfl) rfl (by rw [jn_189]; rfl) (wr_w2 (d := d) ha hb) (fun v1 h1 R => ?_)
  obtain ⟨ee, rfl⟩ := R
  subst ee
  have hwb := wd_b [a, b] 0 (by decide) (fun z hz => by simp at hz; omega)
  obtain ⟨W, hW⟩ : ∃ W, wd [a, b] = W := ⟨_, rfl⟩
  have hW2 : W < 2 ^ 16 := by rw [← hW]; exact wd_lt2 ha hb
  rw [hW]
  show wl_R _ _ 188 5 [some (wp_i a), some (wp_i b), some (wp_i c)] [.long (Int64.ofNat W)] h1 _
  refine wl_bp ji_188_5 rfl ?_
  refine wl_lshl (x := W) ji_188_7 ?_
  refine wl_s (pc' := 9) ji_188_8 rfl rfl rfl ?_
  refine wl_i2l (b := c) ji_188_9 (by omega) ?_
  refine wl_lor (x := W) (b := (c).toNat) ji_188_10 (by omega) (by omega) ?_
  have ew : wd [a, b, c] = 256 * W + c.toNat := by
    rw [show [a, b, c] = [a, b] ++ [c] from rfl, wd_s, hW]
    exact if_pos (by omega)
  exact wl_rl ji_188_11 jr_188 ⟨rfl, by rw [ew]⟩
theorem wd_lt4 {a b c e : Int} (ha : 0 ≤ a ∧ a ≤ 255) (hb : 0 ≤ b ∧ b ≤ 255) (hc : 0 ≤ c ∧ c ≤ 255) (he : 0 ≤ e ∧ e ≤ 255) : wd [a, b, c, e] < 2 ^ 32 := by
  have h0 := wd_lt3 ha hb hc
  rw [show [a, b, c, e] = [a, b, c] ++ [e] from rfl, wd_s]
  unfold wd1
  rw [if_pos (by omega)]
  omega
theorem wr_w4 {nn d : Nat} {h : mj_H} {a b c e : Int} (ha : 0 ≤ a ∧ a ≤ 255) (hb : 0 ≤ b ∧ b ≤ 255) (hc : 0 ≤ c ∧ c ≤ 255) (he : 0 ≤ e ∧ e ≤ 255) : wl_R nn (d + 2) 187 0 [some (wp_i a), some (wp_i b), some (wp_i c), some (wp_i e)] [] h (fun v h1 => h1 = h ∧ v = some (.long (Int64.ofNat (wd [a, b, c, e])))) := by
  refine wl_s (pc' := 1) ji_187_0 rfl rfl rfl ?_
  refine wl_s (pc' := 2) ji_187_1 rfl rfl rfl ?_
  refine wl_s (pc' := 3) ji_187_2 rfl rfl rfl ?_
  refine wl_sc (d := d + 1) (as := [wp_i a, wp_i b, wp_i c]) (rest := []) ji_187_3 jc_187_122 (Nat.le_of_ble_eq_true rfl) rfl (Nat.le_of_ble_eq_true rfl) rfl (by rw [jn_188]; rfl) (wr_w3 (d := d) ha hb hc) (fun v1 h1 R => ?_)
  obtain ⟨ee, rfl⟩ := R
  subst ee
  have hwb := wd_b [a, b, c] 0 (by decide) (fun z hz => by simp at hz; omega)
  obtain ⟨W, hW⟩ : ∃ W, wd [a, b, c] = W := ⟨_, rfl⟩
  have hW2 : W < 2 ^ 24 := by rw [← hW]; exact wd_lt3 ha hb hc
  rw [hW]
  show wl_R _ _ 187 6 [some (wp_i a), some (wp_i b), some (wp_i c), some (wp_i e)] [.long (Int64.ofNat W)] h1 _
  refine wl_bp ji_187_6 rfl ?_
  refine wl_lshl (x := W) ji_187_8 ?_
  refine wl_s (pc' := 10) ji_187_9 rfl rfl rfl ?_
  refine wl_i2l (b := e) ji_187_10 (by omega) ?_
  refine wl_lor (x := W) (b := (e).toNat) ji_187_11 (by omega) (by omega) ?_
  have ew : wd [a, b, c, e] = 256 * W + e.toNat := by
    rw [show [a, b, c, e] = [a, b, c] ++ [e] from rfl, wd_s, hW]
    exact if_pos (by omega)
  exact wl_rl ji_187_12 jr_187 ⟨rfl, by rw [ew]⟩
theorem wd_lt5 {a b c e f : Int} (ha : 0 ≤ a ∧ a ≤ 255) (hb : 0 ≤ b ∧ b ≤ 255) (hc : 0 ≤ c ∧ c ≤ 255) (he : 0 ≤ e ∧ e ≤ 255) (hf : 0 ≤ f ∧ f ≤ 255) : wd [a, b, c, e, f] < 2 ^ 40 := by
  have h0 := wd_lt4 ha hb hc he
  rw [show [a, b, c, e, f] = [a, b, c, e] ++ [f] from rfl, wd_s]
  unfold wd1
  rw [if_pos (by omega)]
  omega
theorem wr_w5 {nn d : Nat} {h : mj_H} {a b c e f : Int} (ha : 0 ≤ a ∧ a ≤ 255) (hb : 0 ≤ b ∧ b ≤ 255) (hc : 0 ≤ c ∧ c ≤ 255) (he : 0 ≤ e ∧ e ≤ 255) (hf : 0 ≤ f ∧ f ≤ 255) : wl_R nn (d + 3) 186 0 [some (wp_i a), some (wp_i b), some (wp_i c), some (wp_i e), some (wp_i f)] [] h (fun v h1 => h1 = h ∧ v = some (.long (Int64.ofNat (wd [a, b, c, e, f])))) := by
  refine wl_s (pc' := 1) ji_186_0 rfl rfl rfl ?_
  refine wl_s (pc' := 2) ji_186_1 rfl rfl rfl ?_
  refine wl_s (pc' := 3) ji_186_2 rfl rfl rfl ?_
  refine wl_s (pc' := 4) ji_186_3 rfl rfl rfl ?_
  refine wl_sc (d := d + 2) (as := [wp_i a, wp_i b, wp_i c, wp_i e]) (rest := []) ji_186_4 jc_186_126 (Nat.le_of_ble_eq_true rfl) rfl (Nat.le_of_ble_eq_true rfl) rfl (by rw [jn_187]; rfl) (wr_w4 (d := d) ha hb hc he) (fun v1 h1 R => ?_)
  obtain ⟨ee, rfl⟩ := R
  subst ee
  have hwb := wd_b [a, b, c, e] 0 (by decide) (fun z hz => by simp at hz; omega)
  obtain ⟨W, hW⟩ : ∃ W, wd [a, b, c, e] = W := ⟨_, rfl⟩
  have hW2 : W < 2 ^ 32 := by rw [← hW]; exact wd_lt4 ha hb hc he
  rw [hW]
  show wl_R _ _ 186 7 [some (wp_i a), some (wp_i b), some (wp_i c), some (wp_i e), some (wp_i f)] [.long (Int64.ofNat W)] h1 _
  refine wl_bp ji_186_7 rfl ?_
  refine wl_lshl (x := W) ji_186_9 ?_
  refine wl_s (pc' := 12) ji_186_10 rfl rfl rfl ?_
  refine wl_i2l (b := f) ji_186_12 (by omega) ?_
  refine wl_lor (x := W) (b := (f).toNat) ji_186_13 (by omega) (by omega) ?_
  have ew : wd [a, b, c, e, f] = 256 * W + f.toNat := by
    rw [show [a, b, c, e, f] = [a, b, c, e] ++ [f] from rfl, wd_s, hW]
    exact if_pos (by omega)
  exact wl_rl ji_186_14 jr_186 ⟨rfl, by rw [ew]⟩
theorem wr_w6 {nn d : Nat} {h : mj_H} {a b c e f g : Int} (ha : 0 ≤ a ∧ a ≤ 255) (hb : 0 ≤ b ∧ b ≤ 255) (hc : 0 ≤ c ∧ c ≤ 255) (he : 0 ≤ e ∧ e ≤ 255) (hf : 0 ≤ f ∧ f ≤ 255) (hg : 0 ≤ g ∧ g ≤ 255) : wl_R nn (d + 4) 185 0 [some (wp_i a), some (wp_i b), some (wp_i c), some (wp_i e), some (wp_i f), some (wp_i g)] [] h (fun v h1 => h1 = h ∧ v = some (.long (Int64.ofNat (wd [a, b, c, e, f, g])))) := by
  refine wl_s (pc' := 1) ji_185_0 rfl rfl rfl ?_
  refine wl_s (pc' := 2) ji_185_1 rfl rfl rfl ?_
  refine wl_s (pc' := 3) ji_185_2 rfl rfl rfl ?_
  refine wl_s (pc' := 4) ji_185_3 rfl rfl rfl ?_
  refine wl_s (pc' := 6) ji_185_4 rfl rfl rfl ?_
  refine wl_sc (d := d + 3) (as := [wp_i a, wp_i b, wp_i c, wp_i e, wp_i f]) (rest := []) ji_185_6 jc_185_130 (Nat.le_of_ble_eq_true rfl) rfl (Nat.le_of_ble_eq_true rfl) rfl (by rw [jn_186]; rfl) (wr_w5 (d := d) ha hb hc he hf) (fun v1 h1 R => ?_)
  obtain ⟨ee, rfl⟩ := R
  subst ee
  have hwb := wd_b [a, b, c, e, f] 0 (by decide) (fun z hz => by simp at hz; omega)
  obtain ⟨W, hW⟩ : ∃ W, wd [a, b, c, e, f] = W := ⟨_, rfl⟩
  have hW2 : W < 2 ^ 40 := by rw [← hW]; exact wd_lt5 ha hb hc he hf
  rw [hW]
  show wl_R _ _ 185 9 [some (wp_i a), some (wp_i b), some (wp_i c), some (wp_i e), some (wp_i f), some (wp_i g)] [.long (Int64.ofNat W)] h1 _
  refine wl_bp ji_185_9 rfl ?_
  refine wl_lshl (x := W) ji_185_11 ?_
  refine wl_s (pc' := 14) ji_185_12 rfl rfl rfl ?_
  refine wl_i2l (b := g) ji_185_14 (by omega) ?_
  refine wl_lor (x := W) (b := (g).toNat) ji_185_15 (by omega) (by omega) ?_
  have ew : wd [a, b, c, e, f, g] = 256 * W + g.toNat := by
    rw [show [a, b, c, e, f, g] = [a, b, c, e, f] ++ [g] from rfl, wd_s, hW]
    exact if_pos (by omega)
  exact wl_rl ji_185_16 jr_185 ⟨rfl, by rw [ew]⟩
theorem wr_iw {nn d : Nat} {h0 h : mj_H} {fs0 bl pl ts : List Value} {L p q t n x0 wr so pd op am wi ei oc cn : Int} {w : Nat} (V : rP h0 h fs0 bl L p q t n x0 wr so pd op am wi ei oc cn w pl ts) {W : Nat} (hw : w ≤ 2 ^ 60) (hW : W < 2 ^ 61) (htr : wp_r t) : wl_R nn d 190 0 [some (.ref 138), some (.long (Int64.ofNat W)), none] [] h (fun v h1 => h1 = h ∧ ∃ y : Int, v = some (wp_i y) ∧ (y = 0 ∨ y = 1) ∧ (y = 1 ↔ t = 2 ∧ w = W)) := by
  refine wl_s (pc' := 1) ji_190_0 rfl rfl rfl ?_
  refine rp_g9 V ji_190_1 jf_190_95 ?_
  refine wl_s (pc' := 5) ji_190_4 rfl rfl rfl ?_
  refine wl_icmp (t := 21) ji_190_5 rfl (by omega) (by omega) (fun (hb1 : ¬ (t : Int) = 2) => ?_) (fun (hb1 : ¬ (¬ (t : Int) = 2)) => ?_)
  · refine wl_s (pc' := 22) ji_190_21 rfl rfl rfl ?_
    exact wl_ri ji_190_22 jr_190 rfl ⟨rfl, 0, rfl, by omega, by omega⟩
  · refine wl_s (pc' := 9) ji_190_8 rfl rfl rfl ?_
    refine rp_g11 V ji_190_9 jf_190_109 ?_
    refine wl_s (pc' := 13) ji_190_12 rfl rfl rfl ?_
    refine wl_lcmp (x := w) (y := W) ji_190_13 (by omega) (by omega) (fun z hz1 hz2 => ?_)
    refine wl_if (t := 21) ji_190_14 rfl (by omega) (fun (hb2 : ¬ (z : Int) = 0) => ?_) (fun (hb2 : ¬ (¬ (z : Int) = 0)) => ?_)
    · refine wl_s (pc' := 22) ji_190_21 rfl rfl rfl ?_
      exact wl_ri ji_190_22 jr_190 rfl ⟨rfl, 0, rfl, by omega, by omega⟩
    · refine wl_s (pc' := 18) ji_190_17 rfl rfl rfl ?_
      refine wl_goto (t := 22) ji_190_18 rfl ?_
      exact wl_ri ji_190_22 jr_190 rfl ⟨rfl, 1, rfl, by omega, by omega⟩
