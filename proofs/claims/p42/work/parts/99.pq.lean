/-! -/
/-! the reference's reader: the next token, what opens; laid by program (wp_rread3.py) -/
theorem wr_nt {nn d : Nat} {h0 h : mj_H} {fs0 bl pl ts : List Value} {L p q t n x0 wr so pd op am wi ei oc cn : Int} {w : Nat} (V : rP h0 h fs0 bl L p q t n x0 wr so pd op am wi ei oc cn w pl ts) (D : tB bl) (hL : 0 ≤ L ∧ L ≤ 300) (hp : 0 ≤ p ∧ p ≤ L) (hw0 : w ≤ 2 ^ 60) : wl_R nn (d + 1) 178 0 [some (.ref 138), none] [] h (fun v9 h1 => v9 = none ∧ ∃ (k v q' r' t' n' : Int) (w' : Nat), tok (bt bl L) p k v q' r' ∧ tkr k v t' n' w' ∧ (0 ≤ q' ∧ r' ≤ L) ∧ w' ≤ 2 ^ 60 ∧ rP h0 h1 fs0 bl L r' q' t' n' x0 wr so pd op am wi ei oc cn w' pl ts) := by
  obtain ⟨⟨fs, e0, l, ⟨e4, e7, e8, e9, e10, e12, e13, e14, e16, e17, e18, e19, e20, e21, e11, e2, e3, e15⟩, g⟩, f1, f2, ⟨f3, f4⟩, f5⟩ := V
  refine wl_mono (wr_nxt (d := d) D hL (h0 := h) (fs0 := fs) ⟨⟨fs, e0, l, e7, e8, e9, e10, e11, e3, e4, fun _ _ => rfl⟩, f1, fun _ _ => rfl⟩ hp hw0) ?_
  rintro v9 h1 ⟨rfl, k, v, q', r', t', n', w', ⟨⟨fs1, g0, gl, g7, g8, g9, g10, g11, g3, g4, gg⟩, i1, i2⟩, tk, tr, hb, hw1⟩
  refine ⟨rfl, k, v, q', r', t', n', w', tk, tr, hb, hw1, ⟨fs1, g0, gl, ⟨(gg 4 (by decide)).trans e4, g7, g8, g9, g10, (gg 12 (by decide)).trans e12, (gg 13 (by decide)).trans e13, (gg 14 (by decide)).trans e14, (gg 16 (by decide)).trans e16, (gg 17 (by decide)).trans e17, (gg 18 (by decide)).trans e18, (gg 19 (by decide)).trans e19, (gg 20 (by decide)).trans e20, (gg 21 (by decide)).trans e21, g11, (gg 2 (by decide)).trans e2, (gg 3 (by decide)).trans e3, (gg 15 (by decide)).trans e15⟩, fun j hj => (gg j (fun x => hj (by
    have : j = 7 ∨ j = 8 ∨ j = 9 ∨ j = 10 ∨ j = 11 := by omega
    rcases this with rfl | rfl | rfl | rfl | rfl <;> decide))).trans (g j hj)⟩, (i2 142 (by decide)).trans f1, (i2 143 (by decide)).trans f2, ⟨(i2 141 (by decide)).trans f3, f4⟩, fun a a1 a2 a3 => (i2 a a1).trans (f5 a a1 a2 a3)⟩
def aha : List Int → Prop
  | [] => True
  | c :: _ => 1 ≤ pr_rank c ∧ pr_rank c ≤ 3
theorem wr_aa {nn d : Nat} {h0 h : mj_H} {fs0 bl pl ts : List Value} {L p q t n x0 wr so pd op am wi ei oc cn : Int} {w : Nat} (V : rP h0 h fs0 bl L p q t n x0 wr so pd op am wi ei oc cn w pl ts) {u : List Int} (e : pn pl u) (hl : (u.length : Int) ≤ 1000) (hpd : pd = (u.length : Int)) (hei : ei = 0 ∨ ei = 1) : wl_R nn (d + 2) 211 0 [some (.ref 138)] [] h (fun v h1 => h1 = h ∧ ∃ y : Int, v = some (wp_i y) ∧ (y = 0 ∨ y = 1) ∧ (y = 1 ↔ (ei = 1 ∧ opw u = -1) ∧ aha u)) := by
  refine wl_s (pc' := 1) ji_211_0 rfl rfl rfl ?_
  obtain ⟨cs, hcs⟩ := rp_c V
  refine wl_vc (d := d + 1) (as := [.ref 138]) (rest := []) ji_211_1 jc_211_167 rfl hcs jk_197.symm (Nat.le_of_ble_eq_true rfl) rfl (by rw [jn_197]; rfl) (wr_ah (d := d) V e hl hpd hei) (fun v1 h1 R => ?_)
  obtain ⟨ee, y, rfl, hya, hyb⟩ := R
  subst ee
  show wl_R _ _ 211 4 [some (.ref 138)] [wp_i y] h1 _
  refine wl_if (t := 40) ji_211_4 rfl (by omega) (fun (hb1 : (y : Int) = 0) => ?_) (fun (hb1 : ¬ ((y : Int) = 0)) => ?_)
  · refine wl_s (pc' := 41) ji_211_40 rfl rfl rfl ?_
    exact wl_ri ji_211_41 jr_211 rfl ⟨rfl, 0, rfl, by omega, ⟨fun z => by omega, fun z => by have := z.1; omega⟩⟩
  · refine wl_s (pc' := 8) ji_211_7 rfl rfl rfl ?_
    refine rp_g16 V ji_211_8 jf_211_147 ?_
    refine wl_if (t := 36) ji_211_11 rfl (by omega) (fun (hb2 : (pd : Int) = 0) => ?_) (fun (hb2 : ¬ ((pd : Int) = 0)) => ?_)
    · refine wl_s (pc' := 37) ji_211_36 rfl rfl rfl ?_
      refine wl_goto (t := 41) ji_211_37 rfl ?_
      cases u with
      | nil => exact wl_ri ji_211_41 jr_211 rfl ⟨rfl, 1, rfl, by omega, ⟨fun _ => ⟨hyb.mp (by omega), trivial⟩, fun _ => rfl⟩⟩
      | cons c u => exact absurd hpd (by have hlc : ((c :: u).length : Int) = (u.length : Int) + 1 := rfl; omega)
    · refine wl_s (pc' := 15) ji_211_14 rfl rfl rfl ?_
      refine rp_g15 V ji_211_15 jf_211_29 ?_
      refine wl_s (pc' := 19) ji_211_18 rfl rfl rfl ?_
      refine rp_g16 V ji_211_19 jf_211_147 ?_
      refine wl_s (pc' := 23) ji_211_22 rfl rfl rfl ?_
      refine wl_isub (x := pd) (y := 1) (z := pd - 1) ji_211_23 (by omega) ?_
      cases u with
      | nil => exact absurd hpd (by show ¬ pd = 0; omega)
      | cons c u =>
        obtain ⟨⟨e1, e1b⟩, e2⟩ := e
        have hlc : ((c :: u).length : Int) = (u.length : Int) + 1 := rfl
        refine rp_l (x := pd - 1) V (by omega) ji_211_24 (fun y y1 y2 y3 => ?_)
        rw [show (pd - 1).toNat = u.length by omega, e1] at y3
        cases y3
        have hrk := pr_r c
        refine wl_sc (d := d + 1) (as := [wp_i c]) (rest := []) ji_211_25 jc_211_150 (Nat.le_of_ble_eq_true rfl) rfl (Nat.le_of_ble_eq_true rfl) rfl (by rw [jn_200]; rfl) (wp_wl (ws_rank (o := c) (by omega))) (fun v1 h1 R => ?_)
        obtain ⟨ee, rfl⟩ := R
        subst ee
        show wl_R _ _ 211 28 [some (.ref 138)] [wp_i (pr_rank c)] h1 _
        refine wl_s (pc' := 29) ji_211_28 rfl rfl rfl ?_
        refine wl_s (pc' := 30) ji_211_29 rfl rfl rfl ?_
        refine wl_sc (d := d + 1) (as := [wp_i (pr_rank c), wp_i 1, wp_i 3]) (rest := []) ji_211_30 jc_211_66 (Nat.le_of_ble_eq_true rfl) rfl (Nat.le_of_ble_eq_true rfl) rfl (by rw [jn_171]; rfl) (wp_wl (ws_isIn (x := pr_rank c) (lo := 1) (hi := 3) (by omega) (by omega) (by omega))) (fun v1 h2 R => ?_)
        obtain ⟨ee, rfl⟩ := R
        subst ee
        obtain ⟨z, hz⟩ : ∃ z : Int, (if 1 ≤ pr_rank c ∧ pr_rank c ≤ 3 then (1 : Int) else 0) = z := ⟨_, rfl⟩
        rw [hz]
        have hz2 : (z = 1 ∧ 1 ≤ pr_rank c ∧ pr_rank c ≤ 3) ∨ (z = 0 ∧ ¬ (1 ≤ pr_rank c ∧ pr_rank c ≤ 3)) := by rw [← hz]; split <;> omega
        show wl_R _ _ 211 33 [some (.ref 138)] [wp_i z] _ _
        refine wl_if (t := 40) ji_211_33 rfl (by omega) (fun (hb3 : (z : Int) = 0) => ?_) (fun (hb3 : ¬ ((z : Int) = 0)) => ?_)
        · refine wl_s (pc' := 41) ji_211_40 rfl rfl rfl ?_
          exact wl_ri ji_211_41 jr_211 rfl ⟨rfl, 0, rfl, by omega, by show _ ↔ (ei = 1 ∧ opw (c :: u) = -1) ∧ (1 ≤ pr_rank c ∧ pr_rank c ≤ 3); omega⟩
        · refine wl_s (pc' := 37) ji_211_36 rfl rfl rfl ?_
          refine wl_goto (t := 41) ji_211_37 rfl ?_
          exact wl_ri ji_211_41 jr_211 rfl ⟨rfl, 1, rfl, by omega, by show _ ↔ (ei = 1 ∧ opw (c :: u) = -1) ∧ (1 ≤ pr_rank c ∧ pr_rank c ≤ 3); omega⟩
theorem wr_op {nn d : Nat} {c : Int} {h0 h : mj_H} {fs0 bl pl ts : List Value} {L p q t n x0 wr so pd op am wi ei oc cn : Int} {w : Nat} (V : rP h0 h fs0 bl L p q t n x0 wr so pd op am wi ei oc cn w pl ts) {u : List Int} (e : pn pl u) (hl : (u.length : Int) ≤ 1000) (hpd : pd = (u.length : Int)) (hop : -1000 ≤ op ∧ op ≤ 1000) (D : tB bl) (hL : 0 ≤ L ∧ L ≤ 300) (hp : 0 ≤ p ∧ p ≤ L) (hw0 : w ≤ 2 ^ 60) (hc : 0 ≤ c ∧ c ≤ 41) : wl_R nn (d + 2) 205 0 [some (.ref 138), some (wp_i c)] [] h (fun v9 h1 => (op = 8 ∧ h1 = h ∧ v9 = some (wp_i 3)) ∨ (¬ op = 8 ∧ v9 = some (wp_i 0) ∧ ∃ (k v q' r' t' n' : Int) (w' : Nat) (pl' : List Value), tok (bt bl L) p k v q' r' ∧ tkr k v t' n' w' ∧ (0 ≤ q' ∧ r' ≤ L) ∧ w' ≤ 2 ^ 60 ∧ pn pl' (c :: u) ∧ rP h0 h1 fs0 bl L r' q' t' n' x0 wr so ((u.length : Int) + 1) (op + 1) am wi ei oc cn w' pl' ts)) := by
  subst hpd
  refine wl_s (pc' := 1) ji_205_0 rfl rfl rfl ?_
  refine rp_g17 V ji_205_1 jf_205_157 ?_
  refine wl_bp ji_205_4 rfl ?_
  refine wl_icmp (t := 11) ji_205_6 rfl (by omega) (by omega) (fun (hb1 : ¬ (op : Int) = 8) => ?_) (fun (hb1 : ¬ (¬ (op : Int) = 8)) => ?_)
  · refine wl_s (pc' := 12) ji_205_11 rfl rfl rfl ?_
    refine wl_s (pc' := 13) ji_205_12 rfl rfl rfl ?_
    refine rp_g17 V ji_205_13 jf_205_157 ?_
    refine wl_s (pc' := 17) ji_205_16 rfl rfl rfl ?_
    refine wl_iadd (x := op) (y := 1) (z := op + 1) ji_205_17 (by omega) ?_
    refine rp_p17 (y := op + 1) V ji_205_18 jf_205_157 (fun h V => ?_)
    refine wl_s (pc' := 22) ji_205_21 rfl rfl rfl ?_
    refine rp_g15 V ji_205_22 jf_205_29 ?_
    refine wl_s (pc' := 26) ji_205_25 rfl rfl rfl ?_
    refine rp_g16 V ji_205_26 jf_205_147 ?_
    refine wl_s (pc' := 30) ji_205_29 rfl rfl rfl ?_
    refine rp_s (x := (u.length : Int)) (y := c) V (by omega) ji_205_30 (fun h x1 x2 V => ?_)
    refine wl_s (pc' := 32) ji_205_31 rfl rfl rfl ?_
    refine wl_s (pc' := 33) ji_205_32 rfl rfl rfl ?_
    refine rp_g16 V ji_205_33 jf_205_147 ?_
    refine wl_s (pc' := 37) ji_205_36 rfl rfl rfl ?_
    refine wl_iadd (x := (u.length : Int)) (y := 1) (z := (u.length : Int) + 1) ji_205_37 (by omega) ?_
    refine rp_p16 (y := (u.length : Int) + 1) V ji_205_38 jf_205_147 (fun h V => ?_)
    refine wl_s (pc' := 42) ji_205_41 rfl rfl rfl ?_
    obtain ⟨cs, hcs⟩ := rp_c V
    refine wl_vc (d := d + 1) (as := [.ref 138]) (rest := []) ji_205_42 jc_205_171 rfl hcs jk_178.symm (Nat.le_of_ble_eq_true rfl) rfl (by rw [jn_178]; rfl) (wr_nt (d := d) V D hL hp hw0) (fun v1 h2 R => ?_)
    obtain ⟨rfl, k, v, q', r', t', n', w', tk, tr, hb, hw1, V⟩ := R
    show wl_R _ _ 205 45 [some (.ref 138), some (wp_i c)] [] h2 _
    refine wl_s (pc' := 46) ji_205_45 rfl rfl rfl ?_
    exact wl_ri ji_205_46 jr_205 rfl (Or.inr ⟨by omega, rfl, k, v, q', r', t', n', w', pl.set ((u.length : Int)).toNat (wp_i c), tk, tr, hb, hw1, ⟨⟨by rw [show ((u.length : Int)).toNat = u.length by omega]; exact List.getElem?_set_self (by omega), hc⟩, pn_set (by omega) e⟩, V⟩)
  · refine wl_s (pc' := 10) ji_205_9 rfl rfl rfl ?_
    exact wl_ri ji_205_10 jr_205 rfl (Or.inl ⟨by omega, rfl, rfl⟩)
