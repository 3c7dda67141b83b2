/-! -/
/-! a bracket is shut, by the reference; laid by program (wp_rread7.py) -/
theorem wr_sh {nn d : Nat} {o : Int} {h0 h : mj_H} {fs0 bl pl ts : List Value} {L p q t n x0 wr so pd op am wi ei oc cn : Int} {w : Nat} (V : rP h0 h fs0 bl L p q t n x0 wr so pd op am wi ei oc cn w pl ts) {u : List Int} (e : pn pl u) (hl : (u.length : Int) ≤ 200) (hpd : pd = (u.length : Int)) (hop : 0 ≤ op ∧ op ≤ 1000) (ham : 0 ≤ am ∧ am ≤ 100) (D : tB bl) (hL : 0 ≤ L ∧ L ≤ 300) (hp : 0 ≤ p ∧ p ≤ L) (hw0 : w ≤ 2 ^ 60) (hx0 : 0 ≤ x0 ∧ x0 ≤ 3000) (hwr : 0 ≤ wr ∧ wr ≤ 900000) {c : Int} {u2 : List Int} (hu : stl 1 u = c :: u2) (ho : wp_r o) : wl_R nn (d + 2) 207 0 [some (.ref 138), some (wp_i o)] [] h (fun v9 h1 => v9 = none ∧ ∃ (k v q' r' t' n' : Int) (w' : Nat), tok (bt bl L) p k v q' r' ∧ tkr k v t' n' w' ∧ (0 ≤ q' ∧ r' ≤ L) ∧ w' ≤ 2 ^ 60 ∧ ((o = 41 ∧ ∃ (wr' : Int) (pl' ts' : List Value), (wr ≤ wr' ∧ wr' ≤ wr + (u.length : Int) + 1) ∧ pn pl' (16 :: u2) ∧ rP h0 h1 fs0 bl L r' q' t' n' x0 wr' so ((u2.length : Int) + 1) (op - stn 1 u - 1) am wi ei oc cn w' pl' ts') ∨ (¬ o = 41 ∧ ∃ (wr' : Int) (pl' ts' : List Value), (wr ≤ wr' ∧ wr' ≤ wr + 2 * (u.length : Int)) ∧ pn pl' (stl 7 u2) ∧ rP h0 h1 fs0 bl L r' q' t' n' x0 wr' so ((stl 7 u2).length : Int) (op - stn 1 u - 1 - stn 7 u2) am wi ei oc cn w' pl' ts'))) := by
  subst hpd
  refine wl_s (pc' := 1) ji_207_0 rfl rfl rfl ?_
  refine wl_s (pc' := 2) ji_207_1 rfl rfl rfl ?_
  obtain ⟨csha, hcsha⟩ := rp_c V
  refine wl_vc (d := d + 1) (as := [.ref 138, wp_i 1]) (rest := []) ji_207_2 jc_207_183 rfl hcsha jk_202.symm (Nat.le_of_ble_eq_true rfl) rfl (by rw [jn_202]; rfl) (wr_st (d := d) (r := 1) hx0 (by omega) nn u _ wr _ _ e V (by omega)) (fun v1 ha R => ?_)
  obtain ⟨rfl, wrha, tsha, hwrha, V⟩ := R
  have hslha := stl_len (r := 1) u
  have hsnha := stn_r (r := 1) u
  show wl_R _ _ 207 5 [some (.ref 138), some (wp_i o)] [] ha _
  have hpl := stl_pn (r := 1) e
  rw [hu] at hpl hslha
  obtain ⟨⟨p1, p1b⟩, p2⟩ := hpl
  have hlc : ((c :: u2).length : Int) = (u2.length : Int) + 1 := rfl
  rw [hu, hlc] at V
  have hsl2 : u2.length + 1 ≤ u.length := hslha
  refine wl_s (pc' := 6) ji_207_5 rfl rfl rfl ?_
  refine wl_s (pc' := 7) ji_207_6 rfl rfl rfl ?_
  refine rp_g17 V ji_207_7 jf_207_157 ?_
  refine wl_s (pc' := 11) ji_207_10 rfl rfl rfl ?_
  refine wl_isub (x := op - stn 1 u) (y := 1) (z := op - stn 1 u - 1) ji_207_11 (by omega) ?_
  refine rp_p17 (y := op - stn 1 u - 1) V ji_207_12 jf_207_157 (fun h V => ?_)
  refine wl_s (pc' := 16) ji_207_15 rfl rfl rfl ?_
  refine wl_bp ji_207_16 rfl ?_
  refine wl_icmp (t := 48) ji_207_18 rfl (by omega) (by omega) (fun (hb1 : ¬ (o : Int) = 41) => ?_) (fun (hb1 : ¬ (¬ (o : Int) = 41)) => ?_)
  · refine wl_s (pc' := 49) ji_207_48 rfl rfl rfl ?_
    refine wl_s (pc' := 50) ji_207_49 rfl rfl rfl ?_
    refine rp_g16 V ji_207_50 jf_207_147 ?_
    refine wl_s (pc' := 54) ji_207_53 rfl rfl rfl ?_
    refine wl_isub (x := (u2.length : Int) + 1) (y := 1) (z := (u2.length : Int) + 1 - 1) ji_207_54 (by omega) ?_
    refine rp_p16 (y := (u2.length : Int) + 1 - 1) V ji_207_55 jf_207_147 (fun h V => ?_)
    refine wl_s (pc' := 59) ji_207_58 rfl rfl rfl ?_
    obtain ⟨cs, hcs⟩ := rp_c V
    refine wl_vc (d := d + 1) (as := [.ref 138]) (rest := []) ji_207_59 jc_207_171 rfl hcs jk_178.symm (Nat.le_of_ble_eq_true rfl) rfl (by rw [jn_178]; rfl) (wr_nt (d := d) V D hL hp hw0) (fun v1 hb_ R => ?_)
    obtain ⟨rfl, k, v, q', r', t', n', w', tk, tr, hb, hw1, V⟩ := R
    show wl_R _ _ 207 62 [some (.ref 138), some (wp_i o)] [] hb_ _
    refine wl_s (pc' := 63) ji_207_62 rfl rfl rfl ?_
    refine wl_bp ji_207_63 rfl ?_
    rw [show (u2.length : Int) + 1 - 1 = (u2.length : Int) by omega] at V
    obtain ⟨cshz, hcshz⟩ := rp_c V
    refine wl_vc (d := d + 1) (as := [.ref 138, wp_i 7]) (rest := []) ji_207_65 jc_207_183 rfl hcshz jk_202.symm (Nat.le_of_ble_eq_true rfl) rfl (by rw [jn_202]; rfl) (wr_st (d := d) (r := 7) hx0 (by omega) nn u2 _ wrha _ _ p2 V (by omega)) (fun v1 hz R => ?_)
    obtain ⟨rfl, wrhz, tshz, hwrhz, V⟩ := R
    have hslhz := stl_len (r := 7) u2
    have hsnhz := stn_r (r := 7) u2
    show wl_R _ _ 207 68 [some (.ref 138), some (wp_i o)] [] hz _
    exact wl_rv ji_207_68 jr_207 ⟨rfl, k, v, q', r', t', n', w', tk, tr, hb, hw1, Or.inr ⟨by omega, wrhz, pl, tshz, by omega, stl_pn p2, V⟩⟩
  · refine wl_s (pc' := 22) ji_207_21 rfl rfl rfl ?_
    refine wl_s (pc' := 23) ji_207_22 rfl rfl rfl ?_
    refine wl_s (pc' := 24) ji_207_23 rfl rfl rfl ?_
    refine rp_g18 V ji_207_24 jf_207_202 ?_
    obtain ⟨cs5, hcs5⟩ := rp_c V
    refine wl_vc (d := d + 1) (as := [.ref 138, wp_i 2, wp_i am]) (rest := []) ji_207_27 jc_207_153 rfl hcs5 jk_203.symm (Nat.le_of_ble_eq_true rfl) rfl (by rw [jn_203]; rfl) (wr_em V hx0 (by omega)) (fun v1 hd R => ?_)
    obtain ⟨rfl, ts5, V⟩ := R
    show wl_R _ _ 207 30 [some (.ref 138), some (wp_i o)] [] hd _
    refine wl_s (pc' := 31) ji_207_30 rfl rfl rfl ?_
    refine rp_g15 V ji_207_31 jf_207_29 ?_
    refine wl_s (pc' := 35) ji_207_34 rfl rfl rfl ?_
    refine rp_g16 V ji_207_35 jf_207_147 ?_
    refine wl_s (pc' := 39) ji_207_38 rfl rfl rfl ?_
    refine wl_isub (x := (u2.length : Int) + 1) (y := 1) (z := (u2.length : Int) + 1 - 1) ji_207_39 (by omega) ?_
    refine wl_bp ji_207_40 rfl ?_
    refine rp_s (x := (u2.length : Int) + 1 - 1) (y := 16) V (by omega) ji_207_42 (fun h x1 x2 V => ?_)
    rw [show ((u2.length : Int) + 1 - 1).toNat = u2.length by omega] at V
    refine wl_s (pc' := 44) ji_207_43 rfl rfl rfl ?_
    obtain ⟨cs, hcs⟩ := rp_c V
    refine wl_vc (d := d + 1) (as := [.ref 138]) (rest := []) ji_207_44 jc_207_171 rfl hcs jk_178.symm (Nat.le_of_ble_eq_true rfl) rfl (by rw [jn_178]; rfl) (wr_nt (d := d) V D hL hp hw0) (fun v1 hb_ R => ?_)
    obtain ⟨rfl, k, v, q', r', t', n', w', tk, tr, hb, hw1, V⟩ := R
    show wl_R _ _ 207 47 [some (.ref 138), some (wp_i o)] [] hb_ _
    exact wl_rv ji_207_47 jr_207 ⟨rfl, k, v, q', r', t', n', w', tk, tr, hb, hw1, Or.inl ⟨by omega, wrha + 1, _, ts5, by omega, ⟨⟨List.getElem?_set_self (by omega), by decide⟩, pn_set (Nat.le_refl _) p2⟩, V⟩⟩
