/-! -/
/-! what stands between two; laid by program (wp_rread5.py) -/
def iso : List Int → Int
  | [] => 0
  | c :: _ => if c = 16 then 1 else 0
theorem iso_r (u : List Int) : iso u = 0 ∨ iso u = 1 := by
  cases u with
  | nil => exact Or.inl rfl
  | cons c u =>
    show (if c = 16 then (1 : Int) else 0) = 0 ∨ (if c = 16 then (1 : Int) else 0) = 1
    split <;> omega
def bto (k v t ei : Int) (u : List Int) : Int := if iso u = 0 ∧ t = 43 then 4 else if iso u = 0 ∧ t = 45 then 5 else if iso u = 0 ∧ t = 42 then 6 else if iso u = 0 ∧ t = 47 then 7 else if ¬ (ei = 1 ∧ opw u = -1) then -1 else if cmd u = false then cmo t else if k = 0 ∧ v = 14 then 21 else if k = 0 ∧ v = 13 then 22 else -1
theorem bi_01 : ∀ x : Bool, bi x = 0 ∨ bi x = 1
  | true => Or.inr rfl
  | false => Or.inl rfl
theorem wc_iso {nn d : Nat} {h0 h : mj_H} {fs0 bl pl ts : List Value} {L p q t n x0 wr so pd op am wi ei oc cn : Int} {w : Nat} (V : rP h0 h fs0 bl L p q t n x0 wr so pd op am wi ei oc cn w pl ts) {u : List Int} (e : pn pl u) (hl : (u.length : Int) ≤ 1000) (hpd : pd = (u.length : Int)) (hei : ei = 0 ∨ ei = 1) {Q : Option Value → mj_H → Prop} (hQ : wl_R nn d 196 29 [some (.ref 138), some (wp_i (iso u))] [] h Q) : wl_R nn d 196 0 [some (.ref 138), none] [] h Q := by
  refine wl_s (pc' := 1) ji_196_0 rfl rfl rfl ?_
  refine rp_g16 V ji_196_1 jf_196_147 ?_
  cases u with
  | nil =>
    subst hpd
    refine wl_if (t := 27) ji_196_4 rfl (x := 0) (by omega) (fun _ => ?_) (fun (c : ¬ ((0 : Int) ≤ 0)) => absurd (Int.le_refl _) c)
    refine wl_s (pc' := 28) ji_196_27 rfl rfl rfl ?_
    exact wl_s (pc' := 29) (lv' := [some (.ref 138), some (wp_i 0)]) ji_196_28 rfl rfl rfl hQ
  | cons c u =>
    obtain ⟨⟨e1, e1b⟩, e2⟩ := e
    have hlc : ((c :: u).length : Int) = (u.length : Int) + 1 := rfl
    refine wl_if (t := 27) ji_196_4 rfl (x := pd) (by omega) (fun (c : pd ≤ 0) => (by exfalso; omega)) (fun _ => ?_)
    refine wl_s (pc' := 8) ji_196_7 rfl rfl rfl ?_
    refine rp_g15 V ji_196_8 jf_196_29 ?_
    refine wl_s (pc' := 12) ji_196_11 rfl rfl rfl ?_
    refine rp_g16 V ji_196_12 jf_196_147 ?_
    refine wl_s (pc' := 16) ji_196_15 rfl rfl rfl ?_
    refine wl_isub (x := pd) (y := 1) (z := pd - 1) ji_196_16 rfl ?_
    refine rp_l (x := pd - 1) V (by omega) ji_196_17 (fun y y1 y2 y3 => ?_)
    rw [show (pd - 1).toNat = u.length by omega, e1] at y3
    cases y3
    refine wl_bp ji_196_18 rfl ?_
    refine wl_icmp (t := 27) ji_196_20 rfl (x := c) (y := 16) (by omega) (by omega) (fun (c2 : ¬ c = 16) => ?_) (fun (c2 : ¬ ¬ c = 16) => ?_)
    · rw [show iso (c :: u) = 0 from if_neg c2] at hQ
      refine wl_s (pc' := 28) ji_196_27 rfl rfl rfl ?_
      exact wl_s (pc' := 29) (lv' := [some (.ref 138), some (wp_i 0)]) ji_196_28 rfl rfl rfl hQ
    · rw [show iso (c :: u) = 1 from if_pos (by omega)] at hQ
      refine wl_s (pc' := 24) ji_196_23 rfl rfl rfl ?_
      refine wl_goto (t := 28) ji_196_24 rfl ?_
      exact wl_s (pc' := 29) (lv' := [some (.ref 138), some (wp_i 1)]) ji_196_28 rfl rfl rfl hQ
theorem wr_bt {nn d : Nat} {h0 h : mj_H} {fs0 bl pl ts : List Value} {L p q t n x0 wr so pd op am wi ei oc cn : Int} {w : Nat} (V : rP h0 h fs0 bl L p q t n x0 wr so pd op am wi ei oc cn w pl ts) {u : List Int} (e : pn pl u) (hl : (u.length : Int) ≤ 1000) (hpd : pd = (u.length : Int)) (hei : ei = 0 ∨ ei = 1) {k v : Int} (T : tkr k v t n w) (hw0 : w ≤ 2 ^ 60) (htr : wp_r t) : wl_R nn (d + 5) 196 0 [some (.ref 138), none] [] h (fun v9 h1 => h1 = h ∧ v9 = some (wp_i (bto k v t ei u))) := by
  refine wc_iso V e hl hpd hei ?_
  have hor := opw_r e
  have ho := iso_r u
  obtain ⟨o, hoo⟩ : ∃ o, iso u = o := ⟨_, rfl⟩
  rw [hoo] at ho ⊢
  refine wl_s (pc' := 30) ji_196_29 rfl rfl rfl ?_
  refine wl_if (t := 44) ji_196_30 rfl (by omega) (fun (hb1 : ¬ (o : Int) = 0) => ?_) (fun (hb1 : ¬ (¬ (o : Int) = 0)) => ?_)
  · refine wl_s (pc' := 45) ji_196_44 rfl rfl rfl ?_
    refine wl_if (t := 59) ji_196_45 rfl (by omega) (fun (hb2 : ¬ (o : Int) = 0) => ?_) (fun (hb2 : ¬ (¬ (o : Int) = 0)) => ?_)
    · refine wl_s (pc' := 60) ji_196_59 rfl rfl rfl ?_
      refine wl_if (t := 75) ji_196_60 rfl (by omega) (fun (hb3 : ¬ (o : Int) = 0) => ?_) (fun (hb3 : ¬ (¬ (o : Int) = 0)) => ?_)
      · refine wl_s (pc' := 76) ji_196_75 rfl rfl rfl ?_
        refine wl_if (t := 91) ji_196_76 rfl (by omega) (fun (hb4 : ¬ (o : Int) = 0) => ?_) (fun (hb4 : ¬ (¬ (o : Int) = 0)) => ?_)
        · refine wl_s (pc' := 92) ji_196_91 rfl rfl rfl ?_
          obtain ⟨cs, hcs⟩ := rp_c V
          refine wl_vc (d := d + 4) (as := [.ref 138]) (rest := []) ji_196_92 jc_196_167 rfl hcs jk_197.symm (Nat.le_of_ble_eq_true rfl) rfl (by rw [jn_197]; rfl) (wr_ah (d := d + 3) V e hl hpd hei) (fun v1 h1 R => ?_)
          obtain ⟨ee, y5, rfl, hy5a, hy5b⟩ := R
          subst ee
          show wl_R _ _ 196 95 [some (.ref 138), some (wp_i o)] [wp_i y5] h1 _
          refine wl_if (t := 100) ji_196_95 rfl (by omega) (fun (hb6 : ¬ (y5 : Int) = 0) => ?_) (fun (hb6 : ¬ (¬ (y5 : Int) = 0)) => ?_)
          · refine wl_s (pc' := 101) ji_196_100 rfl rfl rfl ?_
            obtain ⟨cs, hcs⟩ := rp_c V
            refine wl_vc (d := d + 4) (as := [.ref 138]) (rest := []) ji_196_101 jc_196_196 rfl hcs jk_199.symm (Nat.le_of_ble_eq_true rfl) rfl (by rw [jn_199]; rfl) (wr_cm (d := d + 3) V e hl hpd) (fun v1 h1 R => ?_)
            obtain ⟨ee, rfl⟩ := R
            subst ee
            obtain ⟨b, hb0⟩ : ∃ b, bi (cmd u) = b := ⟨_, rfl⟩
            have hbg := bi_g hb0
            rw [hb0]
            show wl_R _ _ 196 104 [some (.ref 138), some (wp_i o)] [wp_i b] h1 _
            refine wl_if (t := 112) ji_196_104 rfl (by omega) (fun (hb7 : ¬ (b : Int) = 0) => ?_) (fun (hb7 : ¬ (¬ (b : Int) = 0)) => ?_)
            · refine wl_s (pc' := 113) ji_196_112 rfl rfl rfl ?_
              refine wl_bp ji_196_113 rfl ?_
              refine wl_bp ji_196_115 rfl ?_
              refine wl_bp ji_196_117 rfl ?_
              refine wl_sc (d := d + 4) (as := [wp_i 97, wp_i 110, wp_i 100]) (rest := [.ref 138]) ji_196_119 jc_196_122 (Nat.le_of_ble_eq_true rfl) rfl (Nat.le_of_ble_eq_true rfl) rfl (by rw [jn_188]; rfl) (wr_w3 (d := d + 3) (by decide) (by decide) (by decide)) (fun v1 h1 R => ?_)
              obtain ⟨ee, rfl⟩ := R
              subst ee
              show wl_R _ _ 196 122 [some (.ref 138), some (wp_i o)] [.long (Int64.ofNat (wd [97, 110, 100])), .ref 138] h1 _
              obtain ⟨cs, hcs⟩ := rp_c V
              refine wl_vc (d := d + 4) (as := [.ref 138, .long (Int64.ofNat (wd [97, 110, 100]))]) (rest := []) ji_196_122 jc_196_189 rfl hcs jk_190.symm (Nat.le_of_ble_eq_true rfl) rfl (by rw [jn_190]; rfl) (wr_iw (W := wd [97, 110, 100]) V hw0 (by decide +kernel) htr) (fun v1 h1 R => ?_)
              obtain ⟨ee, y8, rfl, hy8a, hy8b⟩ := R
              subst ee
              rw [kw T (j := 14) (K := [97, 110, 100]) rfl] at hy8b
              show wl_R _ _ 196 125 [some (.ref 138), some (wp_i o)] [wp_i y8] h1 _
              refine wl_if (t := 133) ji_196_125 rfl (by omega) (fun (hb9 : (y8 : Int) = 0) => ?_) (fun (hb9 : ¬ ((y8 : Int) = 0)) => ?_)
              · refine wl_s (pc' := 134) ji_196_133 rfl rfl rfl ?_
                refine wl_bp ji_196_134 rfl ?_
                refine wl_bp ji_196_136 rfl ?_
                refine wl_sc (d := d + 4) (as := [wp_i 111, wp_i 114]) (rest := [.ref 138]) ji_196_138 jc_196_118 (Nat.le_of_ble_eq_true rfl) rfl (Nat.le_of_ble_eq_true rfl) rfl (by rw [jn_189]; rfl) (wr_w2 (d := d + 4) (by decide) (by decide)) (fun v1 h1 R => ?_)
                obtain ⟨ee, rfl⟩ := R
                subst ee
                show wl_R _ _ 196 141 [some (.ref 138), some (wp_i o)] [.long (Int64.ofNat (wd [111, 114])), .ref 138] h1 _
                obtain ⟨cs, hcs⟩ := rp_c V
                refine wl_vc (d := d + 4) (as := [.ref 138, .long (Int64.ofNat (wd [111, 114]))]) (rest := []) ji_196_141 jc_196_189 rfl hcs jk_190.symm (Nat.le_of_ble_eq_true rfl) rfl (by rw [jn_190]; rfl) (wr_iw (W := wd [111, 114]) V hw0 (by decide +kernel) htr) (fun v1 h1 R => ?_)
                obtain ⟨ee, y10, rfl, hy10a, hy10b⟩ := R
                subst ee
                rw [kw T (j := 13) (K := [111, 114]) rfl] at hy10b
                show wl_R _ _ 196 144 [some (.ref 138), some (wp_i o)] [wp_i y10] h1 _
                refine wl_if (t := 152) ji_196_144 rfl (by omega) (fun (hb11 : (y10 : Int) = 0) => ?_) (fun (hb11 : ¬ ((y10 : Int) = 0)) => ?_)
                · refine wl_s (pc' := 153) ji_196_152 rfl rfl rfl ?_
                  rw [show bto k v t ei u = -1 by unfold bto; rw [if_neg (by omega), if_neg (by omega), if_neg (by omega), if_neg (by omega), if_neg (by omega), if_neg (show ¬ cmd u = false from fun z => hbg.elim (fun x => by rw [x.2] at z; cases z) (fun x => (by exfalso; omega))), if_neg (by omega), if_neg (by omega)]]
                  exact wl_ri ji_196_153 jr_196 rfl ⟨rfl, rfl⟩
                · refine wl_bp ji_196_147 rfl ?_
                  refine wl_goto (t := 153) ji_196_149 rfl ?_
                  rw [show bto k v t ei u = 22 by unfold bto; rw [if_neg (by omega), if_neg (by omega), if_neg (by omega), if_neg (by omega), if_neg (by omega), if_neg (show ¬ cmd u = false from fun z => hbg.elim (fun x => by rw [x.2] at z; cases z) (fun x => (by exfalso; omega))), if_neg (by omega), if_pos (by omega)]]
                  exact wl_ri ji_196_153 jr_196 rfl ⟨rfl, rfl⟩
              · refine wl_bp ji_196_128 rfl ?_
                refine wl_goto (t := 153) ji_196_130 rfl ?_
                rw [show bto k v t ei u = 21 by unfold bto; rw [if_neg (by omega), if_neg (by omega), if_neg (by omega), if_neg (by omega), if_neg (by omega), if_neg (show ¬ cmd u = false from fun z => hbg.elim (fun x => by rw [x.2] at z; cases z) (fun x => (by exfalso; omega))), if_pos (by omega)]]
                exact wl_ri ji_196_153 jr_196 rfl ⟨rfl, rfl⟩
            · refine wl_s (pc' := 108) ji_196_107 rfl rfl rfl ?_
              obtain ⟨cs, hcs⟩ := rp_c V
              refine wl_vc (d := d + 4) (as := [.ref 138]) (rest := []) ji_196_108 jc_196_199 rfl hcs jk_201.symm (Nat.le_of_ble_eq_true rfl) rfl (by rw [jn_201]; rfl) (wr_co (d := d + 4) V htr) (fun v1 h1 R => ?_)
              obtain ⟨ee, rfl⟩ := R
              subst ee
              show wl_R _ _ 196 111 [some (.ref 138), some (wp_i o)] [wp_i (cmo t)] h1 _
              rw [show bto k v t ei u = cmo t by unfold bto; rw [if_neg (by omega), if_neg (by omega), if_neg (by omega), if_neg (by omega), if_neg (by omega), if_pos (show cmd u = false from hbg.elim (fun x => (by exfalso; omega)) (fun x => x.2))]]
              exact wl_ri ji_196_111 jr_196 rfl ⟨rfl, rfl⟩
          · refine wl_s (pc' := 99) ji_196_98 rfl rfl rfl ?_
            rw [show bto k v t ei u = -1 by unfold bto; rw [if_neg (by omega), if_neg (by omega), if_neg (by omega), if_neg (by omega), if_pos (by omega)]]
            exact wl_ri ji_196_99 jr_196 rfl ⟨rfl, rfl⟩
        · refine wl_s (pc' := 80) ji_196_79 rfl rfl rfl ?_
          refine rp_g9 V ji_196_80 jf_196_95 ?_
          refine wl_bp ji_196_83 rfl ?_
          refine wl_icmp (t := 91) ji_196_85 rfl (by omega) (by omega) (fun (hb12 : ¬ (t : Int) = 47) => ?_) (fun (hb12 : ¬ (¬ (t : Int) = 47)) => ?_)
          · refine wl_s (pc' := 92) ji_196_91 rfl rfl rfl ?_
            obtain ⟨cs, hcs⟩ := rp_c V
            refine wl_vc (d := d + 4) (as := [.ref 138]) (rest := []) ji_196_92 jc_196_167 rfl hcs jk_197.symm (Nat.le_of_ble_eq_true rfl) rfl (by rw [jn_197]; rfl) (wr_ah (d := d + 3) V e hl hpd hei) (fun v1 h1 R => ?_)
            obtain ⟨ee, y13, rfl, hy13a, hy13b⟩ := R
            subst ee
            show wl_R _ _ 196 95 [some (.ref 138), some (wp_i o)] [wp_i y13] h1 _
            refine wl_if (t := 100) ji_196_95 rfl (by omega) (fun (hb14 : ¬ (y13 : Int) = 0) => ?_) (fun (hb14 : ¬ (¬ (y13 : Int) = 0)) => ?_)
            · refine wl_s (pc' := 101) ji_196_100 rfl rfl rfl ?_
              obtain ⟨cs, hcs⟩ := rp_c V
              refine wl_vc (d := d + 4) (as := [.ref 138]) (rest := []) ji_196_101 jc_196_196 rfl hcs jk_199.symm (Nat.le_of_ble_eq_true rfl) rfl (by rw [jn_199]; rfl) (wr_cm (d := d + 3) V e hl hpd) (fun v1 h1 R => ?_)
              obtain ⟨ee, rfl⟩ := R
              subst ee
              obtain ⟨b, hb0⟩ : ∃ b, bi (cmd u) = b := ⟨_, rfl⟩
              have hbg := bi_g hb0
              rw [hb0]
              show wl_R _ _ 196 104 [some (.ref 138), some (wp_i o)] [wp_i b] h1 _
              refine wl_if (t := 112) ji_196_104 rfl (by omega) (fun (hb15 : ¬ (b : Int) = 0) => ?_) (fun (hb15 : ¬ (¬ (b : Int) = 0)) => ?_)
              · refine wl_s (pc' := 113) ji_196_112 rfl rfl rfl ?_
                refine wl_bp ji_196_113 rfl ?_
                refine wl_bp ji_196_115 rfl ?_
                refine wl_bp ji_196_117 rfl ?_
                refine wl_sc (d := d + 4) (as := [wp_i 97, wp_i 110, wp_i 100]) (rest := [.ref 138]) ji_196_119 jc_196_122 (Nat.le_of_ble_eq_true rfl) rfl (Nat.le_of_ble_eq_true rfl) rfl (by rw [jn_188]; rfl) (wr_w3 (d := d + 3) (by decide) (by decide) (by decide)) (fun v1 h1 R => ?_)
                obtain ⟨ee, rfl⟩ := R
                subst ee
                show wl_R _ _ 196 122 [some (.ref 138), some (wp_i o)] [.long (Int64.ofNat (wd [97, 110, 100])), .ref 138] h1 _
                obtain ⟨cs, hcs⟩ := rp_c V
                refine wl_vc (d := d + 4) (as := [.ref 138, .long (Int64.ofNat (wd [97, 110, 100]))]) (rest := []) ji_196_122 jc_196_189 rfl hcs jk_190.symm (Nat.le_of_ble_eq_true rfl) rfl (by rw [jn_190]; rfl) (wr_iw (W := wd [97, 110, 100]) V hw0 (by decide +kernel) htr) (fun v1 h1 R => ?_)
                obtain ⟨ee, y16, rfl, hy16a, hy16b⟩ := R
                subst ee
                rw [kw T (j := 14) (K := [97, 110, 100]) rfl] at hy16b
                show wl_R _ _ 196 125 [some (.ref 138), some (wp_i o)] [wp_i y16] h1 _
                refine wl_if (t := 133) ji_196_125 rfl (by omega) (fun (hb17 : (y16 : Int) = 0) => ?_) (fun (hb17 : ¬ ((y16 : Int) = 0)) => ?_)
                · refine wl_s (pc' := 134) ji_196_133 rfl rfl rfl ?_
                  refine wl_bp ji_196_134 rfl ?_
                  refine wl_bp ji_196_136 rfl ?_
                  refine wl_sc (d := d + 4) (as := [wp_i 111, wp_i 114]) (rest := [.ref 138]) ji_196_138 jc_196_118 (Nat.le_of_ble_eq_true rfl) rfl (Nat.le_of_ble_eq_true rfl) rfl (by rw [jn_189]; rfl) (wr_w2 (d := d + 4) (by decide) (by decide)) (fun v1 h1 R => ?_)
                  obtain ⟨ee, rfl⟩ := R
                  subst ee
                  show wl_R _ _ 196 141 [some (.ref 138), some (wp_i o)] [.long (Int64.ofNat (wd [111, 114])), .ref 138] h1 _
                  obtain ⟨cs, hcs⟩ := rp_c V
                  refine wl_vc (d := d + 4) (as := [.ref 138, .long (Int64.ofNat (wd [111, 114]))]) (rest := []) ji_196_141 jc_196_189 rfl hcs jk_190.symm (Nat.le_of_ble_eq_true rfl) rfl (by rw [jn_190]; rfl) (wr_iw (W := wd [111, 114]) V hw0 (by decide +kernel) htr) (fun v1 h1 R => ?_)
                  obtain ⟨ee, y18, rfl, hy18a, hy18b⟩ := R
                  subst ee
                  rw [kw T (j := 13) (K := [111, 114]) rfl] at hy18b
                  show wl_R _ _ 196 144 [some (.ref 138), some (wp_i o)] [wp_i y18] h1 _
                  refine wl_if (t := 152) ji_196_144 rfl (by omega) (fun (hb19 : (y18 : Int) = 0) => ?_) (fun (hb19 : ¬ ((y18 : Int) = 0)) => ?_)
                  · refine wl_s (pc' := 153) ji_196_152 rfl rfl rfl ?_
                    rw [show bto k v t ei u = -1 by unfold bto; rw [if_neg (by omega), if_neg (by omega), if_neg (by omega), if_neg (by omega), if_neg (by omega), if_neg (show ¬ cmd u = false from fun z => hbg.elim (fun x => by rw [x.2] at z; cases z) (fun x => (by exfalso; omega))), if_neg (by omega), if_neg (by omega)]]
                    exact wl_ri ji_196_153 jr_196 rfl ⟨rfl, rfl⟩
                  · refine wl_bp ji_196_147 rfl ?_
                    refine wl_goto (t := 153) ji_196_149 rfl ?_
                    rw [show bto k v t ei u = 22 by unfold bto; rw [if_neg (by omega), if_neg (by omega), if_neg (by omega), if_neg (by omega), if_neg (by omega), if_neg (show ¬ cmd u = false from fun z => hbg.elim (fun x => by rw [x.2] at z; cases z) (fun x => (by exfalso; omega))), if_neg (by omega), if_pos (by omega)]]
                    exact wl_ri ji_196_153 jr_196 rfl ⟨rfl, rfl⟩
                · refine wl_bp ji_196_128 rfl ?_
                  refine wl_goto (t := 153) ji_196_130 rfl ?_
                  rw [show bto k v t ei u = 21 by unfold bto; rw [if_neg (by omega), if_neg (by omega), if_neg (by omega), if_neg (by omega), if_neg (by omega), if_neg (show ¬ cmd u = false from fun z => hbg.elim (fun x => by rw [x.2] at z; cases z) (fun x => (by exfalso; omega))), if_pos (by omega)]]
                  exact wl_ri ji_196_153 jr_196 rfl ⟨rfl, rfl⟩
              · refine wl_s (pc' := 108) ji_196_107 rfl rfl rfl ?_
                obtain ⟨cs, hcs⟩ := rp_c V
                refine wl_vc (d := d + 4) (as := [.ref 138]) (rest := []) ji_196_108 jc_196_199 rfl hcs jk_201.symm (Nat.le_of_ble_eq_true rfl) rfl (by rw [jn_201]; rfl) (wr_co (d := d + 4) V htr) (fun v1 h1 R => ?_)
                obtain ⟨ee, rfl⟩ := R
                subst ee
                show wl_R _ _ 196 111 [some (.ref 138), some (wp_i o)] [wp_i (cmo t)] h1 _
                rw [show bto k v t ei u = cmo t by unfold bto; rw [if_neg (by omega), if_neg (by omega), if_neg (by omega), if_neg (by omega), if_neg (by omega), if_pos (show cmd u = false from hbg.elim (fun x => (by exfalso; omega)) (fun x => x.2))]]
                exact wl_ri ji_196_111 jr_196 rfl ⟨rfl, rfl⟩
            · refine wl_s (pc' := 99) ji_196_98 rfl rfl rfl ?_
              rw [show bto k v t ei u = -1 by unfold bto; rw [if_neg (by omega), if_neg (by omega), if_neg (by omega), if_neg (by omega), if_pos (by omega)]]
              exact wl_ri ji_196_99 jr_196 rfl ⟨rfl, rfl⟩
          · refine wl_bp ji_196_88 rfl ?_
            rw [show bto k v t ei u = 7 by unfold bto; rw [if_neg (by omega), if_neg (by omega), if_neg (by omega), if_pos (by omega)]]
            exact wl_ri ji_196_90 jr_196 rfl ⟨rfl, rfl⟩
      · refine wl_s (pc' := 64) ji_196_63 rfl rfl rfl ?_
        refine rp_g9 V ji_196_64 jf_196_95 ?_
        refine wl_bp ji_196_67 rfl ?_
        refine wl_icmp (t := 75) ji_196_69 rfl (by omega) (by omega) (fun (hb20 : ¬ (t : Int) = 42) => ?_) (fun (hb20 : ¬ (¬ (t : Int) = 42)) => ?_)
        · refine wl_s (pc' := 76) ji_196_75 rfl rfl rfl ?_
          refine wl_if (t := 91) ji_196_76 rfl (by omega) (fun (hb21 : ¬ (o : Int) = 0) => ?_) (fun (hb21 : ¬ (¬ (o : Int) = 0)) => ?_)
          · refine wl_s (pc' := 92) ji_196_91 rfl rfl rfl ?_
            obtain ⟨cs, hcs⟩ := rp_c V
            refine wl_vc (d := d + 4) (as := [.ref 138]) (rest := []) ji_196_92 jc_196_167 rfl hcs jk_197.symm (Nat.le_of_ble_eq_true rfl) rfl (by rw [jn_197]; rfl) (wr_ah (d := d + 3) V e hl hpd hei) (fun v1 h1 R => ?_)
            obtain ⟨ee, y22, rfl, hy22a, hy22b⟩ := R
            subst ee
            show wl_R _ _ 196 95 [some (.ref 138), some (wp_i o)] [wp_i y22] h1 _
            refine wl_if (t := 100) ji_196_95 rfl (by omega) (fun (hb23 : ¬ (y22 : Int) = 0) => ?_) (fun (hb23 : ¬ (¬ (y22 : Int) = 0)) => ?_)
            · refine wl_s (pc' := 101) ji_196_100 rfl rfl rfl ?_
              obtain ⟨cs, hcs⟩ := rp_c V
              refine wl_vc (d := d + 4) (as := [.ref 138]) (rest := []) ji_196_101 jc_196_196 rfl hcs jk_199.symm (Nat.le_of_ble_eq_true rfl) rfl (by rw [jn_199]; rfl) (wr_cm (d := d + 3) V e hl hpd) (fun v1 h1 R => ?_)
              obtain ⟨ee, rfl⟩ := R
              subst ee
              obtain ⟨b, hb0⟩ : ∃ b, bi (cmd u) = b := ⟨_, rfl⟩
              have hbg := bi_g hb0
              rw [hb0]
              show wl_R _ _ 196 104 [some (.ref 138), some (wp_i o)] [wp_i b] h1 _
              refine wl_if (t := 112) ji_196_104 rfl (by omega) (fun (hb24 : ¬ (b : Int) = 0) => ?_) (fun (hb24 : ¬ (¬ (b : Int) = 0)) => ?_)
              · refine wl_s (pc' := 113) ji_196_112 rfl rfl rfl ?_
                refine wl_bp ji_196_113 rfl ?_
                refine wl_bp ji_196_115 rfl ?_
                refine wl_bp ji_196_117 rfl ?_
                refine wl_sc (d := d + 4) (as := [wp_i 97, wp_i 110, wp_i 100]) (rest := [.ref 138]) ji_196_119 jc_196_122 (Nat.le_of_ble_eq_true rfl) rfl (Nat.le_of_ble_eq_true rfl) rfl (by rw [jn_188]; rfl) (wr_w3 (d := d + 3) (by decide) (by decide) (by decide)) (fun v1 h1 R => ?_)
                obtain ⟨ee, rfl⟩ := R
                subst ee
                show wl_R _ _ 196 122 [some (.ref 138), some (wp_i o)] [.long (Int64.ofNat (wd [97, 110, 100])), .ref 138] h1 _
                obtain ⟨cs, hcs⟩ := rp_c V
                refine wl_vc (d := d + 4) (as := [.ref 138, .long (Int64.ofNat (wd [97, 110, 100]))]) (rest := []) ji_196_122 jc_196_189 rfl hcs jk_190.symm (Nat.le_of_ble_eq_true rfl) rfl (by rw [jn_190]; rfl) (wr_iw (W := wd [97, 110, 100]) V hw0 (by decide +kernel) htr) (fun v1 h1 R => ?_)
                obtain ⟨ee, y25, rfl, hy25a, hy25b⟩ := R
                subst ee
                rw [kw T (j := 14) (K := [97, 110, 100]) rfl] at hy25b
                show wl_R _ _ 196 125 [some (.ref 138), some (wp_i o)] [wp_i y25] h1 _
                refine wl_if (t := 133) ji_196_125 rfl (by omega) (fun (hb26 : (y25 : Int) = 0) => ?_) (fun (hb26 : ¬ ((y25 : Int) = 0)) => ?_)
                · refine wl_s (pc' := 134) ji_196_133 rfl rfl rfl ?_
                  refine wl_bp ji_196_134 rfl ?_
                  refine wl_bp ji_196_136 rfl ?_
                  refine wl_sc (d := d + 4) (as := [wp_i 111, wp_i 114]) (rest := [.ref 138]) ji_196_138 jc_196_118 (Nat.le_of_ble_eq_true rfl) rfl (Nat.le_of_ble_eq_true rfl) rfl (by rw [jn_189]; rfl) (wr_w2 (d := d + 4) (by decide) (by decide)) (fun v1 h1 R => ?_)
                  obtain ⟨ee, rfl⟩ := R
                  subst ee
                  show wl_R _ _ 196 141 [some (.ref 138), some (wp_i o)] [.long (Int64.ofNat (wd [111, 114])), .ref 138] h1 _
                  obtain ⟨cs, hcs⟩ := rp_c V
                  refine wl_vc (d := d + 4) (as := [.ref 138, .long (Int64.ofNat (wd [111, 114]))]) (rest := []) ji_196_141 jc_196_189 rfl hcs jk_190.symm (Nat.le_of_ble_eq_true rfl) rfl (by rw [jn_190]; rfl) (wr_iw (W := wd [111, 114]) V hw0 (by decide +kernel) htr) (fun v1 h1 R => ?_)
                  obtain ⟨ee, y27, rfl, hy27a, hy27b⟩ := R
                  subst ee
                  rw [kw T (j := 13) (K := [111, 114]) rfl] at hy27b
                  show wl_R _ _ 196 144 [some (.ref 138), some (wp_i o)] [wp_i y27] h1 _
                  refine wl_if (t := 152) ji_196_144 rfl (by omega) (fun (hb28 : (y27 : Int) = 0) => ?_) (fun (hb28 : ¬ ((y27 : Int) = 0)) => ?_)
                  · refine wl_s (pc' := 153) ji_196_152 rfl rfl rfl ?_
                    rw [show bto k v t ei u = -1 by unfold bto; rw [if_neg (by omega), if_neg (by omega), if_neg (by omega), if_neg (by omega), if_neg (by omega), if_neg (show ¬ cmd u = false from fun z => hbg.elim (fun x => by rw [x.2] at z; cases z) (fun x => (by exfalso; omega))), if_neg (by omega), if_neg (by omega)]]
                    exact wl_ri ji_196_153 jr_196 rfl ⟨rfl, rfl⟩
                  · refine wl_bp ji_196_147 rfl ?_
                    refine wl_goto (t := 153) ji_196_149 rfl ?_
                    rw [show bto k v t ei u = 22 by unfold bto; rw [if_neg (by omega), if_neg (by omega), if_neg (by omega), if_neg (by omega), if_neg (by omega), if_neg (show ¬ cmd u = false from fun z => hbg.elim (fun x => by rw [x.2] at z; cases z) (fun x => (by exfalso; omega))), if_neg (by omega), if_pos (by omega)]]
                    exact wl_ri ji_196_153 jr_196 rfl ⟨rfl, rfl⟩
                · refine wl_bp ji_196_128 rfl ?_
                  refine wl_goto (t := 153) ji_196_130 rfl ?_
                  rw [show bto k v t ei u = 21 by unfold bto; rw [if_neg (by omega), if_neg (by omega), if_neg (by omega), if_neg (by omega), if_neg (by omega), if_neg (show ¬ cmd u = false from fun z => hbg.elim (fun x => by rw [x.2] at z; cases z) (fun x => (by exfalso; omega))), if_pos (by omega)]]
                  exact wl_ri ji_196_153 jr_196 rfl ⟨rfl, rfl⟩
              · refine wl_s (pc' := 108) ji_196_107 rfl rfl rfl ?_
                obtain ⟨cs, hcs⟩ := rp_c V
                refine wl_vc (d := d + 4) (as := [.ref 138]) (rest := []) ji_196_108 jc_196_199 rfl hcs jk_201.symm (Nat.le_of_ble_eq_true rfl) rfl (by rw [jn_201]; rfl) (wr_co (d := d + 4) V htr) (fun v1 h1 R => ?_)
                obtain ⟨ee, rfl⟩ := R
                subst ee
                show wl_R _ _ 196 111 [some (.ref 138), some (wp_i o)] [wp_i (cmo t)] h1 _
                rw [show bto k v t ei u = cmo t by unfold bto; rw [if_neg (by omega), if_neg (by omega), if_neg (by omega), if_neg (by omega), if_neg (by omega), if_pos (show cmd u = false from hbg.elim (fun x => (by exfalso; omega)) (fun x => x.2))]]
                exact wl_ri ji_196_111 jr_196 rfl ⟨rfl, rfl⟩
            · refine wl_s (pc' := 99) ji_196_98 rfl rfl rfl ?_
              rw [show bto k v t ei u = -1 by unfold bto; rw [if_neg (by omega), if_neg (by omega), if_neg (by omega), if_neg (by omega), if_pos (by omega)]]
              exact wl_ri ji_196_99 jr_196 rfl ⟨rfl, rfl⟩
          · refine wl_s (pc' := 80) ji_196_79 rfl rfl rfl ?_
            refine rp_g9 V ji_196_80 jf_196_95 ?_
            refine wl_bp ji_196_83 rfl ?_
            refine wl_icmp (t := 91) ji_196_85 rfl (by omega) (by omega) (fun (hb29 : ¬ (t : Int) = 47) => ?_) (fun (hb29 : ¬ (¬ (t : Int) = 47)) => ?_)
            · refine wl_s (pc' := 92) ji_196_91 rfl rfl rfl ?_
              obtain ⟨cs, hcs⟩ := rp_c V
              refine wl_vc (d := d + 4) (as := [.ref 138]) (rest := []) ji_196_92 jc_196_167 rfl hcs jk_197.symm (Nat.le_of_ble_eq_true rfl) rfl (by rw [jn_197]; rfl) (wr_ah (d := d + 3) V e hl hpd hei) (fun v1 h1 R => ?_)
              obtain ⟨ee, y30, rfl, hy30a, hy30b⟩ := R
              subst ee
              show wl_R _ _ 196 95 [some (.ref 138), some (wp_i o)] [wp_i y30] h1 _
              refine wl_if (t := 100) ji_196_95 rfl (by omega) (fun (hb31 : ¬ (y30 : Int) = 0) => ?_) (fun (hb31 : ¬ (¬ (y30 : Int) = 0)) => ?_)
              · refine wl_s (pc' := 101) ji_196_100 rfl rfl rfl ?_
                obtain ⟨cs, hcs⟩ := rp_c V
                refine wl_vc (d := d + 4) (as := [.ref 138]) (rest := []) ji_196_101 jc_196_196 rfl hcs jk_199.symm (Nat.le_of_ble_eq_true rfl) rfl (by rw [jn_199]; rfl) (wr_cm (d := d + 3) V e hl hpd) (fun v1 h1 R => ?_)
                obtain ⟨ee, rfl⟩ := R
                subst ee
                obtain ⟨b, hb0⟩ : ∃ b, bi (cmd u) = b := ⟨_, rfl⟩
                have hbg := bi_g hb0
                rw [hb0]
                show wl_R _ _ 196 104 [some (.ref 138), some (wp_i o)] [wp_i b] h1 _
                refine wl_if (t := 112) ji_196_104 rfl (by omega) (fun (hb32 : ¬ (b : Int) = 0) => ?_) (fun (hb32 : ¬ (¬ (b : Int) = 0)) => ?_)
                · refine wl_s (pc' := 113) ji_196_112 rfl rfl rfl ?_
                  refine wl_bp ji_196_113 rfl ?_
                  refine wl_bp ji_196_115 rfl ?_
                  refine wl_bp ji_196_117 rfl ?_
                  refine wl_sc (d := d + 4) (as := [wp_i 97, wp_i 110, wp_i 100]) (rest := [.ref 138]) ji_196_119 jc_196_122 (Nat.le_of_ble_eq_true rfl) rfl (Nat.le_of_ble_eq_true rfl) rfl (by rw [jn_188]; rfl) (wr_w3 (d := d + 3) (by decide) (by decide) (by decide)) (fun v1 h1 R => ?_)
                  obtain ⟨ee, rfl⟩ := R
                  subst ee
                  show wl_R _ _ 196 122 [some (.ref 138), some (wp_i o)] [.long (Int64.ofNat (wd [97, 110, 100])), .ref 138] h1 _
                  obtain ⟨cs, hcs⟩ := rp_c V
                  refine wl_vc (d := d + 4) (as := [.ref 138, .long (Int64.ofNat (wd [97, 110, 100]))]) (rest := []) ji_196_122 jc_196_189 rfl hcs jk_190.symm (Nat.le_of_ble_eq_true rfl) rfl (by rw [jn_190]; rfl) (wr_iw (W := wd [97, 110, 100]) V hw0 (by decide +kernel) htr) (fun v1 h1 R => ?_)
                  obtain ⟨ee, y33, rfl, hy33a, hy33b⟩ := R
                  subst ee
                  rw [kw T (j := 14) (K := [97, 110, 100]) rfl] at hy33b
                  show wl_R _ _ 196 125 [some (.ref 138), some (wp_i o)] [wp_i y33] h1 _
                  refine wl_if (t := 133) ji_196_125 rfl (by omega) (fun (hb34 : (y33 : Int) = 0) => ?_) (fun (hb34 : ¬ ((y33 : Int) = 0)) => ?_)
                  · refine wl_s (pc' := 134) ji_196_133 rfl rfl rfl ?_
                    refine wl_bp ji_196_134 rfl ?_
                    refine wl_bp ji_196_136 rfl ?_
                    refine wl_sc (d := d + 4) (as := [wp_i 111, wp_i 114]) (rest := [.ref 138]) ji_196_138 jc_196_118 (Nat.le_of_ble_eq_true rfl) rfl (Nat.le_of_ble_eq_true rfl) rfl (by rw [jn_189]; rfl) (wr_w2 (d := d + 4) (by decide) (by decide)) (fun v1 h1 R => ?_)
                    obtain ⟨ee, rfl⟩ := R
                    subst ee
                    show wl_R _ _ 196 141 [some (.ref 138), some (wp_i o)] [.long (Int64.ofNat (wd [111, 114])), .ref 138] h1 _
                    obtain ⟨cs, hcs⟩ := rp_c V
                    refine wl_vc (d := d + 4) (as := [.ref 138, .long (Int64.ofNat (wd [111, 114]))]) (rest := []) ji_196_141 jc_196_189 rfl hcs jk_190.symm (Nat.le_of_ble_eq_true rfl) rfl (by rw [jn_190]; rfl) (wr_iw (W := wd [111, 114]) V hw0 (by decide +kernel) htr) (fun v1 h1 R => ?_)
                    obtain ⟨ee, y35, rfl, hy35a, hy35b⟩ := R
                    subst ee
                    rw [kw T (j := 13) (K := [111, 114]) rfl] at hy35b
                    show wl_R _ _ 196 144 [some (.ref 138), some (wp_i o)] [wp_i y35] h1 _
                    refine wl_if (t := 152) ji_196_144 rfl (by omega) (fun (hb36 : (y35 : Int) = 0) => ?_) (fun (hb36 : ¬ ((y35 : Int) = 0)) => ?_)
                    · refine wl_s (pc' := 153) ji_196_152 rfl rfl rfl ?_
                      rw [show bto k v t ei u = -1 by unfold bto; rw [if_neg (by omega), if_neg (by omega), if_neg (by omega), if_neg (by omega), if_neg (by omega), if_neg (show ¬ cmd u = false from fun z => hbg.elim (fun x => by rw [x.2] at z; cases z) (fun x => (by exfalso; omega))), if_neg (by omega), if_neg (by omega)]]
                      exact wl_ri ji_196_153 jr_196 rfl ⟨rfl, rfl⟩
                    · refine wl_bp ji_196_147 rfl ?_
                      refine wl_goto (t := 153) ji_196_149 rfl ?_
                      rw [show bto k v t ei u = 22 by unfold bto; rw [if_neg (by omega), if_neg (by omega), if_neg (by omega), if_neg (by omega), if_neg (by omega), if_neg (show ¬ cmd u = false from fun z => hbg.elim (fun x => by rw [x.2] at z; cases z) (fun x => (by exfalso; omega))), if_neg (by omega), if_pos (by omega)]]
                      exact wl_ri ji_196_153 jr_196 rfl ⟨rfl, rfl⟩
                  · refine wl_bp ji_196_128 rfl ?_
                    refine wl_goto (t := 153) ji_196_130 rfl ?_
                    rw [show bto k v t ei u = 21 by unfold bto; rw [if_neg (by omega), if_neg (by omega), if_neg (by omega), if_neg (by omega), if_neg (by omega), if_neg (show ¬ cmd u = false from fun z => hbg.elim (fun x => by rw [x.2] at z; cases z) (fun x => (by exfalso; omega))), if_pos (by omega)]]
                    exact wl_ri ji_196_153 jr_196 rfl ⟨rfl, rfl⟩
                · refine wl_s (pc' := 108) ji_196_107 rfl rfl rfl ?_
                  obtain ⟨cs, hcs⟩ := rp_c V
                  refine wl_vc (d := d + 4) (as := [.ref 138]) (rest := []) ji_196_108 jc_196_199 rfl hcs jk_201.symm (Nat.le_of_ble_eq_true rfl) rfl (by rw [jn_201]; rfl) (wr_co (d := d + 4) V htr) (fun v1 h1 R => ?_)
                  obtain ⟨ee, rfl⟩ := R
                  subst ee
                  show wl_R _ _ 196 111 [some (.ref 138), some (wp_i o)] [wp_i (cmo t)] h1 _
                  rw [show bto k v t ei u = cmo t by unfold bto; rw [if_neg (by omega), if_neg (by omega), if_neg (by omega), if_neg (by omega), if_neg (by omega), if_pos (show cmd u = false from hbg.elim (fun x => (by exfalso; omega)) (fun x => x.2))]]
                  exact wl_ri ji_196_111 jr_196 rfl ⟨rfl, rfl⟩
              · refine wl_s (pc' := 99) ji_196_98 rfl rfl rfl ?_
                rw [show bto k v t ei u = -1 by unfold bto; rw [if_neg (by omega), if_neg (by omega), if_neg (by omega), if_neg (by omega), if_pos (by omega)]]
                exact wl_ri ji_196_99 jr_196 rfl ⟨rfl, rfl⟩
            · refine wl_bp ji_196_88 rfl ?_
              rw [show bto k v t ei u = 7 by unfold bto; rw [if_neg (by omega), if_neg (by omega), if_neg (by omega), if_pos (by omega)]]
              exact wl_ri ji_196_90 jr_196 rfl ⟨rfl, rfl⟩
        · refine wl_bp ji_196_72 rfl ?_
          rw [show bto k v t ei u = 6 by unfold bto; rw [if_neg (by omega), if_neg (by omega), if_pos (by omega)]]
          exact wl_ri ji_196_74 jr_196 rfl ⟨rfl, rfl⟩
    · refine wl_s (pc' := 49) ji_196_48 rfl rfl rfl ?_
      refine rp_g9 V ji_196_49 jf_196_95 ?_
      refine wl_bp ji_196_52 rfl ?_
      refine wl_icmp (t := 59) ji_196_54 rfl (by omega) (by omega) (fun (hb37 : ¬ (t : Int) = 45) => ?_) (fun (hb37 : ¬ (¬ (t : Int) = 45)) => ?_)
      · refine wl_s (pc' := 60) ji_196_59 rfl rfl rfl ?_
        refine wl_if (t := 75) ji_196_60 rfl (by omega) (fun (hb38 : ¬ (o : Int) = 0) => ?_) (fun (hb38 : ¬ (¬ (o : Int) = 0)) => ?_)
        · refine wl_s (pc' := 76) ji_196_75 rfl rfl rfl ?_
          refine wl_if (t := 91) ji_196_76 rfl (by omega) (fun (hb39 : ¬ (o : Int) = 0) => ?_) (fun (hb39 : ¬ (¬ (o : Int) = 0)) => ?_)
          · refine wl_s (pc' := 92) ji_196_91 rfl rfl rfl ?_
            obtain ⟨cs, hcs⟩ := rp_c V
            refine wl_vc (d := d + 4) (as := [.ref 138]) (rest := []) ji_196_92 jc_196_167 rfl hcs jk_197.symm (Nat.le_of_ble_eq_true rfl) rfl (by rw [jn_197]; rfl) (wr_ah (d := d + 3) V e hl hpd hei) (fun v1 h1 R => ?_)
            obtain ⟨ee, y40, rfl, hy40a, hy40b⟩ := R
            subst ee
            show wl_R _ _ 196 95 [some (.ref 138), some (wp_i o)] [wp_i y40] h1 _
            refine wl_if (t := 100) ji_196_95 rfl (by omega) (fun (hb41 : ¬ (y40 : Int) = 0) => ?_) (fun (hb41 : ¬ (¬ (y40 : Int) = 0)) => ?_)
            · refine wl_s (pc' := 101) ji_196_100 rfl rfl rfl ?_
              obtain ⟨cs, hcs⟩ := rp_c V
              refine wl_vc (d := d + 4) (as := [.ref 138]) (rest := []) ji_196_101 jc_196_196 rfl hcs jk_199.symm (Nat.le_of_ble_eq_true rfl) rfl (by rw [jn_199]; rfl) (wr_cm (d := d + 3) V e hl hpd) (fun v1 h1 R => ?_)
              obtain ⟨ee, rfl⟩ := R
              subst ee
              obtain ⟨b, hb0⟩ : ∃ b, bi (cmd u) = b := ⟨_, rfl⟩
              have hbg := bi_g hb0
              rw [hb0]
              show wl_R _ _ 196 104 [some (.ref 138), some (wp_i o)] [wp_i b] h1 _
              refine wl_if (t := 112) ji_196_104 rfl (by omega) (fun (hb42 : ¬ (b : Int) = 0) => ?_) (fun (hb42 : ¬ (¬ (b : Int) = 0)) => ?_)
              · refine wl_s (pc' := 113) ji_196_112 rfl rfl rfl ?_
                refine wl_bp ji_196_113 rfl ?_
                refine wl_bp ji_196_115 rfl ?_
                refine wl_bp ji_196_117 rfl ?_
                refine wl_sc (d := d + 4) (as := [wp_i 97, wp_i 110, wp_i 100]) (rest := [.ref 138]) ji_196_119 jc_196_122 (Nat.le_of_ble_eq_true rfl) rfl (Nat.le_of_ble_eq_true rfl) rfl (by rw [jn_188]; rfl) (wr_w3 (d := d + 3) (by decide) (by decide) (by decide)) (fun v1 h1 R => ?_)
                obtain ⟨ee, rfl⟩ := R
                subst ee
                show wl_R _ _ 196 122 [some (.ref 138), some (wp_i o)] [.long (Int64.ofNat (wd [97, 110, 100])), .ref 138] h1 _
                obtain ⟨cs, hcs⟩ := rp_c V
                refine wl_vc (d := d + 4) (as := [.ref 138, .long (Int64.ofNat (wd [97, 110, 100]))]) (rest := []) ji_196_122 jc_196_189 rfl hcs jk_190.symm (Nat.le_of_ble_eq_true rfl) rfl (by rw [jn_190]; rfl) (wr_iw (W := wd [97, 110, 100]) V hw0 (by decide +kernel) htr) (fun v1 h1 R => ?_)
                obtain ⟨ee, y43, rfl, hy43a, hy43b⟩ := R
                subst ee
                rw [kw T (j := 14) (K := [97, 110, 100]) rfl] at hy43b
                show wl_R _ _ 196 125 [some (.ref 138), some (wp_i o)] [wp_i y43] h1 _
                refine wl_if (t := 133) ji_196_125 rfl (by omega) (fun (hb44 : (y43 : Int) = 0) => ?_) (fun (hb44 : ¬ ((y43 : Int) = 0)) => ?_)
                · refine wl_s (pc' := 134) ji_196_133 rfl rfl rfl ?_
                  refine wl_bp ji_196_134 rfl ?_
                  refine wl_bp ji_196_136 rfl ?_
                  refine wl_sc (d := d + 4) (as := [wp_i 111, wp_i 114]) (rest := [.ref 138]) ji_196_138 jc_196_118 (Nat.le_of_ble_eq_true rfl) rfl (Nat.le_of_ble_eq_true rfl) rfl (by rw [jn_189]; rfl) (wr_w2 (d := d + 4) (by decide) (by decide)) (fun v1 h1 R => ?_)
                  obtain ⟨ee, rfl⟩ := R
                  subst ee
                  show wl_R _ _ 196 141 [some (.ref 138), some (wp_i o)] [.long (Int64.ofNat (wd [111, 114])), .ref 138] h1 _
                  obtain ⟨cs, hcs⟩ := rp_c V
                  refine wl_vc (d := d + 4) (as := [.ref 138, .long (Int64.ofNat (wd [111, 114]))]) (rest := []) ji_196_141 jc_196_189 rfl hcs jk_190.symm (Nat.le_of_ble_eq_true rfl) rfl (by rw [jn_190]; rfl) (wr_iw (W := wd [111, 114]) V hw0 (by decide +kernel) htr) (fun v1 h1 R => ?_)
                  obtain ⟨ee, y45, rfl, hy45a, hy45b⟩ := R
                  subst ee
                  rw [kw T (j := 13) (K := [111, 114]) rfl] at hy45b
                  show wl_R _ _ 196 144 [some (.ref 138), some (wp_i o)] [wp_i y45] h1 _
                  refine wl_if (t := 152) ji_196_144 rfl (by omega) (fun (hb46 : (y45 : Int) = 0) => ?_) (fun (hb46 : ¬ ((y45 : Int) = 0)) => ?_)
                  · refine wl_s (pc' := 153) ji_196_152 rfl rfl rfl ?_
                    rw [show bto k v t ei u = -1 by unfold bto; rw [if_neg (by omega), if_neg (by omega), if_neg (by omega), if_neg (by omega), if_neg (by omega), if_neg (show ¬ cmd u = false from fun z => hbg.elim (fun x => by rw [x.2] at z; cases z) (fun x => (by exfalso; omega))), if_neg (by omega), if_neg (by omega)]]
                    exact wl_ri ji_196_153 jr_196 rfl ⟨rfl, rfl⟩
                  · refine wl_bp ji_196_147 rfl ?_
                    refine wl_goto (t := 153) ji_196_149 rfl ?_
                    rw [show bto k v t ei u = 22 by unfold bto; rw [if_neg (by omega), if_neg (by omega), if_neg (by omega), if_neg (by omega), if_neg (by omega), if_neg (show ¬ cmd u = false from fun z => hbg.elim (fun x => by rw [x.2] at z; cases z) (fun x => (by exfalso; omega))), if_neg (by omega), if_pos (by omega)]]
                    exact wl_ri ji_196_153 jr_196 rfl ⟨rfl, rfl⟩
                · refine wl_bp ji_196_128 rfl ?_
                  refine wl_goto (t := 153) ji_196_130 rfl ?_
                  rw [show bto k v t ei u = 21 by unfold bto; rw [if_neg (by omega), if_neg (by omega), if_neg (by omega), if_neg (by omega), if_neg (by omega), if_neg (show ¬ cmd u = false from fun z => hbg.elim (fun x => by rw [x.2] at z; cases z) (fun x => (by exfalso; omega))), if_pos (by omega)]]
                  exact wl_ri ji_196_153 jr_196 rfl ⟨rfl, rfl⟩
              · refine wl_s (pc' := 108) ji_196_107 rfl rfl rfl ?_
                obtain ⟨cs, hcs⟩ := rp_c V
                refine wl_vc (d := d + 4) (as := [.ref 138]) (rest := []) ji_196_108 jc_196_199 rfl hcs jk_201.symm (Nat.le_of_ble_eq_true rfl) rfl (by rw [jn_201]; rfl) (wr_co (d := d + 4) V htr) (fun v1 h1 R => ?_)
                obtain ⟨ee, rfl⟩ := R
                subst ee
                show wl_R _ _ 196 111 [some (.ref 138), some (wp_i o)] [wp_i (cmo t)] h1 _
                rw [show bto k v t ei u = cmo t by unfold bto; rw [if_neg (by omega), if_neg (by omega), if_neg (by omega), if_neg (by omega), if_neg (by omega), if_pos (show cmd u = false from hbg.elim (fun x => (by exfalso; omega)) (fun x => x.2))]]
                exact wl_ri ji_196_111 jr_196 rfl ⟨rfl, rfl⟩
            · refine wl_s (pc' := 99) ji_196_98 rfl rfl rfl ?_
              rw [show bto k v t ei u = -1 by unfold bto; rw [if_neg (by omega), if_neg (by omega), if_neg (by omega), if_neg (by omega), if_pos (by omega)]]
              exact wl_ri ji_196_99 jr_196 rfl ⟨rfl, rfl⟩
          · refine wl_s (pc' := 80) ji_196_79 rfl rfl rfl ?_
            refine rp_g9 V ji_196_80 jf_196_95 ?_
            refine wl_bp ji_196_83 rfl ?_
            refine wl_icmp (t := 91) ji_196_85 rfl (by omega) (by omega) (fun (hb47 : ¬ (t : Int) = 47) => ?_) (fun (hb47 : ¬ (¬ (t : Int) = 47)) => ?_)
            · refine wl_s (pc' := 92) ji_196_91 rfl rfl rfl ?_
              obtain ⟨cs, hcs⟩ := rp_c V
              refine wl_vc (d := d + 4) (as := [.ref 138]) (rest := []) ji_196_92 jc_196_167 rfl hcs jk_197.symm (Nat.le_of_ble_eq_true rfl) rfl (by rw [jn_197]; rfl) (wr_ah (d := d + 3) V e hl hpd hei) (fun v1 h1 R => ?_)
              obtain ⟨ee, y48, rfl, hy48a, hy48b⟩ := R
              subst ee
              show wl_R _ _ 196 95 [some (.ref 138), some (wp_i o)] [wp_i y48] h1 _
              refine wl_if (t := 100) ji_196_95 rfl (by omega) (fun (hb49 : ¬ (y48 : Int) = 0) => ?_) (fun (hb49 : ¬ (¬ (y48 : Int) = 0)) => ?_)
              · refine wl_s (pc' := 101) ji_196_100 rfl rfl rfl ?_
                obtain ⟨cs, hcs⟩ := rp_c V
                refine wl_vc (d := d + 4) (as := [.ref 138]) (rest := []) ji_196_101 jc_196_196 rfl hcs jk_199.symm (Nat.le_of_ble_eq_true rfl) rfl (by rw [jn_199]; rfl) (wr_cm (d := d + 3) V e hl hpd) (fun v1 h1 R => ?_)
                obtain ⟨ee, rfl⟩ := R
                subst ee
                obtain ⟨b, hb0⟩ : ∃ b, bi (cmd u) = b := ⟨_, rfl⟩
                have hbg := bi_g hb0
                rw [hb0]
                show wl_R _ _ 196 104 [some (.ref 138), some (wp_i o)] [wp_i b] h1 _
                refine wl_if (t := 112) ji_196_104 rfl (by omega) (fun (hb50 : ¬ (b : Int) = 0) => ?_) (fun (hb50 : ¬ (¬ (b : Int) = 0)) => ?_)
                · refine wl_s (pc' := 113) ji_196_112 rfl rfl rfl ?_
                  refine wl_bp ji_196_113 rfl ?_
                  refine wl_bp ji_196_115 rfl ?_
                  refine wl_bp ji_196_117 rfl ?_
                  refine wl_sc (d := d + 4) (as := [wp_i 97, wp_i 110, wp_i 100]) (rest := [.ref 138]) ji_196_119 jc_196_122 (Nat.le_of_ble_eq_true rfl) rfl (Nat.le_of_ble_eq_true rfl) rfl (by rw [jn_188]; rfl) (wr_w3 (d := d + 3) (by decide) (by decide) (by decide)) (fun v1 h1 R => ?_)
                  obtain ⟨ee, rfl⟩ := R
                  subst ee
                  show wl_R _ _ 196 122 [some (.ref 138), some (wp_i o)] [.long (Int64.ofNat (wd [97, 110, 100])), .ref 138] h1 _
                  obtain ⟨cs, hcs⟩ := rp_c V
                  refine wl_vc (d := d + 4) (as := [.ref 138, .long (Int64.ofNat (wd [97, 110, 100]))]) (rest := []) ji_196_122 jc_196_189 rfl hcs jk_190.symm (Nat.le_of_ble_eq_true rfl) rfl (by rw [jn_190]; rfl) (wr_iw (W := wd [97, 110, 100]) V hw0 (by decide +kernel) htr) (fun v1 h1 R => ?_)
                  obtain ⟨ee, y51, rfl, hy51a, hy51b⟩ := R
                  subst ee
                  rw [kw T (j := 14) (K := [97, 110, 100]) rfl] at hy51b
                  show wl_R _ _ 196 125 [some (.ref 138), some (wp_i o)] [wp_i y51] h1 _
                  refine wl_if (t := 133) ji_196_125 rfl (by omega) (fun (hb52 : (y51 : Int) = 0) => ?_) (fun (hb52 : ¬ ((y51 : Int) = 0)) => ?_)
                  · refine wl_s (pc' := 134) ji_196_133 rfl rfl rfl ?_
                    refine wl_bp ji_196_134 rfl ?_
                    refine wl_bp ji_196_136 rfl ?_
                    refine wl_sc (d := d + 4) (as := [wp_i 111, wp_i 114]) (rest := [.ref 138]) ji_196_138 jc_196_118 (Nat.le_of_ble_eq_true rfl) rfl (Nat.le_of_ble_eq_true rfl) rfl (by rw [jn_189]; rfl) (wr_w2 (d := d + 4) (by decide) (by decide)) (fun v1 h1 R => ?_)
                    obtain ⟨ee, rfl⟩ := R
                    subst ee
                    show wl_R _ _ 196 141 [some (.ref 138), some (wp_i o)] [.long (Int64.ofNat (wd [111, 114])), .ref 138] h1 _
                    obtain ⟨cs, hcs⟩ := rp_c V
                    refine wl_vc (d := d + 4) (as := [.ref 138, .long (Int64.ofNat (wd [111, 114]))]) (rest := []) ji_196_141 jc_196_189 rfl hcs jk_190.symm (Nat.le_of_ble_eq_true rfl) rfl (by rw [jn_190]; rfl) (wr_iw (W := wd [111, 114]) V hw0 (by decide +kernel) htr) (fun v1 h1 R => ?_)
                    obtain ⟨ee, y53, rfl, hy53a, hy53b⟩ := R
                    subst ee
                    rw [kw T (j := 13) (K := [111, 114]) rfl] at hy53b
                    show wl_R _ _ 196 144 [some (.ref 138), some (wp_i o)] [wp_i y53] h1 _
                    refine wl_if (t := 152) ji_196_144 rfl (by omega) (fun (hb54 : (y53 : Int) = 0) => ?_) (fun (hb54 : ¬ ((y53 : Int) = 0)) => ?_)
                    · refine wl_s (pc' := 153) ji_196_152 rfl rfl rfl ?_
                      rw [show bto k v t ei u = -1 by unfold bto; rw [if_neg (by omega), if_neg (by omega), if_neg (by omega), if_neg (by omega), if_neg (by omega), if_neg (show ¬ cmd u = false from fun z => hbg.elim (fun x => by rw [x.2] at z; cases z) (fun x => (by exfalso; omega))), if_neg (by omega), if_neg (by omega)]]
                      exact wl_ri ji_196_153 jr_196 rfl ⟨rfl, rfl⟩
                    · refine wl_bp ji_196_147 rfl ?_
                      refine wl_goto (t := 153) ji_196_149 rfl ?_
                      rw [show bto k v t ei u = 22 by unfold bto; rw [if_neg (by omega), if_neg (by omega), if_neg (by omega), if_neg (by omega), if_neg (by omega), if_neg (show ¬ cmd u = false from fun z => hbg.elim (fun x => by rw [x.2] at z; cases z) (fun x => (by exfalso; omega))), if_neg (by omega), if_pos (by omega)]]
                      exact wl_ri ji_196_153 jr_196 rfl ⟨rfl, rfl⟩
                  · refine wl_bp ji_196_128 rfl ?_
                    refine wl_goto (t := 153) ji_196_130 rfl ?_
                    rw [show bto k v t ei u = 21 by unfold bto; rw [if_neg (by omega), if_neg (by omega), if_neg (by omega), if_neg (by omega), if_neg (by omega), if_neg (show ¬ cmd u = false from fun z => hbg.elim (fun x => by rw [x.2] at z; cases z) (fun x => (by exfalso; omega))), if_pos (by omega)]]
                    exact wl_ri ji_196_153 jr_196 rfl ⟨rfl, rfl⟩
                · refine wl_s (pc' := 108) ji_196_107 rfl rfl rfl ?_
                  obtain ⟨cs, hcs⟩ := rp_c V
                  refine wl_vc (d := d + 4) (as := [.ref 138]) (rest := []) ji_196_108 jc_196_199 rfl hcs jk_201.symm (Nat.le_of_ble_eq_true rfl) rfl (by rw [jn_201]; rfl) (wr_co (d := d + 4) V htr) (fun v1 h1 R => ?_)
                  obtain ⟨ee, rfl⟩ := R
                  subst ee
                  show wl_R _ _ 196 111 [some (.ref 138), some (wp_i o)] [wp_i (cmo t)] h1 _
                  rw [show bto k v t ei u = cmo t by unfold bto; rw [if_neg (by omega), if_neg (by omega), if_neg (by omega), if_neg (by omega), if_neg (by omega), if_pos (show cmd u = false from hbg.elim (fun x => (by exfalso; omega)) (fun x => x.2))]]
                  exact wl_ri ji_196_111 jr_196 rfl ⟨rfl, rfl⟩
              · refine wl_s (pc' := 99) ji_196_98 rfl rfl rfl ?_
                rw [show bto k v t ei u = -1 by unfold bto; rw [if_neg (by omega), if_neg (by omega), if_neg (by omega), if_neg (by omega), if_pos (by omega)]]
                exact wl_ri ji_196_99 jr_196 rfl ⟨rfl, rfl⟩
            · refine wl_bp ji_196_88 rfl ?_
              rw [show bto k v t ei u = 7 by unfold bto; rw [if_neg (by omega), if_neg (by omega), if_neg (by omega), if_pos (by omega)]]
              exact wl_ri ji_196_90 jr_196 rfl ⟨rfl, rfl⟩
        · refine wl_s (pc' := 64) ji_196_63 rfl rfl rfl ?_
          refine rp_g9 V ji_196_64 jf_196_95 ?_
          refine wl_bp ji_196_67 rfl ?_
          refine wl_icmp (t := 75) ji_196_69 rfl (by omega) (by omega) (fun (hb55 : ¬ (t : Int) = 42) => ?_) (fun (hb55 : ¬ (¬ (t : Int) = 42)) => ?_)
          · refine wl_s (pc' := 76) ji_196_75 rfl rfl rfl ?_
            refine wl_if (t := 91) ji_196_76 rfl (by omega) (fun (hb56 : ¬ (o : Int) = 0) => ?_) (fun (hb56 : ¬ (¬ (o : Int) = 0)) => ?_)
            · refine wl_s (pc' := 92) ji_196_91 rfl rfl rfl ?_
              obtain ⟨cs, hcs⟩ := rp_c V
              refine wl_vc (d := d + 4) (as := [.ref 138]) (rest := []) ji_196_92 jc_196_167 rfl hcs jk_197.symm (Nat.le_of_ble_eq_true rfl) rfl (by rw [jn_197]; rfl) (wr_ah (d := d + 3) V e hl hpd hei) (fun v1 h1 R => ?_)
              obtain ⟨ee, y57, rfl, hy57a, hy57b⟩ := R
              subst ee
              show wl_R _ _ 196 95 [some (.ref 138), some (wp_i o)] [wp_i y57] h1 _
              refine wl_if (t := 100) ji_196_95 rfl (by omega) (fun (hb58 : ¬ (y57 : Int) = 0) => ?_) (fun (hb58 : ¬ (¬ (y57 : Int) = 0)) => ?_)
              · refine wl_s (pc' := 101) ji_196_100 rfl rfl rfl ?_
                obtain ⟨cs, hcs⟩ := rp_c V
                refine wl_vc (d := d + 4) (as := [.ref 138]) (rest := []) ji_196_101 jc_196_196 rfl hcs jk_199.symm (Nat.le_of_ble_eq_true rfl) rfl (by rw [jn_199]; rfl) (wr_cm (d := d + 3) V e hl hpd) (fun v1 h1 R => ?_)
                obtain ⟨ee, rfl⟩ := R
                subst ee
                obtain ⟨b, hb0⟩ : ∃ b, bi (cmd u) = b := ⟨_, rfl⟩
                have hbg := bi_g hb0
                rw [hb0]
                show wl_R _ _ 196 104 [some (.ref 138), some (wp_i o)] [wp_i b] h1 _
                refine wl_if (t := 112) ji_196_104 rfl (by omega) (fun (hb59 : ¬ (b : Int) = 0) => ?_) (fun (hb59 : ¬ (¬ (b : Int) = 0)) => ?_)
                · refine wl_s (pc' := 113) ji_196_112 rfl rfl rfl ?_
                  refine wl_bp ji_196_113 rfl ?_
                  refine wl_bp ji_196_115 rfl ?_
                  refine wl_bp ji_196_117 rfl ?_
                  refine wl_sc (d := d + 4) (as := [wp_i 97, wp_i 110, wp_i 100]) (rest := [.ref 138]) ji_196_119 jc_196_122 (Nat.le_of_ble_eq_true rfl) rfl (Nat.le_of_ble_eq_true rfl) rfl (by rw [jn_188]; rfl) (wr_w3 (d := d + 3) (by decide) (by decide) (by decide)) (fun v1 h1 R => ?_)
                  obtain ⟨ee, rfl⟩ := R
                  subst ee
                  show wl_R _ _ 196 122 [some (.ref 138), some (wp_i o)] [.long (Int64.ofNat (wd [97, 110, 100])), .ref 138] h1 _
                  obtain ⟨cs, hcs⟩ := rp_c V
                  refine wl_vc (d := d + 4) (as := [.ref 138, .long (Int64.ofNat (wd [97, 110, 100]))]) (rest := []) ji_196_122 jc_196_189 rfl hcs jk_190.symm (Nat.le_of_ble_eq_true rfl) rfl (by rw [jn_190]; rfl) (wr_iw (W := wd [97, 110, 100]) V hw0 (by decide +kernel) htr) (fun v1 h1 R => ?_)
                  obtain ⟨ee, y60, rfl, hy60a, hy60b⟩ := R
                  subst ee
                  rw [kw T (j := 14) (K := [97, 110, 100]) rfl] at hy60b
                  show wl_R _ _ 196 125 [some (.ref 138), some (wp_i o)] [wp_i y60] h1 _
                  refine wl_if (t := 133) ji_196_125 rfl (by omega) (fun (hb61 : (y60 : Int) = 0) => ?_) (fun (hb61 : ¬ ((y60 : Int) = 0)) => ?_)
                  · refine wl_s (pc' := 134) ji_196_133 rfl rfl rfl ?_
                    refine wl_bp ji_196_134 rfl ?_
                    refine wl_bp ji_196_136 rfl ?_
                    refine wl_sc (d := d + 4) (as := [wp_i 111, wp_i 114]) (rest := [.ref 138]) ji_196_138 jc_196_118 (Nat.le_of_ble_eq_true rfl) rfl (Nat.le_of_ble_eq_true rfl) rfl (by rw [jn_189]; rfl) (wr_w2 (d := d + 4) (by decide) (by decide)) (fun v1 h1 R => ?_)
                    obtain ⟨ee, rfl⟩ := R
                    subst ee
                    show wl_R _ _ 196 141 [some (.ref 138), some (wp_i o)] [.long (Int64.ofNat (wd [111, 114])), .ref 138] h1 _
                    obtain ⟨cs, hcs⟩ := rp_c V
                    refine wl_vc (d := d + 4) (as := [.ref 138, .long (Int64.ofNat (wd [111, 114]))]) (rest := []) ji_196_141 jc_196_189 rfl hcs jk_190.symm (Nat.le_of_ble_eq_true rfl) rfl (by rw [jn_190]; rfl) (wr_iw (W := wd [111, 114]) V hw0 (by decide +kernel) htr) (fun v1 h1 R => ?_)
                    obtain ⟨ee, y62, rfl, hy62a, hy62b⟩ := R
                    subst ee
                    rw [kw T (j := 13) (K := [111, 114]) rfl] at hy62b
                    show wl_R _ _ 196 144 [some (.ref 138), some (wp_i o)] [wp_i y62] h1 _
                    refine wl_if (t := 152) ji_196_144 rfl (by omega) (fun (hb63 : (y62 : Int) = 0) => ?_) (fun (hb63 : ¬ ((y62 : Int) = 0)) => ?_)
                    · refine wl_s (pc' := 153) ji_196_152 rfl rfl rfl ?_
                      rw [show bto k v t ei u = -1 by unfold bto; rw [if_neg (by omega), if_neg (by omega), if_neg (by omega), if_neg (by omega), if_neg (by omega), if_neg (show ¬ cmd u = false from fun z => hbg.elim (fun x => by rw [x.2] at z; cases z) (fun x => (by exfalso; omega))), if_neg (by omega), if_neg (by omega)]]
                      exact wl_ri ji_196_153 jr_196 rfl ⟨rfl, rfl⟩
                    · refine wl_bp ji_196_147 rfl ?_
                      refine wl_goto (t := 153) ji_196_149 rfl ?_
                      rw [show bto k v t ei u = 22 by unfold bto; rw [if_neg (by omega), if_neg (by omega), if_neg (by omega), if_neg (by omega), if_neg (by omega), if_neg (show ¬ cmd u = false from fun z => hbg.elim (fun x => by rw [x.2] at z; cases z) (fun x => (by exfalso; omega))), if_neg (by omega), if_pos (by omega)]]
                      exact wl_ri ji_196_153 jr_196 rfl ⟨rfl, rfl⟩
                  · refine wl_bp ji_196_128 rfl ?_
                    refine wl_goto (t := 153) ji_196_130 rfl ?_
                    rw [show bto k v t ei u = 21 by unfold bto; rw [if_neg (by omega), if_neg (by omega), if_neg (by omega), if_neg (by omega), if_neg (by omega), if_neg (show ¬ cmd u = false from fun z => hbg.elim (fun x => by rw [x.2] at z; cases z) (fun x => (by exfalso; omega))), if_pos (by omega)]]
                    exact wl_ri ji_196_153 jr_196 rfl ⟨rfl, rfl⟩
                · refine wl_s (pc' := 108) ji_196_107 rfl rfl rfl ?_
                  obtain ⟨cs, hcs⟩ := rp_c V
                  refine wl_vc (d := d + 4) (as := [.ref 138]) (rest := []) ji_196_108 jc_196_199 rfl hcs jk_201.symm (Nat.le_of_ble_eq_true rfl) rfl (by rw [jn_201]; rfl) (wr_co (d := d + 4) V htr) (fun v1 h1 R => ?_)
                  obtain ⟨ee, rfl⟩ := R
                  subst ee
                  show wl_R _ _ 196 111 [some (.ref 138), some (wp_i o)] [wp_i (cmo t)] h1 _
                  rw [show bto k v t ei u = cmo t by unfold bto; rw [if_neg (by omega), if_neg (by omega), if_neg (by omega), if_neg (by omega), if_neg (by omega), if_pos (show cmd u = false from hbg.elim (fun x => (by exfalso; omega)) (fun x => x.2))]]
                  exact wl_ri ji_196_111 jr_196 rfl ⟨rfl, rfl⟩
              · refine wl_s (pc' := 99) ji_196_98 rfl rfl rfl ?_
                rw [show bto k v t ei u = -1 by unfold bto; rw [if_neg (by omega), if_neg (by omega), if_neg (by omega), if_neg (by omega), if_pos (by omega)]]
                exact wl_ri ji_196_99 jr_196 rfl ⟨rfl, rfl⟩
            · refine wl_s (pc' := 80) ji_196_79 rfl rfl rfl ?_
              refine rp_g9 V ji_196_80 jf_196_95 ?_
              refine wl_bp ji_196_83 rfl ?_
              refine wl_icmp (t := 91) ji_196_85 rfl (by omega) (by omega) (fun (hb64 : ¬ (t : Int) = 47) => ?_) (fun (hb64 : ¬ (¬ (t : Int) = 47)) => ?_)
              · refine wl_s (pc' := 92) ji_196_91 rfl rfl rfl ?_
                obtain ⟨cs, hcs⟩ := rp_c V
                refine wl_vc (d := d + 4) (as := [.ref 138]) (rest := []) ji_196_92 jc_196_167 rfl hcs jk_197.symm (Nat.le_of_ble_eq_true rfl) rfl (by rw [jn_197]; rfl) (wr_ah (d := d + 3) V e hl hpd hei) (fun v1 h1 R => ?_)
                obtain ⟨ee, y65, rfl, hy65a, hy65b⟩ := R
                subst ee
                show wl_R _ _ 196 95 [some (.ref 138), some (wp_i o)] [wp_i y65] h1 _
                refine wl_if (t := 100) ji_196_95 rfl (by omega) (fun (hb66 : ¬ (y65 : Int) = 0) => ?_) (fun (hb66 : ¬ (¬ (y65 : Int) = 0)) => ?_)
                · refine wl_s (pc' := 101) ji_196_100 rfl rfl rfl ?_
                  obtain ⟨cs, hcs⟩ := rp_c V
                  refine wl_vc (d := d + 4) (as := [.ref 138]) (rest := []) ji_196_101 jc_196_196 rfl hcs jk_199.symm (Nat.le_of_ble_eq_true rfl) rfl (by rw [jn_199]; rfl) (wr_cm (d := d + 3) V e hl hpd) (fun v1 h1 R => ?_)
                  obtain ⟨ee, rfl⟩ := R
                  subst ee
                  obtain ⟨b, hb0⟩ : ∃ b, bi (cmd u) = b := ⟨_, rfl⟩
                  have hbg := bi_g hb0
                  rw [hb0]
                  show wl_R _ _ 196 104 [some (.ref 138), some (wp_i o)] [wp_i b] h1 _
                  refine wl_if (t := 112) ji_196_104 rfl (by omega) (fun (hb67 : ¬ (b : Int) = 0) => ?_) (fun (hb67 : ¬ (¬ (b : Int) = 0)) => ?_)
                  · refine wl_s (pc' := 113) ji_196_112 rfl rfl rfl ?_
                    refine wl_bp ji_196_113 rfl ?_
                    refine wl_bp ji_196_115 rfl ?_
                    refine wl_bp ji_196_117 rfl ?_
                    refine wl_sc (d := d + 4) (as := [wp_i 97, wp_i 110, wp_i 100]) (rest := [.ref 138]) ji_196_119 jc_196_122 (Nat.le_of_ble_eq_true rfl) rfl (Nat.le_of_ble_eq_true rfl) rfl (by rw [jn_188]; rfl) (wr_w3 (d := d + 3) (by decide) (by decide) (by decide)) (fun v1 h1 R => ?_)
                    obtain ⟨ee, rfl⟩ := R
                    subst ee
                    show wl_R _ _ 196 122 [some (.ref 138), some (wp_i o)] [.long (Int64.ofNat (wd [97, 110, 100])), .ref 138] h1 _
                    obtain ⟨cs, hcs⟩ := rp_c V
                    refine wl_vc (d := d + 4) (as := [.ref 138, .long (Int64.ofNat (wd [97, 110, 100]))]) (rest := []) ji_196_122 jc_196_189 rfl hcs jk_190.symm (Nat.le_of_ble_eq_true rfl) rfl (by rw [jn_190]; rfl) (wr_iw (W := wd [97, 110, 100]) V hw0 (by decide +kernel) htr) (fun v1 h1 R => ?_)
                    obtain ⟨ee, y68, rfl, hy68a, hy68b⟩ := R
                    subst ee
                    rw [kw T (j := 14) (K := [97, 110, 100]) rfl] at hy68b
                    show wl_R _ _ 196 125 [some (.ref 138), some (wp_i o)] [wp_i y68] h1 _
                    refine wl_if (t := 133) ji_196_125 rfl (by omega) (fun (hb69 : (y68 : Int) = 0) => ?_) (fun (hb69 : ¬ ((y68 : Int) = 0)) => ?_)
                    · refine wl_s (pc' := 134) ji_196_133 rfl rfl rfl ?_
                      refine wl_bp ji_196_134 rfl ?_
                      refine wl_bp ji_196_136 rfl ?_
                      refine wl_sc (d := d + 4) (as := [wp_i 111, wp_i 114]) (rest := [.ref 138]) ji_196_138 jc_196_118 (Nat.le_of_ble_eq_true rfl) rfl (Nat.le_of_ble_eq_true rfl) rfl (by rw [jn_189]; rfl) (wr_w2 (d := d + 4) (by decide) (by decide)) (fun v1 h1 R => ?_)
                      obtain ⟨ee, rfl⟩ := R
                      subst ee
                      show wl_R _ _ 196 141 [some (.ref 138), some (wp_i o)] [.long (Int64.ofNat (wd [111, 114])), .ref 138] h1 _
                      obtain ⟨cs, hcs⟩ := rp_c V
                      refine wl_vc (d := d + 4) (as := [.ref 138, .long (Int64.ofNat (wd [111, 114]))]) (rest := []) ji_196_141 jc_196_189 rfl hcs jk_190.symm (Nat.le_of_ble_eq_true rfl) rfl (by rw [jn_190]; rfl) (wr_iw (W := wd [111, 114]) V hw0 (by decide +kernel) htr) (fun v1 h1 R => ?_)
                      obtain ⟨ee, y70, rfl, hy70a, hy70b⟩ := R
                      subst ee
                      rw [kw T (j := 13) (K := [111, 114]) rfl] at hy70b
                      show wl_R _ _ 196 144 [some (.ref 138), some (wp_i o)] [wp_i y70] h1 _
                      refine wl_if (t := 152) ji_196_144 rfl (by omega) (fun (hb71 : (y70 : Int) = 0) => ?_) (fun (hb71 : ¬ ((y70 : Int) = 0)) => ?_)
                      · refine wl_s (pc' := 153) ji_196_152 rfl rfl rfl ?_
                        rw [show bto k v t ei u = -1 by unfold bto; rw [if_neg (by omega), if_neg (by omega), if_neg (by omega), if_neg (by omega), if_neg (by omega), if_neg (show ¬ cmd u = false from fun z => hbg.elim (fun x => by rw [x.2] at z; cases z) (fun x => (by exfalso; omega))), if_neg (by omega), if_neg (by omega)]]
                        exact wl_ri ji_196_153 jr_196 rfl ⟨rfl, rfl⟩
                      · refine wl_bp ji_196_147 rfl ?_
                        refine wl_goto (t := 153) ji_196_149 rfl ?_
                        rw [show bto k v t ei u = 22 by unfold bto; rw [if_neg (by omega), if_neg (by omega), if_neg (by omega), if_neg (by omega), if_neg (by omega), if_neg (show ¬ cmd u = false from fun z => hbg.elim (fun x => by rw [x.2] at z; cases z) (fun x => (by exfalso; omega))), if_neg (by omega), if_pos (by omega)]]
                        exact wl_ri ji_196_153 jr_196 rfl ⟨rfl, rfl⟩
                    · refine wl_bp ji_196_128 rfl ?_
                      refine wl_goto (t := 153) ji_196_130 rfl ?_
                      rw [show bto k v t ei u = 21 by unfold bto; rw [if_neg (by omega), if_neg (by omega), if_neg (by omega), if_neg (by omega), if_neg (by omega), if_neg (show ¬ cmd u = false from fun z => hbg.elim (fun x => by rw [x.2] at z; cases z) (fun x => (by exfalso; omega))), if_pos (by omega)]]
                      exact wl_ri ji_196_153 jr_196 rfl ⟨rfl, rfl⟩
                  · refine wl_s (pc' := 108) ji_196_107 rfl rfl rfl ?_
                    obtain ⟨cs, hcs⟩ := rp_c V
                    refine wl_vc (d := d + 4) (as := [.ref 138]) (rest := []) ji_196_108 jc_196_199 rfl hcs jk_201.symm (Nat.le_of_ble_eq_true rfl) rfl (by rw [jn_201]; rfl) (wr_co (d := d + 4) V htr) (fun v1 h1 R => ?_)
                    obtain ⟨ee, rfl⟩ := R
                    subst ee
                    show wl_R _ _ 196 111 [some (.ref 138), some (wp_i o)] [wp_i (cmo t)] h1 _
                    rw [show bto k v t ei u = cmo t by unfold bto; rw [if_neg (by omega), if_neg (by omega), if_neg (by omega), if_neg (by omega), if_neg (by omega), if_pos (show cmd u = false from hbg.elim (fun x => (by exfalso; omega)) (fun x => x.2))]]
                    exact wl_ri ji_196_111 jr_196 rfl ⟨rfl, rfl⟩
                · refine wl_s (pc' := 99) ji_196_98 rfl rfl rfl ?_
                  rw [show bto k v t ei u = -1 by unfold bto; rw [if_neg (by omega), if_neg (by omega), if_neg (by omega), if_neg (by omega), if_pos (by omega)]]
                  exact wl_ri ji_196_99 jr_196 rfl ⟨rfl, rfl⟩
              · refine wl_bp ji_196_88 rfl ?_
                rw [show bto k v t ei u = 7 by unfold bto; rw [if_neg (by omega), if_neg (by omega), if_neg (by omega), if_pos (by omega)]]
                exact wl_ri ji_196_90 jr_196 rfl ⟨rfl, rfl⟩
          · refine wl_bp ji_196_72 rfl ?_
            rw [show bto k v t ei u = 6 by unfold bto; rw [if_neg (by omega), if_neg (by omega), if_pos (by omega)]]
            exact wl_ri ji_196_74 jr_196 rfl ⟨rfl, rfl⟩
      · refine wl_s (pc' := 58) ji_196_57 rfl rfl rfl ?_
        rw [show bto k v t ei u = 5 by unfold bto; rw [if_neg (by omega), if_pos (by omega)]]
        exact wl_ri ji_196_58 jr_196 rfl ⟨rfl, rfl⟩
  · refine wl_s (pc' := 34) ji_196_33 rfl rfl rfl ?_
    refine rp_g9 V ji_196_34 jf_196_95 ?_
    refine wl_bp ji_196_37 rfl ?_
    refine wl_icmp (t := 44) ji_196_39 rfl (by omega) (by omega) (fun (hb72 : ¬ (t : Int) = 43) => ?_) (fun (hb72 : ¬ (¬ (t : Int) = 43)) => ?_)
    · refine wl_s (pc' := 45) ji_196_44 rfl rfl rfl ?_
      refine wl_if (t := 59) ji_196_45 rfl (by omega) (fun (hb73 : ¬ (o : Int) = 0) => ?_) (fun (hb73 : ¬ (¬ (o : Int) = 0)) => ?_)
      · refine wl_s (pc' := 60) ji_196_59 rfl rfl rfl ?_
        refine wl_if (t := 75) ji_196_60 rfl (by omega) (fun (hb74 : ¬ (o : Int) = 0) => ?_) (fun (hb74 : ¬ (¬ (o : Int) = 0)) => ?_)
        · refine wl_s (pc' := 76) ji_196_75 rfl rfl rfl ?_
          refine wl_if (t := 91) ji_196_76 rfl (by omega) (fun (hb75 : ¬ (o : Int) = 0) => ?_) (fun (hb75 : ¬ (¬ (o : Int) = 0)) => ?_)
          · refine wl_s (pc' := 92) ji_196_91 rfl rfl rfl ?_
            obtain ⟨cs, hcs⟩ := rp_c V
            refine wl_vc (d := d + 4) (as := [.ref 138]) (rest := []) ji_196_92 jc_196_167 rfl hcs jk_197.symm (Nat.le_of_ble_eq_true rfl) rfl (by rw [jn_197]; rfl) (wr_ah (d := d + 3) V e hl hpd hei) (fun v1 h1 R => ?_)
            obtain ⟨ee, y76, rfl, hy76a, hy76b⟩ := R
            subst ee
            show wl_R _ _ 196 95 [some (.ref 138), some (wp_i o)] [wp_i y76] h1 _
            refine wl_if (t := 100) ji_196_95 rfl (by omega) (fun (hb77 : ¬ (y76 : Int) = 0) => ?_) (fun (hb77 : ¬ (¬ (y76 : Int) = 0)) => ?_)
            · refine wl_s (pc' := 101) ji_196_100 rfl rfl rfl ?_
              obtain ⟨cs, hcs⟩ := rp_c V
              refine wl_vc (d := d + 4) (as := [.ref 138]) (rest := []) ji_196_101 jc_196_196 rfl hcs jk_199.symm (Nat.le_of_ble_eq_true rfl) rfl (by rw [jn_199]; rfl) (wr_cm (d := d + 3) V e hl hpd) (fun v1 h1 R => ?_)
              obtain ⟨ee, rfl⟩ := R
              subst ee
              obtain ⟨b, hb0⟩ : ∃ b, bi (cmd u) = b := ⟨_, rfl⟩
              have hbg := bi_g hb0
              rw [hb0]
              show wl_R _ _ 196 104 [some (.ref 138), some (wp_i o)] [wp_i b] h1 _
              refine wl_if (t := 112) ji_196_104 rfl (by omega) (fun (hb78 : ¬ (b : Int) = 0) => ?_) (fun (hb78 : ¬ (¬ (b : Int) = 0)) => ?_)
              · refine wl_s (pc' := 113) ji_196_112 rfl rfl rfl ?_
                refine wl_bp ji_196_113 rfl ?_
                refine wl_bp ji_196_115 rfl ?_
                refine wl_bp ji_196_117 rfl ?_
                refine wl_sc (d := d + 4) (as := [wp_i 97, wp_i 110, wp_i 100]) (rest := [.ref 138]) ji_196_119 jc_196_122 (Nat.le_of_ble_eq_true rfl) rfl (Nat.le_of_ble_eq_true rfl) rfl (by rw [jn_188]; rfl) (wr_w3 (d := d + 3) (by decide) (by decide) (by decide)) (fun v1 h1 R => ?_)
                obtain ⟨ee, rfl⟩ := R
                subst ee
                show wl_R _ _ 196 122 [some (.ref 138), some (wp_i o)] [.long (Int64.ofNat (wd [97, 110, 100])), .ref 138] h1 _
                obtain ⟨cs, hcs⟩ := rp_c V
                refine wl_vc (d := d + 4) (as := [.ref 138, .long (Int64.ofNat (wd [97, 110, 100]))]) (rest := []) ji_196_122 jc_196_189 rfl hcs jk_190.symm (Nat.le_of_ble_eq_true rfl) rfl (by rw [jn_190]; rfl) (wr_iw (W := wd [97, 110, 100]) V hw0 (by decide +kernel) htr) (fun v1 h1 R => ?_)
                obtain ⟨ee, y79, rfl, hy79a, hy79b⟩ := R
                subst ee
                rw [kw T (j := 14) (K := [97, 110, 100]) rfl] at hy79b
                show wl_R _ _ 196 125 [some (.ref 138), some (wp_i o)] [wp_i y79] h1 _
                refine wl_if (t := 133) ji_196_125 rfl (by omega) (fun (hb80 : (y79 : Int) = 0) => ?_) (fun (hb80 : ¬ ((y79 : Int) = 0)) => ?_)
                · refine wl_s (pc' := 134) ji_196_133 rfl rfl rfl ?_
                  refine wl_bp ji_196_134 rfl ?_
                  refine wl_bp ji_196_136 rfl ?_
                  refine wl_sc (d := d + 4) (as := [wp_i 111, wp_i 114]) (rest := [.ref 138]) ji_196_138 jc_196_118 (Nat.le_of_ble_eq_true rfl) rfl (Nat.le_of_ble_eq_true rfl) rfl (by rw [jn_189]; rfl) (wr_w2 (d := d + 4) (by decide) (by decide)) (fun v1 h1 R => ?_)
                  obtain ⟨ee, rfl⟩ := R
                  subst ee
                  show wl_R _ _ 196 141 [some (.ref 138), some (wp_i o)] [.long (Int64.ofNat (wd [111, 114])), .ref 138] h1 _
                  obtain ⟨cs, hcs⟩ := rp_c V
                  refine wl_vc (d := d + 4) (as := [.ref 138, .long (Int64.ofNat (wd [111, 114]))]) (rest := []) ji_196_141 jc_196_189 rfl hcs jk_190.symm (Nat.le_of_ble_eq_true rfl) rfl (by rw [jn_190]; rfl) (wr_iw (W := wd [111, 114]) V hw0 (by decide +kernel) htr) (fun v1 h1 R => ?_)
                  obtain ⟨ee, y81, rfl, hy81a, hy81b⟩ := R
                  subst ee
                  rw [kw T (j := 13) (K := [111, 114]) rfl] at hy81b
                  show wl_R _ _ 196 144 [some (.ref 138), some (wp_i o)] [wp_i y81] h1 _
                  refine wl_if (t := 152) ji_196_144 rfl (by omega) (fun (hb82 : (y81 : Int) = 0) => ?_) (fun (hb82 : ¬ ((y81 : Int) = 0)) => ?_)
                  · refine wl_s (pc' := 153) ji_196_152 rfl rfl rfl ?_
                    rw [show bto k v t ei u = -1 by unfold bto; rw [if_neg (by omega), if_neg (by omega), if_neg (by omega), if_neg (by omega), if_neg (by omega), if_neg (show ¬ cmd u = false from fun z => hbg.elim (fun x => by rw [x.2] at z; cases z) (fun x => (by exfalso; omega))), if_neg (by omega), if_neg (by omega)]]
                    exact wl_ri ji_196_153 jr_196 rfl ⟨rfl, rfl⟩
                  · refine wl_bp ji_196_147 rfl ?_
                    refine wl_goto (t := 153) ji_196_149 rfl ?_
                    rw [show bto k v t ei u = 22 by unfold bto; rw [if_neg (by omega), if_neg (by omega), if_neg (by omega), if_neg (by omega), if_neg (by omega), if_neg (show ¬ cmd u = false from fun z => hbg.elim (fun x => by rw [x.2] at z; cases z) (fun x => (by exfalso; omega))), if_neg (by omega), if_pos (by omega)]]
                    exact wl_ri ji_196_153 jr_196 rfl ⟨rfl, rfl⟩
                · refine wl_bp ji_196_128 rfl ?_
                  refine wl_goto (t := 153) ji_196_130 rfl ?_
                  rw [show bto k v t ei u = 21 by unfold bto; rw [if_neg (by omega), if_neg (by omega), if_neg (by omega), if_neg (by omega), if_neg (by omega), if_neg (show ¬ cmd u = false from fun z => hbg.elim (fun x => by rw [x.2] at z; cases z) (fun x => (by exfalso; omega))), if_pos (by omega)]]
                  exact wl_ri ji_196_153 jr_196 rfl ⟨rfl, rfl⟩
              · refine wl_s (pc' := 108) ji_196_107 rfl rfl rfl ?_
                obtain ⟨cs, hcs⟩ := rp_c V
                refine wl_vc (d := d + 4) (as := [.ref 138]) (rest := []) ji_196_108 jc_196_199 rfl hcs jk_201.symm (Nat.le_of_ble_eq_true rfl) rfl (by rw [jn_201]; rfl) (wr_co (d := d + 4) V htr) (fun v1 h1 R => ?_)
                obtain ⟨ee, rfl⟩ := R
                subst ee
                show wl_R _ _ 196 111 [some (.ref 138), some (wp_i o)] [wp_i (cmo t)] h1 _
                rw [show bto k v t ei u = cmo t by unfold bto; rw [if_neg (by omega), if_neg (by omega), if_neg (by omega), if_neg (by omega), if_neg (by omega), if_pos (show cmd u = false from hbg.elim (fun x => (by exfalso; omega)) (fun x => x.2))]]
                exact wl_ri ji_196_111 jr_196 rfl ⟨rfl, rfl⟩
            · refine wl_s (pc' := 99) ji_196_98 rfl rfl rfl ?_
              rw [show bto k v t ei u = -1 by unfold bto; rw [if_neg (by omega), if_neg (by omega), if_neg (by omega), if_neg (by omega), if_pos (by omega)]]
              exact wl_ri ji_196_99 jr_196 rfl ⟨rfl, rfl⟩
          · refine wl_s (pc' := 80) ji_196_79 rfl rfl rfl ?_
            refine rp_g9 V ji_196_80 jf_196_95 ?_
            refine wl_bp ji_196_83 rfl ?_
            refine wl_icmp (t := 91) ji_196_85 rfl (by omega) (by omega) (fun (hb83 : ¬ (t : Int) = 47) => ?_) (fun (hb83 : ¬ (¬ (t : Int) = 47)) => ?_)
            · refine wl_s (pc' := 92) ji_196_91 rfl rfl rfl ?_
              obtain ⟨cs, hcs⟩ := rp_c V
              refine wl_vc (d := d + 4) (as := [.ref 138]) (rest := []) ji_196_92 jc_196_167 rfl hcs jk_197.symm (Nat.le_of_ble_eq_true rfl) rfl (by rw [jn_197]; rfl) (wr_ah (d := d + 3) V e hl hpd hei) (fun v1 h1 R => ?_)
              obtain ⟨ee, y84, rfl, hy84a, hy84b⟩ := R
              subst ee
              show wl_R _ _ 196 95 [some (.ref 138), some (wp_i o)] [wp_i y84] h1 _
              refine wl_if (t := 100) ji_196_95 rfl (by omega) (fun (hb85 : ¬ (y84 : Int) = 0) => ?_) (fun (hb85 : ¬ (¬ (y84 : Int) = 0)) => ?_)
              · refine wl_s (pc' := 101) ji_196_100 rfl rfl rfl ?_
                obtain ⟨cs, hcs⟩ := rp_c V
                refine wl_vc (d := d + 4) (as := [.ref 138]) (rest := []) ji_196_101 jc_196_196 rfl hcs jk_199.symm (Nat.le_of_ble_eq_true rfl) rfl (by rw [jn_199]; rfl) (wr_cm (d := d + 3) V e hl hpd) (fun v1 h1 R => ?_)
                obtain ⟨ee, rfl⟩ := R
                subst ee
                obtain ⟨b, hb0⟩ : ∃ b, bi (cmd u) = b := ⟨_, rfl⟩
                have hbg := bi_g hb0
                rw [hb0]
                show wl_R _ _ 196 104 [some (.ref 138), some (wp_i o)] [wp_i b] h1 _
                refine wl_if (t := 112) ji_196_104 rfl (by omega) (fun (hb86 : ¬ (b : Int) = 0) => ?_) (fun (hb86 : ¬ (¬ (b : Int) = 0)) => ?_)
                · refine wl_s (pc' := 113) ji_196_112 rfl rfl rfl ?_
                  refine wl_bp ji_196_113 rfl ?_
                  refine wl_bp ji_196_115 rfl ?_
                  refine wl_bp ji_196_117 rfl ?_
                  refine wl_sc (d := d + 4) (as := [wp_i 97, wp_i 110, wp_i 100]) (rest := [.ref 138]) ji_196_119 jc_196_122 (Nat.le_of_ble_eq_true rfl) rfl (Nat.le_of_ble_eq_true rfl) rfl (by rw [jn_188]; rfl) (wr_w3 (d := d + 3) (by decide) (by decide) (by decide)) (fun v1 h1 R => ?_)
                  obtain ⟨ee, rfl⟩ := R
                  subst ee
                  show wl_R _ _ 196 122 [some (.ref 138), some (wp_i o)] [.long (Int64.ofNat (wd [97, 110, 100])), .ref 138] h1 _
                  obtain ⟨cs, hcs⟩ := rp_c V
                  refine wl_vc (d := d + 4) (as := [.ref 138, .long (Int64.ofNat (wd [97, 110, 100]))]) (rest := []) ji_196_122 jc_196_189 rfl hcs jk_190.symm (Nat.le_of_ble_eq_true rfl) rfl (by rw [jn_190]; rfl) (wr_iw (W := wd [97, 110, 100]) V hw0 (by decide +kernel) htr) (fun v1 h1 R => ?_)
                  obtain ⟨ee, y87, rfl, hy87a, hy87b⟩ := R
                  subst ee
                  rw [kw T (j := 14) (K := [97, 110, 100]) rfl] at hy87b
                  show wl_R _ _ 196 125 [some (.ref 138), some (wp_i o)] [wp_i y87] h1 _
                  refine wl_if (t := 133) ji_196_125 rfl (by omega) (fun (hb88 : (y87 : Int) = 0) => ?_) (fun (hb88 : ¬ ((y87 : Int) = 0)) => ?_)
                  · refine wl_s (pc' := 134) ji_196_133 rfl rfl rfl ?_
                    refine wl_bp ji_196_134 rfl ?_
                    refine wl_bp ji_196_136 rfl ?_
                    refine wl_sc (d := d + 4) (as := [wp_i 111, wp_i 114]) (rest := [.ref 138]) ji_196_138 jc_196_118 (Nat.le_of_ble_eq_true rfl) rfl (Nat.le_of_ble_eq_true rfl) rfl (by rw [jn_189]; rfl) (wr_w2 (d := d + 4) (by decide) (by decide)) (fun v1 h1 R => ?_)
                    obtain ⟨ee, rfl⟩ := R
                    subst ee
                    show wl_R _ _ 196 141 [some (.ref 138), some (wp_i o)] [.long (Int64.ofNat (wd [111, 114])), .ref 138] h1 _
                    obtain ⟨cs, hcs⟩ := rp_c V
                    refine wl_vc (d := d + 4) (as := [.ref 138, .long (Int64.ofNat (wd [111, 114]))]) (rest := []) ji_196_141 jc_196_189 rfl hcs jk_190.symm (Nat.le_of_ble_eq_true rfl) rfl (by rw [jn_190]; rfl) (wr_iw (W := wd [111, 114]) V hw0 (by decide +kernel) htr) (fun v1 h1 R => ?_)
                    obtain ⟨ee, y89, rfl, hy89a, hy89b⟩ := R
                    subst ee
                    rw [kw T (j := 13) (K := [111, 114]) rfl] at hy89b
                    show wl_R _ _ 196 144 [some (.ref 138), some (wp_i o)] [wp_i y89] h1 _
                    refine wl_if (t := 152) ji_196_144 rfl (by omega) (fun (hb90 : (y89 : Int) = 0) => ?_) (fun (hb90 : ¬ ((y89 : Int) = 0)) => ?_)
                    · refine wl_s (pc' := 153) ji_196_152 rfl rfl rfl ?_
                      rw [show bto k v t ei u = -1 by unfold bto; rw [if_neg (by omega), if_neg (by omega), if_neg (by omega), if_neg (by omega), if_neg (by omega), if_neg (show ¬ cmd u = false from fun z => hbg.elim (fun x => by rw [x.2] at z; cases z) (fun x => (by exfalso; omega))), if_neg (by omega), if_neg (by omega)]]
                      exact wl_ri ji_196_153 jr_196 rfl ⟨rfl, rfl⟩
                    · refine wl_bp ji_196_147 rfl ?_
                      refine wl_goto (t := 153) ji_196_149 rfl ?_
                      rw [show bto k v t ei u = 22 by unfold bto; rw [if_neg (by omega), if_neg (by omega), if_neg (by omega), if_neg (by omega), if_neg (by omega), if_neg (show ¬ cmd u = false from fun z => hbg.elim (fun x => by rw [x.2] at z; cases z) (fun x => (by exfalso; omega))), if_neg (by omega), if_pos (by omega)]]
                      exact wl_ri ji_196_153 jr_196 rfl ⟨rfl, rfl⟩
                  · refine wl_bp ji_196_128 rfl ?_
                    refine wl_goto (t := 153) ji_196_130 rfl ?_
                    rw [show bto k v t ei u = 21 by unfold bto; rw [if_neg (by omega), if_neg (by omega), if_neg (by omega), if_neg (by omega), if_neg (by omega), if_neg (show ¬ cmd u = false from fun z => hbg.elim (fun x => by rw [x.2] at z; cases z) (fun x => (by exfalso; omega))), if_pos (by omega)]]
                    exact wl_ri ji_196_153 jr_196 rfl ⟨rfl, rfl⟩
                · refine wl_s (pc' := 108) ji_196_107 rfl rfl rfl ?_
                  obtain ⟨cs, hcs⟩ := rp_c V
                  refine wl_vc (d := d + 4) (as := [.ref 138]) (rest := []) ji_196_108 jc_196_199 rfl hcs jk_201.symm (Nat.le_of_ble_eq_true rfl) rfl (by rw [jn_201]; rfl) (wr_co (d := d + 4) V htr) (fun v1 h1 R => ?_)
                  obtain ⟨ee, rfl⟩ := R
                  subst ee
                  show wl_R _ _ 196 111 [some (.ref 138), some (wp_i o)] [wp_i (cmo t)] h1 _
                  rw [show bto k v t ei u = cmo t by unfold bto; rw [if_neg (by omega), if_neg (by omega), if_neg (by omega), if_neg (by omega), if_neg (by omega), if_pos (show cmd u = false from hbg.elim (fun x => (by exfalso; omega)) (fun x => x.2))]]
                  exact wl_ri ji_196_111 jr_196 rfl ⟨rfl, rfl⟩
              · refine wl_s (pc' := 99) ji_196_98 rfl rfl rfl ?_
                rw [show bto k v t ei u = -1 by unfold bto; rw [if_neg (by omega), if_neg (by omega), if_neg (by omega), if_neg (by omega), if_pos (by omega)]]
                exact wl_ri ji_196_99 jr_196 rfl ⟨rfl, rfl⟩
            · refine wl_bp ji_196_88 rfl ?_
              rw [show bto k v t ei u = 7 by unfold bto; rw [if_neg (by omega), if_neg (by omega), if_neg (by omega), if_pos (by omega)]]
              exact wl_ri ji_196_90 jr_196 rfl ⟨rfl, rfl⟩
        · refine wl_s (pc' := 64) ji_196_63 rfl rfl rfl ?_
          refine rp_g9 V ji_196_64 jf_196_95 ?_
          refine wl_bp ji_196_67 rfl ?_
          refine wl_icmp (t := 75) ji_196_69 rfl (by omega) (by omega) (fun (hb91 : ¬ (t : Int) = 42) => ?_) (fun (hb91 : ¬ (¬ (t : Int) = 42)) => ?_)
          · refine wl_s (pc' := 76) ji_196_75 rfl rfl rfl ?_
            refine wl_if (t := 91) ji_196_76 rfl (by omega) (fun (hb92 : ¬ (o : Int) = 0) => ?_) (fun (hb92 : ¬ (¬ (o : Int) = 0)) => ?_)
            · refine wl_s (pc' := 92) ji_196_91 rfl rfl rfl ?_
              obtain ⟨cs, hcs⟩ := rp_c V
              refine wl_vc (d := d + 4) (as := [.ref 138]) (rest := []) ji_196_92 jc_196_167 rfl hcs jk_197.symm (Nat.le_of_ble_eq_true rfl) rfl (by rw [jn_197]; rfl) (wr_ah (d := d + 3) V e hl hpd hei) (fun v1 h1 R => ?_)
              obtain ⟨ee, y93, rfl, hy93a, hy93b⟩ := R
              subst ee
              show wl_R _ _ 196 95 [some (.ref 138), some (wp_i o)] [wp_i y93] h1 _
              refine wl_if (t := 100) ji_196_95 rfl (by omega) (fun (hb94 : ¬ (y93 : Int) = 0) => ?_) (fun (hb94 : ¬ (¬ (y93 : Int) = 0)) => ?_)
              · refine wl_s (pc' := 101) ji_196_100 rfl rfl rfl ?_
                obtain ⟨cs, hcs⟩ := rp_c V
                refine wl_vc (d := d + 4) (as := [.ref 138]) (rest := []) ji_196_101 jc_196_196 rfl hcs jk_199.symm (Nat.le_of_ble_eq_true rfl) rfl (by rw [jn_199]; rfl) (wr_cm (d := d + 3) V e hl hpd) (fun v1 h1 R => ?_)
                obtain ⟨ee, rfl⟩ := R
                subst ee
                obtain ⟨b, hb0⟩ : ∃ b, bi (cmd u) = b := ⟨_, rfl⟩
                have hbg := bi_g hb0
                rw [hb0]
                show wl_R _ _ 196 104 [some (.ref 138), some (wp_i o)] [wp_i b] h1 _
                refine wl_if (t := 112) ji_196_104 rfl (by omega) (fun (hb95 : ¬ (b : Int) = 0) => ?_) (fun (hb95 : ¬ (¬ (b : Int) = 0)) => ?_)
                · refine wl_s (pc' := 113) ji_196_112 rfl rfl rfl ?_
                  refine wl_bp ji_196_113 rfl ?_
                  refine wl_bp ji_196_115 rfl ?_
                  refine wl_bp ji_196_117 rfl ?_
                  refine wl_sc (d := d + 4) (as := [wp_i 97, wp_i 110, wp_i 100]) (rest := [.ref 138]) ji_196_119 jc_196_122 (Nat.le_of_ble_eq_true rfl) rfl (Nat.le_of_ble_eq_true rfl) rfl (by rw [jn_188]; rfl) (wr_w3 (d := d + 3) (by decide) (by decide) (by decide)) (fun v1 h1 R => ?_)
                  obtain ⟨ee, rfl⟩ := R
                  subst ee
                  show wl_R _ _ 196 122 [some (.ref 138), some (wp_i o)] [.long (Int64.ofNat (wd [97, 110, 100])), .ref 138] h1 _
                  obtain ⟨cs, hcs⟩ := rp_c V
                  refine wl_vc (d := d + 4) (as := [.ref 138, .long (Int64.ofNat (wd [97, 110, 100]))]) (rest := []) ji_196_122 jc_196_189 rfl hcs jk_190.symm (Nat.le_of_ble_eq_true rfl) rfl (by rw [jn_190]; rfl) (wr_iw (W := wd [97, 110, 100]) V hw0 (by decide +kernel) htr) (fun v1 h1 R => ?_)
                  obtain ⟨ee, y96, rfl, hy96a, hy96b⟩ := R
                  subst ee
                  rw [kw T (j := 14) (K := [97, 110, 100]) rfl] at hy96b
                  show wl_R _ _ 196 125 [some (.ref 138), some (wp_i o)] [wp_i y96] h1 _
                  refine wl_if (t := 133) ji_196_125 rfl (by omega) (fun (hb97 : (y96 : Int) = 0) => ?_) (fun (hb97 : ¬ ((y96 : Int) = 0)) => ?_)
                  · refine wl_s (pc' := 134) ji_196_133 rfl rfl rfl ?_
                    refine wl_bp ji_196_134 rfl ?_
                    refine wl_bp ji_196_136 rfl ?_
                    refine wl_sc (d := d + 4) (as := [wp_i 111, wp_i 114]) (rest := [.ref 138]) ji_196_138 jc_196_118 (Nat.le_of_ble_eq_true rfl) rfl (Nat.le_of_ble_eq_true rfl) rfl (by rw [jn_189]; rfl) (wr_w2 (d := d + 4) (by decide) (by decide)) (fun v1 h1 R => ?_)
                    obtain ⟨ee, rfl⟩ := R
                    subst ee
                    show wl_R _ _ 196 141 [some (.ref 138), some (wp_i o)] [.long (Int64.ofNat (wd [111, 114])), .ref 138] h1 _
                    obtain ⟨cs, hcs⟩ := rp_c V
                    refine wl_vc (d := d + 4) (as := [.ref 138, .long (Int64.ofNat (wd [111, 114]))]) (rest := []) ji_196_141 jc_196_189 rfl hcs jk_190.symm (Nat.le_of_ble_eq_true rfl) rfl (by rw [jn_190]; rfl) (wr_iw (W := wd [111, 114]) V hw0 (by decide +kernel) htr) (fun v1 h1 R => ?_)
                    obtain ⟨ee, y98, rfl, hy98a, hy98b⟩ := R
                    subst ee
                    rw [kw T (j := 13) (K := [111, 114]) rfl] at hy98b
                    show wl_R _ _ 196 144 [some (.ref 138), some (wp_i o)] [wp_i y98] h1 _
                    refine wl_if (t := 152) ji_196_144 rfl (by omega) (fun (hb99 : (y98 : Int) = 0) => ?_) (fun (hb99 : ¬ ((y98 : Int) = 0)) => ?_)
                    · refine wl_s (pc' := 153) ji_196_152 rfl rfl rfl ?_
                      rw [show bto k v t ei u = -1 by unfold bto; rw [if_neg (by omega), if_neg (by omega), if_neg (by omega), if_neg (by omega), if_neg (by omega), if_neg (show ¬ cmd u = false from fun z => hbg.elim (fun x => by rw [x.2] at z; cases z) (fun x => (by exfalso; omega))), if_neg (by omega), if_neg (by omega)]]
                      exact wl_ri ji_196_153 jr_196 rfl ⟨rfl, rfl⟩
                    · refine wl_bp ji_196_147 rfl ?_
                      refine wl_goto (t := 153) ji_196_149 rfl ?_
                      rw [show bto k v t ei u = 22 by unfold bto; rw [if_neg (by omega), if_neg (by omega), if_neg (by omega), if_neg (by omega), if_neg (by omega), if_neg (show ¬ cmd u = false from fun z => hbg.elim (fun x => by rw [x.2] at z; cases z) (fun x => (by exfalso; omega))), if_neg (by omega), if_pos (by omega)]]
                      exact wl_ri ji_196_153 jr_196 rfl ⟨rfl, rfl⟩
                  · refine wl_bp ji_196_128 rfl ?_
                    refine wl_goto (t := 153) ji_196_130 rfl ?_
                    rw [show bto k v t ei u = 21 by unfold bto; rw [if_neg (by omega), if_neg (by omega), if_neg (by omega), if_neg (by omega), if_neg (by omega), if_neg (show ¬ cmd u = false from fun z => hbg.elim (fun x => by rw [x.2] at z; cases z) (fun x => (by exfalso; omega))), if_pos (by omega)]]
                    exact wl_ri ji_196_153 jr_196 rfl ⟨rfl, rfl⟩
                · refine wl_s (pc' := 108) ji_196_107 rfl rfl rfl ?_
                  obtain ⟨cs, hcs⟩ := rp_c V
                  refine wl_vc (d := d + 4) (as := [.ref 138]) (rest := []) ji_196_108 jc_196_199 rfl hcs jk_201.symm (Nat.le_of_ble_eq_true rfl) rfl (by rw [jn_201]; rfl) (wr_co (d := d + 4) V htr) (fun v1 h1 R => ?_)
                  obtain ⟨ee, rfl⟩ := R
                  subst ee
                  show wl_R _ _ 196 111 [some (.ref 138), some (wp_i o)] [wp_i (cmo t)] h1 _
                  rw [show bto k v t ei u = cmo t by unfold bto; rw [if_neg (by omega), if_neg (by omega), if_neg (by omega), if_neg (by omega), if_neg (by omega), if_pos (show cmd u = false from hbg.elim (fun x => (by exfalso; omega)) (fun x => x.2))]]
                  exact wl_ri ji_196_111 jr_196 rfl ⟨rfl, rfl⟩
              · refine wl_s (pc' := 99) ji_196_98 rfl rfl rfl ?_
                rw [show bto k v t ei u = -1 by unfold bto; rw [if_neg (by omega), if_neg (by omega), if_neg (by omega), if_neg (by omega), if_pos (by omega)]]
                exact wl_ri ji_196_99 jr_196 rfl ⟨rfl, rfl⟩
            · refine wl_s (pc' := 80) ji_196_79 rfl rfl rfl ?_
              refine rp_g9 V ji_196_80 jf_196_95 ?_
              refine wl_bp ji_196_83 rfl ?_
              refine wl_icmp (t := 91) ji_196_85 rfl (by omega) (by omega) (fun (hb100 : ¬ (t : Int) = 47) => ?_) (fun (hb100 : ¬ (¬ (t : Int) = 47)) => ?_)
              · refine wl_s (pc' := 92) ji_196_91 rfl rfl rfl ?_
                obtain ⟨cs, hcs⟩ := rp_c V
                refine wl_vc (d := d + 4) (as := [.ref 138]) (rest := []) ji_196_92 jc_196_167 rfl hcs jk_197.symm (Nat.le_of_ble_eq_true rfl) rfl (by rw [jn_197]; rfl) (wr_ah (d := d + 3) V e hl hpd hei) (fun v1 h1 R => ?_)
                obtain ⟨ee, y101, rfl, hy101a, hy101b⟩ := R
                subst ee
                show wl_R _ _ 196 95 [some (.ref 138), some (wp_i o)] [wp_i y101] h1 _
                refine wl_if (t := 100) ji_196_95 rfl (by omega) (fun (hb102 : ¬ (y101 : Int) = 0) => ?_) (fun (hb102 : ¬ (¬ (y101 : Int) = 0)) => ?_)
                · refine wl_s (pc' := 101) ji_196_100 rfl rfl rfl ?_
                  obtain ⟨cs, hcs⟩ := rp_c V
                  refine wl_vc (d := d + 4) (as := [.ref 138]) (rest := []) ji_196_101 jc_196_196 rfl hcs jk_199.symm (Nat.le_of_ble_eq_true rfl) rfl (by rw [jn_199]; rfl) (wr_cm (d := d + 3) V e hl hpd) (fun v1 h1 R => ?_)
                  obtain ⟨ee, rfl⟩ := R
                  subst ee
                  obtain ⟨b, hb0⟩ : ∃ b, bi (cmd u) = b := ⟨_, rfl⟩
                  have hbg := bi_g hb0
                  rw [hb0]
                  show wl_R _ _ 196 104 [some (.ref 138), some (wp_i o)] [wp_i b] h1 _
                  refine wl_if (t := 112) ji_196_104 rfl (by omega) (fun (hb103 : ¬ (b : Int) = 0) => ?_) (fun (hb103 : ¬ (¬ (b : Int) = 0)) => ?_)
                  · refine wl_s (pc' := 113) ji_196_112 rfl rfl rfl ?_
                    refine wl_bp ji_196_113 rfl ?_
                    refine wl_bp ji_196_115 rfl ?_
                    refine wl_bp ji_196_117 rfl ?_
                    refine wl_sc (d := d + 4) (as := [wp_i 97, wp_i 110, wp_i 100]) (rest := [.ref 138]) ji_196_119 jc_196_122 (Nat.le_of_ble_eq_true rfl) rfl (Nat.le_of_ble_eq_true rfl) rfl (by rw [jn_188]; rfl) (wr_w3 (d := d + 3) (by decide) (by decide) (by decide)) (fun v1 h1 R => ?_)
                    obtain ⟨ee, rfl⟩ := R
                    subst ee
                    show wl_R _ _ 196 122 [some (.ref 138), some (wp_i o)] [.long (Int64.ofNat (wd [97, 110, 100])), .ref 138] h1 _
                    obtain ⟨cs, hcs⟩ := rp_c V
                    refine wl_vc (d := d + 4) (as := [.ref 138, .long (Int64.ofNat (wd [97, 110, 100]))]) (rest := []) ji_196_122 jc_196_189 rfl hcs jk_190.symm (Nat.le_of_ble_eq_true rfl) rfl (by rw [jn_190]; rfl) (wr_iw (W := wd [97, 110, 100]) V hw0 (by decide +kernel) htr) (fun v1 h1 R => ?_)
                    obtain ⟨ee, y104, rfl, hy104a, hy104b⟩ := R
                    subst ee
                    rw [kw T (j := 14) (K := [97, 110, 100]) rfl] at hy104b
                    show wl_R _ _ 196 125 [some (.ref 138), some (wp_i o)] [wp_i y104] h1 _
                    refine wl_if (t := 133) ji_196_125 rfl (by omega) (fun (hb105 : (y104 : Int) = 0) => ?_) (fun (hb105 : ¬ ((y104 : Int) = 0)) => ?_)
                    · refine wl_s (pc' := 134) ji_196_133 rfl rfl rfl ?_
                      refine wl_bp ji_196_134 rfl ?_
                      refine wl_bp ji_196_136 rfl ?_
                      refine wl_sc (d := d + 4) (as := [wp_i 111, wp_i 114]) (rest := [.ref 138]) ji_196_138 jc_196_118 (Nat.le_of_ble_eq_true rfl) rfl (Nat.le_of_ble_eq_true rfl) rfl (by rw [jn_189]; rfl) (wr_w2 (d := d + 4) (by decide) (by decide)) (fun v1 h1 R => ?_)
                      obtain ⟨ee, rfl⟩ := R
                      subst ee
                      show wl_R _ _ 196 141 [some (.ref 138), some (wp_i o)] [.long (Int64.ofNat (wd [111, 114])), .ref 138] h1 _
                      obtain ⟨cs, hcs⟩ := rp_c V
                      refine wl_vc (d := d + 4) (as := [.ref 138, .long (Int64.ofNat (wd [111, 114]))]) (rest := []) ji_196_141 jc_196_189 rfl hcs jk_190.symm (Nat.le_of_ble_eq_true rfl) rfl (by rw [jn_190]; rfl) (wr_iw (W := wd [111, 114]) V hw0 (by decide +kernel) htr) (fun v1 h1 R => ?_)
                      obtain ⟨ee, y106, rfl, hy106a, hy106b⟩ := R
                      subst ee
                      rw [kw T (j := 13) (K := [111, 114]) rfl] at hy106b
                      show wl_R _ _ 196 144 [some (.ref 138), some (wp_i o)] [wp_i y106] h1 _
                      refine wl_if (t := 152) ji_196_144 rfl (by omega) (fun (hb107 : (y106 : Int) = 0) => ?_) (fun (hb107 : ¬ ((y106 : Int) = 0)) => ?_)
                      · refine wl_s (pc' := 153) ji_196_152 rfl rfl rfl ?_
                        rw [show bto k v t ei u = -1 by unfold bto; rw [if_neg (by omega), if_neg (by omega), if_neg (by omega), if_neg (by omega), if_neg (by omega), if_neg (show ¬ cmd u = false from fun z => hbg.elim (fun x => by rw [x.2] at z; cases z) (fun x => (by exfalso; omega))), if_neg (by omega), if_neg (by omega)]]
                        exact wl_ri ji_196_153 jr_196 rfl ⟨rfl, rfl⟩
                      · refine wl_bp ji_196_147 rfl ?_
                        refine wl_goto (t := 153) ji_196_149 rfl ?_
                        rw [show bto k v t ei u = 22 by unfold bto; rw [if_neg (by omega), if_neg (by omega), if_neg (by omega), if_neg (by omega), if_neg (by omega), if_neg (show ¬ cmd u = false from fun z => hbg.elim (fun x => by rw [x.2] at z; cases z) (fun x => (by exfalso; omega))), if_neg (by omega), if_pos (by omega)]]
                        exact wl_ri ji_196_153 jr_196 rfl ⟨rfl, rfl⟩
                    · refine wl_bp ji_196_128 rfl ?_
                      refine wl_goto (t := 153) ji_196_130 rfl ?_
                      rw [show bto k v t ei u = 21 by unfold bto; rw [if_neg (by omega), if_neg (by omega), if_neg (by omega), if_neg (by omega), if_neg (by omega), if_neg (show ¬ cmd u = false from fun z => hbg.elim (fun x => by rw [x.2] at z; cases z) (fun x => (by exfalso; omega))), if_pos (by omega)]]
                      exact wl_ri ji_196_153 jr_196 rfl ⟨rfl, rfl⟩
                  · refine wl_s (pc' := 108) ji_196_107 rfl rfl rfl ?_
                    obtain ⟨cs, hcs⟩ := rp_c V
                    refine wl_vc (d := d + 4) (as := [.ref 138]) (rest := []) ji_196_108 jc_196_199 rfl hcs jk_201.symm (Nat.le_of_ble_eq_true rfl) rfl (by rw [jn_201]; rfl) (wr_co (d := d + 4) V htr) (fun v1 h1 R => ?_)
                    obtain ⟨ee, rfl⟩ := R
                    subst ee
                    show wl_R _ _ 196 111 [some (.ref 138), some (wp_i o)] [wp_i (cmo t)] h1 _
                    rw [show bto k v t ei u = cmo t by unfold bto; rw [if_neg (by omega), if_neg (by omega), if_neg (by omega), if_neg (by omega), if_neg (by omega), if_pos (show cmd u = false from hbg.elim (fun x => (by exfalso; omega)) (fun x => x.2))]]
                    exact wl_ri ji_196_111 jr_196 rfl ⟨rfl, rfl⟩
                · refine wl_s (pc' := 99) ji_196_98 rfl rfl rfl ?_
                  rw [show bto k v t ei u = -1 by unfold bto; rw [if_neg (by omega), if_neg (by omega), if_neg (by omega), if_neg (by omega), if_pos (by omega)]]
                  exact wl_ri ji_196_99 jr_196 rfl ⟨rfl, rfl⟩
              · refine wl_bp ji_196_88 rfl ?_
                rw [show bto k v t ei u = 7 by unfold bto; rw [if_neg (by omega), if_neg (by omega), if_neg (by omega), if_pos (by omega)]]
                exact wl_ri ji_196_90 jr_196 rfl ⟨rfl, rfl⟩
          · refine wl_bp ji_196_72 rfl ?_
            rw [show bto k v t ei u = 6 by unfold bto; rw [if_neg (by omega), if_neg (by omega), if_pos (by omega)]]
            exact wl_ri ji_196_74 jr_196 rfl ⟨rfl, rfl⟩
      · refine wl_s (pc' := 49) ji_196_48 rfl rfl rfl ?_
        refine rp_g9 V ji_196_49 jf_196_95 ?_
        refine wl_bp ji_196_52 rfl ?_
        refine wl_icmp (t := 59) ji_196_54 rfl (by omega) (by omega) (fun (hb108 : ¬ (t : Int) = 45) => ?_) (fun (hb108 : ¬ (¬ (t : Int) = 45)) => ?_)
        · refine wl_s (pc' := 60) ji_196_59 rfl rfl rfl ?_
          refine wl_if (t := 75) ji_196_60 rfl (by omega) (fun (hb109 : ¬ (o : Int) = 0) => ?_) (fun (hb109 : ¬ (¬ (o : Int) = 0)) => ?_)
          · refine wl_s (pc' := 76) ji_196_75 rfl rfl rfl ?_
            refine wl_if (t := 91) ji_196_76 rfl (by omega) (fun (hb110 : ¬ (o : Int) = 0) => ?_) (fun (hb110 : ¬ (¬ (o : Int) = 0)) => ?_)
            · refine wl_s (pc' := 92) ji_196_91 rfl rfl rfl ?_
              obtain ⟨cs, hcs⟩ := rp_c V
              refine wl_vc (d := d + 4) (as := [.ref 138]) (rest := []) ji_196_92 jc_196_167 rfl hcs jk_197.symm (Nat.le_of_ble_eq_true rfl) rfl (by rw [jn_197]; rfl) (wr_ah (d := d + 3) V e hl hpd hei) (fun v1 h1 R => ?_)
              obtain ⟨ee, y111, rfl, hy111a, hy111b⟩ := R
              subst ee
              show wl_R _ _ 196 95 [some (.ref 138), some (wp_i o)] [wp_i y111] h1 _
              refine wl_if (t := 100) ji_196_95 rfl (by omega) (fun (hb112 : ¬ (y111 : Int) = 0) => ?_) (fun (hb112 : ¬ (¬ (y111 : Int) = 0)) => ?_)
              · refine wl_s (pc' := 101) ji_196_100 rfl rfl rfl ?_
                obtain ⟨cs, hcs⟩ := rp_c V
                refine wl_vc (d := d + 4) (as := [.ref 138]) (rest := []) ji_196_101 jc_196_196 rfl hcs jk_199.symm (Nat.le_of_ble_eq_true rfl) rfl (by rw [jn_199]; rfl) (wr_cm (d := d + 3) V e hl hpd) (fun v1 h1 R => ?_)
                obtain ⟨ee, rfl⟩ := R
                subst ee
                obtain ⟨b, hb0⟩ : ∃ b, bi (cmd u) = b := ⟨_, rfl⟩
                have hbg := bi_g hb0
                rw [hb0]
                show wl_R _ _ 196 104 [some (.ref 138), some (wp_i o)] [wp_i b] h1 _
                refine wl_if (t := 112) ji_196_104 rfl (by omega) (fun (hb113 : ¬ (b : Int) = 0) => ?_) (fun (hb113 : ¬ (¬ (b : Int) = 0)) => ?_)
                · refine wl_s (pc' := 113) ji_196_112 rfl rfl rfl ?_
                  refine wl_bp ji_196_113 rfl ?_
                  refine wl_bp ji_196_115 rfl ?_
                  refine wl_bp ji_196_117 rfl ?_
                  refine wl_sc (d := d + 4) (as := [wp_i 97, wp_i 110, wp_i 100]) (rest := [.ref 138]) ji_196_119 jc_196_122 (Nat.le_of_ble_eq_true rfl) rfl (Nat.le_of_ble_eq_true rfl) rfl (by rw [jn_188]; rfl) (wr_w3 (d := d + 3) (by decide) (by decide) (by decide)) (fun v1 h1 R => ?_)
                  obtain ⟨ee, rfl⟩ := R
                  subst ee
                  show wl_R _ _ 196 122 [some (.ref 138), some (wp_i o)] [.long (Int64.ofNat (wd [97, 110, 100])), .ref 138] h1 _
                  obtain ⟨cs, hcs⟩ := rp_c V
                  refine wl_vc (d := d + 4) (as := [.ref 138, .long (Int64.ofNat (wd [97, 110, 100]))]) (rest := []) ji_196_122 jc_196_189 rfl hcs jk_190.symm (Nat.le_of_ble_eq_true rfl) rfl (by rw [jn_190]; rfl) (wr_iw (W := wd [97, 110, 100]) V hw0 (by decide +kernel) htr) (fun v1 h1 R => ?_)
                  obtain ⟨ee, y114, rfl, hy114a, hy114b⟩ := R
                  subst ee
                  rw [kw T (j := 14) (K := [97, 110, 100]) rfl] at hy114b
                  show wl_R _ _ 196 125 [some (.ref 138), some (wp_i o)] [wp_i y114] h1 _
                  refine wl_if (t := 133) ji_196_125 rfl (by omega) (fun (hb115 : (y114 : Int) = 0) => ?_) (fun (hb115 : ¬ ((y114 : Int) = 0)) => ?_)
                  · refine wl_s (pc' := 134) ji_196_133 rfl rfl rfl ?_
                    refine wl_bp ji_196_134 rfl ?_
                    refine wl_bp ji_196_136 rfl ?_
                    refine wl_sc (d := d + 4) (as := [wp_i 111, wp_i 114]) (rest := [.ref 138]) ji_196_138 jc_196_118 (Nat.le_of_ble_eq_true rfl) rfl (Nat.le_of_ble_eq_true rfl) rfl (by rw [jn_189]; rfl) (wr_w2 (d := d + 4) (by decide) (by decide)) (fun v1 h1 R => ?_)
                    obtain ⟨ee, rfl⟩ := R
                    subst ee
                    show wl_R _ _ 196 141 [some (.ref 138), some (wp_i o)] [.long (Int64.ofNat (wd [111, 114])), .ref 138] h1 _
                    obtain ⟨cs, hcs⟩ := rp_c V
                    refine wl_vc (d := d + 4) (as := [.ref 138, .long (Int64.ofNat (wd [111, 114]))]) (rest := []) ji_196_141 jc_196_189 rfl hcs jk_190.symm (Nat.le_of_ble_eq_true rfl) rfl (by rw [jn_190]; rfl) (wr_iw (W := wd [111, 114]) V hw0 (by decide +kernel) htr) (fun v1 h1 R => ?_)
                    obtain ⟨ee, y116, rfl, hy116a, hy116b⟩ := R
                    subst ee
                    rw [kw T (j := 13) (K := [111, 114]) rfl] at hy116b
                    show wl_R _ _ 196 144 [some (.ref 138), some (wp_i o)] [wp_i y116] h1 _
                    refine wl_if (t := 152) ji_196_144 rfl (by omega) (fun (hb117 : (y116 : Int) = 0) => ?_) (fun (hb117 : ¬ ((y116 : Int) = 0)) => ?_)
                    · refine wl_s (pc' := 153) ji_196_152 rfl rfl rfl ?_
                      rw [show bto k v t ei u = -1 by unfold bto; rw [if_neg (by omega), if_neg (by omega), if_neg (by omega), if_neg (by omega), if_neg (by omega), if_neg (show ¬ cmd u = false from fun z => hbg.elim (fun x => by rw [x.2] at z; cases z) (fun x => (by exfalso; omega))), if_neg (by omega), if_neg (by omega)]]
                      exact wl_ri ji_196_153 jr_196 rfl ⟨rfl, rfl⟩
                    · refine wl_bp ji_196_147 rfl ?_
                      refine wl_goto (t := 153) ji_196_149 rfl ?_
                      rw [show bto k v t ei u = 22 by unfold bto; rw [if_neg (by omega), if_neg (by omega), if_neg (by omega), if_neg (by omega), if_neg (by omega), if_neg (show ¬ cmd u = false from fun z => hbg.elim (fun x => by rw [x.2] at z; cases z) (fun x => (by exfalso; omega))), if_neg (by omega), if_pos (by omega)]]
                      exact wl_ri ji_196_153 jr_196 rfl ⟨rfl, rfl⟩
                  · refine wl_bp ji_196_128 rfl ?_
                    refine wl_goto (t := 153) ji_196_130 rfl ?_
                    rw [show bto k v t ei u = 21 by unfold bto; rw [if_neg (by omega), if_neg (by omega), if_neg (by omega), if_neg (by omega), if_neg (by omega), if_neg (show ¬ cmd u = false from fun z => hbg.elim (fun x => by rw [x.2] at z; cases z) (fun x => (by exfalso; omega))), if_pos (by omega)]]
                    exact wl_ri ji_196_153 jr_196 rfl ⟨rfl, rfl⟩
                · refine wl_s (pc' := 108) ji_196_107 rfl rfl rfl ?_
                  obtain ⟨cs, hcs⟩ := rp_c V
                  refine wl_vc (d := d + 4) (as := [.ref 138]) (rest := []) ji_196_108 jc_196_199 rfl hcs jk_201.symm (Nat.le_of_ble_eq_true rfl) rfl (by rw [jn_201]; rfl) (wr_co (d := d + 4) V htr) (fun v1 h1 R => ?_)
                  obtain ⟨ee, rfl⟩ := R
                  subst ee
                  show wl_R _ _ 196 111 [some (.ref 138), some (wp_i o)] [wp_i (cmo t)] h1 _
                  rw [show bto k v t ei u = cmo t by unfold bto; rw [if_neg (by omega), if_neg (by omega), if_neg (by omega), if_neg (by omega), if_neg (by omega), if_pos (show cmd u = false from hbg.elim (fun x => (by exfalso; omega)) (fun x => x.2))]]
                  exact wl_ri ji_196_111 jr_196 rfl ⟨rfl, rfl⟩
              · refine wl_s (pc' := 99) ji_196_98 rfl rfl rfl ?_
                rw [show bto k v t ei u = -1 by unfold bto; rw [if_neg (by omega), if_neg (by omega), if_neg (by omega), if_neg (by omega), if_pos (by omega)]]
                exact wl_ri ji_196_99 jr_196 rfl ⟨rfl, rfl⟩
            · refine wl_s (pc' := 80) ji_196_79 rfl rfl rfl ?_
              refine rp_g9 V ji_196_80 jf_196_95 ?_
              refine wl_bp ji_196_83 rfl ?_
              refine wl_icmp (t := 91) ji_196_85 rfl (by omega) (by omega) (fun (hb118 : ¬ (t : Int) = 47) => ?_) (fun (hb118 : ¬ (¬ (t : Int) = 47)) => ?_)
              · refine wl_s (pc' := 92) ji_196_91 rfl rfl rfl ?_
                obtain ⟨cs, hcs⟩ := rp_c V
                refine wl_vc (d := d + 4) (as := [.ref 138]) (rest := []) ji_196_92 jc_196_167 rfl hcs jk_197.symm (Nat.le_of_ble_eq_true rfl) rfl (by rw [jn_197]; rfl) (wr_ah (d := d + 3) V e hl hpd hei) (fun v1 h1 R => ?_)
                obtain ⟨ee, y119, rfl, hy119a, hy119b⟩ := R
                subst ee
                show wl_R _ _ 196 95 [some (.ref 138), some (wp_i o)] [wp_i y119] h1 _
                refine wl_if (t := 100) ji_196_95 rfl (by omega) (fun (hb120 : ¬ (y119 : Int) = 0) => ?_) (fun (hb120 : ¬ (¬ (y119 : Int) = 0)) => ?_)
                · refine wl_s (pc' := 101) ji_196_100 rfl rfl rfl ?_
                  obtain ⟨cs, hcs⟩ := rp_c V
                  refine wl_vc (d := d + 4) (as := [.ref 138]) (rest := []) ji_196_101 jc_196_196 rfl hcs jk_199.symm (Nat.le_of_ble_eq_true rfl) rfl (by rw [jn_199]; rfl) (wr_cm (d := d + 3) V e hl hpd) (fun v1 h1 R => ?_)
                  obtain ⟨ee, rfl⟩ := R
                  subst ee
                  obtain ⟨b, hb0⟩ : ∃ b, bi (cmd u) = b := ⟨_, rfl⟩
                  have hbg := bi_g hb0
                  rw [hb0]
                  show wl_R _ _ 196 104 [some (.ref 138), some (wp_i o)] [wp_i b] h1 _
                  refine wl_if (t := 112) ji_196_104 rfl (by omega) (fun (hb121 : ¬ (b : Int) = 0) => ?_) (fun (hb121 : ¬ (¬ (b : Int) = 0)) => ?_)
                  · refine wl_s (pc' := 113) ji_196_112 rfl rfl rfl ?_
                    refine wl_bp ji_196_113 rfl ?_
                    refine wl_bp ji_196_115 rfl ?_
                    refine wl_bp ji_196_117 rfl ?_
                    refine wl_sc (d := d + 4) (as := [wp_i 97, wp_i 110, wp_i 100]) (rest := [.ref 138]) ji_196_119 jc_196_122 (Nat.le_of_ble_eq_true rfl) rfl (Nat.le_of_ble_eq_true rfl) rfl (by rw [jn_188]; rfl) (wr_w3 (d := d + 3) (by decide) (by decide) (by decide)) (fun v1 h1 R => ?_)
                    obtain ⟨ee, rfl⟩ := R
                    subst ee
                    show wl_R _ _ 196 122 [some (.ref 138), some (wp_i o)] [.long (Int64.ofNat (wd [97, 110, 100])), .ref 138] h1 _
                    obtain ⟨cs, hcs⟩ := rp_c V
                    refine wl_vc (d := d + 4) (as := [.ref 138, .long (Int64.ofNat (wd [97, 110, 100]))]) (rest := []) ji_196_122 jc_196_189 rfl hcs jk_190.symm (Nat.le_of_ble_eq_true rfl) rfl (by rw [jn_190]; rfl) (wr_iw (W := wd [97, 110, 100]) V hw0 (by decide +kernel) htr) (fun v1 h1 R => ?_)
                    obtain ⟨ee, y122, rfl, hy122a, hy122b⟩ := R
                    subst ee
                    rw [kw T (j := 14) (K := [97, 110, 100]) rfl] at hy122b
                    show wl_R _ _ 196 125 [some (.ref 138), some (wp_i o)] [wp_i y122] h1 _
                    refine wl_if (t := 133) ji_196_125 rfl (by omega) (fun (hb123 : (y122 : Int) = 0) => ?_) (fun (hb123 : ¬ ((y122 : Int) = 0)) => ?_)
                    · refine wl_s (pc' := 134) ji_196_133 rfl rfl rfl ?_
                      refine wl_bp ji_196_134 rfl ?_
                      refine wl_bp ji_196_136 rfl ?_
                      refine wl_sc (d := d + 4) (as := [wp_i 111, wp_i 114]) (rest := [.ref 138]) ji_196_138 jc_196_118 (Nat.le_of_ble_eq_true rfl) rfl (Nat.le_of_ble_eq_true rfl) rfl (by rw [jn_189]; rfl) (wr_w2 (d := d + 4) (by decide) (by decide)) (fun v1 h1 R => ?_)
                      obtain ⟨ee, rfl⟩ := R
                      subst ee
                      show wl_R _ _ 196 141 [some (.ref 138), some (wp_i o)] [.long (Int64.ofNat (wd [111, 114])), .ref 138] h1 _
                      obtain ⟨cs, hcs⟩ := rp_c V
                      refine wl_vc (d := d + 4) (as := [.ref 138, .long (Int64.ofNat (wd [111, 114]))]) (rest := []) ji_196_141 jc_196_189 rfl hcs jk_190.symm (Nat.le_of_ble_eq_true rfl) rfl (by rw [jn_190]; rfl) (wr_iw (W := wd [111, 114]) V hw0 (by decide +kernel) htr) (fun v1 h1 R => ?_)
                      obtain ⟨ee, y124, rfl, hy124a, hy124b⟩ := R
                      subst ee
                      rw [kw T (j := 13) (K := [111, 114]) rfl] at hy124b
                      show wl_R _ _ 196 144 [some (.ref 138), some (wp_i o)] [wp_i y124] h1 _
                      refine wl_if (t := 152) ji_196_144 rfl (by omega) (fun (hb125 : (y124 : Int) = 0) => ?_) (fun (hb125 : ¬ ((y124 : Int) = 0)) => ?_)
                      · refine wl_s (pc' := 153) ji_196_152 rfl rfl rfl ?_
                        rw [show bto k v t ei u = -1 by unfold bto; rw [if_neg (by omega), if_neg (by omega), if_neg (by omega), if_neg (by omega), if_neg (by omega), if_neg (show ¬ cmd u = false from fun z => hbg.elim (fun x => by rw [x.2] at z; cases z) (fun x => (by exfalso; omega))), if_neg (by omega), if_neg (by omega)]]
                        exact wl_ri ji_196_153 jr_196 rfl ⟨rfl, rfl⟩
                      · refine wl_bp ji_196_147 rfl ?_
                        refine wl_goto (t := 153) ji_196_149 rfl ?_
                        rw [show bto k v t ei u = 22 by unfold bto; rw [if_neg (by omega), if_neg (by omega), if_neg (by omega), if_neg (by omega), if_neg (by omega), if_neg (show ¬ cmd u = false from fun z => hbg.elim (fun x => by rw [x.2] at z; cases z) (fun x => (by exfalso; omega))), if_neg (by omega), if_pos (by omega)]]
                        exact wl_ri ji_196_153 jr_196 rfl ⟨rfl, rfl⟩
                    · refine wl_bp ji_196_128 rfl ?_
                      refine wl_goto (t := 153) ji_196_130 rfl ?_
                      rw [show bto k v t ei u = 21 by unfold bto; rw [if_neg (by omega), if_neg (by omega), if_neg (by omega), if_neg (by omega), if_neg (by omega), if_neg (show ¬ cmd u = false from fun z => hbg.elim (fun x => by rw [x.2] at z; cases z) (fun x => (by exfalso; omega))), if_pos (by omega)]]
                      exact wl_ri ji_196_153 jr_196 rfl ⟨rfl, rfl⟩
                  · refine wl_s (pc' := 108) ji_196_107 rfl rfl rfl ?_
                    obtain ⟨cs, hcs⟩ := rp_c V
                    refine wl_vc (d := d + 4) (as := [.ref 138]) (rest := []) ji_196_108 jc_196_199 rfl hcs jk_201.symm (Nat.le_of_ble_eq_true rfl) rfl (by rw [jn_201]; rfl) (wr_co (d := d + 4) V htr) (fun v1 h1 R => ?_)
                    obtain ⟨ee, rfl⟩ := R
                    subst ee
                    show wl_R _ _ 196 111 [some (.ref 138), some (wp_i o)] [wp_i (cmo t)] h1 _
                    rw [show bto k v t ei u = cmo t by unfold bto; rw [if_neg (by omega), if_neg (by omega), if_neg (by omega), if_neg (by omega), if_neg (by omega), if_pos (show cmd u = false from hbg.elim (fun x => (by exfalso; omega)) (fun x => x.2))]]
                    exact wl_ri ji_196_111 jr_196 rfl ⟨rfl, rfl⟩
                · refine wl_s (pc' := 99) ji_196_98 rfl rfl rfl ?_
                  rw [show bto k v t ei u = -1 by unfold bto; rw [if_neg (by omega), if_neg (by omega), if_neg (by omega), if_neg (by omega), if_pos (by omega)]]
                  exact wl_ri ji_196_99 jr_196 rfl ⟨rfl, rfl⟩
              · refine wl_bp ji_196_88 rfl ?_
                rw [show bto k v t ei u = 7 by unfold bto; rw [if_neg (by omega), if_neg (by omega), if_neg (by omega), if_pos (by omega)]]
                exact wl_ri ji_196_90 jr_196 rfl ⟨rfl, rfl⟩
          · refine wl_s (pc' := 64) ji_196_63 rfl rfl rfl ?_
            refine rp_g9 V ji_196_64 jf_196_95 ?_
            refine wl_bp ji_196_67 rfl ?_
            refine wl_icmp (t := 75) ji_196_69 rfl (by omega) (by omega) (fun (hb126 : ¬ (t : Int) = 42) => ?_) (fun (hb126 : ¬ (¬ (t : Int) = 42)) => ?_)
            · refine wl_s (pc' := 76) ji_196_75 rfl rfl rfl ?_
              refine wl_if (t := 91) ji_196_76 rfl (by omega) (fun (hb127 : ¬ (o : Int) = 0) => ?_) (fun (hb127 : ¬ (¬ (o : Int) = 0)) => ?_)
              · refine wl_s (pc' := 92) ji_196_91 rfl rfl rfl ?_
                obtain ⟨cs, hcs⟩ := rp_c V
                refine wl_vc (d := d + 4) (as := [.ref 138]) (rest := []) ji_196_92 jc_196_167 rfl hcs jk_197.symm (Nat.le_of_ble_eq_true rfl) rfl (by rw [jn_197]; rfl) (wr_ah (d := d + 3) V e hl hpd hei) (fun v1 h1 R => ?_)
                obtain ⟨ee, y128, rfl, hy128a, hy128b⟩ := R
                subst ee
                show wl_R _ _ 196 95 [some (.ref 138), some (wp_i o)] [wp_i y128] h1 _
                refine wl_if (t := 100) ji_196_95 rfl (by omega) (fun (hb129 : ¬ (y128 : Int) = 0) => ?_) (fun (hb129 : ¬ (¬ (y128 : Int) = 0)) => ?_)
                · refine wl_s (pc' := 101) ji_196_100 rfl rfl rfl ?_
                  obtain ⟨cs, hcs⟩ := rp_c V
                  refine wl_vc (d := d + 4) (as := [.ref 138]) (rest := []) ji_196_101 jc_196_196 rfl hcs jk_199.symm (Nat.le_of_ble_eq_true rfl) rfl (by rw [jn_199]; rfl) (wr_cm (d := d + 3) V e hl hpd) (fun v1 h1 R => ?_)
                  obtain ⟨ee, rfl⟩ := R
                  subst ee
                  obtain ⟨b, hb0⟩ : ∃ b, bi (cmd u) = b := ⟨_, rfl⟩
                  have hbg := bi_g hb0
                  rw [hb0]
                  show wl_R _ _ 196 104 [some (.ref 138), some (wp_i o)] [wp_i b] h1 _
                  refine wl_if (t := 112) ji_196_104 rfl (by omega) (fun (hb130 : ¬ (b : Int) = 0) => ?_) (fun (hb130 : ¬ (¬ (b : Int) = 0)) => ?_)
                  · refine wl_s (pc' := 113) ji_196_112 rfl rfl rfl ?_
                    refine wl_bp ji_196_113 rfl ?_
                    refine wl_bp ji_196_115 rfl ?_
                    refine wl_bp ji_196_117 rfl ?_
                    refine wl_sc (d := d + 4) (as := [wp_i 97, wp_i 110, wp_i 100]) (rest := [.ref 138]) ji_196_119 jc_196_122 (Nat.le_of_ble_eq_true rfl) rfl (Nat.le_of_ble_eq_true rfl) rfl (by rw [jn_188]; rfl) (wr_w3 (d := d + 3) (by decide) (by decide) (by decide)) (fun v1 h1 R => ?_)
                    obtain ⟨ee, rfl⟩ := R
                    subst ee
                    show wl_R _ _ 196 122 [some (.ref 138), some (wp_i o)] [.long (Int64.ofNat (wd [97, 110, 100])), .ref 138] h1 _
                    obtain ⟨cs, hcs⟩ := rp_c V
                    refine wl_vc (d := d + 4) (as := [.ref 138, .long (Int64.ofNat (wd [97, 110, 100]))]) (rest := []) ji_196_122 jc_196_189 rfl hcs jk_190.symm (Nat.le_of_ble_eq_true rfl) rfl (by rw [jn_190]; rfl) (wr_iw (W := wd [97, 110, 100]) V hw0 (by decide +kernel) htr) (fun v1 h1 R => ?_)
                    obtain ⟨ee, y131, rfl, hy131a, hy131b⟩ := R
                    subst ee
                    rw [kw T (j := 14) (K := [97, 110, 100]) rfl] at hy131b
                    show wl_R _ _ 196 125 [some (.ref 138), some (wp_i o)] [wp_i y131] h1 _
                    refine wl_if (t := 133) ji_196_125 rfl (by omega) (fun (hb132 : (y131 : Int) = 0) => ?_) (fun (hb132 : ¬ ((y131 : Int) = 0)) => ?_)
                    · refine wl_s (pc' := 134) ji_196_133 rfl rfl rfl ?_
                      refine wl_bp ji_196_134 rfl ?_
                      refine wl_bp ji_196_136 rfl ?_
                      refine wl_sc (d := d + 4) (as := [wp_i 111, wp_i 114]) (rest := [.ref 138]) ji_196_138 jc_196_118 (Nat.le_of_ble_eq_true rfl) rfl (Nat.le_of_ble_eq_true rfl) rfl (by rw [jn_189]; rfl) (wr_w2 (d := d + 4) (by decide) (by decide)) (fun v1 h1 R => ?_)
                      obtain ⟨ee, rfl⟩ := R
                      subst ee
                      show wl_R _ _ 196 141 [some (.ref 138), some (wp_i o)] [.long (Int64.ofNat (wd [111, 114])), .ref 138] h1 _
                      obtain ⟨cs, hcs⟩ := rp_c V
                      refine wl_vc (d := d + 4) (as := [.ref 138, .long (Int64.ofNat (wd [111, 114]))]) (rest := []) ji_196_141 jc_196_189 rfl hcs jk_190.symm (Nat.le_of_ble_eq_true rfl) rfl (by rw [jn_190]; rfl) (wr_iw (W := wd [111, 114]) V hw0 (by decide +kernel) htr) (fun v1 h1 R => ?_)
                      obtain ⟨ee, y133, rfl, hy133a, hy133b⟩ := R
                      subst ee
                      rw [kw T (j := 13) (K := [111, 114]) rfl] at hy133b
                      show wl_R _ _ 196 144 [some (.ref 138), some (wp_i o)] [wp_i y133] h1 _
                      refine wl_if (t := 152) ji_196_144 rfl (by omega) (fun (hb134 : (y133 : Int) = 0) => ?_) (fun (hb134 : ¬ ((y133 : Int) = 0)) => ?_)
                      · refine wl_s (pc' := 153) ji_196_152 rfl rfl rfl ?_
                        rw [show bto k v t ei u = -1 by unfold bto; rw [if_neg (by omega), if_neg (by omega), if_neg (by omega), if_neg (by omega), if_neg (by omega), if_neg (show ¬ cmd u = false from fun z => hbg.elim (fun x => by rw [x.2] at z; cases z) (fun x => (by exfalso; omega))), if_neg (by omega), if_neg (by omega)]]
                        exact wl_ri ji_196_153 jr_196 rfl ⟨rfl, rfl⟩
                      · refine wl_bp ji_196_147 rfl ?_
                        refine wl_goto (t := 153) ji_196_149 rfl ?_
                        rw [show bto k v t ei u = 22 by unfold bto; rw [if_neg (by omega), if_neg (by omega), if_neg (by omega), if_neg (by omega), if_neg (by omega), if_neg (show ¬ cmd u = false from fun z => hbg.elim (fun x => by rw [x.2] at z; cases z) (fun x => (by exfalso; omega))), if_neg (by omega), if_pos (by omega)]]
                        exact wl_ri ji_196_153 jr_196 rfl ⟨rfl, rfl⟩
                    · refine wl_bp ji_196_128 rfl ?_
                      refine wl_goto (t := 153) ji_196_130 rfl ?_
                      rw [show bto k v t ei u = 21 by unfold bto; rw [if_neg (by omega), if_neg (by omega), if_neg (by omega), if_neg (by omega), if_neg (by omega), if_neg (show ¬ cmd u = false from fun z => hbg.elim (fun x => by rw [x.2] at z; cases z) (fun x => (by exfalso; omega))), if_pos (by omega)]]
                      exact wl_ri ji_196_153 jr_196 rfl ⟨rfl, rfl⟩
                  · refine wl_s (pc' := 108) ji_196_107 rfl rfl rfl ?_
                    obtain ⟨cs, hcs⟩ := rp_c V
                    refine wl_vc (d := d + 4) (as := [.ref 138]) (rest := []) ji_196_108 jc_196_199 rfl hcs jk_201.symm (Nat.le_of_ble_eq_true rfl) rfl (by rw [jn_201]; rfl) (wr_co (d := d + 4) V htr) (fun v1 h1 R => ?_)
                    obtain ⟨ee, rfl⟩ := R
                    subst ee
                    show wl_R _ _ 196 111 [some (.ref 138), some (wp_i o)] [wp_i (cmo t)] h1 _
                    rw [show bto k v t ei u = cmo t by unfold bto; rw [if_neg (by omega), if_neg (by omega), if_neg (by omega), if_neg (by omega), if_neg (by omega), if_pos (show cmd u = false from hbg.elim (fun x => (by exfalso; omega)) (fun x => x.2))]]
                    exact wl_ri ji_196_111 jr_196 rfl ⟨rfl, rfl⟩
                · refine wl_s (pc' := 99) ji_196_98 rfl rfl rfl ?_
                  rw [show bto k v t ei u = -1 by unfold bto; rw [if_neg (by omega), if_neg (by omega), if_neg (by omega), if_neg (by omega), if_pos (by omega)]]
                  exact wl_ri ji_196_99 jr_196 rfl ⟨rfl, rfl⟩
              · refine wl_s (pc' := 80) ji_196_79 rfl rfl rfl ?_
                refine rp_g9 V ji_196_80 jf_196_95 ?_
                refine wl_bp ji_196_83 rfl ?_
                refine wl_icmp (t := 91) ji_196_85 rfl (by omega) (by omega) (fun (hb135 : ¬ (t : Int) = 47) => ?_) (fun (hb135 : ¬ (¬ (t : Int) = 47)) => ?_)
                · refine wl_s (pc' := 92) ji_196_91 rfl rfl rfl ?_
                  obtain ⟨cs, hcs⟩ := rp_c V
                  refine wl_vc (d := d + 4) (as := [.ref 138]) (rest := []) ji_196_92 jc_196_167 rfl hcs jk_197.symm (Nat.le_of_ble_eq_true rfl) rfl (by rw [jn_197]; rfl) (wr_ah (d := d + 3) V e hl hpd hei) (fun v1 h1 R => ?_)
                  obtain ⟨ee, y136, rfl, hy136a, hy136b⟩ := R
                  subst ee
                  show wl_R _ _ 196 95 [some (.ref 138), some (wp_i o)] [wp_i y136] h1 _
                  refine wl_if (t := 100) ji_196_95 rfl (by omega) (fun (hb137 : ¬ (y136 : Int) = 0) => ?_) (fun (hb137 : ¬ (¬ (y136 : Int) = 0)) => ?_)
                  · refine wl_s (pc' := 101) ji_196_100 rfl rfl rfl ?_
                    obtain ⟨cs, hcs⟩ := rp_c V
                    refine wl_vc (d := d + 4) (as := [.ref 138]) (rest := []) ji_196_101 jc_196_196 rfl hcs jk_199.symm (Nat.le_of_ble_eq_true rfl) rfl (by rw [jn_199]; rfl) (wr_cm (d := d + 3) V e hl hpd) (fun v1 h1 R => ?_)
                    obtain ⟨ee, rfl⟩ := R
                    subst ee
                    obtain ⟨b, hb0⟩ : ∃ b, bi (cmd u) = b := ⟨_, rfl⟩
                    have hbg := bi_g hb0
                    rw [hb0]
                    show wl_R _ _ 196 104 [some (.ref 138), some (wp_i o)] [wp_i b] h1 _
                    refine wl_if (t := 112) ji_196_104 rfl (by omega) (fun (hb138 : ¬ (b : Int) = 0) => ?_) (fun (hb138 : ¬ (¬ (b : Int) = 0)) => ?_)
                    · refine wl_s (pc' := 113) ji_196_112 rfl rfl rfl ?_
                      refine wl_bp ji_196_113 rfl ?_
                      refine wl_bp ji_196_115 rfl ?_
                      refine wl_bp ji_196_117 rfl ?_
                      refine wl_sc (d := d + 4) (as := [wp_i 97, wp_i 110, wp_i 100]) (rest := [.ref 138]) ji_196_119 jc_196_122 (Nat.le_of_ble_eq_true rfl) rfl (Nat.le_of_ble_eq_true rfl) rfl (by rw [jn_188]; rfl) (wr_w3 (d := d + 3) (by decide) (by decide) (by decide)) (fun v1 h1 R => ?_)
                      obtain ⟨ee, rfl⟩ := R
                      subst ee
                      show wl_R _ _ 196 122 [some (.ref 138), some (wp_i o)] [.long (Int64.ofNat (wd [97, 110, 100])), .ref 138] h1 _
                      obtain ⟨cs, hcs⟩ := rp_c V
                      refine wl_vc (d := d + 4) (as := [.ref 138, .long (Int64.ofNat (wd [97, 110, 100]))]) (rest := []) ji_196_122 jc_196_189 rfl hcs jk_190.symm (Nat.le_of_ble_eq_true rfl) rfl (by rw [jn_190]; rfl) (wr_iw (W := wd [97, 110, 100]) V hw0 (by decide +kernel) htr) (fun v1 h1 R => ?_)
                      obtain ⟨ee, y139, rfl, hy139a, hy139b⟩ := R
                      subst ee
                      rw [kw T (j := 14) (K := [97, 110, 100]) rfl] at hy139b
                      show wl_R _ _ 196 125 [some (.ref 138), some (wp_i o)] [wp_i y139] h1 _
                      refine wl_if (t := 133) ji_196_125 rfl (by omega) (fun (hb140 : (y139 : Int) = 0) => ?_) (fun (hb140 : ¬ ((y139 : Int) = 0)) => ?_)
                      · refine wl_s (pc' := 134) ji_196_133 rfl rfl rfl ?_
                        refine wl_bp ji_196_134 rfl ?_
                        refine wl_bp ji_196_136 rfl ?_
                        refine wl_sc (d := d + 4) (as := [wp_i 111, wp_i 114]) (rest := [.ref 138]) ji_196_138 jc_196_118 (Nat.le_of_ble_eq_true rfl) rfl (Nat.le_of_ble_eq_true rfl) rfl (by rw [jn_189]; rfl) (wr_w2 (d := d + 4) (by decide) (by decide)) (fun v1 h1 R => ?_)
                        obtain ⟨ee, rfl⟩ := R
                        subst ee
                        show wl_R _ _ 196 141 [some (.ref 138), some (wp_i o)] [.long (Int64.ofNat (wd [111, 114])), .ref 138] h1 _
                        obtain ⟨cs, hcs⟩ := rp_c V
                        refine wl_vc (d := d + 4) (as := [.ref 138, .long (Int64.ofNat (wd [111, 114]))]) (rest := []) ji_196_141 jc_196_189 rfl hcs jk_190.symm (Nat.le_of_ble_eq_true rfl) rfl (by rw [jn_190]; rfl) (wr_iw (W := wd [111, 114]) V hw0 (by decide +kernel) htr) (fun v1 h1 R => ?_)
                        obtain ⟨ee, y141, rfl, hy141a, hy141b⟩ := R
                        subst ee
                        rw [kw T (j := 13) (K := [111, 114]) rfl] at hy141b
                        show wl_R _ _ 196 144 [some (.ref 138), some (wp_i o)] [wp_i y141] h1 _
                        refine wl_if (t := 152) ji_196_144 rfl (by omega) (fun (hb142 : (y141 : Int) = 0) => ?_) (fun (hb142 : ¬ ((y141 : Int) = 0)) => ?_)
                        · refine wl_s (pc' := 153) ji_196_152 rfl rfl rfl ?_
                          rw [show bto k v t ei u = -1 by unfold bto; rw [if_neg (by omega), if_neg (by omega), if_neg (by omega), if_neg (by omega), if_neg (by omega), if_neg (show ¬ cmd u = false from fun z => hbg.elim (fun x => by rw [x.2] at z; cases z) (fun x => (by exfalso; omega))), if_neg (by omega), if_neg (by omega)]]
                          exact wl_ri ji_196_153 jr_196 rfl ⟨rfl, rfl⟩
                        · refine wl_bp ji_196_147 rfl ?_
                          refine wl_goto (t := 153) ji_196_149 rfl ?_
                          rw [show bto k v t ei u = 22 by unfold bto; rw [if_neg (by omega), if_neg (by omega), if_neg (by omega), if_neg (by omega), if_neg (by omega), if_neg (show ¬ cmd u = false from fun z => hbg.elim (fun x => by rw [x.2] at z; cases z) (fun x => (by exfalso; omega))), if_neg (by omega), if_pos (by omega)]]
                          exact wl_ri ji_196_153 jr_196 rfl ⟨rfl, rfl⟩
                      · refine wl_bp ji_196_128 rfl ?_
                        refine wl_goto (t := 153) ji_196_130 rfl ?_
                        rw [show bto k v t ei u = 21 by unfold bto; rw [if_neg (by omega), if_neg (by omega), if_neg (by omega), if_neg (by omega), if_neg (by omega), if_neg (show ¬ cmd u = false from fun z => hbg.elim (fun x => by rw [x.2] at z; cases z) (fun x => (by exfalso; omega))), if_pos (by omega)]]
                        exact wl_ri ji_196_153 jr_196 rfl ⟨rfl, rfl⟩
                    · refine wl_s (pc' := 108) ji_196_107 rfl rfl rfl ?_
                      obtain ⟨cs, hcs⟩ := rp_c V
                      refine wl_vc (d := d + 4) (as := [.ref 138]) (rest := []) ji_196_108 jc_196_199 rfl hcs jk_201.symm (Nat.le_of_ble_eq_true rfl) rfl (by rw [jn_201]; rfl) (wr_co (d := d + 4) V htr) (fun v1 h1 R => ?_)
                      obtain ⟨ee, rfl⟩ := R
                      subst ee
                      show wl_R _ _ 196 111 [some (.ref 138), some (wp_i o)] [wp_i (cmo t)] h1 _
                      rw [show bto k v t ei u = cmo t by unfold bto; rw [if_neg (by omega), if_neg (by omega), if_neg (by omega), if_neg (by omega), if_neg (by omega), if_pos (show cmd u = false from hbg.elim (fun x => (by exfalso; omega)) (fun x => x.2))]]
                      exact wl_ri ji_196_111 jr_196 rfl ⟨rfl, rfl⟩
                  · refine wl_s (pc' := 99) ji_196_98 rfl rfl rfl ?_
                    rw [show bto k v t ei u = -1 by unfold bto; rw [if_neg (by omega), if_neg (by omega), if_neg (by omega), if_neg (by omega), if_pos (by omega)]]
                    exact wl_ri ji_196_99 jr_196 rfl ⟨rfl, rfl⟩
                · refine wl_bp ji_196_88 rfl ?_
                  rw [show bto k v t ei u = 7 by unfold bto; rw [if_neg (by omega), if_neg (by omega), if_neg (by omega), if_pos (by omega)]]
                  exact wl_ri ji_196_90 jr_196 rfl ⟨rfl, rfl⟩
            · refine wl_bp ji_196_72 rfl ?_
              rw [show bto k v t ei u = 6 by unfold bto; rw [if_neg (by omega), if_neg (by omega), if_pos (by omega)]]
              exact wl_ri ji_196_74 jr_196 rfl ⟨rfl, rfl⟩
        · refine wl_s (pc' := 58) ji_196_57 rfl rfl rfl ?_
          rw [show bto k v t ei u = 5 by unfold bto; rw [if_neg (by omega), if_pos (by omega)]]
          exact wl_ri ji_196_58 jr_196 rfl ⟨rfl, rfl⟩
    · refine wl_s (pc' := 43) ji_196_42 rfl rfl rfl ?_
      rw [show bto k v t ei u = 4 by unfold bto; rw [if_pos (by omega)]]
      exact wl_ri ji_196_43 jr_196 rfl ⟨rfl, rfl⟩
