/-! -/
/-! behind a ONE, by the reference; laid by program (wp_rread9.py) -/
theorem bto_r (k v t ei : Int) (u : List Int) : -1 ≤ bto k v t ei u ∧ bto k v t ei u ≤ 22 ∧ (0 ≤ bto k v t ei u → 1 ≤ pr_rank (bto k v t ei u)) := by
  unfold bto cmo
  repeat' split
  all_goals decide
theorem stl_1 {pl : List Value} : ∀ {u : List Int}, pn pl u → ¬ opw u = -1 → ∃ u2, stl 1 u = opw u :: u2
  | [], _, h => absurd rfl h
  | c :: u, e, h => by
    by_cases hc : 40 ≤ c
    · have h0 : pr_rank c = 0 := by
        unfold pr_rank
        rw [if_pos (by omega)]
      refine ⟨u, ?_⟩
      show (if 1 ≤ pr_rank c then stl 1 u else c :: u) = (if 40 ≤ c then c else opw u) :: u
      rw [if_neg (by omega), if_pos hc]
    · have h0 : 1 ≤ pr_rank c := by
        unfold pr_rank
        repeat' split
        all_goals omega
      have h1 : ¬ opw u = -1 := fun x => h ((if_neg hc).trans x)
      obtain ⟨u2, e2⟩ := stl_1 e.2 h1
      refine ⟨u2, ?_⟩
      show (if 1 ≤ pr_rank c then stl 1 u else c :: u) = (if 40 ≤ c then c else opw u) :: u2
      rw [if_pos h0, if_neg hc]
      exact e2
theorem wr_b2 {nn d : Nat} {h0 h : mj_H} {fs0 bl pl ts : List Value} {L p q t n x0 wr so pd op am wi ei oc cn : Int} {w : Nat} (V : rP h0 h fs0 bl L p q t n x0 wr so pd op am wi ei oc cn w pl ts) {u : List Int} (e : pn pl u) (hl : (u.length : Int) ≤ 200) (hpd : pd = (u.length : Int)) (hop : 0 ≤ op ∧ op ≤ 1000) (ham : 0 ≤ am ∧ am ≤ 100) (D : tB bl) (hL : 0 ≤ L ∧ L ≤ 300) (hp : 0 ≤ p ∧ p ≤ L) (hw0 : w ≤ 2 ^ 60) (hx0 : 0 ≤ x0 ∧ x0 ≤ 3000) (hwr : 0 ≤ wr ∧ wr ≤ 900000) (hei : ei = 0 ∨ ei = 1) {k v : Int} (T : tkr k v t n w) (htr : wp_r t) : wl_R nn (d + 6) 195 0 [some (.ref 138), none, none] [] h (fun v9 h1 => (0 ≤ (bto k v t ei u) ∧ v9 = some (wp_i 0) ∧ ∃ (k2 v2 q' r' t' n' wr' : Int) (w' : Nat) (pl' ts' : List Value), (tok (bt bl L) p k2 v2 q' r' ∧ tkr k2 v2 t' n' w' ∧ (0 ≤ q' ∧ r' ≤ L) ∧ w' ≤ 2 ^ 60) ∧ (wr ≤ wr' ∧ wr' ≤ wr + (u.length : Int)) ∧ pn pl' ((bto k v t ei u) :: stl (pr_rank (bto k v t ei u)) u) ∧ rP h0 h1 fs0 bl L r' q' t' n' x0 wr' so (((stl (pr_rank (bto k v t ei u)) u).length : Int) + 1) (op - stn (pr_rank (bto k v t ei u)) u) am 0 ei oc cn w' pl' ts') ∨ ((bto k v t ei u) < 0 ∧ ((((ei = 1 ∧ opw u = -1) ∧ cmd u = false ∧ (k = 0 ∧ v = 16)) ∧ (∃ k v q' r', tok (bt bl L) p k v q' r' ∧ ((¬ (k = 2 ∧ v = 40) ∧ v9 = some (wp_i 1) ∧ ∃ (t' n' wr' : Int) (w' : Nat) (pl' ts' : List Value), tkr k v t' n' w' ∧ w' ≤ 2 ^ 60 ∧ (wr ≤ wr' ∧ wr' ≤ wr + (u.length : Int)) ∧ rP h0 h1 fs0 bl L r' q' t' n' x0 wr' so ((stl 5 u).length : Int) (op - stn 5 u) am 0 ei oc cn w' pl' ts') ∨ ((k = 2 ∧ v = 40) ∧ ((op - stn 5 u = 8 ∧ v9 = some (wp_i 3) ∧ ∃ (t' n' wr' : Int) (w' : Nat) (pl' ts' : List Value), tkr k v t' n' w' ∧ w' ≤ 2 ^ 60 ∧ (wr ≤ wr' ∧ wr' ≤ wr + (u.length : Int)) ∧ rP h0 h1 fs0 bl L r' q' t' n' x0 wr' so ((stl 5 u).length : Int) (op - stn 5 u) 1 0 ei oc cn w' pl' ts') ∨ (¬ op - stn 5 u = 8 ∧ v9 = some (wp_i 0) ∧ ∃ (k2 v2 q2 r2 t2 n2 wr' : Int) (w2 : Nat) (pl' ts' : List Value), (tok (bt bl L) r' k2 v2 q2 r2 ∧ tkr k2 v2 t2 n2 w2 ∧ (0 ≤ q2 ∧ r2 ≤ L) ∧ w2 ≤ 2 ^ 60) ∧ (wr ≤ wr' ∧ wr' ≤ wr + (u.length : Int)) ∧ pn pl' (41 :: stl 5 u) ∧ rP h0 h1 fs0 bl L r2 q2 t2 n2 x0 wr' so (((stl 5 u).length : Int) + 1) (op - stn 5 u + 1) 1 0 ei oc cn w2 pl' ts')))))) ∨ (¬ ((ei = 1 ∧ opw u = -1) ∧ cmd u = false ∧ (k = 0 ∧ v = 16)) ∧ (((opw u = 41 ∧ t = 44) ∧ ((am = 6 ∧ h1 = h ∧ v9 = some (wp_i 7)) ∨ (¬ am = 6 ∧ v9 = some (wp_i 0) ∧ ∃ (k2 v2 q' r' t' n' wr' : Int) (w' : Nat) (pl' ts' : List Value), (tok (bt bl L) p k2 v2 q' r' ∧ tkr k2 v2 t' n' w' ∧ (0 ≤ q' ∧ r' ≤ L) ∧ w' ≤ 2 ^ 60) ∧ (wr ≤ wr' ∧ wr' ≤ wr + (u.length : Int)) ∧ pn pl' (stl 1 u) ∧ rP h0 h1 fs0 bl L r' q' t' n' x0 wr' so ((stl 1 u).length : Int) (op - stn 1 u) (am + 1) 0 ei oc cn w' pl' ts'))) ∨ (¬ (opw u = 41 ∧ t = 44) ∧ (((opw u = -1 ∨ ¬ t = 41) ∧ v9 = some (wp_i (-1)) ∧ h1 = h) ∨ ((¬ opw u = -1 ∧ t = 41) ∧ (v9 = some (wp_i 0) ∧ ∃ u2, stl 1 u = opw u :: u2 ∧ ∃ (k2 v2 q' r' t' n' : Int) (w' : Nat), tok (bt bl L) p k2 v2 q' r' ∧ tkr k2 v2 t' n' w' ∧ (0 ≤ q' ∧ r' ≤ L) ∧ w' ≤ 2 ^ 60 ∧ ((opw u = 41 ∧ ∃ (wr' : Int) (pl' ts' : List Value), (wr ≤ wr' ∧ wr' ≤ wr + (u.length : Int) + 1) ∧ pn pl' (16 :: u2) ∧ rP h0 h1 fs0 bl L r' q' t' n' x0 wr' so ((u2.length : Int) + 1) (op - stn 1 u - 1) am wi ei oc cn w' pl' ts') ∨ (¬ opw u = 41 ∧ ∃ (wr' : Int) (pl' ts' : List Value), (wr ≤ wr' ∧ wr' ≤ wr + 2 * (u.length : Int)) ∧ pn pl' (stl 7 u2) ∧ rP h0 h1 fs0 bl L r' q' t' n' x0 wr' so ((stl 7 u2).length : Int) (op - stn 1 u - 1 - stn 7 u2) am wi ei oc cn w' pl' ts'))))))))))) := by
  subst hpd
  refine wl_s (pc' := 1) ji_195_0 rfl rfl rfl ?_
  obtain ⟨cs, hcs⟩ := rp_c V
  refine wl_vc (d := d + 5) (as := [.ref 138]) (rest := []) ji_195_1 jc_195_205 rfl hcs jk_196.symm (Nat.le_of_ble_eq_true rfl) rfl (by rw [jn_196]; rfl) (wr_bt (d := d) V e (by omega) rfl hei T hw0 htr) (fun v1 h1 R => ?_)
  obtain ⟨ee, rfl⟩ := R
  subst ee
  have hxr := bto_r k v t ei u
  obtain ⟨x, hx⟩ : ∃ x, bto k v t ei u = x := ⟨_, rfl⟩
  rw [hx] at hxr ⊢
  show wl_R _ _ 195 4 [some (.ref 138), none, none] [wp_i x] h1 _
  refine wl_s (pc' := 5) (lv' := [some (.ref 138), some (wp_i x), none]) ji_195_4 rfl rfl rfl ?_
  refine wl_s (pc' := 6) ji_195_5 rfl rfl rfl ?_
  refine wl_if (t := 48) ji_195_6 rfl (by omega) (fun (hb1 : (x : Int) < 0) => ?_) (fun (hb1 : ¬ ((x : Int) < 0)) => ?_)
  · refine wl_s (pc' := 49) ji_195_48 rfl rfl rfl ?_
    obtain ⟨cs, hcs⟩ := rp_c V
    refine wl_vc (d := d + 5) (as := [.ref 138]) (rest := []) ji_195_49 jc_195_163 rfl hcs jk_198.symm (Nat.le_of_ble_eq_true rfl) rfl (by rw [jn_198]; rfl) (wr_on (d := d + 5) V e (by omega) rfl) (fun v1 h1 R => ?_)
    obtain ⟨ee, rfl⟩ := R
    subst ee
    have hor := opw_r e
    obtain ⟨o, ho⟩ : ∃ o, opw u = o := ⟨_, rfl⟩
    rw [ho] at hor ⊢
    show wl_R _ _ 195 52 [some (.ref 138), some (wp_i x), none] [wp_i o] h1 _
    refine wl_s (pc' := 53) (lv' := [some (.ref 138), some (wp_i x), some (wp_i o)]) ji_195_52 rfl rfl rfl ?_
    refine wl_s (pc' := 54) ji_195_53 rfl rfl rfl ?_
    obtain ⟨cs, hcs⟩ := rp_c V
    refine wl_vc (d := d + 5) (as := [.ref 138]) (rest := []) ji_195_54 jc_195_167 rfl hcs jk_197.symm (Nat.le_of_ble_eq_true rfl) rfl (by rw [jn_197]; rfl) (wr_ah (d := d + 4) V e (by omega) rfl hei) (fun v1 h1 R => ?_)
    obtain ⟨ee, a, rfl, haa, hab⟩ := R
    subst ee
    rw [ho] at hab
    show wl_R _ _ 195 57 [some (.ref 138), some (wp_i x), some (wp_i o)] [wp_i a] h1 _
    refine wl_if (t := 86) ji_195_57 rfl (by omega) (fun (hb2 : (a : Int) = 0) => ?_) (fun (hb2 : ¬ ((a : Int) = 0)) => ?_)
    · refine wl_s (pc' := 87) ji_195_86 rfl rfl rfl ?_
      refine wl_bp ji_195_87 rfl ?_
      refine wl_icmp (t := 106) ji_195_89 rfl (by omega) (by omega) (fun (hb3 : ¬ (o : Int) = 41) => ?_) (fun (hb3 : ¬ (¬ (o : Int) = 41)) => ?_)
      · refine wl_s (pc' := 107) ji_195_106 rfl rfl rfl ?_
        refine wl_s (pc' := 108) ji_195_107 rfl rfl rfl ?_
        refine wl_icmp (t := 120) ji_195_108 rfl (by omega) (by omega) (fun (hb4 : (o : Int) = (-1)) => ?_) (fun (hb4 : ¬ ((o : Int) = (-1))) => ?_)
        · refine wl_s (pc' := 121) ji_195_120 rfl rfl rfl ?_
          have gn : ¬ ((ei = 1 ∧ o = -1) ∧ cmd u = false ∧ (k = 0 ∧ v = 16)) := fun z => by have := hab.mpr z.1; omega
          exact wl_ri ji_195_121 jr_195 rfl (Or.inr ⟨by omega, Or.inr ⟨gn, Or.inr ⟨by omega, Or.inl ⟨by omega, rfl, rfl⟩⟩⟩⟩)
        · refine wl_s (pc' := 112) ji_195_111 rfl rfl rfl ?_
          refine rp_g9 V ji_195_112 jf_195_95 ?_
          refine wl_bp ji_195_115 rfl ?_
          refine wl_icmp (t := 122) ji_195_117 rfl (by omega) (by omega) (fun (hb5 : (t : Int) = 41) => ?_) (fun (hb5 : ¬ ((t : Int) = 41)) => ?_)
          · refine wl_s (pc' := 123) ji_195_122 rfl rfl rfl ?_
            refine wl_s (pc' := 124) ji_195_123 rfl rfl rfl ?_
            have gn : ¬ ((ei = 1 ∧ o = -1) ∧ cmd u = false ∧ (k = 0 ∧ v = 16)) := fun z => by have := hab.mpr z.1; omega
            have gc : ¬ (o = 41 ∧ t = 44) := by omega
            have gx : x < 0 := by omega
            have gd : ¬ o = -1 ∧ t = 41 := by omega
            obtain ⟨u2, hu2⟩ := stl_1 e (by rw [ho]; exact gd.1)
            rw [ho] at hu2
            obtain ⟨cs9, hcs9⟩ := rp_c V
            refine wl_vc (d := d + 5) (as := [.ref 138, wp_i o]) (rest := []) ji_195_124 jc_195_214 rfl hcs9 jk_207.symm (Nat.le_of_ble_eq_true rfl) rfl (by rw [jn_207]; rfl) (wr_sh (d := d + 3) (o := o) V e hl rfl hop ham D hL hp hw0 hx0 hwr hu2 (by omega)) (fun v1 h9 R => ?_)
            obtain ⟨rfl, R⟩ := R
            show wl_R _ _ 195 127 [some (.ref 138), some (wp_i x), some (wp_i o)] [] h9 _
            refine wl_s (pc' := 128) ji_195_127 rfl rfl rfl ?_
            exact wl_ri ji_195_128 jr_195 rfl (Or.inr ⟨gx, Or.inr ⟨gn, Or.inr ⟨gc, Or.inr ⟨gd, rfl, u2, hu2, R⟩⟩⟩⟩)
          · refine wl_s (pc' := 121) ji_195_120 rfl rfl rfl ?_
            have gn : ¬ ((ei = 1 ∧ o = -1) ∧ cmd u = false ∧ (k = 0 ∧ v = 16)) := fun z => by have := hab.mpr z.1; omega
            exact wl_ri ji_195_121 jr_195 rfl (Or.inr ⟨by omega, Or.inr ⟨gn, Or.inr ⟨by omega, Or.inl ⟨by omega, rfl, rfl⟩⟩⟩⟩)
      · refine wl_s (pc' := 93) ji_195_92 rfl rfl rfl ?_
        refine rp_g9 V ji_195_93 jf_195_95 ?_
        refine wl_bp ji_195_96 rfl ?_
        refine wl_icmp (t := 106) ji_195_98 rfl (by omega) (by omega) (fun (hb6 : ¬ (t : Int) = 44) => ?_) (fun (hb6 : ¬ (¬ (t : Int) = 44)) => ?_)
        · refine wl_s (pc' := 107) ji_195_106 rfl rfl rfl ?_
          refine wl_s (pc' := 108) ji_195_107 rfl rfl rfl ?_
          refine wl_icmp (t := 120) ji_195_108 rfl (by omega) (by omega) (fun (hb7 : (o : Int) = (-1)) => ?_) (fun (hb7 : ¬ ((o : Int) = (-1))) => ?_)
          · refine wl_s (pc' := 121) ji_195_120 rfl rfl rfl ?_
            have gn : ¬ ((ei = 1 ∧ o = -1) ∧ cmd u = false ∧ (k = 0 ∧ v = 16)) := fun z => by have := hab.mpr z.1; omega
            exact wl_ri ji_195_121 jr_195 rfl (Or.inr ⟨by omega, Or.inr ⟨gn, Or.inr ⟨by omega, Or.inl ⟨by omega, rfl, rfl⟩⟩⟩⟩)
          · refine wl_s (pc' := 112) ji_195_111 rfl rfl rfl ?_
            refine rp_g9 V ji_195_112 jf_195_95 ?_
            refine wl_bp ji_195_115 rfl ?_
            refine wl_icmp (t := 122) ji_195_117 rfl (by omega) (by omega) (fun (hb8 : (t : Int) = 41) => ?_) (fun (hb8 : ¬ ((t : Int) = 41)) => ?_)
            · refine wl_s (pc' := 123) ji_195_122 rfl rfl rfl ?_
              refine wl_s (pc' := 124) ji_195_123 rfl rfl rfl ?_
              have gn : ¬ ((ei = 1 ∧ o = -1) ∧ cmd u = false ∧ (k = 0 ∧ v = 16)) := fun z => by have := hab.mpr z.1; omega
              have gc : ¬ (o = 41 ∧ t = 44) := by omega
              have gx : x < 0 := by omega
              have gd : ¬ o = -1 ∧ t = 41 := by omega
              obtain ⟨u2, hu2⟩ := stl_1 e (by rw [ho]; exact gd.1)
              rw [ho] at hu2
              obtain ⟨cs9, hcs9⟩ := rp_c V
              refine wl_vc (d := d + 5) (as := [.ref 138, wp_i o]) (rest := []) ji_195_124 jc_195_214 rfl hcs9 jk_207.symm (Nat.le_of_ble_eq_true rfl) rfl (by rw [jn_207]; rfl) (wr_sh (d := d + 3) (o := o) V e hl rfl hop ham D hL hp hw0 hx0 hwr hu2 (by omega)) (fun v1 h9 R => ?_)
              obtain ⟨rfl, R⟩ := R
              show wl_R _ _ 195 127 [some (.ref 138), some (wp_i x), some (wp_i o)] [] h9 _
              refine wl_s (pc' := 128) ji_195_127 rfl rfl rfl ?_
              exact wl_ri ji_195_128 jr_195 rfl (Or.inr ⟨gx, Or.inr ⟨gn, Or.inr ⟨gc, Or.inr ⟨gd, rfl, u2, hu2, R⟩⟩⟩⟩)
            · refine wl_s (pc' := 121) ji_195_120 rfl rfl rfl ?_
              have gn : ¬ ((ei = 1 ∧ o = -1) ∧ cmd u = false ∧ (k = 0 ∧ v = 16)) := fun z => by have := hab.mpr z.1; omega
              exact wl_ri ji_195_121 jr_195 rfl (Or.inr ⟨by omega, Or.inr ⟨gn, Or.inr ⟨by omega, Or.inl ⟨by omega, rfl, rfl⟩⟩⟩⟩)
        · refine wl_s (pc' := 102) ji_195_101 rfl rfl rfl ?_
          have gn : ¬ ((ei = 1 ∧ o = -1) ∧ cmd u = false ∧ (k = 0 ∧ v = 16)) := fun z => by have := hab.mpr z.1; omega
          have gc : o = 41 ∧ t = 44 := by omega
          have gx : x < 0 := by omega
          obtain ⟨cs, hcs⟩ := rp_c V
          refine wl_vc (d := d + 5) (as := [.ref 138]) (rest := []) ji_195_102 jc_195_211 rfl hcs jk_206.symm (Nat.le_of_ble_eq_true rfl) rfl (by rw [jn_206]; rfl) (wr_na (d := d + 3) V e hl rfl hop ham D hL hp hw0 hx0 hwr) (fun v1 h9 R => ?_)
          obtain ⟨y9, hy9⟩ : ∃ y9 : Int, v1 = some (wp_i y9) := by rcases R with ⟨-, -, z⟩ | ⟨-, z, -⟩ <;> exact ⟨_, z⟩
          subst hy9
          show wl_R _ _ 195 105 [some (.ref 138), some (wp_i x), some (wp_i o)] [wp_i y9] h9 _
          exact wl_ri ji_195_105 jr_195 rfl (Or.inr ⟨gx, Or.inr ⟨gn, Or.inl ⟨gc, R⟩⟩⟩)
    · refine wl_s (pc' := 61) ji_195_60 rfl rfl rfl ?_
      obtain ⟨cs, hcs⟩ := rp_c V
      refine wl_vc (d := d + 5) (as := [.ref 138]) (rest := []) ji_195_61 jc_195_196 rfl hcs jk_199.symm (Nat.le_of_ble_eq_true rfl) rfl (by rw [jn_199]; rfl) (wr_cm (d := d + 4) V e (by omega) rfl) (fun v1 h1 R => ?_)
      obtain ⟨ee, rfl⟩ := R
      subst ee
      have hbb := bi_01 (cmd u)
      have hbt : bi (cmd u) = 0 → cmd u = false := by cases cmd u with | true => intro z; cases z | false => intro _; rfl
      have hbf : cmd u = false → bi (cmd u) = 0 := fun z => by rw [z]; rfl
      obtain ⟨b, hb⟩ : ∃ b, bi (cmd u) = b := ⟨_, rfl⟩
      rw [hb] at hbb hbt hbf ⊢
      show wl_R _ _ 195 64 [some (.ref 138), some (wp_i x), some (wp_i o)] [wp_i b] h1 _
      refine wl_if (t := 86) ji_195_64 rfl (by omega) (fun (hb9 : ¬ (b : Int) = 0) => ?_) (fun (hb9 : ¬ (¬ (b : Int) = 0)) => ?_)
      · refine wl_s (pc' := 87) ji_195_86 rfl rfl rfl ?_
        refine wl_bp ji_195_87 rfl ?_
        refine wl_icmp (t := 106) ji_195_89 rfl (by omega) (by omega) (fun (hb10 : ¬ (o : Int) = 41) => ?_) (fun (hb10 : ¬ (¬ (o : Int) = 41)) => ?_)
        · refine wl_s (pc' := 107) ji_195_106 rfl rfl rfl ?_
          refine wl_s (pc' := 108) ji_195_107 rfl rfl rfl ?_
          refine wl_icmp (t := 120) ji_195_108 rfl (by omega) (by omega) (fun (hb11 : (o : Int) = (-1)) => ?_) (fun (hb11 : ¬ ((o : Int) = (-1))) => ?_)
          · refine wl_s (pc' := 121) ji_195_120 rfl rfl rfl ?_
            have gn : ¬ ((ei = 1 ∧ o = -1) ∧ cmd u = false ∧ (k = 0 ∧ v = 16)) := fun z => by have := hbf z.2.1; omega
            exact wl_ri ji_195_121 jr_195 rfl (Or.inr ⟨by omega, Or.inr ⟨gn, Or.inr ⟨by omega, Or.inl ⟨by omega, rfl, rfl⟩⟩⟩⟩)
          · refine wl_s (pc' := 112) ji_195_111 rfl rfl rfl ?_
            refine rp_g9 V ji_195_112 jf_195_95 ?_
            refine wl_bp ji_195_115 rfl ?_
            refine wl_icmp (t := 122) ji_195_117 rfl (by omega) (by omega) (fun (hb12 : (t : Int) = 41) => ?_) (fun (hb12 : ¬ ((t : Int) = 41)) => ?_)
            · refine wl_s (pc' := 123) ji_195_122 rfl rfl rfl ?_
              refine wl_s (pc' := 124) ji_195_123 rfl rfl rfl ?_
              have gn : ¬ ((ei = 1 ∧ o = -1) ∧ cmd u = false ∧ (k = 0 ∧ v = 16)) := fun z => by have := hbf z.2.1; omega
              have gc : ¬ (o = 41 ∧ t = 44) := by omega
              have gx : x < 0 := by omega
              have gd : ¬ o = -1 ∧ t = 41 := by omega
              obtain ⟨u2, hu2⟩ := stl_1 e (by rw [ho]; exact gd.1)
              rw [ho] at hu2
              obtain ⟨cs9, hcs9⟩ := rp_c V
              refine wl_vc (d := d + 5) (as := [.ref 138, wp_i o]) (rest := []) ji_195_124 jc_195_214 rfl hcs9 jk_207.symm (Nat.le_of_ble_eq_true rfl) rfl (by rw [jn_207]; rfl) (wr_sh (d := d + 3) (o := o) V e hl rfl hop ham D hL hp hw0 hx0 hwr hu2 (by omega)) (fun v1 h9 R => ?_)
              obtain ⟨rfl, R⟩ := R
              show wl_R _ _ 195 127 [some (.ref 138), some (wp_i x), some (wp_i o)] [] h9 _
              refine wl_s (pc' := 128) ji_195_127 rfl rfl rfl ?_
              exact wl_ri ji_195_128 jr_195 rfl (Or.inr ⟨gx, Or.inr ⟨gn, Or.inr ⟨gc, Or.inr ⟨gd, rfl, u2, hu2, R⟩⟩⟩⟩)
            · refine wl_s (pc' := 121) ji_195_120 rfl rfl rfl ?_
              have gn : ¬ ((ei = 1 ∧ o = -1) ∧ cmd u = false ∧ (k = 0 ∧ v = 16)) := fun z => by have := hbf z.2.1; omega
              exact wl_ri ji_195_121 jr_195 rfl (Or.inr ⟨by omega, Or.inr ⟨gn, Or.inr ⟨by omega, Or.inl ⟨by omega, rfl, rfl⟩⟩⟩⟩)
        · refine wl_s (pc' := 93) ji_195_92 rfl rfl rfl ?_
          refine rp_g9 V ji_195_93 jf_195_95 ?_
          refine wl_bp ji_195_96 rfl ?_
          refine wl_icmp (t := 106) ji_195_98 rfl (by omega) (by omega) (fun (hb13 : ¬ (t : Int) = 44) => ?_) (fun (hb13 : ¬ (¬ (t : Int) = 44)) => ?_)
          · refine wl_s (pc' := 107) ji_195_106 rfl rfl rfl ?_
            refine wl_s (pc' := 108) ji_195_107 rfl rfl rfl ?_
            refine wl_icmp (t := 120) ji_195_108 rfl (by omega) (by omega) (fun (hb14 : (o : Int) = (-1)) => ?_) (fun (hb14 : ¬ ((o : Int) = (-1))) => ?_)
            · refine wl_s (pc' := 121) ji_195_120 rfl rfl rfl ?_
              have gn : ¬ ((ei = 1 ∧ o = -1) ∧ cmd u = false ∧ (k = 0 ∧ v = 16)) := fun z => by have := hbf z.2.1; omega
              exact wl_ri ji_195_121 jr_195 rfl (Or.inr ⟨by omega, Or.inr ⟨gn, Or.inr ⟨by omega, Or.inl ⟨by omega, rfl, rfl⟩⟩⟩⟩)
            · refine wl_s (pc' := 112) ji_195_111 rfl rfl rfl ?_
              refine rp_g9 V ji_195_112 jf_195_95 ?_
              refine wl_bp ji_195_115 rfl ?_
              refine wl_icmp (t := 122) ji_195_117 rfl (by omega) (by omega) (fun (hb15 : (t : Int) = 41) => ?_) (fun (hb15 : ¬ ((t : Int) = 41)) => ?_)
              · refine wl_s (pc' := 123) ji_195_122 rfl rfl rfl ?_
                refine wl_s (pc' := 124) ji_195_123 rfl rfl rfl ?_
                have gn : ¬ ((ei = 1 ∧ o = -1) ∧ cmd u = false ∧ (k = 0 ∧ v = 16)) := fun z => by have := hbf z.2.1; omega
                have gc : ¬ (o = 41 ∧ t = 44) := by omega
                have gx : x < 0 := by omega
                have gd : ¬ o = -1 ∧ t = 41 := by omega
                obtain ⟨u2, hu2⟩ := stl_1 e (by rw [ho]; exact gd.1)
                rw [ho] at hu2
                obtain ⟨cs9, hcs9⟩ := rp_c V
                refine wl_vc (d := d + 5) (as := [.ref 138, wp_i o]) (rest := []) ji_195_124 jc_195_214 rfl hcs9 jk_207.symm (Nat.le_of_ble_eq_true rfl) rfl (by rw [jn_207]; rfl) (wr_sh (d := d + 3) (o := o) V e hl rfl hop ham D hL hp hw0 hx0 hwr hu2 (by omega)) (fun v1 h9 R => ?_)
                obtain ⟨rfl, R⟩ := R
                show wl_R _ _ 195 127 [some (.ref 138), some (wp_i x), some (wp_i o)] [] h9 _
                refine wl_s (pc' := 128) ji_195_127 rfl rfl rfl ?_
                exact wl_ri ji_195_128 jr_195 rfl (Or.inr ⟨gx, Or.inr ⟨gn, Or.inr ⟨gc, Or.inr ⟨gd, rfl, u2, hu2, R⟩⟩⟩⟩)
              · refine wl_s (pc' := 121) ji_195_120 rfl rfl rfl ?_
                have gn : ¬ ((ei = 1 ∧ o = -1) ∧ cmd u = false ∧ (k = 0 ∧ v = 16)) := fun z => by have := hbf z.2.1; omega
                exact wl_ri ji_195_121 jr_195 rfl (Or.inr ⟨by omega, Or.inr ⟨gn, Or.inr ⟨by omega, Or.inl ⟨by omega, rfl, rfl⟩⟩⟩⟩)
          · refine wl_s (pc' := 102) ji_195_101 rfl rfl rfl ?_
            have gn : ¬ ((ei = 1 ∧ o = -1) ∧ cmd u = false ∧ (k = 0 ∧ v = 16)) := fun z => by have := hbf z.2.1; omega
            have gc : o = 41 ∧ t = 44 := by omega
            have gx : x < 0 := by omega
            obtain ⟨cs, hcs⟩ := rp_c V
            refine wl_vc (d := d + 5) (as := [.ref 138]) (rest := []) ji_195_102 jc_195_211 rfl hcs jk_206.symm (Nat.le_of_ble_eq_true rfl) rfl (by rw [jn_206]; rfl) (wr_na (d := d + 3) V e hl rfl hop ham D hL hp hw0 hx0 hwr) (fun v1 h9 R => ?_)
            obtain ⟨y9, hy9⟩ : ∃ y9 : Int, v1 = some (wp_i y9) := by rcases R with ⟨-, -, z⟩ | ⟨-, z, -⟩ <;> exact ⟨_, z⟩
            subst hy9
            show wl_R _ _ 195 105 [some (.ref 138), some (wp_i x), some (wp_i o)] [wp_i y9] h9 _
            exact wl_ri ji_195_105 jr_195 rfl (Or.inr ⟨gx, Or.inr ⟨gn, Or.inl ⟨gc, R⟩⟩⟩)
      · refine wl_s (pc' := 68) ji_195_67 rfl rfl rfl ?_
        refine wl_bp ji_195_68 rfl ?_
        refine wl_bp ji_195_70 rfl ?_
        refine wl_sc (d := d + 5) (as := [wp_i 105, wp_i 110]) (rest := [.ref 138]) ji_195_72 jc_195_118 (Nat.le_of_ble_eq_true rfl) rfl (Nat.le_of_ble_eq_true rfl) rfl (by rw [jn_189]; rfl) (wr_w2 (by decide) (by decide)) (fun v1 h1 R => ?_)
        obtain ⟨ee, rfl⟩ := R
        subst ee
        obtain ⟨cs8, hcs8⟩ := rp_c V
        refine wl_vc (d := d + 5) (as := [.ref 138, .long (Int64.ofNat (wd [105, 110]))]) (rest := []) ji_195_75 jc_195_189 rfl hcs8 jk_190.symm (Nat.le_of_ble_eq_true rfl) rfl (by rw [jn_190]; rfl) (wr_iw (W := wd [105, 110]) V hw0 (by decide +kernel) htr) (fun v1 h1 R => ?_)
        obtain ⟨ee, z, rfl, hza, hzb⟩ := R
        subst ee
        rw [kw T (j := 16) (K := [105, 110]) rfl] at hzb
        show wl_R _ _ 195 78 [some (.ref 138), some (wp_i x), some (wp_i o)] [wp_i z] h1 _
        refine wl_if (t := 86) ji_195_78 rfl (by omega) (fun (hb16 : (z : Int) = 0) => ?_) (fun (hb16 : ¬ ((z : Int) = 0)) => ?_)
        · refine wl_s (pc' := 87) ji_195_86 rfl rfl rfl ?_
          refine wl_bp ji_195_87 rfl ?_
          refine wl_icmp (t := 106) ji_195_89 rfl (by omega) (by omega) (fun (hb17 : ¬ (o : Int) = 41) => ?_) (fun (hb17 : ¬ (¬ (o : Int) = 41)) => ?_)
          · refine wl_s (pc' := 107) ji_195_106 rfl rfl rfl ?_
            refine wl_s (pc' := 108) ji_195_107 rfl rfl rfl ?_
            refine wl_icmp (t := 120) ji_195_108 rfl (by omega) (by omega) (fun (hb18 : (o : Int) = (-1)) => ?_) (fun (hb18 : ¬ ((o : Int) = (-1))) => ?_)
            · refine wl_s (pc' := 121) ji_195_120 rfl rfl rfl ?_
              have gn : ¬ ((ei = 1 ∧ o = -1) ∧ cmd u = false ∧ (k = 0 ∧ v = 16)) := fun z => by have := hzb.mpr z.2.2; omega
              exact wl_ri ji_195_121 jr_195 rfl (Or.inr ⟨by omega, Or.inr ⟨gn, Or.inr ⟨by omega, Or.inl ⟨by omega, rfl, rfl⟩⟩⟩⟩)
            · refine wl_s (pc' := 112) ji_195_111 rfl rfl rfl ?_
              refine rp_g9 V ji_195_112 jf_195_95 ?_
              refine wl_bp ji_195_115 rfl ?_
              refine wl_icmp (t := 122) ji_195_117 rfl (by omega) (by omega) (fun (hb19 : (t : Int) = 41) => ?_) (fun (hb19 : ¬ ((t : Int) = 41)) => ?_)
              · refine wl_s (pc' := 123) ji_195_122 rfl rfl rfl ?_
                refine wl_s (pc' := 124) ji_195_123 rfl rfl rfl ?_
                have gn : ¬ ((ei = 1 ∧ o = -1) ∧ cmd u = false ∧ (k = 0 ∧ v = 16)) := fun z => by have := hzb.mpr z.2.2; omega
                have gc : ¬ (o = 41 ∧ t = 44) := by omega
                have gx : x < 0 := by omega
                have gd : ¬ o = -1 ∧ t = 41 := by omega
                obtain ⟨u2, hu2⟩ := stl_1 e (by rw [ho]; exact gd.1)
                rw [ho] at hu2
                obtain ⟨cs9, hcs9⟩ := rp_c V
                refine wl_vc (d := d + 5) (as := [.ref 138, wp_i o]) (rest := []) ji_195_124 jc_195_214 rfl hcs9 jk_207.symm (Nat.le_of_ble_eq_true rfl) rfl (by rw [jn_207]; rfl) (wr_sh (d := d + 3) (o := o) V e hl rfl hop ham D hL hp hw0 hx0 hwr hu2 (by omega)) (fun v1 h9 R => ?_)
                obtain ⟨rfl, R⟩ := R
                show wl_R _ _ 195 127 [some (.ref 138), some (wp_i x), some (wp_i o)] [] h9 _
                refine wl_s (pc' := 128) ji_195_127 rfl rfl rfl ?_
                exact wl_ri ji_195_128 jr_195 rfl (Or.inr ⟨gx, Or.inr ⟨gn, Or.inr ⟨gc, Or.inr ⟨gd, rfl, u2, hu2, R⟩⟩⟩⟩)
              · refine wl_s (pc' := 121) ji_195_120 rfl rfl rfl ?_
                have gn : ¬ ((ei = 1 ∧ o = -1) ∧ cmd u = false ∧ (k = 0 ∧ v = 16)) := fun z => by have := hzb.mpr z.2.2; omega
                exact wl_ri ji_195_121 jr_195 rfl (Or.inr ⟨by omega, Or.inr ⟨gn, Or.inr ⟨by omega, Or.inl ⟨by omega, rfl, rfl⟩⟩⟩⟩)
          · refine wl_s (pc' := 93) ji_195_92 rfl rfl rfl ?_
            refine rp_g9 V ji_195_93 jf_195_95 ?_
            refine wl_bp ji_195_96 rfl ?_
            refine wl_icmp (t := 106) ji_195_98 rfl (by omega) (by omega) (fun (hb20 : ¬ (t : Int) = 44) => ?_) (fun (hb20 : ¬ (¬ (t : Int) = 44)) => ?_)
            · refine wl_s (pc' := 107) ji_195_106 rfl rfl rfl ?_
              refine wl_s (pc' := 108) ji_195_107 rfl rfl rfl ?_
              refine wl_icmp (t := 120) ji_195_108 rfl (by omega) (by omega) (fun (hb21 : (o : Int) = (-1)) => ?_) (fun (hb21 : ¬ ((o : Int) = (-1))) => ?_)
              · refine wl_s (pc' := 121) ji_195_120 rfl rfl rfl ?_
                have gn : ¬ ((ei = 1 ∧ o = -1) ∧ cmd u = false ∧ (k = 0 ∧ v = 16)) := fun z => by have := hzb.mpr z.2.2; omega
                exact wl_ri ji_195_121 jr_195 rfl (Or.inr ⟨by omega, Or.inr ⟨gn, Or.inr ⟨by omega, Or.inl ⟨by omega, rfl, rfl⟩⟩⟩⟩)
              · refine wl_s (pc' := 112) ji_195_111 rfl rfl rfl ?_
                refine rp_g9 V ji_195_112 jf_195_95 ?_
                refine wl_bp ji_195_115 rfl ?_
                refine wl_icmp (t := 122) ji_195_117 rfl (by omega) (by omega) (fun (hb22 : (t : Int) = 41) => ?_) (fun (hb22 : ¬ ((t : Int) = 41)) => ?_)
                · refine wl_s (pc' := 123) ji_195_122 rfl rfl rfl ?_
                  refine wl_s (pc' := 124) ji_195_123 rfl rfl rfl ?_
                  have gn : ¬ ((ei = 1 ∧ o = -1) ∧ cmd u = false ∧ (k = 0 ∧ v = 16)) := fun z => by have := hzb.mpr z.2.2; omega
                  have gc : ¬ (o = 41 ∧ t = 44) := by omega
                  have gx : x < 0 := by omega
                  have gd : ¬ o = -1 ∧ t = 41 := by omega
                  obtain ⟨u2, hu2⟩ := stl_1 e (by rw [ho]; exact gd.1)
                  rw [ho] at hu2
                  obtain ⟨cs9, hcs9⟩ := rp_c V
                  refine wl_vc (d := d + 5) (as := [.ref 138, wp_i o]) (rest := []) ji_195_124 jc_195_214 rfl hcs9 jk_207.symm (Nat.le_of_ble_eq_true rfl) rfl (by rw [jn_207]; rfl) (wr_sh (d := d + 3) (o := o) V e hl rfl hop ham D hL hp hw0 hx0 hwr hu2 (by omega)) (fun v1 h9 R => ?_)
                  obtain ⟨rfl, R⟩ := R
                  show wl_R _ _ 195 127 [some (.ref 138), some (wp_i x), some (wp_i o)] [] h9 _
                  refine wl_s (pc' := 128) ji_195_127 rfl rfl rfl ?_
                  exact wl_ri ji_195_128 jr_195 rfl (Or.inr ⟨gx, Or.inr ⟨gn, Or.inr ⟨gc, Or.inr ⟨gd, rfl, u2, hu2, R⟩⟩⟩⟩)
                · refine wl_s (pc' := 121) ji_195_120 rfl rfl rfl ?_
                  have gn : ¬ ((ei = 1 ∧ o = -1) ∧ cmd u = false ∧ (k = 0 ∧ v = 16)) := fun z => by have := hzb.mpr z.2.2; omega
                  exact wl_ri ji_195_121 jr_195 rfl (Or.inr ⟨by omega, Or.inr ⟨gn, Or.inr ⟨by omega, Or.inl ⟨by omega, rfl, rfl⟩⟩⟩⟩)
            · refine wl_s (pc' := 102) ji_195_101 rfl rfl rfl ?_
              have gn : ¬ ((ei = 1 ∧ o = -1) ∧ cmd u = false ∧ (k = 0 ∧ v = 16)) := fun z => by have := hzb.mpr z.2.2; omega
              have gc : o = 41 ∧ t = 44 := by omega
              have gx : x < 0 := by omega
              obtain ⟨cs, hcs⟩ := rp_c V
              refine wl_vc (d := d + 5) (as := [.ref 138]) (rest := []) ji_195_102 jc_195_211 rfl hcs jk_206.symm (Nat.le_of_ble_eq_true rfl) rfl (by rw [jn_206]; rfl) (wr_na (d := d + 3) V e hl rfl hop ham D hL hp hw0 hx0 hwr) (fun v1 h9 R => ?_)
              obtain ⟨y9, hy9⟩ : ∃ y9 : Int, v1 = some (wp_i y9) := by rcases R with ⟨-, -, z⟩ | ⟨-, z, -⟩ <;> exact ⟨_, z⟩
              subst hy9
              show wl_R _ _ 195 105 [some (.ref 138), some (wp_i x), some (wp_i o)] [wp_i y9] h9 _
              exact wl_ri ji_195_105 jr_195 rfl (Or.inr ⟨gx, Or.inr ⟨gn, Or.inl ⟨gc, R⟩⟩⟩)
        · refine wl_s (pc' := 82) ji_195_81 rfl rfl rfl ?_
          have gin : ((ei = 1 ∧ o = -1) ∧ cmd u = false ∧ (k = 0 ∧ v = 16)) := ⟨hab.mp (by omega), hbt (by omega), hzb.mp (by omega)⟩
          have gx : x < 0 := by omega
          obtain ⟨cs, hcs⟩ := rp_c V
          refine wl_vc (d := d + 5) (as := [.ref 138]) (rest := []) ji_195_82 jc_195_208 rfl hcs jk_204.symm (Nat.le_of_ble_eq_true rfl) rfl (by rw [jn_204]; rfl) (wr_ba (d := d + 2) V e hl rfl hop ham D hL hp hw0 hx0 hwr) (fun v1 h9 R => ?_)
          obtain ⟨y9, hy9⟩ : ∃ y9 : Int, v1 = some (wp_i y9) := by obtain ⟨_, _, _, _, _, z⟩ := R; rcases z with ⟨_, z, _⟩ | ⟨_, ⟨_, z, _⟩ | ⟨_, z, _⟩⟩ <;> exact ⟨_, z⟩
          subst hy9
          show wl_R _ _ 195 85 [some (.ref 138), some (wp_i x), some (wp_i o)] [wp_i y9] h9 _
          exact wl_ri ji_195_85 jr_195 rfl (Or.inr ⟨gx, Or.inl ⟨gin, R⟩⟩)
  · refine wl_s (pc' := 10) ji_195_9 rfl rfl rfl ?_
    refine wl_s (pc' := 11) ji_195_10 rfl rfl rfl ?_
    refine wl_sc (d := d + 5) (as := [wp_i x]) (rest := [.ref 138]) ji_195_11 jc_195_150 (Nat.le_of_ble_eq_true rfl) rfl (Nat.le_of_ble_eq_true rfl) rfl (by rw [jn_200]; rfl) (wp_wl (ws_rank (o := x) (by omega))) (fun v1 h1 R => ?_)
    obtain ⟨ee, rfl⟩ := R
    subst ee
    have hk1 := pr_r x
    have hk2 := hxr.2.2 (by omega)
    obtain ⟨r, hr⟩ : ∃ r, pr_rank x = r := ⟨_, rfl⟩
    rw [hr] at hk1 hk2 ⊢
    show wl_R _ _ 195 14 [some (.ref 138), some (wp_i x), none] [wp_i r, .ref 138] h1 _
    obtain ⟨csha, hcsha⟩ := rp_c V
    refine wl_vc (d := d + 4 + 1) (as := [.ref 138, wp_i r]) (rest := []) ji_195_14 jc_195_183 rfl hcsha jk_202.symm (Nat.le_of_ble_eq_true rfl) rfl (by rw [jn_202]; rfl) (wr_st (d := d + 4) (r := r) hx0 (by omega) nn u _ wr _ _ e V (by omega)) (fun v1 ha R => ?_)
    obtain ⟨rfl, wrha, tsha, hwrha, V⟩ := R
    have hslha := stl_len (r := r) u
    have hsnha := stn_r (r := r) u
    show wl_R _ _ 195 17 [some (.ref 138), some (wp_i x), none] [] ha _
    refine wl_s (pc' := 18) ji_195_17 rfl rfl rfl ?_
    refine rp_g15 V ji_195_18 jf_195_29 ?_
    refine wl_s (pc' := 22) ji_195_21 rfl rfl rfl ?_
    refine rp_g16 V ji_195_22 jf_195_147 ?_
    refine wl_s (pc' := 26) ji_195_25 rfl rfl rfl ?_
    refine rp_s (x := ((stl r u).length : Int)) (y := x) V (by omega) ji_195_26 (fun h x1 x2 V => ?_)
    rw [show (((stl r u).length : Int)).toNat = (stl r u).length by omega] at V
    refine wl_s (pc' := 28) ji_195_27 rfl rfl rfl ?_
    refine wl_s (pc' := 29) ji_195_28 rfl rfl rfl ?_
    refine rp_g16 V ji_195_29 jf_195_147 ?_
    refine wl_s (pc' := 33) ji_195_32 rfl rfl rfl ?_
    refine wl_iadd (x := ((stl r u).length : Int)) (y := 1) (z := ((stl r u).length : Int) + 1) ji_195_33 (by omega) ?_
    refine rp_p16 (y := ((stl r u).length : Int) + 1) V ji_195_34 jf_195_147 (fun h V => ?_)
    refine wl_s (pc' := 38) ji_195_37 rfl rfl rfl ?_
    refine wl_s (pc' := 39) ji_195_38 rfl rfl rfl ?_
    refine rp_p19 (y := 0) (by omega) V ji_195_39 jf_195_180 (fun h V => ?_)
    refine wl_s (pc' := 43) ji_195_42 rfl rfl rfl ?_
    obtain ⟨cs, hcs⟩ := rp_c V
    refine wl_vc (d := d + 5) (as := [.ref 138]) (rest := []) ji_195_43 jc_195_171 rfl hcs jk_178.symm (Nat.le_of_ble_eq_true rfl) rfl (by rw [jn_178]; rfl) (wr_nt (d := d + 4) V D hL hp hw0) (fun v1 hb_ R => ?_)
    obtain ⟨rfl, k2, v2, q', r', t', n', w', tk2, tr2, hb, hw1, V⟩ := R
    show wl_R _ _ 195 46 [some (.ref 138), some (wp_i x), none] [] hb_ _
    refine wl_s (pc' := 47) ji_195_46 rfl rfl rfl ?_
    subst hr
    exact wl_ri ji_195_47 jr_195 rfl (Or.inl ⟨by omega, rfl, k2, v2, q', r', t', n', wrha, w', _, tsha, ⟨tk2, tr2, hb, hw1⟩, by omega, ⟨⟨List.getElem?_set_self (by omega), by omega⟩, pn_set (Nat.le_refl _) (stl_pn e)⟩, V⟩)
