/-! -/
/-! a ONE begins, by the reference; laid by program (wp_rread8.py) -/
def ofc (so x : Int) : Prop := x < 8 ∨ (x = 8 ∧ ¬ so = 0) ∨ (8 < x ∧ ¬ so = 1)
theorem nmo_r (k v : Int) : -1 ≤ nmo k v ∧ nmo k v ≤ 9 ∧ (0 ≤ nmo k v → k = 0) := by
  unfold nmo
  repeat' split
  all_goals omega
theorem tk_t {k v t n : Int} {w : Nat} (T : tkr k v t n w) : (t = 1 ↔ k = 1) ∧ (t = 40 ↔ k = 2 ∧ v = 40) ∧ (t = 45 ↔ k = 2 ∧ v = 45) ∧ (t = 1 → (9999 < n ↔ 9999 < v)) := by
  rcases T with ⟨rfl, rfl⟩ | ⟨rfl, rfl, -⟩ | ⟨rfl, rfl, hn, hv⟩ | ⟨rfl, ht, hv⟩ | ⟨rfl, rfl⟩
  · omega
  · omega
  · omega
  · unfold sg at ht
    split at ht
    · omega
    · split at ht <;> omega
  · omega
theorem tk_nr {k v t n : Int} {w : Nat} (T : tkr k v t n w) : t = 1 → (0 ≤ n ∧ n ≤ 999999) := by
  intro h
  rcases T with ⟨rfl, rfl⟩ | ⟨rfl, rfl, -⟩ | ⟨rfl, rfl, hn, hv⟩ | ⟨rfl, ht, hv⟩ | ⟨rfl, rfl⟩
  · omega
  · omega
  · exact hn
  · unfold sg at ht
    split at ht
    · omega
    · split at ht <;> omega
  · omega
theorem wr_b1 {nn d : Nat} {h0 h : mj_H} {fs0 bl pl ts : List Value} {L p q t n x0 wr so pd op am wi ei oc cn : Int} {w : Nat} (V : rP h0 h fs0 bl L p q t n x0 wr so pd op am wi ei oc cn w pl ts) {u : List Int} (e : pn pl u) (hl : (u.length : Int) ≤ 200) (hpd : pd = (u.length : Int)) (hop : 0 ≤ op ∧ op ≤ 1000) (ham : 0 ≤ am ∧ am ≤ 100) (D : tB bl) (hL : 0 ≤ L ∧ L ≤ 300) (hp : 0 ≤ p ∧ p ≤ L) (hw0 : w ≤ 2 ^ 60) (hx0 : 0 ≤ x0 ∧ x0 ≤ 3000) (hwr : 0 ≤ wr ∧ wr ≤ 900000) (hei : ei = 0 ∨ ei = 1) (hso : wp_r so) {k v : Int} (T : tkr k v t n w) (htr : wp_r t) : wl_R nn (d + 6) 208 0 [some (.ref 138), none] [] h (fun v9 h1 => ((k = 1 ∧ 9999 < v) ∧ v9 = some (wp_i 2) ∧ h1 = h) ∨ (¬ (k = 1 ∧ 9999 < v) ∧ (((0 ≤ nmo k v ∧ ¬ ofc so (nmo k v)) ∧ v9 = some (wp_i 5) ∧ h1 = h) ∨ (¬ (0 ≤ nmo k v ∧ ¬ ofc so (nmo k v)) ∧ (((k = 1 ∨ 0 ≤ nmo k v) ∧ v9 = some (wp_i 0) ∧ ∃ (k2 v2 q' r' t' n' wr' : Int) (w' : Nat) (ts' : List Value), (tok (bt bl L) p k2 v2 q' r' ∧ tkr k2 v2 t' n' w' ∧ (0 ≤ q' ∧ r' ≤ L) ∧ w' ≤ 2 ^ 60) ∧ (wr ≤ wr' ∧ wr' ≤ wr + (u.length : Int) + 1) ∧ rP h0 h1 fs0 bl L r' q' t' n' x0 wr' so ((stl 7 u).length : Int) (op - stn 7 u) am 1 ei oc cn w' pl ts') ∨ (¬ (k = 1 ∨ 0 ≤ nmo k v) ∧ (((k = 2 ∧ v = 40) ∧ ((op = 8 ∧ h1 = h ∧ v9 = some (wp_i 3)) ∨ (¬ op = 8 ∧ v9 = some (wp_i 0) ∧ ∃ (k2 v2 q' r' t' n' : Int) (w' : Nat) (pl' : List Value), tok (bt bl L) p k2 v2 q' r' ∧ tkr k2 v2 t' n' w' ∧ (0 ≤ q' ∧ r' ≤ L) ∧ w' ≤ 2 ^ 60 ∧ pn pl' (40 :: u) ∧ rP h0 h1 fs0 bl L r' q' t' n' x0 wr so ((u.length : Int) + 1) (op + 1) am wi ei oc cn w' pl' ts))) ∨ ((k = 2 ∧ v = 45) ∧ ((op = 8 ∧ h1 = h ∧ v9 = some (wp_i 3)) ∨ (¬ op = 8 ∧ v9 = some (wp_i 0) ∧ ∃ (k2 v2 q' r' t' n' : Int) (w' : Nat) (pl' : List Value), tok (bt bl L) p k2 v2 q' r' ∧ tkr k2 v2 t' n' w' ∧ (0 ≤ q' ∧ r' ≤ L) ∧ w' ≤ 2 ^ 60 ∧ pn pl' (3 :: u) ∧ rP h0 h1 fs0 bl L r' q' t' n' x0 wr so ((u.length : Int) + 1) (op + 1) am wi ei oc cn w' pl' ts))) ∨ ((k = 0 ∧ v = 15) ∧ ((ei = 1 ∧ opw u = -1) ∧ aha u) ∧ ((op = 8 ∧ h1 = h ∧ v9 = some (wp_i 3)) ∨ (¬ op = 8 ∧ v9 = some (wp_i 0) ∧ ∃ (k2 v2 q' r' t' n' : Int) (w' : Nat) (pl' : List Value), tok (bt bl L) p k2 v2 q' r' ∧ tkr k2 v2 t' n' w' ∧ (0 ≤ q' ∧ r' ≤ L) ∧ w' ≤ 2 ^ 60 ∧ pn pl' (20 :: u) ∧ rP h0 h1 fs0 bl L r' q' t' n' x0 wr so ((u.length : Int) + 1) (op + 1) am wi ei oc cn w' pl' ts))) ∨ ((¬ (k = 2 ∧ v = 40) ∧ ¬ (k = 2 ∧ v = 45) ∧ ¬ ((k = 0 ∧ v = 15) ∧ (ei = 1 ∧ opw u = -1) ∧ aha u)) ∧ v9 = some (wp_i 1) ∧ h1 = h)))))))) := by
  subst hpd
  obtain ⟨a1, a2, a3, a4⟩ := tk_t T
  have hnr := tk_nr T
  refine wl_s (pc' := 1) ji_208_0 rfl rfl rfl ?_
  refine rp_g9 V ji_208_1 jf_208_95 ?_
  refine wl_s (pc' := 5) ji_208_4 rfl rfl rfl ?_
  refine wl_icmp (t := 20) ji_208_5 rfl (by omega) (by omega) (fun (hb1 : ¬ (t : Int) = 1) => ?_) (fun (hb1 : ¬ (¬ (t : Int) = 1)) => ?_)
  · refine wl_s (pc' := 21) ji_208_20 rfl rfl rfl ?_
    obtain ⟨cs, hcs⟩ := rp_c V
    refine wl_vc (d := d + 5) (as := [.ref 138]) (rest := []) ji_208_21 jc_208_174 rfl hcs jk_209.symm (Nat.le_of_ble_eq_true rfl) rfl (by rw [jn_209]; rfl) (wr_nm (d := d) V T hw0 htr) (fun v1 h1 R => ?_)
    obtain ⟨ee, rfl⟩ := R
    subst ee
    obtain ⟨x, hx⟩ : ∃ x, nmo k v = x := ⟨_, rfl⟩
    have hxr := nmo_r k v
    rw [hx] at hxr ⊢
    show wl_R _ _ 208 24 [some (.ref 138), none] [wp_i x] h1 _
    refine wl_s (pc' := 25) (lv' := [some (.ref 138), some (wp_i x)]) ji_208_24 rfl rfl rfl ?_
    refine wl_s (pc' := 26) ji_208_25 rfl rfl rfl ?_
    refine wl_if (t := 39) ji_208_26 rfl (by omega) (fun (hb2 : (x : Int) < 0) => ?_) (fun (hb2 : ¬ ((x : Int) < 0)) => ?_)
    · refine wl_s (pc' := 40) ji_208_39 rfl rfl rfl ?_
      refine rp_g9 V ji_208_40 jf_208_95 ?_
      refine wl_s (pc' := 44) ji_208_43 rfl rfl rfl ?_
      refine wl_icmp (t := 51) ji_208_44 rfl (by omega) (by omega) (fun (hb3 : (t : Int) = 1) => ?_) (fun (hb3 : ¬ ((t : Int) = 1)) => ?_)
      · refine wl_s (pc' := 52) ji_208_51 rfl rfl rfl ?_
        refine wl_s (pc' := 53) ji_208_52 rfl rfl rfl ?_
        refine rp_g9 V ji_208_53 jf_208_95 ?_
        refine wl_s (pc' := 57) ji_208_56 rfl rfl rfl ?_
        refine wl_icmp (t := 64) ji_208_57 rfl (by omega) (by omega) (fun (hb4 : ¬ (t : Int) = 1) => ?_) (fun (hb4 : ¬ (¬ (t : Int) = 1)) => ?_)
        · refine wl_s (pc' := 65) ji_208_64 rfl rfl rfl ?_
          refine wl_s (pc' := 66) ji_208_65 rfl rfl rfl ?_
          refine rp_g9 V ji_208_66 jf_208_95 ?_
          refine wl_s (pc' := 70) ji_208_69 rfl rfl rfl ?_
          refine wl_icmp (t := 80) ji_208_70 rfl (by omega) (by omega) (fun (hb5 : ¬ (t : Int) = 1) => ?_) (fun (hb5 : ¬ (¬ (t : Int) = 1)) => ?_)
          · refine wl_s (pc' := 81) ji_208_80 rfl rfl rfl ?_
            obtain ⟨cs5, hcs5⟩ := rp_c V
            refine wl_vc (d := d + 5) (as := [.ref 138, wp_i 1, wp_i x]) (rest := []) ji_208_81 jc_208_153 rfl hcs5 jk_203.symm (Nat.le_of_ble_eq_true rfl) rfl (by rw [jn_203]; rfl) (wr_em V hx0 (by omega)) (fun v1 h1 R => ?_)
            obtain ⟨rfl, ts5, V⟩ := R
            show wl_R _ _ 208 84 [some (.ref 138), some (wp_i x)] [] h1 _
            refine wl_s (pc' := 85) ji_208_84 rfl rfl rfl ?_
            obtain ⟨cs, hcs⟩ := rp_c V
            refine wl_vc (d := d + 5) (as := [.ref 138]) (rest := []) ji_208_85 jc_208_171 rfl hcs jk_178.symm (Nat.le_of_ble_eq_true rfl) rfl (by rw [jn_178]; rfl) (wr_nt (d := d + 4) V D hL hp hw0) (fun v1 h1 R => ?_)
            obtain ⟨rfl, k2, v2, q', r', t', n', w', tk2, tr2, hb, hw1, V⟩ := R
            show wl_R _ _ 208 88 [some (.ref 138), some (wp_i x)] [] h1 _
            refine wl_s (pc' := 89) ji_208_88 rfl rfl rfl ?_
            refine wl_s (pc' := 90) ji_208_89 rfl rfl rfl ?_
            refine rp_p19 (y := 1) (by omega) V ji_208_90 jf_208_180 (fun h V => ?_)
            refine wl_s (pc' := 94) ji_208_93 rfl rfl rfl ?_
            refine wl_bp ji_208_94 rfl ?_
            obtain ⟨cshz, hcshz⟩ := rp_c V
            refine wl_vc (d := d + 4 + 1) (as := [.ref 138, wp_i 7]) (rest := []) ji_208_96 jc_208_183 rfl hcshz jk_202.symm (Nat.le_of_ble_eq_true rfl) rfl (by rw [jn_202]; rfl) (wr_st (d := d + 4) (r := 7) hx0 (by omega) nn u _ (wr + 1) _ _ e V (by omega)) (fun v1 hz R => ?_)
            obtain ⟨rfl, wrhz, tshz, hwrhz, V⟩ := R
            have hslhz := stl_len (r := 7) u
            have hsnhz := stn_r (r := 7) u
            show wl_R _ _ 208 99 [some (.ref 138), some (wp_i x)] [] hz _
            refine wl_s (pc' := 100) ji_208_99 rfl rfl rfl ?_
            exact wl_ri ji_208_100 jr_208 rfl (Or.inr ⟨by omega, Or.inr ⟨fun z => (by omega), Or.inl ⟨by omega, rfl, k2, v2, q', r', t', n', wrhz, w', tshz, ⟨tk2, tr2, hb, hw1⟩, by omega, V⟩⟩⟩)
          · refine wl_s (pc' := 74) ji_208_73 rfl rfl rfl ?_
            refine rp_g10 V ji_208_74 jf_208_102 ?_
            refine wl_goto (t := 81) ji_208_77 rfl ?_
            obtain ⟨cs5, hcs5⟩ := rp_c V
            refine wl_vc (d := d + 5) (as := [.ref 138, wp_i 1, wp_i n]) (rest := []) ji_208_81 jc_208_153 rfl hcs5 jk_203.symm (Nat.le_of_ble_eq_true rfl) rfl (by rw [jn_203]; rfl) (wr_em V hx0 (by omega)) (fun v1 h1 R => ?_)
            obtain ⟨rfl, ts5, V⟩ := R
            show wl_R _ _ 208 84 [some (.ref 138), some (wp_i x)] [] h1 _
            refine wl_s (pc' := 85) ji_208_84 rfl rfl rfl ?_
            obtain ⟨cs, hcs⟩ := rp_c V
            refine wl_vc (d := d + 5) (as := [.ref 138]) (rest := []) ji_208_85 jc_208_171 rfl hcs jk_178.symm (Nat.le_of_ble_eq_true rfl) rfl (by rw [jn_178]; rfl) (wr_nt (d := d + 4) V D hL hp hw0) (fun v1 h1 R => ?_)
            obtain ⟨rfl, k2, v2, q', r', t', n', w', tk2, tr2, hb, hw1, V⟩ := R
            show wl_R _ _ 208 88 [some (.ref 138), some (wp_i x)] [] h1 _
            refine wl_s (pc' := 89) ji_208_88 rfl rfl rfl ?_
            refine wl_s (pc' := 90) ji_208_89 rfl rfl rfl ?_
            refine rp_p19 (y := 1) (by omega) V ji_208_90 jf_208_180 (fun h V => ?_)
            refine wl_s (pc' := 94) ji_208_93 rfl rfl rfl ?_
            refine wl_bp ji_208_94 rfl ?_
            obtain ⟨cshz, hcshz⟩ := rp_c V
            refine wl_vc (d := d + 4 + 1) (as := [.ref 138, wp_i 7]) (rest := []) ji_208_96 jc_208_183 rfl hcshz jk_202.symm (Nat.le_of_ble_eq_true rfl) rfl (by rw [jn_202]; rfl) (wr_st (d := d + 4) (r := 7) hx0 (by omega) nn u _ (wr + 1) _ _ e V (by omega)) (fun v1 hz R => ?_)
            obtain ⟨rfl, wrhz, tshz, hwrhz, V⟩ := R
            have hslhz := stl_len (r := 7) u
            have hsnhz := stn_r (r := 7) u
            show wl_R _ _ 208 99 [some (.ref 138), some (wp_i x)] [] hz _
            refine wl_s (pc' := 100) ji_208_99 rfl rfl rfl ?_
            exact wl_ri ji_208_100 jr_208 rfl (Or.inr ⟨by omega, Or.inr ⟨fun z => (by omega), Or.inl ⟨by omega, rfl, k2, v2, q', r', t', n', wrhz, w', tshz, ⟨tk2, tr2, hb, hw1⟩, by omega, V⟩⟩⟩)
        · refine wl_s (pc' := 61) ji_208_60 rfl rfl rfl ?_
          refine wl_goto (t := 65) ji_208_61 rfl ?_
          refine wl_s (pc' := 66) ji_208_65 rfl rfl rfl ?_
          refine rp_g9 V ji_208_66 jf_208_95 ?_
          refine wl_s (pc' := 70) ji_208_69 rfl rfl rfl ?_
          refine wl_icmp (t := 80) ji_208_70 rfl (by omega) (by omega) (fun (hb6 : ¬ (t : Int) = 1) => ?_) (fun (hb6 : ¬ (¬ (t : Int) = 1)) => ?_)
          · refine wl_s (pc' := 81) ji_208_80 rfl rfl rfl ?_
            obtain ⟨cs5, hcs5⟩ := rp_c V
            refine wl_vc (d := d + 5) (as := [.ref 138, wp_i 0, wp_i x]) (rest := []) ji_208_81 jc_208_153 rfl hcs5 jk_203.symm (Nat.le_of_ble_eq_true rfl) rfl (by rw [jn_203]; rfl) (wr_em V hx0 (by omega)) (fun v1 h1 R => ?_)
            obtain ⟨rfl, ts5, V⟩ := R
            show wl_R _ _ 208 84 [some (.ref 138), some (wp_i x)] [] h1 _
            refine wl_s (pc' := 85) ji_208_84 rfl rfl rfl ?_
            obtain ⟨cs, hcs⟩ := rp_c V
            refine wl_vc (d := d + 5) (as := [.ref 138]) (rest := []) ji_208_85 jc_208_171 rfl hcs jk_178.symm (Nat.le_of_ble_eq_true rfl) rfl (by rw [jn_178]; rfl) (wr_nt (d := d + 4) V D hL hp hw0) (fun v1 h1 R => ?_)
            obtain ⟨rfl, k2, v2, q', r', t', n', w', tk2, tr2, hb, hw1, V⟩ := R
            show wl_R _ _ 208 88 [some (.ref 138), some (wp_i x)] [] h1 _
            refine wl_s (pc' := 89) ji_208_88 rfl rfl rfl ?_
            refine wl_s (pc' := 90) ji_208_89 rfl rfl rfl ?_
            refine rp_p19 (y := 1) (by omega) V ji_208_90 jf_208_180 (fun h V => ?_)
            refine wl_s (pc' := 94) ji_208_93 rfl rfl rfl ?_
            refine wl_bp ji_208_94 rfl ?_
            obtain ⟨cshz, hcshz⟩ := rp_c V
            refine wl_vc (d := d + 4 + 1) (as := [.ref 138, wp_i 7]) (rest := []) ji_208_96 jc_208_183 rfl hcshz jk_202.symm (Nat.le_of_ble_eq_true rfl) rfl (by rw [jn_202]; rfl) (wr_st (d := d + 4) (r := 7) hx0 (by omega) nn u _ (wr + 1) _ _ e V (by omega)) (fun v1 hz R => ?_)
            obtain ⟨rfl, wrhz, tshz, hwrhz, V⟩ := R
            have hslhz := stl_len (r := 7) u
            have hsnhz := stn_r (r := 7) u
            show wl_R _ _ 208 99 [some (.ref 138), some (wp_i x)] [] hz _
            refine wl_s (pc' := 100) ji_208_99 rfl rfl rfl ?_
            exact wl_ri ji_208_100 jr_208 rfl (Or.inr ⟨by omega, Or.inr ⟨fun z => (by omega), Or.inl ⟨by omega, rfl, k2, v2, q', r', t', n', wrhz, w', tshz, ⟨tk2, tr2, hb, hw1⟩, by omega, V⟩⟩⟩)
          · refine wl_s (pc' := 74) ji_208_73 rfl rfl rfl ?_
            refine rp_g10 V ji_208_74 jf_208_102 ?_
            refine wl_goto (t := 81) ji_208_77 rfl ?_
            obtain ⟨cs5, hcs5⟩ := rp_c V
            refine wl_vc (d := d + 5) (as := [.ref 138, wp_i 0, wp_i n]) (rest := []) ji_208_81 jc_208_153 rfl hcs5 jk_203.symm (Nat.le_of_ble_eq_true rfl) rfl (by rw [jn_203]; rfl) (wr_em V hx0 (by omega)) (fun v1 h1 R => ?_)
            obtain ⟨rfl, ts5, V⟩ := R
            show wl_R _ _ 208 84 [some (.ref 138), some (wp_i x)] [] h1 _
            refine wl_s (pc' := 85) ji_208_84 rfl rfl rfl ?_
            obtain ⟨cs, hcs⟩ := rp_c V
            refine wl_vc (d := d + 5) (as := [.ref 138]) (rest := []) ji_208_85 jc_208_171 rfl hcs jk_178.symm (Nat.le_of_ble_eq_true rfl) rfl (by rw [jn_178]; rfl) (wr_nt (d := d + 4) V D hL hp hw0) (fun v1 h1 R => ?_)
            obtain ⟨rfl, k2, v2, q', r', t', n', w', tk2, tr2, hb, hw1, V⟩ := R
            show wl_R _ _ 208 88 [some (.ref 138), some (wp_i x)] [] h1 _
            refine wl_s (pc' := 89) ji_208_88 rfl rfl rfl ?_
            refine wl_s (pc' := 90) ji_208_89 rfl rfl rfl ?_
            refine rp_p19 (y := 1) (by omega) V ji_208_90 jf_208_180 (fun h V => ?_)
            refine wl_s (pc' := 94) ji_208_93 rfl rfl rfl ?_
            refine wl_bp ji_208_94 rfl ?_
            obtain ⟨cshz, hcshz⟩ := rp_c V
            refine wl_vc (d := d + 4 + 1) (as := [.ref 138, wp_i 7]) (rest := []) ji_208_96 jc_208_183 rfl hcshz jk_202.symm (Nat.le_of_ble_eq_true rfl) rfl (by rw [jn_202]; rfl) (wr_st (d := d + 4) (r := 7) hx0 (by omega) nn u _ (wr + 1) _ _ e V (by omega)) (fun v1 hz R => ?_)
            obtain ⟨rfl, wrhz, tshz, hwrhz, V⟩ := R
            have hslhz := stl_len (r := 7) u
            have hsnhz := stn_r (r := 7) u
            show wl_R _ _ 208 99 [some (.ref 138), some (wp_i x)] [] hz _
            refine wl_s (pc' := 100) ji_208_99 rfl rfl rfl ?_
            exact wl_ri ji_208_100 jr_208 rfl (Or.inr ⟨by omega, Or.inr ⟨fun z => (by omega), Or.inl ⟨by omega, rfl, k2, v2, q', r', t', n', wrhz, w', tshz, ⟨tk2, tr2, hb, hw1⟩, by omega, V⟩⟩⟩)
      · refine wl_s (pc' := 48) ji_208_47 rfl rfl rfl ?_
        refine wl_if (t := 101) ji_208_48 rfl (by omega) (fun (hb7 : (x : Int) < 0) => ?_) (fun (hb7 : ¬ ((x : Int) < 0)) => ?_)
        · refine wl_s (pc' := 102) ji_208_101 rfl rfl rfl ?_
          refine rp_g9 V ji_208_102 jf_208_95 ?_
          refine wl_bp ji_208_105 rfl ?_
          refine wl_icmp (t := 117) ji_208_107 rfl (by omega) (by omega) (fun (hb8 : ¬ (t : Int) = 40) => ?_) (fun (hb8 : ¬ (¬ (t : Int) = 40)) => ?_)
          · refine wl_s (pc' := 118) ji_208_117 rfl rfl rfl ?_
            refine rp_g9 V ji_208_118 jf_208_95 ?_
            refine wl_bp ji_208_121 rfl ?_
            refine wl_icmp (t := 132) ji_208_123 rfl (by omega) (by omega) (fun (hb9 : ¬ (t : Int) = 45) => ?_) (fun (hb9 : ¬ (¬ (t : Int) = 45)) => ?_)
            · refine wl_s (pc' := 133) ji_208_132 rfl rfl rfl ?_
              refine wl_bp ji_208_133 rfl ?_
              refine wl_bp ji_208_135 rfl ?_
              refine wl_bp ji_208_137 rfl ?_
              refine wl_sc (d := d + 5) (as := [wp_i 110, wp_i 111, wp_i 116]) (rest := [.ref 138]) ji_208_139 jc_208_122 (Nat.le_of_ble_eq_true rfl) rfl (Nat.le_of_ble_eq_true rfl) rfl (by rw [jn_188]; rfl) (wr_w3 (d := d + 4) (by decide) (by decide) (by decide)) (fun v1 h1 R => ?_)
              obtain ⟨ee, rfl⟩ := R
              subst ee
              show wl_R _ _ 208 142 [some (.ref 138), some (wp_i x)] [.long (Int64.ofNat (wd [110, 111, 116])), .ref 138] h1 _
              obtain ⟨cs8, hcs8⟩ := rp_c V
              refine wl_vc (d := d + 5) (as := [.ref 138, .long (Int64.ofNat (wd [110, 111, 116]))]) (rest := []) ji_208_142 jc_208_189 rfl hcs8 jk_190.symm (Nat.le_of_ble_eq_true rfl) rfl (by rw [jn_190]; rfl) (wr_iw (W := wd [110, 111, 116]) V hw0 (by decide +kernel) htr) (fun v1 h1 R => ?_)
              obtain ⟨ee, z, rfl, hza, hzb⟩ := R
              subst ee
              rw [kw T (j := 15) (K := [110, 111, 116]) rfl] at hzb
              show wl_R _ _ 208 145 [some (.ref 138), some (wp_i x)] [wp_i z] h1 _
              refine wl_if (t := 164) ji_208_145 rfl (by omega) (fun (hb10 : (z : Int) = 0) => ?_) (fun (hb10 : ¬ ((z : Int) = 0)) => ?_)
              · refine wl_s (pc' := 165) ji_208_164 rfl rfl rfl ?_
                exact wl_ri ji_208_165 jr_208 rfl (Or.inr ⟨by omega, Or.inr ⟨fun z => (by omega), Or.inr ⟨by omega, Or.inr (Or.inr (Or.inr ⟨⟨by omega, by omega, fun z => by have := hzb.mpr z.1; omega⟩, rfl, rfl⟩))⟩⟩⟩)
              · refine wl_s (pc' := 149) ji_208_148 rfl rfl rfl ?_
                obtain ⟨cs, hcs⟩ := rp_c V
                refine wl_vc (d := d + 5) (as := [.ref 138]) (rest := []) ji_208_149 jc_208_193 rfl hcs jk_211.symm (Nat.le_of_ble_eq_true rfl) rfl (by rw [jn_211]; rfl) (wr_aa (d := d + 3) V e (by omega) rfl hei) (fun v1 h1 R => ?_)
                obtain ⟨ee, a, rfl, haa, hab⟩ := R
                subst ee
                show wl_R _ _ 208 152 [some (.ref 138), some (wp_i x)] [wp_i a] h1 _
                refine wl_if (t := 164) ji_208_152 rfl (by omega) (fun (hb11 : (a : Int) = 0) => ?_) (fun (hb11 : ¬ ((a : Int) = 0)) => ?_)
                · refine wl_s (pc' := 165) ji_208_164 rfl rfl rfl ?_
                  exact wl_ri ji_208_165 jr_208 rfl (Or.inr ⟨by omega, Or.inr ⟨fun z => (by omega), Or.inr ⟨by omega, Or.inr (Or.inr (Or.inr ⟨⟨by omega, by omega, fun z => by have := hab.mpr z.2; omega⟩, rfl, rfl⟩))⟩⟩⟩)
                · refine wl_s (pc' := 156) ji_208_155 rfl rfl rfl ?_
                  refine wl_bp ji_208_156 rfl ?_
                  obtain ⟨cs9, hcs9⟩ := rp_c V
                  have g1 : ¬ (k = 1 ∧ 9999 < v) := by omega
                  have g2 : ¬ (0 ≤ x ∧ ¬ ofc so x) := fun z => (by omega)
                  have g3 : ¬ (k = 1 ∨ 0 ≤ x) := by omega
                  have g4 := hzb.mp (by omega)
                  have g5 := hab.mp (by omega)
                  refine wl_vc (d := d + 5) (as := [.ref 138, wp_i 20]) (rest := []) ji_208_158 jc_208_186 rfl hcs9 jk_205.symm (Nat.le_of_ble_eq_true rfl) rfl (by rw [jn_205]; rfl) (wr_op (d := d + 3) (c := 20) V (u := u) e (by omega) rfl (by omega) D hL hp hw0 (by decide)) (fun v1 h9 R => ?_)
                  obtain ⟨y9, hy9⟩ : ∃ y9 : Int, v1 = some (wp_i y9) := by rcases R with ⟨-, -, x⟩ | ⟨-, x, -⟩ <;> exact ⟨_, x⟩
                  subst hy9
                  show wl_R _ _ 208 161 [some (.ref 138), some (wp_i x)] [wp_i y9] h9 _
                  refine wl_goto (t := 165) ji_208_161 rfl ?_
                  exact wl_ri ji_208_165 jr_208 rfl (Or.inr ⟨g1, Or.inr ⟨g2, Or.inr ⟨g3, Or.inr (Or.inr (Or.inl ⟨g4, g5, R⟩))⟩⟩⟩)
            · refine wl_s (pc' := 127) ji_208_126 rfl rfl rfl ?_
              refine wl_s (pc' := 128) ji_208_127 rfl rfl rfl ?_
              obtain ⟨cs9, hcs9⟩ := rp_c V
              have g1 : ¬ (k = 1 ∧ 9999 < v) := by omega
              have g2 : ¬ (0 ≤ x ∧ ¬ ofc so x) := fun z => (by omega)
              have g3 : ¬ (k = 1 ∨ 0 ≤ x) := by omega
              have g4 : k = 2 ∧ v = 45 := by omega
              refine wl_vc (d := d + 5) (as := [.ref 138, wp_i 3]) (rest := []) ji_208_128 jc_208_186 rfl hcs9 jk_205.symm (Nat.le_of_ble_eq_true rfl) rfl (by rw [jn_205]; rfl) (wr_op (d := d + 3) (c := 3) V (u := u) e (by omega) rfl (by omega) D hL hp hw0 (by decide)) (fun v1 h9 R => ?_)
              obtain ⟨y9, hy9⟩ : ∃ y9 : Int, v1 = some (wp_i y9) := by rcases R with ⟨-, -, x⟩ | ⟨-, x, -⟩ <;> exact ⟨_, x⟩
              subst hy9
              show wl_R _ _ 208 131 [some (.ref 138), some (wp_i x)] [wp_i y9] h9 _
              exact wl_ri ji_208_131 jr_208 rfl (Or.inr ⟨g1, Or.inr ⟨g2, Or.inr ⟨g3, Or.inr (Or.inl ⟨g4, R⟩)⟩⟩⟩)
          · refine wl_s (pc' := 111) ji_208_110 rfl rfl rfl ?_
            refine wl_bp ji_208_111 rfl ?_
            obtain ⟨cs9, hcs9⟩ := rp_c V
            have g1 : ¬ (k = 1 ∧ 9999 < v) := by omega
            have g2 : ¬ (0 ≤ x ∧ ¬ ofc so x) := fun z => (by omega)
            have g3 : ¬ (k = 1 ∨ 0 ≤ x) := by omega
            have g4 : k = 2 ∧ v = 40 := by omega
            refine wl_vc (d := d + 5) (as := [.ref 138, wp_i 40]) (rest := []) ji_208_113 jc_208_186 rfl hcs9 jk_205.symm (Nat.le_of_ble_eq_true rfl) rfl (by rw [jn_205]; rfl) (wr_op (d := d + 3) (c := 40) V (u := u) e (by omega) rfl (by omega) D hL hp hw0 (by decide)) (fun v1 h9 R => ?_)
            obtain ⟨y9, hy9⟩ : ∃ y9 : Int, v1 = some (wp_i y9) := by rcases R with ⟨-, -, x⟩ | ⟨-, x, -⟩ <;> exact ⟨_, x⟩
            subst hy9
            show wl_R _ _ 208 116 [some (.ref 138), some (wp_i x)] [wp_i y9] h9 _
            exact wl_ri ji_208_116 jr_208 rfl (Or.inr ⟨g1, Or.inr ⟨g2, Or.inr ⟨g3, Or.inl ⟨g4, R⟩⟩⟩⟩)
        · refine wl_s (pc' := 52) ji_208_51 rfl rfl rfl ?_
          refine wl_s (pc' := 53) ji_208_52 rfl rfl rfl ?_
          refine rp_g9 V ji_208_53 jf_208_95 ?_
          refine wl_s (pc' := 57) ji_208_56 rfl rfl rfl ?_
          refine wl_icmp (t := 64) ji_208_57 rfl (by omega) (by omega) (fun (hb12 : ¬ (t : Int) = 1) => ?_) (fun (hb12 : ¬ (¬ (t : Int) = 1)) => ?_)
          · refine wl_s (pc' := 65) ji_208_64 rfl rfl rfl ?_
            refine wl_s (pc' := 66) ji_208_65 rfl rfl rfl ?_
            refine rp_g9 V ji_208_66 jf_208_95 ?_
            refine wl_s (pc' := 70) ji_208_69 rfl rfl rfl ?_
            refine wl_icmp (t := 80) ji_208_70 rfl (by omega) (by omega) (fun (hb13 : ¬ (t : Int) = 1) => ?_) (fun (hb13 : ¬ (¬ (t : Int) = 1)) => ?_)
            · refine wl_s (pc' := 81) ji_208_80 rfl rfl rfl ?_
              obtain ⟨cs5, hcs5⟩ := rp_c V
              refine wl_vc (d := d + 5) (as := [.ref 138, wp_i 1, wp_i x]) (rest := []) ji_208_81 jc_208_153 rfl hcs5 jk_203.symm (Nat.le_of_ble_eq_true rfl) rfl (by rw [jn_203]; rfl) (wr_em V hx0 (by omega)) (fun v1 h1 R => ?_)
              obtain ⟨rfl, ts5, V⟩ := R
              show wl_R _ _ 208 84 [some (.ref 138), some (wp_i x)] [] h1 _
              refine wl_s (pc' := 85) ji_208_84 rfl rfl rfl ?_
              obtain ⟨cs, hcs⟩ := rp_c V
              refine wl_vc (d := d + 5) (as := [.ref 138]) (rest := []) ji_208_85 jc_208_171 rfl hcs jk_178.symm (Nat.le_of_ble_eq_true rfl) rfl (by rw [jn_178]; rfl) (wr_nt (d := d + 4) V D hL hp hw0) (fun v1 h1 R => ?_)
              obtain ⟨rfl, k2, v2, q', r', t', n', w', tk2, tr2, hb, hw1, V⟩ := R
              show wl_R _ _ 208 88 [some (.ref 138), some (wp_i x)] [] h1 _
              refine wl_s (pc' := 89) ji_208_88 rfl rfl rfl ?_
              refine wl_s (pc' := 90) ji_208_89 rfl rfl rfl ?_
              refine rp_p19 (y := 1) (by omega) V ji_208_90 jf_208_180 (fun h V => ?_)
              refine wl_s (pc' := 94) ji_208_93 rfl rfl rfl ?_
              refine wl_bp ji_208_94 rfl ?_
              obtain ⟨cshz, hcshz⟩ := rp_c V
              refine wl_vc (d := d + 4 + 1) (as := [.ref 138, wp_i 7]) (rest := []) ji_208_96 jc_208_183 rfl hcshz jk_202.symm (Nat.le_of_ble_eq_true rfl) rfl (by rw [jn_202]; rfl) (wr_st (d := d + 4) (r := 7) hx0 (by omega) nn u _ (wr + 1) _ _ e V (by omega)) (fun v1 hz R => ?_)
              obtain ⟨rfl, wrhz, tshz, hwrhz, V⟩ := R
              have hslhz := stl_len (r := 7) u
              have hsnhz := stn_r (r := 7) u
              show wl_R _ _ 208 99 [some (.ref 138), some (wp_i x)] [] hz _
              refine wl_s (pc' := 100) ji_208_99 rfl rfl rfl ?_
              exact wl_ri ji_208_100 jr_208 rfl (Or.inr ⟨by omega, Or.inr ⟨fun z => (by omega), Or.inl ⟨by omega, rfl, k2, v2, q', r', t', n', wrhz, w', tshz, ⟨tk2, tr2, hb, hw1⟩, by omega, V⟩⟩⟩)
            · refine wl_s (pc' := 74) ji_208_73 rfl rfl rfl ?_
              refine rp_g10 V ji_208_74 jf_208_102 ?_
              refine wl_goto (t := 81) ji_208_77 rfl ?_
              obtain ⟨cs5, hcs5⟩ := rp_c V
              refine wl_vc (d := d + 5) (as := [.ref 138, wp_i 1, wp_i n]) (rest := []) ji_208_81 jc_208_153 rfl hcs5 jk_203.symm (Nat.le_of_ble_eq_true rfl) rfl (by rw [jn_203]; rfl) (wr_em V hx0 (by omega)) (fun v1 h1 R => ?_)
              obtain ⟨rfl, ts5, V⟩ := R
              show wl_R _ _ 208 84 [some (.ref 138), some (wp_i x)] [] h1 _
              refine wl_s (pc' := 85) ji_208_84 rfl rfl rfl ?_
              obtain ⟨cs, hcs⟩ := rp_c V
              refine wl_vc (d := d + 5) (as := [.ref 138]) (rest := []) ji_208_85 jc_208_171 rfl hcs jk_178.symm (Nat.le_of_ble_eq_true rfl) rfl (by rw [jn_178]; rfl) (wr_nt (d := d + 4) V D hL hp hw0) (fun v1 h1 R => ?_)
              obtain ⟨rfl, k2, v2, q', r', t', n', w', tk2, tr2, hb, hw1, V⟩ := R
              show wl_R _ _ 208 88 [some (.ref 138), some (wp_i x)] [] h1 _
              refine wl_s (pc' := 89) ji_208_88 rfl rfl rfl ?_
              refine wl_s (pc' := 90) ji_208_89 rfl rfl rfl ?_
              refine rp_p19 (y := 1) (by omega) V ji_208_90 jf_208_180 (fun h V => ?_)
              refine wl_s (pc' := 94) ji_208_93 rfl rfl rfl ?_
              refine wl_bp ji_208_94 rfl ?_
              obtain ⟨cshz, hcshz⟩ := rp_c V
              refine wl_vc (d := d + 4 + 1) (as := [.ref 138, wp_i 7]) (rest := []) ji_208_96 jc_208_183 rfl hcshz jk_202.symm (Nat.le_of_ble_eq_true rfl) rfl (by rw [jn_202]; rfl) (wr_st (d := d + 4) (r := 7) hx0 (by omega) nn u _ (wr + 1) _ _ e V (by omega)) (fun v1 hz R => ?_)
              obtain ⟨rfl, wrhz, tshz, hwrhz, V⟩ := R
              have hslhz := stl_len (r := 7) u
              have hsnhz := stn_r (r := 7) u
              show wl_R _ _ 208 99 [some (.ref 138), some (wp_i x)] [] hz _
              refine wl_s (pc' := 100) ji_208_99 rfl rfl rfl ?_
              exact wl_ri ji_208_100 jr_208 rfl (Or.inr ⟨by omega, Or.inr ⟨fun z => (by omega), Or.inl ⟨by omega, rfl, k2, v2, q', r', t', n', wrhz, w', tshz, ⟨tk2, tr2, hb, hw1⟩, by omega, V⟩⟩⟩)
          · refine wl_s (pc' := 61) ji_208_60 rfl rfl rfl ?_
            refine wl_goto (t := 65) ji_208_61 rfl ?_
            refine wl_s (pc' := 66) ji_208_65 rfl rfl rfl ?_
            refine rp_g9 V ji_208_66 jf_208_95 ?_
            refine wl_s (pc' := 70) ji_208_69 rfl rfl rfl ?_
            refine wl_icmp (t := 80) ji_208_70 rfl (by omega) (by omega) (fun (hb14 : ¬ (t : Int) = 1) => ?_) (fun (hb14 : ¬ (¬ (t : Int) = 1)) => ?_)
            · refine wl_s (pc' := 81) ji_208_80 rfl rfl rfl ?_
              obtain ⟨cs5, hcs5⟩ := rp_c V
              refine wl_vc (d := d + 5) (as := [.ref 138, wp_i 0, wp_i x]) (rest := []) ji_208_81 jc_208_153 rfl hcs5 jk_203.symm (Nat.le_of_ble_eq_true rfl) rfl (by rw [jn_203]; rfl) (wr_em V hx0 (by omega)) (fun v1 h1 R => ?_)
              obtain ⟨rfl, ts5, V⟩ := R
              show wl_R _ _ 208 84 [some (.ref 138), some (wp_i x)] [] h1 _
              refine wl_s (pc' := 85) ji_208_84 rfl rfl rfl ?_
              obtain ⟨cs, hcs⟩ := rp_c V
              refine wl_vc (d := d + 5) (as := [.ref 138]) (rest := []) ji_208_85 jc_208_171 rfl hcs jk_178.symm (Nat.le_of_ble_eq_true rfl) rfl (by rw [jn_178]; rfl) (wr_nt (d := d + 4) V D hL hp hw0) (fun v1 h1 R => ?_)
              obtain ⟨rfl, k2, v2, q', r', t', n', w', tk2, tr2, hb, hw1, V⟩ := R
              show wl_R _ _ 208 88 [some (.ref 138), some (wp_i x)] [] h1 _
              refine wl_s (pc' := 89) ji_208_88 rfl rfl rfl ?_
              refine wl_s (pc' := 90) ji_208_89 rfl rfl rfl ?_
              refine rp_p19 (y := 1) (by omega) V ji_208_90 jf_208_180 (fun h V => ?_)
              refine wl_s (pc' := 94) ji_208_93 rfl rfl rfl ?_
              refine wl_bp ji_208_94 rfl ?_
              obtain ⟨cshz, hcshz⟩ := rp_c V
              refine wl_vc (d := d + 4 + 1) (as := [.ref 138, wp_i 7]) (rest := []) ji_208_96 jc_208_183 rfl hcshz jk_202.symm (Nat.le_of_ble_eq_true rfl) rfl (by rw [jn_202]; rfl) (wr_st (d := d + 4) (r := 7) hx0 (by omega) nn u _ (wr + 1) _ _ e V (by omega)) (fun v1 hz R => ?_)
              obtain ⟨rfl, wrhz, tshz, hwrhz, V⟩ := R
              have hslhz := stl_len (r := 7) u
              have hsnhz := stn_r (r := 7) u
              show wl_R _ _ 208 99 [some (.ref 138), some (wp_i x)] [] hz _
              refine wl_s (pc' := 100) ji_208_99 rfl rfl rfl ?_
              exact wl_ri ji_208_100 jr_208 rfl (Or.inr ⟨by omega, Or.inr ⟨fun z => (by omega), Or.inl ⟨by omega, rfl, k2, v2, q', r', t', n', wrhz, w', tshz, ⟨tk2, tr2, hb, hw1⟩, by omega, V⟩⟩⟩)
            · refine wl_s (pc' := 74) ji_208_73 rfl rfl rfl ?_
              refine rp_g10 V ji_208_74 jf_208_102 ?_
              refine wl_goto (t := 81) ji_208_77 rfl ?_
              obtain ⟨cs5, hcs5⟩ := rp_c V
              refine wl_vc (d := d + 5) (as := [.ref 138, wp_i 0, wp_i n]) (rest := []) ji_208_81 jc_208_153 rfl hcs5 jk_203.symm (Nat.le_of_ble_eq_true rfl) rfl (by rw [jn_203]; rfl) (wr_em V hx0 (by omega)) (fun v1 h1 R => ?_)
              obtain ⟨rfl, ts5, V⟩ := R
              show wl_R _ _ 208 84 [some (.ref 138), some (wp_i x)] [] h1 _
              refine wl_s (pc' := 85) ji_208_84 rfl rfl rfl ?_
              obtain ⟨cs, hcs⟩ := rp_c V
              refine wl_vc (d := d + 5) (as := [.ref 138]) (rest := []) ji_208_85 jc_208_171 rfl hcs jk_178.symm (Nat.le_of_ble_eq_true rfl) rfl (by rw [jn_178]; rfl) (wr_nt (d := d + 4) V D hL hp hw0) (fun v1 h1 R => ?_)
              obtain ⟨rfl, k2, v2, q', r', t', n', w', tk2, tr2, hb, hw1, V⟩ := R
              show wl_R _ _ 208 88 [some (.ref 138), some (wp_i x)] [] h1 _
              refine wl_s (pc' := 89) ji_208_88 rfl rfl rfl ?_
              refine wl_s (pc' := 90) ji_208_89 rfl rfl rfl ?_
              refine rp_p19 (y := 1) (by omega) V ji_208_90 jf_208_180 (fun h V => ?_)
              refine wl_s (pc' := 94) ji_208_93 rfl rfl rfl ?_
              refine wl_bp ji_208_94 rfl ?_
              obtain ⟨cshz, hcshz⟩ := rp_c V
              refine wl_vc (d := d + 4 + 1) (as := [.ref 138, wp_i 7]) (rest := []) ji_208_96 jc_208_183 rfl hcshz jk_202.symm (Nat.le_of_ble_eq_true rfl) rfl (by rw [jn_202]; rfl) (wr_st (d := d + 4) (r := 7) hx0 (by omega) nn u _ (wr + 1) _ _ e V (by omega)) (fun v1 hz R => ?_)
              obtain ⟨rfl, wrhz, tshz, hwrhz, V⟩ := R
              have hslhz := stl_len (r := 7) u
              have hsnhz := stn_r (r := 7) u
              show wl_R _ _ 208 99 [some (.ref 138), some (wp_i x)] [] hz _
              refine wl_s (pc' := 100) ji_208_99 rfl rfl rfl ?_
              exact wl_ri ji_208_100 jr_208 rfl (Or.inr ⟨by omega, Or.inr ⟨fun z => (by omega), Or.inl ⟨by omega, rfl, k2, v2, q', r', t', n', wrhz, w', tshz, ⟨tk2, tr2, hb, hw1⟩, by omega, V⟩⟩⟩)
    · refine wl_s (pc' := 30) ji_208_29 rfl rfl rfl ?_
      refine wl_s (pc' := 31) ji_208_30 rfl rfl rfl ?_
      obtain ⟨cs7, hcs7⟩ := rp_c V
      refine wl_vc (d := d + 5) (as := [.ref 138, wp_i x]) (rest := []) ji_208_31 jc_208_177 rfl hcs7 jk_210.symm (Nat.le_of_ble_eq_true rfl) rfl (by rw [jn_210]; rfl) (wr_of (x := x) V (by omega) hso) (fun v1 h1 R => ?_)
      obtain ⟨ee, y, rfl, hya, hyb⟩ := R
      subst ee
      have hyo : y = 1 ↔ ofc so x := hyb
      clear hyb
      show wl_R _ _ 208 34 [some (.ref 138), some (wp_i x)] [wp_i y] h1 _
      refine wl_if (t := 39) ji_208_34 rfl (by omega) (fun (hb15 : ¬ (y : Int) = 0) => ?_) (fun (hb15 : ¬ (¬ (y : Int) = 0)) => ?_)
      · refine wl_s (pc' := 40) ji_208_39 rfl rfl rfl ?_
        refine rp_g9 V ji_208_40 jf_208_95 ?_
        refine wl_s (pc' := 44) ji_208_43 rfl rfl rfl ?_
        refine wl_icmp (t := 51) ji_208_44 rfl (by omega) (by omega) (fun (hb16 : (t : Int) = 1) => ?_) (fun (hb16 : ¬ ((t : Int) = 1)) => ?_)
        · refine wl_s (pc' := 52) ji_208_51 rfl rfl rfl ?_
          refine wl_s (pc' := 53) ji_208_52 rfl rfl rfl ?_
          refine rp_g9 V ji_208_53 jf_208_95 ?_
          refine wl_s (pc' := 57) ji_208_56 rfl rfl rfl ?_
          refine wl_icmp (t := 64) ji_208_57 rfl (by omega) (by omega) (fun (hb17 : ¬ (t : Int) = 1) => ?_) (fun (hb17 : ¬ (¬ (t : Int) = 1)) => ?_)
          · refine wl_s (pc' := 65) ji_208_64 rfl rfl rfl ?_
            refine wl_s (pc' := 66) ji_208_65 rfl rfl rfl ?_
            refine rp_g9 V ji_208_66 jf_208_95 ?_
            refine wl_s (pc' := 70) ji_208_69 rfl rfl rfl ?_
            refine wl_icmp (t := 80) ji_208_70 rfl (by omega) (by omega) (fun (hb18 : ¬ (t : Int) = 1) => ?_) (fun (hb18 : ¬ (¬ (t : Int) = 1)) => ?_)
            · refine wl_s (pc' := 81) ji_208_80 rfl rfl rfl ?_
              obtain ⟨cs5, hcs5⟩ := rp_c V
              refine wl_vc (d := d + 5) (as := [.ref 138, wp_i 1, wp_i x]) (rest := []) ji_208_81 jc_208_153 rfl hcs5 jk_203.symm (Nat.le_of_ble_eq_true rfl) rfl (by rw [jn_203]; rfl) (wr_em V hx0 (by omega)) (fun v1 h1 R => ?_)
              obtain ⟨rfl, ts5, V⟩ := R
              show wl_R _ _ 208 84 [some (.ref 138), some (wp_i x)] [] h1 _
              refine wl_s (pc' := 85) ji_208_84 rfl rfl rfl ?_
              obtain ⟨cs, hcs⟩ := rp_c V
              refine wl_vc (d := d + 5) (as := [.ref 138]) (rest := []) ji_208_85 jc_208_171 rfl hcs jk_178.symm (Nat.le_of_ble_eq_true rfl) rfl (by rw [jn_178]; rfl) (wr_nt (d := d + 4) V D hL hp hw0) (fun v1 h1 R => ?_)
              obtain ⟨rfl, k2, v2, q', r', t', n', w', tk2, tr2, hb, hw1, V⟩ := R
              show wl_R _ _ 208 88 [some (.ref 138), some (wp_i x)] [] h1 _
              refine wl_s (pc' := 89) ji_208_88 rfl rfl rfl ?_
              refine wl_s (pc' := 90) ji_208_89 rfl rfl rfl ?_
              refine rp_p19 (y := 1) (by omega) V ji_208_90 jf_208_180 (fun h V => ?_)
              refine wl_s (pc' := 94) ji_208_93 rfl rfl rfl ?_
              refine wl_bp ji_208_94 rfl ?_
              obtain ⟨cshz, hcshz⟩ := rp_c V
              refine wl_vc (d := d + 4 + 1) (as := [.ref 138, wp_i 7]) (rest := []) ji_208_96 jc_208_183 rfl hcshz jk_202.symm (Nat.le_of_ble_eq_true rfl) rfl (by rw [jn_202]; rfl) (wr_st (d := d + 4) (r := 7) hx0 (by omega) nn u _ (wr + 1) _ _ e V (by omega)) (fun v1 hz R => ?_)
              obtain ⟨rfl, wrhz, tshz, hwrhz, V⟩ := R
              have hslhz := stl_len (r := 7) u
              have hsnhz := stn_r (r := 7) u
              show wl_R _ _ 208 99 [some (.ref 138), some (wp_i x)] [] hz _
              refine wl_s (pc' := 100) ji_208_99 rfl rfl rfl ?_
              exact wl_ri ji_208_100 jr_208 rfl (Or.inr ⟨by omega, Or.inr ⟨fun z => z.2 (hyo.mp (by omega)), Or.inl ⟨by omega, rfl, k2, v2, q', r', t', n', wrhz, w', tshz, ⟨tk2, tr2, hb, hw1⟩, by omega, V⟩⟩⟩)
            · refine wl_s (pc' := 74) ji_208_73 rfl rfl rfl ?_
              refine rp_g10 V ji_208_74 jf_208_102 ?_
              refine wl_goto (t := 81) ji_208_77 rfl ?_
              obtain ⟨cs5, hcs5⟩ := rp_c V
              refine wl_vc (d := d + 5) (as := [.ref 138, wp_i 1, wp_i n]) (rest := []) ji_208_81 jc_208_153 rfl hcs5 jk_203.symm (Nat.le_of_ble_eq_true rfl) rfl (by rw [jn_203]; rfl) (wr_em V hx0 (by omega)) (fun v1 h1 R => ?_)
              obtain ⟨rfl, ts5, V⟩ := R
              show wl_R _ _ 208 84 [some (.ref 138), some (wp_i x)] [] h1 _
              refine wl_s (pc' := 85) ji_208_84 rfl rfl rfl ?_
              obtain ⟨cs, hcs⟩ := rp_c V
              refine wl_vc (d := d + 5) (as := [.ref 138]) (rest := []) ji_208_85 jc_208_171 rfl hcs jk_178.symm (Nat.le_of_ble_eq_true rfl) rfl (by rw [jn_178]; rfl) (wr_nt (d := d + 4) V D hL hp hw0) (fun v1 h1 R => ?_)
              obtain ⟨rfl, k2, v2, q', r', t', n', w', tk2, tr2, hb, hw1, V⟩ := R
              show wl_R _ _ 208 88 [some (.ref 138), some (wp_i x)] [] h1 _
              refine wl_s (pc' := 89) ji_208_88 rfl rfl rfl ?_
              refine wl_s (pc' := 90) ji_208_89 rfl rfl rfl ?_
              refine rp_p19 (y := 1) (by omega) V ji_208_90 jf_208_180 (fun h V => ?_)
              refine wl_s (pc' := 94) ji_208_93 rfl rfl rfl ?_
              refine wl_bp ji_208_94 rfl ?_
              obtain ⟨cshz, hcshz⟩ := rp_c V
              refine wl_vc (d := d + 4 + 1) (as := [.ref 138, wp_i 7]) (rest := []) ji_208_96 jc_208_183 rfl hcshz jk_202.symm (Nat.le_of_ble_eq_true rfl) rfl (by rw [jn_202]; rfl) (wr_st (d := d + 4) (r := 7) hx0 (by omega) nn u _ (wr + 1) _ _ e V (by omega)) (fun v1 hz R => ?_)
              obtain ⟨rfl, wrhz, tshz, hwrhz, V⟩ := R
              have hslhz := stl_len (r := 7) u
              have hsnhz := stn_r (r := 7) u
              show wl_R _ _ 208 99 [some (.ref 138), some (wp_i x)] [] hz _
              refine wl_s (pc' := 100) ji_208_99 rfl rfl rfl ?_
              exact wl_ri ji_208_100 jr_208 rfl (Or.inr ⟨by omega, Or.inr ⟨fun z => z.2 (hyo.mp (by omega)), Or.inl ⟨by omega, rfl, k2, v2, q', r', t', n', wrhz, w', tshz, ⟨tk2, tr2, hb, hw1⟩, by omega, V⟩⟩⟩)
          · refine wl_s (pc' := 61) ji_208_60 rfl rfl rfl ?_
            refine wl_goto (t := 65) ji_208_61 rfl ?_
            refine wl_s (pc' := 66) ji_208_65 rfl rfl rfl ?_
            refine rp_g9 V ji_208_66 jf_208_95 ?_
            refine wl_s (pc' := 70) ji_208_69 rfl rfl rfl ?_
            refine wl_icmp (t := 80) ji_208_70 rfl (by omega) (by omega) (fun (hb19 : ¬ (t : Int) = 1) => ?_) (fun (hb19 : ¬ (¬ (t : Int) = 1)) => ?_)
            · refine wl_s (pc' := 81) ji_208_80 rfl rfl rfl ?_
              obtain ⟨cs5, hcs5⟩ := rp_c V
              refine wl_vc (d := d + 5) (as := [.ref 138, wp_i 0, wp_i x]) (rest := []) ji_208_81 jc_208_153 rfl hcs5 jk_203.symm (Nat.le_of_ble_eq_true rfl) rfl (by rw [jn_203]; rfl) (wr_em V hx0 (by omega)) (fun v1 h1 R => ?_)
              obtain ⟨rfl, ts5, V⟩ := R
              show wl_R _ _ 208 84 [some (.ref 138), some (wp_i x)] [] h1 _
              refine wl_s (pc' := 85) ji_208_84 rfl rfl rfl ?_
              obtain ⟨cs, hcs⟩ := rp_c V
              refine wl_vc (d := d + 5) (as := [.ref 138]) (rest := []) ji_208_85 jc_208_171 rfl hcs jk_178.symm (Nat.le_of_ble_eq_true rfl) rfl (by rw [jn_178]; rfl) (wr_nt (d := d + 4) V D hL hp hw0) (fun v1 h1 R => ?_)
              obtain ⟨rfl, k2, v2, q', r', t', n', w', tk2, tr2, hb, hw1, V⟩ := R
              show wl_R _ _ 208 88 [some (.ref 138), some (wp_i x)] [] h1 _
              refine wl_s (pc' := 89) ji_208_88 rfl rfl rfl ?_
              refine wl_s (pc' := 90) ji_208_89 rfl rfl rfl ?_
              refine rp_p19 (y := 1) (by omega) V ji_208_90 jf_208_180 (fun h V => ?_)
              refine wl_s (pc' := 94) ji_208_93 rfl rfl rfl ?_
              refine wl_bp ji_208_94 rfl ?_
              obtain ⟨cshz, hcshz⟩ := rp_c V
              refine wl_vc (d := d + 4 + 1) (as := [.ref 138, wp_i 7]) (rest := []) ji_208_96 jc_208_183 rfl hcshz jk_202.symm (Nat.le_of_ble_eq_true rfl) rfl (by rw [jn_202]; rfl) (wr_st (d := d + 4) (r := 7) hx0 (by omega) nn u _ (wr + 1) _ _ e V (by omega)) (fun v1 hz R => ?_)
              obtain ⟨rfl, wrhz, tshz, hwrhz, V⟩ := R
              have hslhz := stl_len (r := 7) u
              have hsnhz := stn_r (r := 7) u
              show wl_R _ _ 208 99 [some (.ref 138), some (wp_i x)] [] hz _
              refine wl_s (pc' := 100) ji_208_99 rfl rfl rfl ?_
              exact wl_ri ji_208_100 jr_208 rfl (Or.inr ⟨by omega, Or.inr ⟨fun z => z.2 (hyo.mp (by omega)), Or.inl ⟨by omega, rfl, k2, v2, q', r', t', n', wrhz, w', tshz, ⟨tk2, tr2, hb, hw1⟩, by omega, V⟩⟩⟩)
            · refine wl_s (pc' := 74) ji_208_73 rfl rfl rfl ?_
              refine rp_g10 V ji_208_74 jf_208_102 ?_
              refine wl_goto (t := 81) ji_208_77 rfl ?_
              obtain ⟨cs5, hcs5⟩ := rp_c V
              refine wl_vc (d := d + 5) (as := [.ref 138, wp_i 0, wp_i n]) (rest := []) ji_208_81 jc_208_153 rfl hcs5 jk_203.symm (Nat.le_of_ble_eq_true rfl) rfl (by rw [jn_203]; rfl) (wr_em V hx0 (by omega)) (fun v1 h1 R => ?_)
              obtain ⟨rfl, ts5, V⟩ := R
              show wl_R _ _ 208 84 [some (.ref 138), some (wp_i x)] [] h1 _
              refine wl_s (pc' := 85) ji_208_84 rfl rfl rfl ?_
              obtain ⟨cs, hcs⟩ := rp_c V
              refine wl_vc (d := d + 5) (as := [.ref 138]) (rest := []) ji_208_85 jc_208_171 rfl hcs jk_178.symm (Nat.le_of_ble_eq_true rfl) rfl (by rw [jn_178]; rfl) (wr_nt (d := d + 4) V D hL hp hw0) (fun v1 h1 R => ?_)
              obtain ⟨rfl, k2, v2, q', r', t', n', w', tk2, tr2, hb, hw1, V⟩ := R
              show wl_R _ _ 208 88 [some (.ref 138), some (wp_i x)] [] h1 _
              refine wl_s (pc' := 89) ji_208_88 rfl rfl rfl ?_
              refine wl_s (pc' := 90) ji_208_89 rfl rfl rfl ?_
              refine rp_p19 (y := 1) (by omega) V ji_208_90 jf_208_180 (fun h V => ?_)
              refine wl_s (pc' := 94) ji_208_93 rfl rfl rfl ?_
              refine wl_bp ji_208_94 rfl ?_
              obtain ⟨cshz, hcshz⟩ := rp_c V
              refine wl_vc (d := d + 4 + 1) (as := [.ref 138, wp_i 7]) (rest := []) ji_208_96 jc_208_183 rfl hcshz jk_202.symm (Nat.le_of_ble_eq_true rfl) rfl (by rw [jn_202]; rfl) (wr_st (d := d + 4) (r := 7) hx0 (by omega) nn u _ (wr + 1) _ _ e V (by omega)) (fun v1 hz R => ?_)
              obtain ⟨rfl, wrhz, tshz, hwrhz, V⟩ := R
              have hslhz := stl_len (r := 7) u
              have hsnhz := stn_r (r := 7) u
              show wl_R _ _ 208 99 [some (.ref 138), some (wp_i x)] [] hz _
              refine wl_s (pc' := 100) ji_208_99 rfl rfl rfl ?_
              exact wl_ri ji_208_100 jr_208 rfl (Or.inr ⟨by omega, Or.inr ⟨fun z => z.2 (hyo.mp (by omega)), Or.inl ⟨by omega, rfl, k2, v2, q', r', t', n', wrhz, w', tshz, ⟨tk2, tr2, hb, hw1⟩, by omega, V⟩⟩⟩)
        · refine wl_s (pc' := 48) ji_208_47 rfl rfl rfl ?_
          refine wl_if (t := 101) ji_208_48 rfl (by omega) (fun (hb20 : (x : Int) < 0) => ?_) (fun (hb20 : ¬ ((x : Int) < 0)) => ?_)
          · refine wl_s (pc' := 102) ji_208_101 rfl rfl rfl ?_
            refine rp_g9 V ji_208_102 jf_208_95 ?_
            refine wl_bp ji_208_105 rfl ?_
            refine wl_icmp (t := 117) ji_208_107 rfl (by omega) (by omega) (fun (hb21 : ¬ (t : Int) = 40) => ?_) (fun (hb21 : ¬ (¬ (t : Int) = 40)) => ?_)
            · refine wl_s (pc' := 118) ji_208_117 rfl rfl rfl ?_
              refine rp_g9 V ji_208_118 jf_208_95 ?_
              refine wl_bp ji_208_121 rfl ?_
              refine wl_icmp (t := 132) ji_208_123 rfl (by omega) (by omega) (fun (hb22 : ¬ (t : Int) = 45) => ?_) (fun (hb22 : ¬ (¬ (t : Int) = 45)) => ?_)
              · refine wl_s (pc' := 133) ji_208_132 rfl rfl rfl ?_
                refine wl_bp ji_208_133 rfl ?_
                refine wl_bp ji_208_135 rfl ?_
                refine wl_bp ji_208_137 rfl ?_
                refine wl_sc (d := d + 5) (as := [wp_i 110, wp_i 111, wp_i 116]) (rest := [.ref 138]) ji_208_139 jc_208_122 (Nat.le_of_ble_eq_true rfl) rfl (Nat.le_of_ble_eq_true rfl) rfl (by rw [jn_188]; rfl) (wr_w3 (d := d + 4) (by decide) (by decide) (by decide)) (fun v1 h1 R => ?_)
                obtain ⟨ee, rfl⟩ := R
                subst ee
                show wl_R _ _ 208 142 [some (.ref 138), some (wp_i x)] [.long (Int64.ofNat (wd [110, 111, 116])), .ref 138] h1 _
                obtain ⟨cs8, hcs8⟩ := rp_c V
                refine wl_vc (d := d + 5) (as := [.ref 138, .long (Int64.ofNat (wd [110, 111, 116]))]) (rest := []) ji_208_142 jc_208_189 rfl hcs8 jk_190.symm (Nat.le_of_ble_eq_true rfl) rfl (by rw [jn_190]; rfl) (wr_iw (W := wd [110, 111, 116]) V hw0 (by decide +kernel) htr) (fun v1 h1 R => ?_)
                obtain ⟨ee, z, rfl, hza, hzb⟩ := R
                subst ee
                rw [kw T (j := 15) (K := [110, 111, 116]) rfl] at hzb
                show wl_R _ _ 208 145 [some (.ref 138), some (wp_i x)] [wp_i z] h1 _
                refine wl_if (t := 164) ji_208_145 rfl (by omega) (fun (hb23 : (z : Int) = 0) => ?_) (fun (hb23 : ¬ ((z : Int) = 0)) => ?_)
                · refine wl_s (pc' := 165) ji_208_164 rfl rfl rfl ?_
                  exact wl_ri ji_208_165 jr_208 rfl (Or.inr ⟨by omega, Or.inr ⟨fun z => z.2 (hyo.mp (by omega)), Or.inr ⟨by omega, Or.inr (Or.inr (Or.inr ⟨⟨by omega, by omega, fun z => by have := hzb.mpr z.1; omega⟩, rfl, rfl⟩))⟩⟩⟩)
                · refine wl_s (pc' := 149) ji_208_148 rfl rfl rfl ?_
                  obtain ⟨cs, hcs⟩ := rp_c V
                  refine wl_vc (d := d + 5) (as := [.ref 138]) (rest := []) ji_208_149 jc_208_193 rfl hcs jk_211.symm (Nat.le_of_ble_eq_true rfl) rfl (by rw [jn_211]; rfl) (wr_aa (d := d + 3) V e (by omega) rfl hei) (fun v1 h1 R => ?_)
                  obtain ⟨ee, a, rfl, haa, hab⟩ := R
                  subst ee
                  show wl_R _ _ 208 152 [some (.ref 138), some (wp_i x)] [wp_i a] h1 _
                  refine wl_if (t := 164) ji_208_152 rfl (by omega) (fun (hb24 : (a : Int) = 0) => ?_) (fun (hb24 : ¬ ((a : Int) = 0)) => ?_)
                  · refine wl_s (pc' := 165) ji_208_164 rfl rfl rfl ?_
                    exact wl_ri ji_208_165 jr_208 rfl (Or.inr ⟨by omega, Or.inr ⟨fun z => z.2 (hyo.mp (by omega)), Or.inr ⟨by omega, Or.inr (Or.inr (Or.inr ⟨⟨by omega, by omega, fun z => by have := hab.mpr z.2; omega⟩, rfl, rfl⟩))⟩⟩⟩)
                  · refine wl_s (pc' := 156) ji_208_155 rfl rfl rfl ?_
                    refine wl_bp ji_208_156 rfl ?_
                    obtain ⟨cs9, hcs9⟩ := rp_c V
                    have g1 : ¬ (k = 1 ∧ 9999 < v) := by omega
                    have g2 : ¬ (0 ≤ x ∧ ¬ ofc so x) := fun z => z.2 (hyo.mp (by omega))
                    have g3 : ¬ (k = 1 ∨ 0 ≤ x) := by omega
                    have g4 := hzb.mp (by omega)
                    have g5 := hab.mp (by omega)
                    refine wl_vc (d := d + 5) (as := [.ref 138, wp_i 20]) (rest := []) ji_208_158 jc_208_186 rfl hcs9 jk_205.symm (Nat.le_of_ble_eq_true rfl) rfl (by rw [jn_205]; rfl) (wr_op (d := d + 3) (c := 20) V (u := u) e (by omega) rfl (by omega) D hL hp hw0 (by decide)) (fun v1 h9 R => ?_)
                    obtain ⟨y9, hy9⟩ : ∃ y9 : Int, v1 = some (wp_i y9) := by rcases R with ⟨-, -, x⟩ | ⟨-, x, -⟩ <;> exact ⟨_, x⟩
                    subst hy9
                    show wl_R _ _ 208 161 [some (.ref 138), some (wp_i x)] [wp_i y9] h9 _
                    refine wl_goto (t := 165) ji_208_161 rfl ?_
                    exact wl_ri ji_208_165 jr_208 rfl (Or.inr ⟨g1, Or.inr ⟨g2, Or.inr ⟨g3, Or.inr (Or.inr (Or.inl ⟨g4, g5, R⟩))⟩⟩⟩)
              · refine wl_s (pc' := 127) ji_208_126 rfl rfl rfl ?_
                refine wl_s (pc' := 128) ji_208_127 rfl rfl rfl ?_
                obtain ⟨cs9, hcs9⟩ := rp_c V
                have g1 : ¬ (k = 1 ∧ 9999 < v) := by omega
                have g2 : ¬ (0 ≤ x ∧ ¬ ofc so x) := fun z => z.2 (hyo.mp (by omega))
                have g3 : ¬ (k = 1 ∨ 0 ≤ x) := by omega
                have g4 : k = 2 ∧ v = 45 := by omega
                refine wl_vc (d := d + 5) (as := [.ref 138, wp_i 3]) (rest := []) ji_208_128 jc_208_186 rfl hcs9 jk_205.symm (Nat.le_of_ble_eq_true rfl) rfl (by rw [jn_205]; rfl) (wr_op (d := d + 3) (c := 3) V (u := u) e (by omega) rfl (by omega) D hL hp hw0 (by decide)) (fun v1 h9 R => ?_)
                obtain ⟨y9, hy9⟩ : ∃ y9 : Int, v1 = some (wp_i y9) := by rcases R with ⟨-, -, x⟩ | ⟨-, x, -⟩ <;> exact ⟨_, x⟩
                subst hy9
                show wl_R _ _ 208 131 [some (.ref 138), some (wp_i x)] [wp_i y9] h9 _
                exact wl_ri ji_208_131 jr_208 rfl (Or.inr ⟨g1, Or.inr ⟨g2, Or.inr ⟨g3, Or.inr (Or.inl ⟨g4, R⟩)⟩⟩⟩)
            · refine wl_s (pc' := 111) ji_208_110 rfl rfl rfl ?_
              refine wl_bp ji_208_111 rfl ?_
              obtain ⟨cs9, hcs9⟩ := rp_c V
              have g1 : ¬ (k = 1 ∧ 9999 < v) := by omega
              have g2 : ¬ (0 ≤ x ∧ ¬ ofc so x) := fun z => z.2 (hyo.mp (by omega))
              have g3 : ¬ (k = 1 ∨ 0 ≤ x) := by omega
              have g4 : k = 2 ∧ v = 40 := by omega
              refine wl_vc (d := d + 5) (as := [.ref 138, wp_i 40]) (rest := []) ji_208_113 jc_208_186 rfl hcs9 jk_205.symm (Nat.le_of_ble_eq_true rfl) rfl (by rw [jn_205]; rfl) (wr_op (d := d + 3) (c := 40) V (u := u) e (by omega) rfl (by omega) D hL hp hw0 (by decide)) (fun v1 h9 R => ?_)
              obtain ⟨y9, hy9⟩ : ∃ y9 : Int, v1 = some (wp_i y9) := by rcases R with ⟨-, -, x⟩ | ⟨-, x, -⟩ <;> exact ⟨_, x⟩
              subst hy9
              show wl_R _ _ 208 116 [some (.ref 138), some (wp_i x)] [wp_i y9] h9 _
              exact wl_ri ji_208_116 jr_208 rfl (Or.inr ⟨g1, Or.inr ⟨g2, Or.inr ⟨g3, Or.inl ⟨g4, R⟩⟩⟩⟩)
          · refine wl_s (pc' := 52) ji_208_51 rfl rfl rfl ?_
            refine wl_s (pc' := 53) ji_208_52 rfl rfl rfl ?_
            refine rp_g9 V ji_208_53 jf_208_95 ?_
            refine wl_s (pc' := 57) ji_208_56 rfl rfl rfl ?_
            refine wl_icmp (t := 64) ji_208_57 rfl (by omega) (by omega) (fun (hb25 : ¬ (t : Int) = 1) => ?_) (fun (hb25 : ¬ (¬ (t : Int) = 1)) => ?_)
            · refine wl_s (pc' := 65) ji_208_64 rfl rfl rfl ?_
              refine wl_s (pc' := 66) ji_208_65 rfl rfl rfl ?_
              refine rp_g9 V ji_208_66 jf_208_95 ?_
              refine wl_s (pc' := 70) ji_208_69 rfl rfl rfl ?_
              refine wl_icmp (t := 80) ji_208_70 rfl (by omega) (by omega) (fun (hb26 : ¬ (t : Int) = 1) => ?_) (fun (hb26 : ¬ (¬ (t : Int) = 1)) => ?_)
              · refine wl_s (pc' := 81) ji_208_80 rfl rfl rfl ?_
                obtain ⟨cs5, hcs5⟩ := rp_c V
                refine wl_vc (d := d + 5) (as := [.ref 138, wp_i 1, wp_i x]) (rest := []) ji_208_81 jc_208_153 rfl hcs5 jk_203.symm (Nat.le_of_ble_eq_true rfl) rfl (by rw [jn_203]; rfl) (wr_em V hx0 (by omega)) (fun v1 h1 R => ?_)
                obtain ⟨rfl, ts5, V⟩ := R
                show wl_R _ _ 208 84 [some (.ref 138), some (wp_i x)] [] h1 _
                refine wl_s (pc' := 85) ji_208_84 rfl rfl rfl ?_
                obtain ⟨cs, hcs⟩ := rp_c V
                refine wl_vc (d := d + 5) (as := [.ref 138]) (rest := []) ji_208_85 jc_208_171 rfl hcs jk_178.symm (Nat.le_of_ble_eq_true rfl) rfl (by rw [jn_178]; rfl) (wr_nt (d := d + 4) V D hL hp hw0) (fun v1 h1 R => ?_)
                obtain ⟨rfl, k2, v2, q', r', t', n', w', tk2, tr2, hb, hw1, V⟩ := R
                show wl_R _ _ 208 88 [some (.ref 138), some (wp_i x)] [] h1 _
                refine wl_s (pc' := 89) ji_208_88 rfl rfl rfl ?_
                refine wl_s (pc' := 90) ji_208_89 rfl rfl rfl ?_
                refine rp_p19 (y := 1) (by omega) V ji_208_90 jf_208_180 (fun h V => ?_)
                refine wl_s (pc' := 94) ji_208_93 rfl rfl rfl ?_
                refine wl_bp ji_208_94 rfl ?_
                obtain ⟨cshz, hcshz⟩ := rp_c V
                refine wl_vc (d := d + 4 + 1) (as := [.ref 138, wp_i 7]) (rest := []) ji_208_96 jc_208_183 rfl hcshz jk_202.symm (Nat.le_of_ble_eq_true rfl) rfl (by rw [jn_202]; rfl) (wr_st (d := d + 4) (r := 7) hx0 (by omega) nn u _ (wr + 1) _ _ e V (by omega)) (fun v1 hz R => ?_)
                obtain ⟨rfl, wrhz, tshz, hwrhz, V⟩ := R
                have hslhz := stl_len (r := 7) u
                have hsnhz := stn_r (r := 7) u
                show wl_R _ _ 208 99 [some (.ref 138), some (wp_i x)] [] hz _
                refine wl_s (pc' := 100) ji_208_99 rfl rfl rfl ?_
                exact wl_ri ji_208_100 jr_208 rfl (Or.inr ⟨by omega, Or.inr ⟨fun z => z.2 (hyo.mp (by omega)), Or.inl ⟨by omega, rfl, k2, v2, q', r', t', n', wrhz, w', tshz, ⟨tk2, tr2, hb, hw1⟩, by omega, V⟩⟩⟩)
              · refine wl_s (pc' := 74) ji_208_73 rfl rfl rfl ?_
                refine rp_g10 V ji_208_74 jf_208_102 ?_
                refine wl_goto (t := 81) ji_208_77 rfl ?_
                obtain ⟨cs5, hcs5⟩ := rp_c V
                refine wl_vc (d := d + 5) (as := [.ref 138, wp_i 1, wp_i n]) (rest := []) ji_208_81 jc_208_153 rfl hcs5 jk_203.symm (Nat.le_of_ble_eq_true rfl) rfl (by rw [jn_203]; rfl) (wr_em V hx0 (by omega)) (fun v1 h1 R => ?_)
                obtain ⟨rfl, ts5, V⟩ := R
                show wl_R _ _ 208 84 [some (.ref 138), some (wp_i x)] [] h1 _
                refine wl_s (pc' := 85) ji_208_84 rfl rfl rfl ?_
                obtain ⟨cs, hcs⟩ := rp_c V
                refine wl_vc (d := d + 5) (as := [.ref 138]) (rest := []) ji_208_85 jc_208_171 rfl hcs jk_178.symm (Nat.le_of_ble_eq_true rfl) rfl (by rw [jn_178]; rfl) (wr_nt (d := d + 4) V D hL hp hw0) (fun v1 h1 R => ?_)
                obtain ⟨rfl, k2, v2, q', r', t', n', w', tk2, tr2, hb, hw1, V⟩ := R
                show wl_R _ _ 208 88 [some (.ref 138), some (wp_i x)] [] h1 _
                refine wl_s (pc' := 89) ji_208_88 rfl rfl rfl ?_
                refine wl_s (pc' := 90) ji_208_89 rfl rfl rfl ?_
                refine rp_p19 (y := 1) (by omega) V ji_208_90 jf_208_180 (fun h V => ?_)
                refine wl_s (pc' := 94) ji_208_93 rfl rfl rfl ?_
                refine wl_bp ji_208_94 rfl ?_
                obtain ⟨cshz, hcshz⟩ := rp_c V
                refine wl_vc (d := d + 4 + 1) (as := [.ref 138, wp_i 7]) (rest := []) ji_208_96 jc_208_183 rfl hcshz jk_202.symm (Nat.le_of_ble_eq_true rfl) rfl (by rw [jn_202]; rfl) (wr_st (d := d + 4) (r := 7) hx0 (by omega) nn u _ (wr + 1) _ _ e V (by omega)) (fun v1 hz R => ?_)
                obtain ⟨rfl, wrhz, tshz, hwrhz, V⟩ := R
                have hslhz := stl_len (r := 7) u
                have hsnhz := stn_r (r := 7) u
                show wl_R _ _ 208 99 [some (.ref 138), some (wp_i x)] [] hz _
                refine wl_s (pc' := 100) ji_208_99 rfl rfl rfl ?_
                exact wl_ri ji_208_100 jr_208 rfl (Or.inr ⟨by omega, Or.inr ⟨fun z => z.2 (hyo.mp (by omega)), Or.inl ⟨by omega, rfl, k2, v2, q', r', t', n', wrhz, w', tshz, ⟨tk2, tr2, hb, hw1⟩, by omega, V⟩⟩⟩)
            · refine wl_s (pc' := 61) ji_208_60 rfl rfl rfl ?_
              refine wl_goto (t := 65) ji_208_61 rfl ?_
              refine wl_s (pc' := 66) ji_208_65 rfl rfl rfl ?_
              refine rp_g9 V ji_208_66 jf_208_95 ?_
              refine wl_s (pc' := 70) ji_208_69 rfl rfl rfl ?_
              refine wl_icmp (t := 80) ji_208_70 rfl (by omega) (by omega) (fun (hb27 : ¬ (t : Int) = 1) => ?_) (fun (hb27 : ¬ (¬ (t : Int) = 1)) => ?_)
              · refine wl_s (pc' := 81) ji_208_80 rfl rfl rfl ?_
                obtain ⟨cs5, hcs5⟩ := rp_c V
                refine wl_vc (d := d + 5) (as := [.ref 138, wp_i 0, wp_i x]) (rest := []) ji_208_81 jc_208_153 rfl hcs5 jk_203.symm (Nat.le_of_ble_eq_true rfl) rfl (by rw [jn_203]; rfl) (wr_em V hx0 (by omega)) (fun v1 h1 R => ?_)
                obtain ⟨rfl, ts5, V⟩ := R
                show wl_R _ _ 208 84 [some (.ref 138), some (wp_i x)] [] h1 _
                refine wl_s (pc' := 85) ji_208_84 rfl rfl rfl ?_
                obtain ⟨cs, hcs⟩ := rp_c V
                refine wl_vc (d := d + 5) (as := [.ref 138]) (rest := []) ji_208_85 jc_208_171 rfl hcs jk_178.symm (Nat.le_of_ble_eq_true rfl) rfl (by rw [jn_178]; rfl) (wr_nt (d := d + 4) V D hL hp hw0) (fun v1 h1 R => ?_)
                obtain ⟨rfl, k2, v2, q', r', t', n', w', tk2, tr2, hb, hw1, V⟩ := R
                show wl_R _ _ 208 88 [some (.ref 138), some (wp_i x)] [] h1 _
                refine wl_s (pc' := 89) ji_208_88 rfl rfl rfl ?_
                refine wl_s (pc' := 90) ji_208_89 rfl rfl rfl ?_
                refine rp_p19 (y := 1) (by omega) V ji_208_90 jf_208_180 (fun h V => ?_)
                refine wl_s (pc' := 94) ji_208_93 rfl rfl rfl ?_
                refine wl_bp ji_208_94 rfl ?_
                obtain ⟨cshz, hcshz⟩ := rp_c V
                refine wl_vc (d := d + 4 + 1) (as := [.ref 138, wp_i 7]) (rest := []) ji_208_96 jc_208_183 rfl hcshz jk_202.symm (Nat.le_of_ble_eq_true rfl) rfl (by rw [jn_202]; rfl) (wr_st (d := d + 4) (r := 7) hx0 (by omega) nn u _ (wr + 1) _ _ e V (by omega)) (fun v1 hz R => ?_)
                obtain ⟨rfl, wrhz, tshz, hwrhz, V⟩ := R
                have hslhz := stl_len (r := 7) u
                have hsnhz := stn_r (r := 7) u
                show wl_R _ _ 208 99 [some (.ref 138), some (wp_i x)] [] hz _
                refine wl_s (pc' := 100) ji_208_99 rfl rfl rfl ?_
                exact wl_ri ji_208_100 jr_208 rfl (Or.inr ⟨by omega, Or.inr ⟨fun z => z.2 (hyo.mp (by omega)), Or.inl ⟨by omega, rfl, k2, v2, q', r', t', n', wrhz, w', tshz, ⟨tk2, tr2, hb, hw1⟩, by omega, V⟩⟩⟩)
              · refine wl_s (pc' := 74) ji_208_73 rfl rfl rfl ?_
                refine rp_g10 V ji_208_74 jf_208_102 ?_
                refine wl_goto (t := 81) ji_208_77 rfl ?_
                obtain ⟨cs5, hcs5⟩ := rp_c V
                refine wl_vc (d := d + 5) (as := [.ref 138, wp_i 0, wp_i n]) (rest := []) ji_208_81 jc_208_153 rfl hcs5 jk_203.symm (Nat.le_of_ble_eq_true rfl) rfl (by rw [jn_203]; rfl) (wr_em V hx0 (by omega)) (fun v1 h1 R => ?_)
                obtain ⟨rfl, ts5, V⟩ := R
                show wl_R _ _ 208 84 [some (.ref 138), some (wp_i x)] [] h1 _
                refine wl_s (pc' := 85) ji_208_84 rfl rfl rfl ?_
                obtain ⟨cs, hcs⟩ := rp_c V
                refine wl_vc (d := d + 5) (as := [.ref 138]) (rest := []) ji_208_85 jc_208_171 rfl hcs jk_178.symm (Nat.le_of_ble_eq_true rfl) rfl (by rw [jn_178]; rfl) (wr_nt (d := d + 4) V D hL hp hw0) (fun v1 h1 R => ?_)
                obtain ⟨rfl, k2, v2, q', r', t', n', w', tk2, tr2, hb, hw1, V⟩ := R
                show wl_R _ _ 208 88 [some (.ref 138), some (wp_i x)] [] h1 _
                refine wl_s (pc' := 89) ji_208_88 rfl rfl rfl ?_
                refine wl_s (pc' := 90) ji_208_89 rfl rfl rfl ?_
                refine rp_p19 (y := 1) (by omega) V ji_208_90 jf_208_180 (fun h V => ?_)
                refine wl_s (pc' := 94) ji_208_93 rfl rfl rfl ?_
                refine wl_bp ji_208_94 rfl ?_
                obtain ⟨cshz, hcshz⟩ := rp_c V
                refine wl_vc (d := d + 4 + 1) (as := [.ref 138, wp_i 7]) (rest := []) ji_208_96 jc_208_183 rfl hcshz jk_202.symm (Nat.le_of_ble_eq_true rfl) rfl (by rw [jn_202]; rfl) (wr_st (d := d + 4) (r := 7) hx0 (by omega) nn u _ (wr + 1) _ _ e V (by omega)) (fun v1 hz R => ?_)
                obtain ⟨rfl, wrhz, tshz, hwrhz, V⟩ := R
                have hslhz := stl_len (r := 7) u
                have hsnhz := stn_r (r := 7) u
                show wl_R _ _ 208 99 [some (.ref 138), some (wp_i x)] [] hz _
                refine wl_s (pc' := 100) ji_208_99 rfl rfl rfl ?_
                exact wl_ri ji_208_100 jr_208 rfl (Or.inr ⟨by omega, Or.inr ⟨fun z => z.2 (hyo.mp (by omega)), Or.inl ⟨by omega, rfl, k2, v2, q', r', t', n', wrhz, w', tshz, ⟨tk2, tr2, hb, hw1⟩, by omega, V⟩⟩⟩)
      · refine wl_s (pc' := 38) ji_208_37 rfl rfl rfl ?_
        exact wl_ri ji_208_38 jr_208 rfl (Or.inr ⟨by omega, Or.inl ⟨⟨by omega, fun z => by have := hyo.mpr z; omega⟩, rfl, rfl⟩⟩)
  · refine wl_s (pc' := 9) ji_208_8 rfl rfl rfl ?_
    refine rp_g10 V ji_208_9 jf_208_102 ?_
    refine wl_sp ji_208_12 rfl ?_
    refine wl_icmp (t := 20) ji_208_15 rfl (by omega) (by omega) (fun (hb28 : (n : Int) ≤ 9999) => ?_) (fun (hb28 : ¬ ((n : Int) ≤ 9999)) => ?_)
    · refine wl_s (pc' := 21) ji_208_20 rfl rfl rfl ?_
      obtain ⟨cs, hcs⟩ := rp_c V
      refine wl_vc (d := d + 5) (as := [.ref 138]) (rest := []) ji_208_21 jc_208_174 rfl hcs jk_209.symm (Nat.le_of_ble_eq_true rfl) rfl (by rw [jn_209]; rfl) (wr_nm (d := d) V T hw0 htr) (fun v1 h1 R => ?_)
      obtain ⟨ee, rfl⟩ := R
      subst ee
      obtain ⟨x, hx⟩ : ∃ x, nmo k v = x := ⟨_, rfl⟩
      have hxr := nmo_r k v
      rw [hx] at hxr ⊢
      show wl_R _ _ 208 24 [some (.ref 138), none] [wp_i x] h1 _
      refine wl_s (pc' := 25) (lv' := [some (.ref 138), some (wp_i x)]) ji_208_24 rfl rfl rfl ?_
      refine wl_s (pc' := 26) ji_208_25 rfl rfl rfl ?_
      refine wl_if (t := 39) ji_208_26 rfl (by omega) (fun (hb29 : (x : Int) < 0) => ?_) (fun (hb29 : ¬ ((x : Int) < 0)) => ?_)
      · refine wl_s (pc' := 40) ji_208_39 rfl rfl rfl ?_
        refine rp_g9 V ji_208_40 jf_208_95 ?_
        refine wl_s (pc' := 44) ji_208_43 rfl rfl rfl ?_
        refine wl_icmp (t := 51) ji_208_44 rfl (by omega) (by omega) (fun (hb30 : (t : Int) = 1) => ?_) (fun (hb30 : ¬ ((t : Int) = 1)) => ?_)
        · refine wl_s (pc' := 52) ji_208_51 rfl rfl rfl ?_
          refine wl_s (pc' := 53) ji_208_52 rfl rfl rfl ?_
          refine rp_g9 V ji_208_53 jf_208_95 ?_
          refine wl_s (pc' := 57) ji_208_56 rfl rfl rfl ?_
          refine wl_icmp (t := 64) ji_208_57 rfl (by omega) (by omega) (fun (hb31 : ¬ (t : Int) = 1) => ?_) (fun (hb31 : ¬ (¬ (t : Int) = 1)) => ?_)
          · refine wl_s (pc' := 65) ji_208_64 rfl rfl rfl ?_
            refine wl_s (pc' := 66) ji_208_65 rfl rfl rfl ?_
            refine rp_g9 V ji_208_66 jf_208_95 ?_
            refine wl_s (pc' := 70) ji_208_69 rfl rfl rfl ?_
            refine wl_icmp (t := 80) ji_208_70 rfl (by omega) (by omega) (fun (hb32 : ¬ (t : Int) = 1) => ?_) (fun (hb32 : ¬ (¬ (t : Int) = 1)) => ?_)
            · refine wl_s (pc' := 81) ji_208_80 rfl rfl rfl ?_
              obtain ⟨cs5, hcs5⟩ := rp_c V
              refine wl_vc (d := d + 5) (as := [.ref 138, wp_i 1, wp_i x]) (rest := []) ji_208_81 jc_208_153 rfl hcs5 jk_203.symm (Nat.le_of_ble_eq_true rfl) rfl (by rw [jn_203]; rfl) (wr_em V hx0 (by omega)) (fun v1 h1 R => ?_)
              obtain ⟨rfl, ts5, V⟩ := R
              show wl_R _ _ 208 84 [some (.ref 138), some (wp_i x)] [] h1 _
              refine wl_s (pc' := 85) ji_208_84 rfl rfl rfl ?_
              obtain ⟨cs, hcs⟩ := rp_c V
              refine wl_vc (d := d + 5) (as := [.ref 138]) (rest := []) ji_208_85 jc_208_171 rfl hcs jk_178.symm (Nat.le_of_ble_eq_true rfl) rfl (by rw [jn_178]; rfl) (wr_nt (d := d + 4) V D hL hp hw0) (fun v1 h1 R => ?_)
              obtain ⟨rfl, k2, v2, q', r', t', n', w', tk2, tr2, hb, hw1, V⟩ := R
              show wl_R _ _ 208 88 [some (.ref 138), some (wp_i x)] [] h1 _
              refine wl_s (pc' := 89) ji_208_88 rfl rfl rfl ?_
              refine wl_s (pc' := 90) ji_208_89 rfl rfl rfl ?_
              refine rp_p19 (y := 1) (by omega) V ji_208_90 jf_208_180 (fun h V => ?_)
              refine wl_s (pc' := 94) ji_208_93 rfl rfl rfl ?_
              refine wl_bp ji_208_94 rfl ?_
              obtain ⟨cshz, hcshz⟩ := rp_c V
              refine wl_vc (d := d + 4 + 1) (as := [.ref 138, wp_i 7]) (rest := []) ji_208_96 jc_208_183 rfl hcshz jk_202.symm (Nat.le_of_ble_eq_true rfl) rfl (by rw [jn_202]; rfl) (wr_st (d := d + 4) (r := 7) hx0 (by omega) nn u _ (wr + 1) _ _ e V (by omega)) (fun v1 hz R => ?_)
              obtain ⟨rfl, wrhz, tshz, hwrhz, V⟩ := R
              have hslhz := stl_len (r := 7) u
              have hsnhz := stn_r (r := 7) u
              show wl_R _ _ 208 99 [some (.ref 138), some (wp_i x)] [] hz _
              refine wl_s (pc' := 100) ji_208_99 rfl rfl rfl ?_
              exact wl_ri ji_208_100 jr_208 rfl (Or.inr ⟨by omega, Or.inr ⟨fun z => (by omega), Or.inl ⟨by omega, rfl, k2, v2, q', r', t', n', wrhz, w', tshz, ⟨tk2, tr2, hb, hw1⟩, by omega, V⟩⟩⟩)
            · refine wl_s (pc' := 74) ji_208_73 rfl rfl rfl ?_
              refine rp_g10 V ji_208_74 jf_208_102 ?_
              refine wl_goto (t := 81) ji_208_77 rfl ?_
              obtain ⟨cs5, hcs5⟩ := rp_c V
              refine wl_vc (d := d + 5) (as := [.ref 138, wp_i 1, wp_i n]) (rest := []) ji_208_81 jc_208_153 rfl hcs5 jk_203.symm (Nat.le_of_ble_eq_true rfl) rfl (by rw [jn_203]; rfl) (wr_em V hx0 (by omega)) (fun v1 h1 R => ?_)
              obtain ⟨rfl, ts5, V⟩ := R
              show wl_R _ _ 208 84 [some (.ref 138), some (wp_i x)] [] h1 _
              refine wl_s (pc' := 85) ji_208_84 rfl rfl rfl ?_
              obtain ⟨cs, hcs⟩ := rp_c V
              refine wl_vc (d := d + 5) (as := [.ref 138]) (rest := []) ji_208_85 jc_208_171 rfl hcs jk_178.symm (Nat.le_of_ble_eq_true rfl) rfl (by rw [jn_178]; rfl) (wr_nt (d := d + 4) V D hL hp hw0) (fun v1 h1 R => ?_)
              obtain ⟨rfl, k2, v2, q', r', t', n', w', tk2, tr2, hb, hw1, V⟩ := R
              show wl_R _ _ 208 88 [some (.ref 138), some (wp_i x)] [] h1 _
              refine wl_s (pc' := 89) ji_208_88 rfl rfl rfl ?_
              refine wl_s (pc' := 90) ji_208_89 rfl rfl rfl ?_
              refine rp_p19 (y := 1) (by omega) V ji_208_90 jf_208_180 (fun h V => ?_)
              refine wl_s (pc' := 94) ji_208_93 rfl rfl rfl ?_
              refine wl_bp ji_208_94 rfl ?_
              obtain ⟨cshz, hcshz⟩ := rp_c V
              refine wl_vc (d := d + 4 + 1) (as := [.ref 138, wp_i 7]) (rest := []) ji_208_96 jc_208_183 rfl hcshz jk_202.symm (Nat.le_of_ble_eq_true rfl) rfl (by rw [jn_202]; rfl) (wr_st (d := d + 4) (r := 7) hx0 (by omega) nn u _ (wr + 1) _ _ e V (by omega)) (fun v1 hz R => ?_)
              obtain ⟨rfl, wrhz, tshz, hwrhz, V⟩ := R
              have hslhz := stl_len (r := 7) u
              have hsnhz := stn_r (r := 7) u
              show wl_R _ _ 208 99 [some (.ref 138), some (wp_i x)] [] hz _
              refine wl_s (pc' := 100) ji_208_99 rfl rfl rfl ?_
              exact wl_ri ji_208_100 jr_208 rfl (Or.inr ⟨by omega, Or.inr ⟨fun z => (by omega), Or.inl ⟨by omega, rfl, k2, v2, q', r', t', n', wrhz, w', tshz, ⟨tk2, tr2, hb, hw1⟩, by omega, V⟩⟩⟩)
          · refine wl_s (pc' := 61) ji_208_60 rfl rfl rfl ?_
            refine wl_goto (t := 65) ji_208_61 rfl ?_
            refine wl_s (pc' := 66) ji_208_65 rfl rfl rfl ?_
            refine rp_g9 V ji_208_66 jf_208_95 ?_
            refine wl_s (pc' := 70) ji_208_69 rfl rfl rfl ?_
            refine wl_icmp (t := 80) ji_208_70 rfl (by omega) (by omega) (fun (hb33 : ¬ (t : Int) = 1) => ?_) (fun (hb33 : ¬ (¬ (t : Int) = 1)) => ?_)
            · refine wl_s (pc' := 81) ji_208_80 rfl rfl rfl ?_
              obtain ⟨cs5, hcs5⟩ := rp_c V
              refine wl_vc (d := d + 5) (as := [.ref 138, wp_i 0, wp_i x]) (rest := []) ji_208_81 jc_208_153 rfl hcs5 jk_203.symm (Nat.le_of_ble_eq_true rfl) rfl (by rw [jn_203]; rfl) (wr_em V hx0 (by omega)) (fun v1 h1 R => ?_)
              obtain ⟨rfl, ts5, V⟩ := R
              show wl_R _ _ 208 84 [some (.ref 138), some (wp_i x)] [] h1 _
              refine wl_s (pc' := 85) ji_208_84 rfl rfl rfl ?_
              obtain ⟨cs, hcs⟩ := rp_c V
              refine wl_vc (d := d + 5) (as := [.ref 138]) (rest := []) ji_208_85 jc_208_171 rfl hcs jk_178.symm (Nat.le_of_ble_eq_true rfl) rfl (by rw [jn_178]; rfl) (wr_nt (d := d + 4) V D hL hp hw0) (fun v1 h1 R => ?_)
              obtain ⟨rfl, k2, v2, q', r', t', n', w', tk2, tr2, hb, hw1, V⟩ := R
              show wl_R _ _ 208 88 [some (.ref 138), some (wp_i x)] [] h1 _
              refine wl_s (pc' := 89) ji_208_88 rfl rfl rfl ?_
              refine wl_s (pc' := 90) ji_208_89 rfl rfl rfl ?_
              refine rp_p19 (y := 1) (by omega) V ji_208_90 jf_208_180 (fun h V => ?_)
              refine wl_s (pc' := 94) ji_208_93 rfl rfl rfl ?_
              refine wl_bp ji_208_94 rfl ?_
              obtain ⟨cshz, hcshz⟩ := rp_c V
              refine wl_vc (d := d + 4 + 1) (as := [.ref 138, wp_i 7]) (rest := []) ji_208_96 jc_208_183 rfl hcshz jk_202.symm (Nat.le_of_ble_eq_true rfl) rfl (by rw [jn_202]; rfl) (wr_st (d := d + 4) (r := 7) hx0 (by omega) nn u _ (wr + 1) _ _ e V (by omega)) (fun v1 hz R => ?_)
              obtain ⟨rfl, wrhz, tshz, hwrhz, V⟩ := R
              have hslhz := stl_len (r := 7) u
              have hsnhz := stn_r (r := 7) u
              show wl_R _ _ 208 99 [some (.ref 138), some (wp_i x)] [] hz _
              refine wl_s (pc' := 100) ji_208_99 rfl rfl rfl ?_
              exact wl_ri ji_208_100 jr_208 rfl (Or.inr ⟨by omega, Or.inr ⟨fun z => (by omega), Or.inl ⟨by omega, rfl, k2, v2, q', r', t', n', wrhz, w', tshz, ⟨tk2, tr2, hb, hw1⟩, by omega, V⟩⟩⟩)
            · refine wl_s (pc' := 74) ji_208_73 rfl rfl rfl ?_
              refine rp_g10 V ji_208_74 jf_208_102 ?_
              refine wl_goto (t := 81) ji_208_77 rfl ?_
              obtain ⟨cs5, hcs5⟩ := rp_c V
              refine wl_vc (d := d + 5) (as := [.ref 138, wp_i 0, wp_i n]) (rest := []) ji_208_81 jc_208_153 rfl hcs5 jk_203.symm (Nat.le_of_ble_eq_true rfl) rfl (by rw [jn_203]; rfl) (wr_em V hx0 (by omega)) (fun v1 h1 R => ?_)
              obtain ⟨rfl, ts5, V⟩ := R
              show wl_R _ _ 208 84 [some (.ref 138), some (wp_i x)] [] h1 _
              refine wl_s (pc' := 85) ji_208_84 rfl rfl rfl ?_
              obtain ⟨cs, hcs⟩ := rp_c V
              refine wl_vc (d := d + 5) (as := [.ref 138]) (rest := []) ji_208_85 jc_208_171 rfl hcs jk_178.symm (Nat.le_of_ble_eq_true rfl) rfl (by rw [jn_178]; rfl) (wr_nt (d := d + 4) V D hL hp hw0) (fun v1 h1 R => ?_)
              obtain ⟨rfl, k2, v2, q', r', t', n', w', tk2, tr2, hb, hw1, V⟩ := R
              show wl_R _ _ 208 88 [some (.ref 138), some (wp_i x)] [] h1 _
              refine wl_s (pc' := 89) ji_208_88 rfl rfl rfl ?_
              refine wl_s (pc' := 90) ji_208_89 rfl rfl rfl ?_
              refine rp_p19 (y := 1) (by omega) V ji_208_90 jf_208_180 (fun h V => ?_)
              refine wl_s (pc' := 94) ji_208_93 rfl rfl rfl ?_
              refine wl_bp ji_208_94 rfl ?_
              obtain ⟨cshz, hcshz⟩ := rp_c V
              refine wl_vc (d := d + 4 + 1) (as := [.ref 138, wp_i 7]) (rest := []) ji_208_96 jc_208_183 rfl hcshz jk_202.symm (Nat.le_of_ble_eq_true rfl) rfl (by rw [jn_202]; rfl) (wr_st (d := d + 4) (r := 7) hx0 (by omega) nn u _ (wr + 1) _ _ e V (by omega)) (fun v1 hz R => ?_)
              obtain ⟨rfl, wrhz, tshz, hwrhz, V⟩ := R
              have hslhz := stl_len (r := 7) u
              have hsnhz := stn_r (r := 7) u
              show wl_R _ _ 208 99 [some (.ref 138), some (wp_i x)] [] hz _
              refine wl_s (pc' := 100) ji_208_99 rfl rfl rfl ?_
              exact wl_ri ji_208_100 jr_208 rfl (Or.inr ⟨by omega, Or.inr ⟨fun z => (by omega), Or.inl ⟨by omega, rfl, k2, v2, q', r', t', n', wrhz, w', tshz, ⟨tk2, tr2, hb, hw1⟩, by omega, V⟩⟩⟩)
        · refine wl_s (pc' := 48) ji_208_47 rfl rfl rfl ?_
          refine wl_if (t := 101) ji_208_48 rfl (by omega) (fun (hb34 : (x : Int) < 0) => ?_) (fun (hb34 : ¬ ((x : Int) < 0)) => ?_)
          · refine wl_s (pc' := 102) ji_208_101 rfl rfl rfl ?_
            refine rp_g9 V ji_208_102 jf_208_95 ?_
            refine wl_bp ji_208_105 rfl ?_
            refine wl_icmp (t := 117) ji_208_107 rfl (by omega) (by omega) (fun (hb35 : ¬ (t : Int) = 40) => ?_) (fun (hb35 : ¬ (¬ (t : Int) = 40)) => ?_)
            · refine wl_s (pc' := 118) ji_208_117 rfl rfl rfl ?_
              refine rp_g9 V ji_208_118 jf_208_95 ?_
              refine wl_bp ji_208_121 rfl ?_
              refine wl_icmp (t := 132) ji_208_123 rfl (by omega) (by omega) (fun (hb36 : ¬ (t : Int) = 45) => ?_) (fun (hb36 : ¬ (¬ (t : Int) = 45)) => ?_)
              · refine wl_s (pc' := 133) ji_208_132 rfl rfl rfl ?_
                refine wl_bp ji_208_133 rfl ?_
                refine wl_bp ji_208_135 rfl ?_
                refine wl_bp ji_208_137 rfl ?_
                refine wl_sc (d := d + 5) (as := [wp_i 110, wp_i 111, wp_i 116]) (rest := [.ref 138]) ji_208_139 jc_208_122 (Nat.le_of_ble_eq_true rfl) rfl (Nat.le_of_ble_eq_true rfl) rfl (by rw [jn_188]; rfl) (wr_w3 (d := d + 4) (by decide) (by decide) (by decide)) (fun v1 h1 R => ?_)
                obtain ⟨ee, rfl⟩ := R
                subst ee
                show wl_R _ _ 208 142 [some (.ref 138), some (wp_i x)] [.long (Int64.ofNat (wd [110, 111, 116])), .ref 138] h1 _
                obtain ⟨cs8, hcs8⟩ := rp_c V
                refine wl_vc (d := d + 5) (as := [.ref 138, .long (Int64.ofNat (wd [110, 111, 116]))]) (rest := []) ji_208_142 jc_208_189 rfl hcs8 jk_190.symm (Nat.le_of_ble_eq_true rfl) rfl (by rw [jn_190]; rfl) (wr_iw (W := wd [110, 111, 116]) V hw0 (by decide +kernel) htr) (fun v1 h1 R => ?_)
                obtain ⟨ee, z, rfl, hza, hzb⟩ := R
                subst ee
                rw [kw T (j := 15) (K := [110, 111, 116]) rfl] at hzb
                show wl_R _ _ 208 145 [some (.ref 138), some (wp_i x)] [wp_i z] h1 _
                refine wl_if (t := 164) ji_208_145 rfl (by omega) (fun (hb37 : (z : Int) = 0) => ?_) (fun (hb37 : ¬ ((z : Int) = 0)) => ?_)
                · refine wl_s (pc' := 165) ji_208_164 rfl rfl rfl ?_
                  exact wl_ri ji_208_165 jr_208 rfl (Or.inr ⟨by omega, Or.inr ⟨fun z => (by omega), Or.inr ⟨by omega, Or.inr (Or.inr (Or.inr ⟨⟨by omega, by omega, fun z => by have := hzb.mpr z.1; omega⟩, rfl, rfl⟩))⟩⟩⟩)
                · refine wl_s (pc' := 149) ji_208_148 rfl rfl rfl ?_
                  obtain ⟨cs, hcs⟩ := rp_c V
                  refine wl_vc (d := d + 5) (as := [.ref 138]) (rest := []) ji_208_149 jc_208_193 rfl hcs jk_211.symm (Nat.le_of_ble_eq_true rfl) rfl (by rw [jn_211]; rfl) (wr_aa (d := d + 3) V e (by omega) rfl hei) (fun v1 h1 R => ?_)
                  obtain ⟨ee, a, rfl, haa, hab⟩ := R
                  subst ee
                  show wl_R _ _ 208 152 [some (.ref 138), some (wp_i x)] [wp_i a] h1 _
                  refine wl_if (t := 164) ji_208_152 rfl (by omega) (fun (hb38 : (a : Int) = 0) => ?_) (fun (hb38 : ¬ ((a : Int) = 0)) => ?_)
                  · refine wl_s (pc' := 165) ji_208_164 rfl rfl rfl ?_
                    exact wl_ri ji_208_165 jr_208 rfl (Or.inr ⟨by omega, Or.inr ⟨fun z => (by omega), Or.inr ⟨by omega, Or.inr (Or.inr (Or.inr ⟨⟨by omega, by omega, fun z => by have := hab.mpr z.2; omega⟩, rfl, rfl⟩))⟩⟩⟩)
                  · refine wl_s (pc' := 156) ji_208_155 rfl rfl rfl ?_
                    refine wl_bp ji_208_156 rfl ?_
                    obtain ⟨cs9, hcs9⟩ := rp_c V
                    have g1 : ¬ (k = 1 ∧ 9999 < v) := by omega
                    have g2 : ¬ (0 ≤ x ∧ ¬ ofc so x) := fun z => (by omega)
                    have g3 : ¬ (k = 1 ∨ 0 ≤ x) := by omega
                    have g4 := hzb.mp (by omega)
                    have g5 := hab.mp (by omega)
                    refine wl_vc (d := d + 5) (as := [.ref 138, wp_i 20]) (rest := []) ji_208_158 jc_208_186 rfl hcs9 jk_205.symm (Nat.le_of_ble_eq_true rfl) rfl (by rw [jn_205]; rfl) (wr_op (d := d + 3) (c := 20) V (u := u) e (by omega) rfl (by omega) D hL hp hw0 (by decide)) (fun v1 h9 R => ?_)
                    obtain ⟨y9, hy9⟩ : ∃ y9 : Int, v1 = some (wp_i y9) := by rcases R with ⟨-, -, x⟩ | ⟨-, x, -⟩ <;> exact ⟨_, x⟩
                    subst hy9
                    show wl_R _ _ 208 161 [some (.ref 138), some (wp_i x)] [wp_i y9] h9 _
                    refine wl_goto (t := 165) ji_208_161 rfl ?_
                    exact wl_ri ji_208_165 jr_208 rfl (Or.inr ⟨g1, Or.inr ⟨g2, Or.inr ⟨g3, Or.inr (Or.inr (Or.inl ⟨g4, g5, R⟩))⟩⟩⟩)
              · refine wl_s (pc' := 127) ji_208_126 rfl rfl rfl ?_
                refine wl_s (pc' := 128) ji_208_127 rfl rfl rfl ?_
                obtain ⟨cs9, hcs9⟩ := rp_c V
                have g1 : ¬ (k = 1 ∧ 9999 < v) := by omega
                have g2 : ¬ (0 ≤ x ∧ ¬ ofc so x) := fun z => (by omega)
                have g3 : ¬ (k = 1 ∨ 0 ≤ x) := by omega
                have g4 : k = 2 ∧ v = 45 := by omega
                refine wl_vc (d := d + 5) (as := [.ref 138, wp_i 3]) (rest := []) ji_208_128 jc_208_186 rfl hcs9 jk_205.symm (Nat.le_of_ble_eq_true rfl) rfl (by rw [jn_205]; rfl) (wr_op (d := d + 3) (c := 3) V (u := u) e (by omega) rfl (by omega) D hL hp hw0 (by decide)) (fun v1 h9 R => ?_)
                obtain ⟨y9, hy9⟩ : ∃ y9 : Int, v1 = some (wp_i y9) := by rcases R with ⟨-, -, x⟩ | ⟨-, x, -⟩ <;> exact ⟨_, x⟩
                subst hy9
                show wl_R _ _ 208 131 [some (.ref 138), some (wp_i x)] [wp_i y9] h9 _
                exact wl_ri ji_208_131 jr_208 rfl (Or.inr ⟨g1, Or.inr ⟨g2, Or.inr ⟨g3, Or.inr (Or.inl ⟨g4, R⟩)⟩⟩⟩)
            · refine wl_s (pc' := 111) ji_208_110 rfl rfl rfl ?_
              refine wl_bp ji_208_111 rfl ?_
              obtain ⟨cs9, hcs9⟩ := rp_c V
              have g1 : ¬ (k = 1 ∧ 9999 < v) := by omega
              have g2 : ¬ (0 ≤ x ∧ ¬ ofc so x) := fun z => (by omega)
              have g3 : ¬ (k = 1 ∨ 0 ≤ x) := by omega
              have g4 : k = 2 ∧ v = 40 := by omega
              refine wl_vc (d := d + 5) (as := [.ref 138, wp_i 40]) (rest := []) ji_208_113 jc_208_186 rfl hcs9 jk_205.symm (Nat.le_of_ble_eq_true rfl) rfl (by rw [jn_205]; rfl) (wr_op (d := d + 3) (c := 40) V (u := u) e (by omega) rfl (by omega) D hL hp hw0 (by decide)) (fun v1 h9 R => ?_)
              obtain ⟨y9, hy9⟩ : ∃ y9 : Int, v1 = some (wp_i y9) := by rcases R with ⟨-, -, x⟩ | ⟨-, x, -⟩ <;> exact ⟨_, x⟩
              subst hy9
              show wl_R _ _ 208 116 [some (.ref 138), some (wp_i x)] [wp_i y9] h9 _
              exact wl_ri ji_208_116 jr_208 rfl (Or.inr ⟨g1, Or.inr ⟨g2, Or.inr ⟨g3, Or.inl ⟨g4, R⟩⟩⟩⟩)
          · refine wl_s (pc' := 52) ji_208_51 rfl rfl rfl ?_
            refine wl_s (pc' := 53) ji_208_52 rfl rfl rfl ?_
            refine rp_g9 V ji_208_53 jf_208_95 ?_
            refine wl_s (pc' := 57) ji_208_56 rfl rfl rfl ?_
            refine wl_icmp (t := 64) ji_208_57 rfl (by omega) (by omega) (fun (hb39 : ¬ (t : Int) = 1) => ?_) (fun (hb39 : ¬ (¬ (t : Int) = 1)) => ?_)
            · refine wl_s (pc' := 65) ji_208_64 rfl rfl rfl ?_
              refine wl_s (pc' := 66) ji_208_65 rfl rfl rfl ?_
              refine rp_g9 V ji_208_66 jf_208_95 ?_
              refine wl_s (pc' := 70) ji_208_69 rfl rfl rfl ?_
              refine wl_icmp (t := 80) ji_208_70 rfl (by omega) (by omega) (fun (hb40 : ¬ (t : Int) = 1) => ?_) (fun (hb40 : ¬ (¬ (t : Int) = 1)) => ?_)
              · refine wl_s (pc' := 81) ji_208_80 rfl rfl rfl ?_
                obtain ⟨cs5, hcs5⟩ := rp_c V
                refine wl_vc (d := d + 5) (as := [.ref 138, wp_i 1, wp_i x]) (rest := []) ji_208_81 jc_208_153 rfl hcs5 jk_203.symm (Nat.le_of_ble_eq_true rfl) rfl (by rw [jn_203]; rfl) (wr_em V hx0 (by omega)) (fun v1 h1 R => ?_)
                obtain ⟨rfl, ts5, V⟩ := R
                show wl_R _ _ 208 84 [some (.ref 138), some (wp_i x)] [] h1 _
                refine wl_s (pc' := 85) ji_208_84 rfl rfl rfl ?_
                obtain ⟨cs, hcs⟩ := rp_c V
                refine wl_vc (d := d + 5) (as := [.ref 138]) (rest := []) ji_208_85 jc_208_171 rfl hcs jk_178.symm (Nat.le_of_ble_eq_true rfl) rfl (by rw [jn_178]; rfl) (wr_nt (d := d + 4) V D hL hp hw0) (fun v1 h1 R => ?_)
                obtain ⟨rfl, k2, v2, q', r', t', n', w', tk2, tr2, hb, hw1, V⟩ := R
                show wl_R _ _ 208 88 [some (.ref 138), some (wp_i x)] [] h1 _
                refine wl_s (pc' := 89) ji_208_88 rfl rfl rfl ?_
                refine wl_s (pc' := 90) ji_208_89 rfl rfl rfl ?_
                refine rp_p19 (y := 1) (by omega) V ji_208_90 jf_208_180 (fun h V => ?_)
                refine wl_s (pc' := 94) ji_208_93 rfl rfl rfl ?_
                refine wl_bp ji_208_94 rfl ?_
                obtain ⟨cshz, hcshz⟩ := rp_c V
                refine wl_vc (d := d + 4 + 1) (as := [.ref 138, wp_i 7]) (rest := []) ji_208_96 jc_208_183 rfl hcshz jk_202.symm (Nat.le_of_ble_eq_true rfl) rfl (by rw [jn_202]; rfl) (wr_st (d := d + 4) (r := 7) hx0 (by omega) nn u _ (wr + 1) _ _ e V (by omega)) (fun v1 hz R => ?_)
                obtain ⟨rfl, wrhz, tshz, hwrhz, V⟩ := R
                have hslhz := stl_len (r := 7) u
                have hsnhz := stn_r (r := 7) u
                show wl_R _ _ 208 99 [some (.ref 138), some (wp_i x)] [] hz _
                refine wl_s (pc' := 100) ji_208_99 rfl rfl rfl ?_
                exact wl_ri ji_208_100 jr_208 rfl (Or.inr ⟨by omega, Or.inr ⟨fun z => (by omega), Or.inl ⟨by omega, rfl, k2, v2, q', r', t', n', wrhz, w', tshz, ⟨tk2, tr2, hb, hw1⟩, by omega, V⟩⟩⟩)
              · refine wl_s (pc' := 74) ji_208_73 rfl rfl rfl ?_
                refine rp_g10 V ji_208_74 jf_208_102 ?_
                refine wl_goto (t := 81) ji_208_77 rfl ?_
                obtain ⟨cs5, hcs5⟩ := rp_c V
                refine wl_vc (d := d + 5) (as := [.ref 138, wp_i 1, wp_i n]) (rest := []) ji_208_81 jc_208_153 rfl hcs5 jk_203.symm (Nat.le_of_ble_eq_true rfl) rfl (by rw [jn_203]; rfl) (wr_em V hx0 (by omega)) (fun v1 h1 R => ?_)
                obtain ⟨rfl, ts5, V⟩ := R
                show wl_R _ _ 208 84 [some (.ref 138), some (wp_i x)] [] h1 _
                refine wl_s (pc' := 85) ji_208_84 rfl rfl rfl ?_
                obtain ⟨cs, hcs⟩ := rp_c V
                refine wl_vc (d := d + 5) (as := [.ref 138]) (rest := []) ji_208_85 jc_208_171 rfl hcs jk_178.symm (Nat.le_of_ble_eq_true rfl) rfl (by rw [jn_178]; rfl) (wr_nt (d := d + 4) V D hL hp hw0) (fun v1 h1 R => ?_)
                obtain ⟨rfl, k2, v2, q', r', t', n', w', tk2, tr2, hb, hw1, V⟩ := R
                show wl_R _ _ 208 88 [some (.ref 138), some (wp_i x)] [] h1 _
                refine wl_s (pc' := 89) ji_208_88 rfl rfl rfl ?_
                refine wl_s (pc' := 90) ji_208_89 rfl rfl rfl ?_
                refine rp_p19 (y := 1) (by omega) V ji_208_90 jf_208_180 (fun h V => ?_)
                refine wl_s (pc' := 94) ji_208_93 rfl rfl rfl ?_
                refine wl_bp ji_208_94 rfl ?_
                obtain ⟨cshz, hcshz⟩ := rp_c V
                refine wl_vc (d := d + 4 + 1) (as := [.ref 138, wp_i 7]) (rest := []) ji_208_96 jc_208_183 rfl hcshz jk_202.symm (Nat.le_of_ble_eq_true rfl) rfl (by rw [jn_202]; rfl) (wr_st (d := d + 4) (r := 7) hx0 (by omega) nn u _ (wr + 1) _ _ e V (by omega)) (fun v1 hz R => ?_)
                obtain ⟨rfl, wrhz, tshz, hwrhz, V⟩ := R
                have hslhz := stl_len (r := 7) u
                have hsnhz := stn_r (r := 7) u
                show wl_R _ _ 208 99 [some (.ref 138), some (wp_i x)] [] hz _
                refine wl_s (pc' := 100) ji_208_99 rfl rfl rfl ?_
                exact wl_ri ji_208_100 jr_208 rfl (Or.inr ⟨by omega, Or.inr ⟨fun z => (by omega), Or.inl ⟨by omega, rfl, k2, v2, q', r', t', n', wrhz, w', tshz, ⟨tk2, tr2, hb, hw1⟩, by omega, V⟩⟩⟩)
            · refine wl_s (pc' := 61) ji_208_60 rfl rfl rfl ?_
              refine wl_goto (t := 65) ji_208_61 rfl ?_
              refine wl_s (pc' := 66) ji_208_65 rfl rfl rfl ?_
              refine rp_g9 V ji_208_66 jf_208_95 ?_
              refine wl_s (pc' := 70) ji_208_69 rfl rfl rfl ?_
              refine wl_icmp (t := 80) ji_208_70 rfl (by omega) (by omega) (fun (hb41 : ¬ (t : Int) = 1) => ?_) (fun (hb41 : ¬ (¬ (t : Int) = 1)) => ?_)
              · refine wl_s (pc' := 81) ji_208_80 rfl rfl rfl ?_
                obtain ⟨cs5, hcs5⟩ := rp_c V
                refine wl_vc (d := d + 5) (as := [.ref 138, wp_i 0, wp_i x]) (rest := []) ji_208_81 jc_208_153 rfl hcs5 jk_203.symm (Nat.le_of_ble_eq_true rfl) rfl (by rw [jn_203]; rfl) (wr_em V hx0 (by omega)) (fun v1 h1 R => ?_)
                obtain ⟨rfl, ts5, V⟩ := R
                show wl_R _ _ 208 84 [some (.ref 138), some (wp_i x)] [] h1 _
                refine wl_s (pc' := 85) ji_208_84 rfl rfl rfl ?_
                obtain ⟨cs, hcs⟩ := rp_c V
                refine wl_vc (d := d + 5) (as := [.ref 138]) (rest := []) ji_208_85 jc_208_171 rfl hcs jk_178.symm (Nat.le_of_ble_eq_true rfl) rfl (by rw [jn_178]; rfl) (wr_nt (d := d + 4) V D hL hp hw0) (fun v1 h1 R => ?_)
                obtain ⟨rfl, k2, v2, q', r', t', n', w', tk2, tr2, hb, hw1, V⟩ := R
                show wl_R _ _ 208 88 [some (.ref 138), some (wp_i x)] [] h1 _
                refine wl_s (pc' := 89) ji_208_88 rfl rfl rfl ?_
                refine wl_s (pc' := 90) ji_208_89 rfl rfl rfl ?_
                refine rp_p19 (y := 1) (by omega) V ji_208_90 jf_208_180 (fun h V => ?_)
                refine wl_s (pc' := 94) ji_208_93 rfl rfl rfl ?_
                refine wl_bp ji_208_94 rfl ?_
                obtain ⟨cshz, hcshz⟩ := rp_c V
                refine wl_vc (d := d + 4 + 1) (as := [.ref 138, wp_i 7]) (rest := []) ji_208_96 jc_208_183 rfl hcshz jk_202.symm (Nat.le_of_ble_eq_true rfl) rfl (by rw [jn_202]; rfl) (wr_st (d := d + 4) (r := 7) hx0 (by omega) nn u _ (wr + 1) _ _ e V (by omega)) (fun v1 hz R => ?_)
                obtain ⟨rfl, wrhz, tshz, hwrhz, V⟩ := R
                have hslhz := stl_len (r := 7) u
                have hsnhz := stn_r (r := 7) u
                show wl_R _ _ 208 99 [some (.ref 138), some (wp_i x)] [] hz _
                refine wl_s (pc' := 100) ji_208_99 rfl rfl rfl ?_
                exact wl_ri ji_208_100 jr_208 rfl (Or.inr ⟨by omega, Or.inr ⟨fun z => (by omega), Or.inl ⟨by omega, rfl, k2, v2, q', r', t', n', wrhz, w', tshz, ⟨tk2, tr2, hb, hw1⟩, by omega, V⟩⟩⟩)
              · refine wl_s (pc' := 74) ji_208_73 rfl rfl rfl ?_
                refine rp_g10 V ji_208_74 jf_208_102 ?_
                refine wl_goto (t := 81) ji_208_77 rfl ?_
                obtain ⟨cs5, hcs5⟩ := rp_c V
                refine wl_vc (d := d + 5) (as := [.ref 138, wp_i 0, wp_i n]) (rest := []) ji_208_81 jc_208_153 rfl hcs5 jk_203.symm (Nat.le_of_ble_eq_true rfl) rfl (by rw [jn_203]; rfl) (wr_em V hx0 (by omega)) (fun v1 h1 R => ?_)
                obtain ⟨rfl, ts5, V⟩ := R
                show wl_R _ _ 208 84 [some (.ref 138), some (wp_i x)] [] h1 _
                refine wl_s (pc' := 85) ji_208_84 rfl rfl rfl ?_
                obtain ⟨cs, hcs⟩ := rp_c V
                refine wl_vc (d := d + 5) (as := [.ref 138]) (rest := []) ji_208_85 jc_208_171 rfl hcs jk_178.symm (Nat.le_of_ble_eq_true rfl) rfl (by rw [jn_178]; rfl) (wr_nt (d := d + 4) V D hL hp hw0) (fun v1 h1 R => ?_)
                obtain ⟨rfl, k2, v2, q', r', t', n', w', tk2, tr2, hb, hw1, V⟩ := R
                show wl_R _ _ 208 88 [some (.ref 138), some (wp_i x)] [] h1 _
                refine wl_s (pc' := 89) ji_208_88 rfl rfl rfl ?_
                refine wl_s (pc' := 90) ji_208_89 rfl rfl rfl ?_
                refine rp_p19 (y := 1) (by omega) V ji_208_90 jf_208_180 (fun h V => ?_)
                refine wl_s (pc' := 94) ji_208_93 rfl rfl rfl ?_
                refine wl_bp ji_208_94 rfl ?_
                obtain ⟨cshz, hcshz⟩ := rp_c V
                refine wl_vc (d := d + 4 + 1) (as := [.ref 138, wp_i 7]) (rest := []) ji_208_96 jc_208_183 rfl hcshz jk_202.symm (Nat.le_of_ble_eq_true rfl) rfl (by rw [jn_202]; rfl) (wr_st (d := d + 4) (r := 7) hx0 (by omega) nn u _ (wr + 1) _ _ e V (by omega)) (fun v1 hz R => ?_)
                obtain ⟨rfl, wrhz, tshz, hwrhz, V⟩ := R
                have hslhz := stl_len (r := 7) u
                have hsnhz := stn_r (r := 7) u
                show wl_R _ _ 208 99 [some (.ref 138), some (wp_i x)] [] hz _
                refine wl_s (pc' := 100) ji_208_99 rfl rfl rfl ?_
                exact wl_ri ji_208_100 jr_208 rfl (Or.inr ⟨by omega, Or.inr ⟨fun z => (by omega), Or.inl ⟨by omega, rfl, k2, v2, q', r', t', n', wrhz, w', tshz, ⟨tk2, tr2, hb, hw1⟩, by omega, V⟩⟩⟩)
      · refine wl_s (pc' := 30) ji_208_29 rfl rfl rfl ?_
        refine wl_s (pc' := 31) ji_208_30 rfl rfl rfl ?_
        obtain ⟨cs7, hcs7⟩ := rp_c V
        refine wl_vc (d := d + 5) (as := [.ref 138, wp_i x]) (rest := []) ji_208_31 jc_208_177 rfl hcs7 jk_210.symm (Nat.le_of_ble_eq_true rfl) rfl (by rw [jn_210]; rfl) (wr_of (x := x) V (by omega) hso) (fun v1 h1 R => ?_)
        obtain ⟨ee, y, rfl, hya, hyb⟩ := R
        subst ee
        have hyo : y = 1 ↔ ofc so x := hyb
        clear hyb
        show wl_R _ _ 208 34 [some (.ref 138), some (wp_i x)] [wp_i y] h1 _
        refine wl_if (t := 39) ji_208_34 rfl (by omega) (fun (hb42 : ¬ (y : Int) = 0) => ?_) (fun (hb42 : ¬ (¬ (y : Int) = 0)) => ?_)
        · refine wl_s (pc' := 40) ji_208_39 rfl rfl rfl ?_
          refine rp_g9 V ji_208_40 jf_208_95 ?_
          refine wl_s (pc' := 44) ji_208_43 rfl rfl rfl ?_
          refine wl_icmp (t := 51) ji_208_44 rfl (by omega) (by omega) (fun (hb43 : (t : Int) = 1) => ?_) (fun (hb43 : ¬ ((t : Int) = 1)) => ?_)
          · refine wl_s (pc' := 52) ji_208_51 rfl rfl rfl ?_
            refine wl_s (pc' := 53) ji_208_52 rfl rfl rfl ?_
            refine rp_g9 V ji_208_53 jf_208_95 ?_
            refine wl_s (pc' := 57) ji_208_56 rfl rfl rfl ?_
            refine wl_icmp (t := 64) ji_208_57 rfl (by omega) (by omega) (fun (hb44 : ¬ (t : Int) = 1) => ?_) (fun (hb44 : ¬ (¬ (t : Int) = 1)) => ?_)
            · refine wl_s (pc' := 65) ji_208_64 rfl rfl rfl ?_
              refine wl_s (pc' := 66) ji_208_65 rfl rfl rfl ?_
              refine rp_g9 V ji_208_66 jf_208_95 ?_
              refine wl_s (pc' := 70) ji_208_69 rfl rfl rfl ?_
              refine wl_icmp (t := 80) ji_208_70 rfl (by omega) (by omega) (fun (hb45 : ¬ (t : Int) = 1) => ?_) (fun (hb45 : ¬ (¬ (t : Int) = 1)) => ?_)
              · refine wl_s (pc' := 81) ji_208_80 rfl rfl rfl ?_
                obtain ⟨cs5, hcs5⟩ := rp_c V
                refine wl_vc (d := d + 5) (as := [.ref 138, wp_i 1, wp_i x]) (rest := []) ji_208_81 jc_208_153 rfl hcs5 jk_203.symm (Nat.le_of_ble_eq_true rfl) rfl (by rw [jn_203]; rfl) (wr_em V hx0 (by omega)) (fun v1 h1 R => ?_)
                obtain ⟨rfl, ts5, V⟩ := R
                show wl_R _ _ 208 84 [some (.ref 138), some (wp_i x)] [] h1 _
                refine wl_s (pc' := 85) ji_208_84 rfl rfl rfl ?_
                obtain ⟨cs, hcs⟩ := rp_c V
                refine wl_vc (d := d + 5) (as := [.ref 138]) (rest := []) ji_208_85 jc_208_171 rfl hcs jk_178.symm (Nat.le_of_ble_eq_true rfl) rfl (by rw [jn_178]; rfl) (wr_nt (d := d + 4) V D hL hp hw0) (fun v1 h1 R => ?_)
                obtain ⟨rfl, k2, v2, q', r', t', n', w', tk2, tr2, hb, hw1, V⟩ := R
                show wl_R _ _ 208 88 [some (.ref 138), some (wp_i x)] [] h1 _
                refine wl_s (pc' := 89) ji_208_88 rfl rfl rfl ?_
                refine wl_s (pc' := 90) ji_208_89 rfl rfl rfl ?_
                refine rp_p19 (y := 1) (by omega) V ji_208_90 jf_208_180 (fun h V => ?_)
                refine wl_s (pc' := 94) ji_208_93 rfl rfl rfl ?_
                refine wl_bp ji_208_94 rfl ?_
                obtain ⟨cshz, hcshz⟩ := rp_c V
                refine wl_vc (d := d + 4 + 1) (as := [.ref 138, wp_i 7]) (rest := []) ji_208_96 jc_208_183 rfl hcshz jk_202.symm (Nat.le_of_ble_eq_true rfl) rfl (by rw [jn_202]; rfl) (wr_st (d := d + 4) (r := 7) hx0 (by omega) nn u _ (wr + 1) _ _ e V (by omega)) (fun v1 hz R => ?_)
                obtain ⟨rfl, wrhz, tshz, hwrhz, V⟩ := R
                have hslhz := stl_len (r := 7) u
                have hsnhz := stn_r (r := 7) u
                show wl_R _ _ 208 99 [some (.ref 138), some (wp_i x)] [] hz _
                refine wl_s (pc' := 100) ji_208_99 rfl rfl rfl ?_
                exact wl_ri ji_208_100 jr_208 rfl (Or.inr ⟨by omega, Or.inr ⟨fun z => z.2 (hyo.mp (by omega)), Or.inl ⟨by omega, rfl, k2, v2, q', r', t', n', wrhz, w', tshz, ⟨tk2, tr2, hb, hw1⟩, by omega, V⟩⟩⟩)
              · refine wl_s (pc' := 74) ji_208_73 rfl rfl rfl ?_
                refine rp_g10 V ji_208_74 jf_208_102 ?_
                refine wl_goto (t := 81) ji_208_77 rfl ?_
                obtain ⟨cs5, hcs5⟩ := rp_c V
                refine wl_vc (d := d + 5) (as := [.ref 138, wp_i 1, wp_i n]) (rest := []) ji_208_81 jc_208_153 rfl hcs5 jk_203.symm (Nat.le_of_ble_eq_true rfl) rfl (by rw [jn_203]; rfl) (wr_em V hx0 (by omega)) (fun v1 h1 R => ?_)
                obtain ⟨rfl, ts5, V⟩ := R
                show wl_R _ _ 208 84 [some (.ref 138), some (wp_i x)] [] h1 _
                refine wl_s (pc' := 85) ji_208_84 rfl rfl rfl ?_
                obtain ⟨cs, hcs⟩ := rp_c V
                refine wl_vc (d := d + 5) (as := [.ref 138]) (rest := []) ji_208_85 jc_208_171 rfl hcs jk_178.symm (Nat.le_of_ble_eq_true rfl) rfl (by rw [jn_178]; rfl) (wr_nt (d := d + 4) V D hL hp hw0) (fun v1 h1 R => ?_)
                obtain ⟨rfl, k2, v2, q', r', t', n', w', tk2, tr2, hb, hw1, V⟩ := R
                show wl_R _ _ 208 88 [some (.ref 138), some (wp_i x)] [] h1 _
                refine wl_s (pc' := 89) ji_208_88 rfl rfl rfl ?_
                refine wl_s (pc' := 90) ji_208_89 rfl rfl rfl ?_
                refine rp_p19 (y := 1) (by omega) V ji_208_90 jf_208_180 (fun h V => ?_)
                refine wl_s (pc' := 94) ji_208_93 rfl rfl rfl ?_
                refine wl_bp ji_208_94 rfl ?_
                obtain ⟨cshz, hcshz⟩ := rp_c V
                refine wl_vc (d := d + 4 + 1) (as := [.ref 138, wp_i 7]) (rest := []) ji_208_96 jc_208_183 rfl hcshz jk_202.symm (Nat.le_of_ble_eq_true rfl) rfl (by rw [jn_202]; rfl) (wr_st (d := d + 4) (r := 7) hx0 (by omega) nn u _ (wr + 1) _ _ e V (by omega)) (fun v1 hz R => ?_)
                obtain ⟨rfl, wrhz, tshz, hwrhz, V⟩ := R
                have hslhz := stl_len (r := 7) u
                have hsnhz := stn_r (r := 7) u
                show wl_R _ _ 208 99 [some (.ref 138), some (wp_i x)] [] hz _
                refine wl_s (pc' := 100) ji_208_99 rfl rfl rfl ?_
                exact wl_ri ji_208_100 jr_208 rfl (Or.inr ⟨by omega, Or.inr ⟨fun z => z.2 (hyo.mp (by omega)), Or.inl ⟨by omega, rfl, k2, v2, q', r', t', n', wrhz, w', tshz, ⟨tk2, tr2, hb, hw1⟩, by omega, V⟩⟩⟩)
            · refine wl_s (pc' := 61) ji_208_60 rfl rfl rfl ?_
              refine wl_goto (t := 65) ji_208_61 rfl ?_
              refine wl_s (pc' := 66) ji_208_65 rfl rfl rfl ?_
              refine rp_g9 V ji_208_66 jf_208_95 ?_
              refine wl_s (pc' := 70) ji_208_69 rfl rfl rfl ?_
              refine wl_icmp (t := 80) ji_208_70 rfl (by omega) (by omega) (fun (hb46 : ¬ (t : Int) = 1) => ?_) (fun (hb46 : ¬ (¬ (t : Int) = 1)) => ?_)
              · refine wl_s (pc' := 81) ji_208_80 rfl rfl rfl ?_
                obtain ⟨cs5, hcs5⟩ := rp_c V
                refine wl_vc (d := d + 5) (as := [.ref 138, wp_i 0, wp_i x]) (rest := []) ji_208_81 jc_208_153 rfl hcs5 jk_203.symm (Nat.le_of_ble_eq_true rfl) rfl (by rw [jn_203]; rfl) (wr_em V hx0 (by omega)) (fun v1 h1 R => ?_)
                obtain ⟨rfl, ts5, V⟩ := R
                show wl_R _ _ 208 84 [some (.ref 138), some (wp_i x)] [] h1 _
                refine wl_s (pc' := 85) ji_208_84 rfl rfl rfl ?_
                obtain ⟨cs, hcs⟩ := rp_c V
                refine wl_vc (d := d + 5) (as := [.ref 138]) (rest := []) ji_208_85 jc_208_171 rfl hcs jk_178.symm (Nat.le_of_ble_eq_true rfl) rfl (by rw [jn_178]; rfl) (wr_nt (d := d + 4) V D hL hp hw0) (fun v1 h1 R => ?_)
                obtain ⟨rfl, k2, v2, q', r', t', n', w', tk2, tr2, hb, hw1, V⟩ := R
                show wl_R _ _ 208 88 [some (.ref 138), some (wp_i x)] [] h1 _
                refine wl_s (pc' := 89) ji_208_88 rfl rfl rfl ?_
                refine wl_s (pc' := 90) ji_208_89 rfl rfl rfl ?_
                refine rp_p19 (y := 1) (by omega) V ji_208_90 jf_208_180 (fun h V => ?_)
                refine wl_s (pc' := 94) ji_208_93 rfl rfl rfl ?_
                refine wl_bp ji_208_94 rfl ?_
                obtain ⟨cshz, hcshz⟩ := rp_c V
                refine wl_vc (d := d + 4 + 1) (as := [.ref 138, wp_i 7]) (rest := []) ji_208_96 jc_208_183 rfl hcshz jk_202.symm (Nat.le_of_ble_eq_true rfl) rfl (by rw [jn_202]; rfl) (wr_st (d := d + 4) (r := 7) hx0 (by omega) nn u _ (wr + 1) _ _ e V (by omega)) (fun v1 hz R => ?_)
                obtain ⟨rfl, wrhz, tshz, hwrhz, V⟩ := R
                have hslhz := stl_len (r := 7) u
                have hsnhz := stn_r (r := 7) u
                show wl_R _ _ 208 99 [some (.ref 138), some (wp_i x)] [] hz _
                refine wl_s (pc' := 100) ji_208_99 rfl rfl rfl ?_
                exact wl_ri ji_208_100 jr_208 rfl (Or.inr ⟨by omega, Or.inr ⟨fun z => z.2 (hyo.mp (by omega)), Or.inl ⟨by omega, rfl, k2, v2, q', r', t', n', wrhz, w', tshz, ⟨tk2, tr2, hb, hw1⟩, by omega, V⟩⟩⟩)
              · refine wl_s (pc' := 74) ji_208_73 rfl rfl rfl ?_
                refine rp_g10 V ji_208_74 jf_208_102 ?_
                refine wl_goto (t := 81) ji_208_77 rfl ?_
                obtain ⟨cs5, hcs5⟩ := rp_c V
                refine wl_vc (d := d + 5) (as := [.ref 138, wp_i 0, wp_i n]) (rest := []) ji_208_81 jc_208_153 rfl hcs5 jk_203.symm (Nat.le_of_ble_eq_true rfl) rfl (by rw [jn_203]; rfl) (wr_em V hx0 (by omega)) (fun v1 h1 R => ?_)
                obtain ⟨rfl, ts5, V⟩ := R
                show wl_R _ _ 208 84 [some (.ref 138), some (wp_i x)] [] h1 _
                refine wl_s (pc' := 85) ji_208_84 rfl rfl rfl ?_
                obtain ⟨cs, hcs⟩ := rp_c V
                refine wl_vc (d := d + 5) (as := [.ref 138]) (rest := []) ji_208_85 jc_208_171 rfl hcs jk_178.symm (Nat.le_of_ble_eq_true rfl) rfl (by rw [jn_178]; rfl) (wr_nt (d := d + 4) V D hL hp hw0) (fun v1 h1 R => ?_)
                obtain ⟨rfl, k2, v2, q', r', t', n', w', tk2, tr2, hb, hw1, V⟩ := R
                show wl_R _ _ 208 88 [some (.ref 138), some (wp_i x)] [] h1 _
                refine wl_s (pc' := 89) ji_208_88 rfl rfl rfl ?_
                refine wl_s (pc' := 90) ji_208_89 rfl rfl rfl ?_
                refine rp_p19 (y := 1) (by omega) V ji_208_90 jf_208_180 (fun h V => ?_)
                refine wl_s (pc' := 94) ji_208_93 rfl rfl rfl ?_
                refine wl_bp ji_208_94 rfl ?_
                obtain ⟨cshz, hcshz⟩ := rp_c V
                refine wl_vc (d := d + 4 + 1) (as := [.ref 138, wp_i 7]) (rest := []) ji_208_96 jc_208_183 rfl hcshz jk_202.symm (Nat.le_of_ble_eq_true rfl) rfl (by rw [jn_202]; rfl) (wr_st (d := d + 4) (r := 7) hx0 (by omega) nn u _ (wr + 1) _ _ e V (by omega)) (fun v1 hz R => ?_)
                obtain ⟨rfl, wrhz, tshz, hwrhz, V⟩ := R
                have hslhz := stl_len (r := 7) u
                have hsnhz := stn_r (r := 7) u
                show wl_R _ _ 208 99 [some (.ref 138), some (wp_i x)] [] hz _
                refine wl_s (pc' := 100) ji_208_99 rfl rfl rfl ?_
                exact wl_ri ji_208_100 jr_208 rfl (Or.inr ⟨by omega, Or.inr ⟨fun z => z.2 (hyo.mp (by omega)), Or.inl ⟨by omega, rfl, k2, v2, q', r', t', n', wrhz, w', tshz, ⟨tk2, tr2, hb, hw1⟩, by omega, V⟩⟩⟩)
          · refine wl_s (pc' := 48) ji_208_47 rfl rfl rfl ?_
            refine wl_if (t := 101) ji_208_48 rfl (by omega) (fun (hb47 : (x : Int) < 0) => ?_) (fun (hb47 : ¬ ((x : Int) < 0)) => ?_)
            · refine wl_s (pc' := 102) ji_208_101 rfl rfl rfl ?_
              refine rp_g9 V ji_208_102 jf_208_95 ?_
              refine wl_bp ji_208_105 rfl ?_
              refine wl_icmp (t := 117) ji_208_107 rfl (by omega) (by omega) (fun (hb48 : ¬ (t : Int) = 40) => ?_) (fun (hb48 : ¬ (¬ (t : Int) = 40)) => ?_)
              · refine wl_s (pc' := 118) ji_208_117 rfl rfl rfl ?_
                refine rp_g9 V ji_208_118 jf_208_95 ?_
                refine wl_bp ji_208_121 rfl ?_
                refine wl_icmp (t := 132) ji_208_123 rfl (by omega) (by omega) (fun (hb49 : ¬ (t : Int) = 45) => ?_) (fun (hb49 : ¬ (¬ (t : Int) = 45)) => ?_)
                · refine wl_s (pc' := 133) ji_208_132 rfl rfl rfl ?_
                  refine wl_bp ji_208_133 rfl ?_
                  refine wl_bp ji_208_135 rfl ?_
                  refine wl_bp ji_208_137 rfl ?_
                  refine wl_sc (d := d + 5) (as := [wp_i 110, wp_i 111, wp_i 116]) (rest := [.ref 138]) ji_208_139 jc_208_122 (Nat.le_of_ble_eq_true rfl) rfl (Nat.le_of_ble_eq_true rfl) rfl (by rw [jn_188]; rfl) (wr_w3 (d := d + 4) (by decide) (by decide) (by decide)) (fun v1 h1 R => ?_)
                  obtain ⟨ee, rfl⟩ := R
                  subst ee
                  show wl_R _ _ 208 142 [some (.ref 138), some (wp_i x)] [.long (Int64.ofNat (wd [110, 111, 116])), .ref 138] h1 _
                  obtain ⟨cs8, hcs8⟩ := rp_c V
                  refine wl_vc (d := d + 5) (as := [.ref 138, .long (Int64.ofNat (wd [110, 111, 116]))]) (rest := []) ji_208_142 jc_208_189 rfl hcs8 jk_190.symm (Nat.le_of_ble_eq_true rfl) rfl (by rw [jn_190]; rfl) (wr_iw (W := wd [110, 111, 116]) V hw0 (by decide +kernel) htr) (fun v1 h1 R => ?_)
                  obtain ⟨ee, z, rfl, hza, hzb⟩ := R
                  subst ee
                  rw [kw T (j := 15) (K := [110, 111, 116]) rfl] at hzb
                  show wl_R _ _ 208 145 [some (.ref 138), some (wp_i x)] [wp_i z] h1 _
                  refine wl_if (t := 164) ji_208_145 rfl (by omega) (fun (hb50 : (z : Int) = 0) => ?_) (fun (hb50 : ¬ ((z : Int) = 0)) => ?_)
                  · refine wl_s (pc' := 165) ji_208_164 rfl rfl rfl ?_
                    exact wl_ri ji_208_165 jr_208 rfl (Or.inr ⟨by omega, Or.inr ⟨fun z => z.2 (hyo.mp (by omega)), Or.inr ⟨by omega, Or.inr (Or.inr (Or.inr ⟨⟨by omega, by omega, fun z => by have := hzb.mpr z.1; omega⟩, rfl, rfl⟩))⟩⟩⟩)
                  · refine wl_s (pc' := 149) ji_208_148 rfl rfl rfl ?_
                    obtain ⟨cs, hcs⟩ := rp_c V
                    refine wl_vc (d := d + 5) (as := [.ref 138]) (rest := []) ji_208_149 jc_208_193 rfl hcs jk_211.symm (Nat.le_of_ble_eq_true rfl) rfl (by rw [jn_211]; rfl) (wr_aa (d := d + 3) V e (by omega) rfl hei) (fun v1 h1 R => ?_)
                    obtain ⟨ee, a, rfl, haa, hab⟩ := R
                    subst ee
                    show wl_R _ _ 208 152 [some (.ref 138), some (wp_i x)] [wp_i a] h1 _
                    refine wl_if (t := 164) ji_208_152 rfl (by omega) (fun (hb51 : (a : Int) = 0) => ?_) (fun (hb51 : ¬ ((a : Int) = 0)) => ?_)
                    · refine wl_s (pc' := 165) ji_208_164 rfl rfl rfl ?_
                      exact wl_ri ji_208_165 jr_208 rfl (Or.inr ⟨by omega, Or.inr ⟨fun z => z.2 (hyo.mp (by omega)), Or.inr ⟨by omega, Or.inr (Or.inr (Or.inr ⟨⟨by omega, by omega, fun z => by have := hab.mpr z.2; omega⟩, rfl, rfl⟩))⟩⟩⟩)
                    · refine wl_s (pc' := 156) ji_208_155 rfl rfl rfl ?_
                      refine wl_bp ji_208_156 rfl ?_
                      obtain ⟨cs9, hcs9⟩ := rp_c V
                      have g1 : ¬ (k = 1 ∧ 9999 < v) := by omega
                      have g2 : ¬ (0 ≤ x ∧ ¬ ofc so x) := fun z => z.2 (hyo.mp (by omega))
                      have g3 : ¬ (k = 1 ∨ 0 ≤ x) := by omega
                      have g4 := hzb.mp (by omega)
                      have g5 := hab.mp (by omega)
                      refine wl_vc (d := d + 5) (as := [.ref 138, wp_i 20]) (rest := []) ji_208_158 jc_208_186 rfl hcs9 jk_205.symm (Nat.le_of_ble_eq_true rfl) rfl (by rw [jn_205]; rfl) (wr_op (d := d + 3) (c := 20) V (u := u) e (by omega) rfl (by omega) D hL hp hw0 (by decide)) (fun v1 h9 R => ?_)
                      obtain ⟨y9, hy9⟩ : ∃ y9 : Int, v1 = some (wp_i y9) := by rcases R with ⟨-, -, x⟩ | ⟨-, x, -⟩ <;> exact ⟨_, x⟩
                      subst hy9
                      show wl_R _ _ 208 161 [some (.ref 138), some (wp_i x)] [wp_i y9] h9 _
                      refine wl_goto (t := 165) ji_208_161 rfl ?_
                      exact wl_ri ji_208_165 jr_208 rfl (Or.inr ⟨g1, Or.inr ⟨g2, Or.inr ⟨g3, Or.inr (Or.inr (Or.inl ⟨g4, g5, R⟩))⟩⟩⟩)
                · refine wl_s (pc' := 127) ji_208_126 rfl rfl rfl ?_
                  refine wl_s (pc' := 128) ji_208_127 rfl rfl rfl ?_
                  obtain ⟨cs9, hcs9⟩ := rp_c V
                  have g1 : ¬ (k = 1 ∧ 9999 < v) := by omega
                  have g2 : ¬ (0 ≤ x ∧ ¬ ofc so x) := fun z => z.2 (hyo.mp (by omega))
                  have g3 : ¬ (k = 1 ∨ 0 ≤ x) := by omega
                  have g4 : k = 2 ∧ v = 45 := by omega
                  refine wl_vc (d := d + 5) (as := [.ref 138, wp_i 3]) (rest := []) ji_208_128 jc_208_186 rfl hcs9 jk_205.symm (Nat.le_of_ble_eq_true rfl) rfl (by rw [jn_205]; rfl) (wr_op (d := d + 3) (c := 3) V (u := u) e (by omega) rfl (by omega) D hL hp hw0 (by decide)) (fun v1 h9 R => ?_)
                  obtain ⟨y9, hy9⟩ : ∃ y9 : Int, v1 = some (wp_i y9) := by rcases R with ⟨-, -, x⟩ | ⟨-, x, -⟩ <;> exact ⟨_, x⟩
                  subst hy9
                  show wl_R _ _ 208 131 [some (.ref 138), some (wp_i x)] [wp_i y9] h9 _
                  exact wl_ri ji_208_131 jr_208 rfl (Or.inr ⟨g1, Or.inr ⟨g2, Or.inr ⟨g3, Or.inr (Or.inl ⟨g4, R⟩)⟩⟩⟩)
              · refine wl_s (pc' := 111) ji_208_110 rfl rfl rfl ?_
                refine wl_bp ji_208_111 rfl ?_
                obtain ⟨cs9, hcs9⟩ := rp_c V
                have g1 : ¬ (k = 1 ∧ 9999 < v) := by omega
                have g2 : ¬ (0 ≤ x ∧ ¬ ofc so x) := fun z => z.2 (hyo.mp (by omega))
                have g3 : ¬ (k = 1 ∨ 0 ≤ x) := by omega
                have g4 : k = 2 ∧ v = 40 := by omega
                refine wl_vc (d := d + 5) (as := [.ref 138, wp_i 40]) (rest := []) ji_208_113 jc_208_186 rfl hcs9 jk_205.symm (Nat.le_of_ble_eq_true rfl) rfl (by rw [jn_205]; rfl) (wr_op (d := d + 3) (c := 40) V (u := u) e (by omega) rfl (by omega) D hL hp hw0 (by decide)) (fun v1 h9 R => ?_)
                obtain ⟨y9, hy9⟩ : ∃ y9 : Int, v1 = some (wp_i y9) := by rcases R with ⟨-, -, x⟩ | ⟨-, x, -⟩ <;> exact ⟨_, x⟩
                subst hy9
                show wl_R _ _ 208 116 [some (.ref 138), some (wp_i x)] [wp_i y9] h9 _
                exact wl_ri ji_208_116 jr_208 rfl (Or.inr ⟨g1, Or.inr ⟨g2, Or.inr ⟨g3, Or.inl ⟨g4, R⟩⟩⟩⟩)
            · refine wl_s (pc' := 52) ji_208_51 rfl rfl rfl ?_
              refine wl_s (pc' := 53) ji_208_52 rfl rfl rfl ?_
              refine rp_g9 V ji_208_53 jf_208_95 ?_
              refine wl_s (pc' := 57) ji_208_56 rfl rfl rfl ?_
              refine wl_icmp (t := 64) ji_208_57 rfl (by omega) (by omega) (fun (hb52 : ¬ (t : Int) = 1) => ?_) (fun (hb52 : ¬ (¬ (t : Int) = 1)) => ?_)
              · refine wl_s (pc' := 65) ji_208_64 rfl rfl rfl ?_
                refine wl_s (pc' := 66) ji_208_65 rfl rfl rfl ?_
                refine rp_g9 V ji_208_66 jf_208_95 ?_
                refine wl_s (pc' := 70) ji_208_69 rfl rfl rfl ?_
                refine wl_icmp (t := 80) ji_208_70 rfl (by omega) (by omega) (fun (hb53 : ¬ (t : Int) = 1) => ?_) (fun (hb53 : ¬ (¬ (t : Int) = 1)) => ?_)
                · refine wl_s (pc' := 81) ji_208_80 rfl rfl rfl ?_
                  obtain ⟨cs5, hcs5⟩ := rp_c V
                  refine wl_vc (d := d + 5) (as := [.ref 138, wp_i 1, wp_i x]) (rest := []) ji_208_81 jc_208_153 rfl hcs5 jk_203.symm (Nat.le_of_ble_eq_true rfl) rfl (by rw [jn_203]; rfl) (wr_em V hx0 (by omega)) (fun v1 h1 R => ?_)
                  obtain ⟨rfl, ts5, V⟩ := R
                  show wl_R _ _ 208 84 [some (.ref 138), some (wp_i x)] [] h1 _
                  refine wl_s (pc' := 85) ji_208_84 rfl rfl rfl ?_
                  obtain ⟨cs, hcs⟩ := rp_c V
                  refine wl_vc (d := d + 5) (as := [.ref 138]) (rest := []) ji_208_85 jc_208_171 rfl hcs jk_178.symm (Nat.le_of_ble_eq_true rfl) rfl (by rw [jn_178]; rfl) (wr_nt (d := d + 4) V D hL hp hw0) (fun v1 h1 R => ?_)
                  obtain ⟨rfl, k2, v2, q', r', t', n', w', tk2, tr2, hb, hw1, V⟩ := R
                  show wl_R _ _ 208 88 [some (.ref 138), some (wp_i x)] [] h1 _
                  refine wl_s (pc' := 89) ji_208_88 rfl rfl rfl ?_
                  refine wl_s (pc' := 90) ji_208_89 rfl rfl rfl ?_
                  refine rp_p19 (y := 1) (by omega) V ji_208_90 jf_208_180 (fun h V => ?_)
                  refine wl_s (pc' := 94) ji_208_93 rfl rfl rfl ?_
                  refine wl_bp ji_208_94 rfl ?_
                  obtain ⟨cshz, hcshz⟩ := rp_c V
                  refine wl_vc (d := d + 4 + 1) (as := [.ref 138, wp_i 7]) (rest := []) ji_208_96 jc_208_183 rfl hcshz jk_202.symm (Nat.le_of_ble_eq_true rfl) rfl (by rw [jn_202]; rfl) (wr_st (d := d + 4) (r := 7) hx0 (by omega) nn u _ (wr + 1) _ _ e V (by omega)) (fun v1 hz R => ?_)
                  obtain ⟨rfl, wrhz, tshz, hwrhz, V⟩ := R
                  have hslhz := stl_len (r := 7) u
                  have hsnhz := stn_r (r := 7) u
                  show wl_R _ _ 208 99 [some (.ref 138), some (wp_i x)] [] hz _
                  refine wl_s (pc' := 100) ji_208_99 rfl rfl rfl ?_
                  exact wl_ri ji_208_100 jr_208 rfl (Or.inr ⟨by omega, Or.inr ⟨fun z => z.2 (hyo.mp (by omega)), Or.inl ⟨by omega, rfl, k2, v2, q', r', t', n', wrhz, w', tshz, ⟨tk2, tr2, hb, hw1⟩, by omega, V⟩⟩⟩)
                · refine wl_s (pc' := 74) ji_208_73 rfl rfl rfl ?_
                  refine rp_g10 V ji_208_74 jf_208_102 ?_
                  refine wl_goto (t := 81) ji_208_77 rfl ?_
                  obtain ⟨cs5, hcs5⟩ := rp_c V
                  refine wl_vc (d := d + 5) (as := [.ref 138, wp_i 1, wp_i n]) (rest := []) ji_208_81 jc_208_153 rfl hcs5 jk_203.symm (Nat.le_of_ble_eq_true rfl) rfl (by rw [jn_203]; rfl) (wr_em V hx0 (by omega)) (fun v1 h1 R => ?_)
                  obtain ⟨rfl, ts5, V⟩ := R
                  show wl_R _ _ 208 84 [some (.ref 138), some (wp_i x)] [] h1 _
                  refine wl_s (pc' := 85) ji_208_84 rfl rfl rfl ?_
                  obtain ⟨cs, hcs⟩ := rp_c V
                  refine wl_vc (d := d + 5) (as := [.ref 138]) (rest := []) ji_208_85 jc_208_171 rfl hcs jk_178.symm (Nat.le_of_ble_eq_true rfl) rfl (by rw [jn_178]; rfl) (wr_nt (d := d + 4) V D hL hp hw0) (fun v1 h1 R => ?_)
                  obtain ⟨rfl, k2, v2, q', r', t', n', w', tk2, tr2, hb, hw1, V⟩ := R
                  show wl_R _ _ 208 88 [some (.ref 138), some (wp_i x)] [] h1 _
                  refine wl_s (pc' := 89) ji_208_88 rfl rfl rfl ?_
                  refine wl_s (pc' := 90) ji_208_89 rfl rfl rfl ?_
                  refine rp_p19 (y := 1) (by omega) V ji_208_90 jf_208_180 (fun h V => ?_)
                  refine wl_s (pc' := 94) ji_208_93 rfl rfl rfl ?_
                  refine wl_bp ji_208_94 rfl ?_
                  obtain ⟨cshz, hcshz⟩ := rp_c V
                  refine wl_vc (d := d + 4 + 1) (as := [.ref 138, wp_i 7]) (rest := []) ji_208_96 jc_208_183 rfl hcshz jk_202.symm (Nat.le_of_ble_eq_true rfl) rfl (by rw [jn_202]; rfl) (wr_st (d := d + 4) (r := 7) hx0 (by omega) nn u _ (wr + 1) _ _ e V (by omega)) (fun v1 hz R => ?_)
                  obtain ⟨rfl, wrhz, tshz, hwrhz, V⟩ := R
                  have hslhz := stl_len (r := 7) u
                  have hsnhz := stn_r (r := 7) u
                  show wl_R _ _ 208 99 [some (.ref 138), some (wp_i x)] [] hz _
                  refine wl_s (pc' := 100) ji_208_99 rfl rfl rfl ?_
                  exact wl_ri ji_208_100 jr_208 rfl (Or.inr ⟨by omega, Or.inr ⟨fun z => z.2 (hyo.mp (by omega)), Or.inl ⟨by omega, rfl, k2, v2, q', r', t', n', wrhz, w', tshz, ⟨tk2, tr2, hb, hw1⟩, by omega, V⟩⟩⟩)
              · refine wl_s (pc' := 61) ji_208_60 rfl rfl rfl ?_
                refine wl_goto (t := 65) ji_208_61 rfl ?_
                refine wl_s (pc' := 66) ji_208_65 rfl rfl rfl ?_
                refine rp_g9 V ji_208_66 jf_208_95 ?_
                refine wl_s (pc' := 70) ji_208_69 rfl rfl rfl ?_
                refine wl_icmp (t := 80) ji_208_70 rfl (by omega) (by omega) (fun (hb54 : ¬ (t : Int) = 1) => ?_) (fun (hb54 : ¬ (¬ (t : Int) = 1)) => ?_)
                · refine wl_s (pc' := 81) ji_208_80 rfl rfl rfl ?_
                  obtain ⟨cs5, hcs5⟩ := rp_c V
                  refine wl_vc (d := d + 5) (as := [.ref 138, wp_i 0, wp_i x]) (rest := []) ji_208_81 jc_208_153 rfl hcs5 jk_203.symm (Nat.le_of_ble_eq_true rfl) rfl (by rw [jn_203]; rfl) (wr_em V hx0 (by omega)) (fun v1 h1 R => ?_)
                  obtain ⟨rfl, ts5, V⟩ := R
                  show wl_R _ _ 208 84 [some (.ref 138), some (wp_i x)] [] h1 _
                  refine wl_s (pc' := 85) ji_208_84 rfl rfl rfl ?_
                  obtain ⟨cs, hcs⟩ := rp_c V
                  refine wl_vc (d := d + 5) (as := [.ref 138]) (rest := []) ji_208_85 jc_208_171 rfl hcs jk_178.symm (Nat.le_of_ble_eq_true rfl) rfl (by rw [jn_178]; rfl) (wr_nt (d := d + 4) V D hL hp hw0) (fun v1 h1 R => ?_)
                  obtain ⟨rfl, k2, v2, q', r', t', n', w', tk2, tr2, hb, hw1, V⟩ := R
                  show wl_R _ _ 208 88 [some (.ref 138), some (wp_i x)] [] h1 _
                  refine wl_s (pc' := 89) ji_208_88 rfl rfl rfl ?_
                  refine wl_s (pc' := 90) ji_208_89 rfl rfl rfl ?_
                  refine rp_p19 (y := 1) (by omega) V ji_208_90 jf_208_180 (fun h V => ?_)
                  refine wl_s (pc' := 94) ji_208_93 rfl rfl rfl ?_
                  refine wl_bp ji_208_94 rfl ?_
                  obtain ⟨cshz, hcshz⟩ := rp_c V
                  refine wl_vc (d := d + 4 + 1) (as := [.ref 138, wp_i 7]) (rest := []) ji_208_96 jc_208_183 rfl hcshz jk_202.symm (Nat.le_of_ble_eq_true rfl) rfl (by rw [jn_202]; rfl) (wr_st (d := d + 4) (r := 7) hx0 (by omega) nn u _ (wr + 1) _ _ e V (by omega)) (fun v1 hz R => ?_)
                  obtain ⟨rfl, wrhz, tshz, hwrhz, V⟩ := R
                  have hslhz := stl_len (r := 7) u
                  have hsnhz := stn_r (r := 7) u
                  show wl_R _ _ 208 99 [some (.ref 138), some (wp_i x)] [] hz _
                  refine wl_s (pc' := 100) ji_208_99 rfl rfl rfl ?_
                  exact wl_ri ji_208_100 jr_208 rfl (Or.inr ⟨by omega, Or.inr ⟨fun z => z.2 (hyo.mp (by omega)), Or.inl ⟨by omega, rfl, k2, v2, q', r', t', n', wrhz, w', tshz, ⟨tk2, tr2, hb, hw1⟩, by omega, V⟩⟩⟩)
                · refine wl_s (pc' := 74) ji_208_73 rfl rfl rfl ?_
                  refine rp_g10 V ji_208_74 jf_208_102 ?_
                  refine wl_goto (t := 81) ji_208_77 rfl ?_
                  obtain ⟨cs5, hcs5⟩ := rp_c V
                  refine wl_vc (d := d + 5) (as := [.ref 138, wp_i 0, wp_i n]) (rest := []) ji_208_81 jc_208_153 rfl hcs5 jk_203.symm (Nat.le_of_ble_eq_true rfl) rfl (by rw [jn_203]; rfl) (wr_em V hx0 (by omega)) (fun v1 h1 R => ?_)
                  obtain ⟨rfl, ts5, V⟩ := R
                  show wl_R _ _ 208 84 [some (.ref 138), some (wp_i x)] [] h1 _
                  refine wl_s (pc' := 85) ji_208_84 rfl rfl rfl ?_
                  obtain ⟨cs, hcs⟩ := rp_c V
                  refine wl_vc (d := d + 5) (as := [.ref 138]) (rest := []) ji_208_85 jc_208_171 rfl hcs jk_178.symm (Nat.le_of_ble_eq_true rfl) rfl (by rw [jn_178]; rfl) (wr_nt (d := d + 4) V D hL hp hw0) (fun v1 h1 R => ?_)
                  obtain ⟨rfl, k2, v2, q', r', t', n', w', tk2, tr2, hb, hw1, V⟩ := R
                  show wl_R _ _ 208 88 [some (.ref 138), some (wp_i x)] [] h1 _
                  refine wl_s (pc' := 89) ji_208_88 rfl rfl rfl ?_
                  refine wl_s (pc' := 90) ji_208_89 rfl rfl rfl ?_
                  refine rp_p19 (y := 1) (by omega) V ji_208_90 jf_208_180 (fun h V => ?_)
                  refine wl_s (pc' := 94) ji_208_93 rfl rfl rfl ?_
                  refine wl_bp ji_208_94 rfl ?_
                  obtain ⟨cshz, hcshz⟩ := rp_c V
                  refine wl_vc (d := d + 4 + 1) (as := [.ref 138, wp_i 7]) (rest := []) ji_208_96 jc_208_183 rfl hcshz jk_202.symm (Nat.le_of_ble_eq_true rfl) rfl (by rw [jn_202]; rfl) (wr_st (d := d + 4) (r := 7) hx0 (by omega) nn u _ (wr + 1) _ _ e V (by omega)) (fun v1 hz R => ?_)
                  obtain ⟨rfl, wrhz, tshz, hwrhz, V⟩ := R
                  have hslhz := stl_len (r := 7) u
                  have hsnhz := stn_r (r := 7) u
                  show wl_R _ _ 208 99 [some (.ref 138), some (wp_i x)] [] hz _
                  refine wl_s (pc' := 100) ji_208_99 rfl rfl rfl ?_
                  exact wl_ri ji_208_100 jr_208 rfl (Or.inr ⟨by omega, Or.inr ⟨fun z => z.2 (hyo.mp (by omega)), Or.inl ⟨by omega, rfl, k2, v2, q', r', t', n', wrhz, w', tshz, ⟨tk2, tr2, hb, hw1⟩, by omega, V⟩⟩⟩)
        · refine wl_s (pc' := 38) ji_208_37 rfl rfl rfl ?_
          exact wl_ri ji_208_38 jr_208 rfl (Or.inr ⟨by omega, Or.inl ⟨⟨by omega, fun z => by have := hyo.mpr z; omega⟩, rfl, rfl⟩⟩)
    · refine wl_s (pc' := 19) ji_208_18 rfl rfl rfl ?_
      exact wl_ri ji_208_19 jr_208 rfl (Or.inl ⟨by omega, rfl, rfl⟩)
