/-! -/
/-! lists and brackets, by the reference; laid by program (wp_rread6.py) -/
theorem stl_pn {pl : List Value} {r : Int} : ∀ {u : List Int}, pn pl u → pn pl (stl r u)
  | [], _ => trivial
  | c :: u, e => by
    unfold stl
    split
    · exact stl_pn e.2
    · exact e
theorem stl_len {r : Int} : ∀ u : List Int, (stl r u).length ≤ u.length
  | [] => Nat.le_refl _
  | c :: u => by
    have := stl_len (r := r) u
    unfold stl
    split
    · show _ ≤ u.length + 1
      omega
    · exact Nat.le_refl _
theorem stn_r {r : Int} : ∀ u : List Int, 0 ≤ stn r u ∧ stn r u ≤ (u.length : Int)
  | [] => ⟨Int.le_refl _, Int.le_refl _⟩
  | c :: u => by
    have := stn_r (r := r) u
    have hp : 0 ≤ pop_ c ∧ pop_ c ≤ 1 := by unfold pop_; split <;> omega
    have hlc : ((c :: u).length : Int) = (u.length : Int) + 1 := rfl
    rw [hlc]
    unfold stn
    split <;> omega
theorem wr_na {nn d : Nat} {h0 h : mj_H} {fs0 bl pl ts : List Value} {L p q t n x0 wr so pd op am wi ei oc cn : Int} {w : Nat} (V : rP h0 h fs0 bl L p q t n x0 wr so pd op am wi ei oc cn w pl ts) {u : List Int} (e : pn pl u) (hl : (u.length : Int) ≤ 200) (hpd : pd = (u.length : Int)) (hop : 0 ≤ op ∧ op ≤ 1000) (ham : 0 ≤ am ∧ am ≤ 100) (D : tB bl) (hL : 0 ≤ L ∧ L ≤ 300) (hp : 0 ≤ p ∧ p ≤ L) (hw0 : w ≤ 2 ^ 60) (hx0 : 0 ≤ x0 ∧ x0 ≤ 3000) (hwr : 0 ≤ wr ∧ wr ≤ 900000) : wl_R nn (d + 2) 206 0 [some (.ref 138)] [] h (fun v9 h1 => (am = 6 ∧ h1 = h ∧ v9 = some (wp_i 7)) ∨ (¬ am = 6 ∧ v9 = some (wp_i 0) ∧ ∃ (k v q' r' t' n' wr' : Int) (w' : Nat) (pl' ts' : List Value), (tok (bt bl L) p k v q' r' ∧ tkr k v t' n' w' ∧ (0 ≤ q' ∧ r' ≤ L) ∧ w' ≤ 2 ^ 60) ∧ (wr ≤ wr' ∧ wr' ≤ wr + (u.length : Int)) ∧ pn pl' (stl 1 u) ∧ rP h0 h1 fs0 bl L r' q' t' n' x0 wr' so ((stl 1 u).length : Int) (op - stn 1 u) (am + 1) 0 ei oc cn w' pl' ts')) := by
  subst hpd
  refine wl_s (pc' := 1) ji_206_0 rfl rfl rfl ?_
  refine rp_g18 V ji_206_1 jf_206_202 ?_
  refine wl_bp ji_206_4 rfl ?_
  refine wl_icmp (t := 12) ji_206_6 rfl (by omega) (by omega) (fun (hb1 : ¬ (am : Int) = 6) => ?_) (fun (hb1 : ¬ (¬ (am : Int) = 6)) => ?_)
  · refine wl_s (pc' := 13) ji_206_12 rfl rfl rfl ?_
    refine wl_s (pc' := 14) ji_206_13 rfl rfl rfl ?_
    obtain ⟨csha, hcsha⟩ := rp_c V
    refine wl_vc (d := d + 1) (as := [.ref 138, wp_i 1]) (rest := []) ji_206_14 jc_206_183 rfl hcsha jk_202.symm (Nat.le_of_ble_eq_true rfl) rfl (by rw [jn_202]; rfl) (wr_st (d := d) (r := 1) hx0 (by omega) nn u _ wr _ _ e V (by omega)) (fun v1 ha R => ?_)
    obtain ⟨rfl, wrha, tsha, hwrha, V⟩ := R
    have hslha := stl_len (r := 1) u
    have hsnha := stn_r (r := 1) u
    show wl_R _ _ 206 17 [some (.ref 138)] [] ha _
    refine wl_s (pc' := 18) ji_206_17 rfl rfl rfl ?_
    refine wl_s (pc' := 19) ji_206_18 rfl rfl rfl ?_
    refine rp_g18 V ji_206_19 jf_206_202 ?_
    refine wl_s (pc' := 23) ji_206_22 rfl rfl rfl ?_
    refine wl_iadd (x := am) (y := 1) (z := am + 1) ji_206_23 (by omega) ?_
    refine rp_p18 (y := am + 1) V ji_206_24 jf_206_202 (fun h V => ?_)
    refine wl_s (pc' := 28) ji_206_27 rfl rfl rfl ?_
    refine wl_s (pc' := 29) ji_206_28 rfl rfl rfl ?_
    refine rp_p19 (y := 0) (by omega) V ji_206_29 jf_206_180 (fun h V => ?_)
    refine wl_s (pc' := 33) ji_206_32 rfl rfl rfl ?_
    obtain ⟨cs, hcs⟩ := rp_c V
    refine wl_vc (d := d + 1) (as := [.ref 138]) (rest := []) ji_206_33 jc_206_171 rfl hcs jk_178.symm (Nat.le_of_ble_eq_true rfl) rfl (by rw [jn_178]; rfl) (wr_nt (d := d) V D hL hp hw0) (fun v1 hb_ R => ?_)
    obtain ⟨rfl, k, v, q', r', t', n', w', tk, tr, hb, hw1, V⟩ := R
    show wl_R _ _ 206 36 [some (.ref 138)] [] hb_ _
    refine wl_s (pc' := 37) ji_206_36 rfl rfl rfl ?_
    exact wl_ri ji_206_37 jr_206 rfl (Or.inr ⟨by omega, rfl, k, v, q', r', t', n', wrha, w', pl, tsha, ⟨tk, tr, hb, hw1⟩, by omega, stl_pn e, V⟩)
  · refine wl_bp ji_206_9 rfl ?_
    exact wl_ri ji_206_11 jr_206 rfl (Or.inl ⟨by omega, rfl, rfl⟩)
theorem tk_r2 {B : Int → Int} {p k v q r t n : Int} {w : Nat} (tk : tok B p k v q r) (T : tkr k v t n w) (hB : ∀ j, 0 ≤ j → -1 ≤ B j ∧ B j ≤ 255) (hp : 0 ≤ p) : -1 ≤ t ∧ t ≤ 10000 ∧ (t = 40 ↔ k = 2 ∧ v = 40) := by
  have h1 := tok_r hB hp tk
  rcases T with ⟨rfl, rfl⟩ | ⟨rfl, rfl, -⟩ | ⟨rfl, rfl, -⟩ | ⟨rfl, ht, hv⟩ | ⟨rfl, rfl⟩
  · omega
  · omega
  · omega
  · unfold sg at ht
    split at ht
    · omega
    · split at ht <;> omega
  · omega
theorem wr_ba {nn d : Nat} {h0 h : mj_H} {fs0 bl pl ts : List Value} {L p q t n x0 wr so pd op am wi ei oc cn : Int} {w : Nat} (V : rP h0 h fs0 bl L p q t n x0 wr so pd op am wi ei oc cn w pl ts) {u : List Int} (e : pn pl u) (hl : (u.length : Int) ≤ 200) (hpd : pd = (u.length : Int)) (hop : 0 ≤ op ∧ op ≤ 1000) (ham : 0 ≤ am ∧ am ≤ 100) (D : tB bl) (hL : 0 ≤ L ∧ L ≤ 300) (hp : 0 ≤ p ∧ p ≤ L) (hw0 : w ≤ 2 ^ 60) (hx0 : 0 ≤ x0 ∧ x0 ≤ 3000) (hwr : 0 ≤ wr ∧ wr ≤ 900000) : wl_R nn (d + 3) 204 0 [some (.ref 138)] [] h (fun v9 h1 => ∃ k v q' r', tok (bt bl L) p k v q' r' ∧ ((¬ (k = 2 ∧ v = 40) ∧ v9 = some (wp_i 1) ∧ ∃ (t' n' wr' : Int) (w' : Nat) (pl' ts' : List Value), tkr k v t' n' w' ∧ w' ≤ 2 ^ 60 ∧ (wr ≤ wr' ∧ wr' ≤ wr + (u.length : Int)) ∧ rP h0 h1 fs0 bl L r' q' t' n' x0 wr' so ((stl 5 u).length : Int) (op - stn 5 u) am 0 ei oc cn w' pl' ts') ∨ ((k = 2 ∧ v = 40) ∧ ((op - stn 5 u = 8 ∧ v9 = some (wp_i 3) ∧ ∃ (t' n' wr' : Int) (w' : Nat) (pl' ts' : List Value), tkr k v t' n' w' ∧ w' ≤ 2 ^ 60 ∧ (wr ≤ wr' ∧ wr' ≤ wr + (u.length : Int)) ∧ rP h0 h1 fs0 bl L r' q' t' n' x0 wr' so ((stl 5 u).length : Int) (op - stn 5 u) 1 0 ei oc cn w' pl' ts') ∨ (¬ op - stn 5 u = 8 ∧ v9 = some (wp_i 0) ∧ ∃ (k2 v2 q2 r2 t2 n2 wr' : Int) (w2 : Nat) (pl' ts' : List Value), (tok (bt bl L) r' k2 v2 q2 r2 ∧ tkr k2 v2 t2 n2 w2 ∧ (0 ≤ q2 ∧ r2 ≤ L) ∧ w2 ≤ 2 ^ 60) ∧ (wr ≤ wr' ∧ wr' ≤ wr + (u.length : Int)) ∧ pn pl' (41 :: stl 5 u) ∧ rP h0 h1 fs0 bl L r2 q2 t2 n2 x0 wr' so (((stl 5 u).length : Int) + 1) (op - stn 5 u + 1) 1 0 ei oc cn w2 pl' ts'))))) := by
  subst hpd
  refine wl_s (pc' := 1) ji_204_0 rfl rfl rfl ?_
  refine wl_s (pc' := 2) ji_204_1 rfl rfl rfl ?_
  obtain ⟨csha, hcsha⟩ := rp_c V
  refine wl_vc (d := d + 1 + 1) (as := [.ref 138, wp_i 5]) (rest := []) ji_204_2 jc_204_183 rfl hcsha jk_202.symm (Nat.le_of_ble_eq_true rfl) rfl (by rw [jn_202]; rfl) (wr_st (d := d + 1) (r := 5) hx0 (by omega) nn u _ wr _ _ e V (by omega)) (fun v1 ha R => ?_)
  obtain ⟨rfl, wrha, tsha, hwrha, V⟩ := R
  have hslha := stl_len (r := 5) u
  have hsnha := stn_r (r := 5) u
  show wl_R _ _ 204 5 [some (.ref 138)] [] ha _
  refine wl_s (pc' := 6) ji_204_5 rfl rfl rfl ?_
  refine wl_s (pc' := 7) ji_204_6 rfl rfl rfl ?_
  refine rp_p19 (y := 0) (by omega) V ji_204_7 jf_204_180 (fun h V => ?_)
  refine wl_s (pc' := 11) ji_204_10 rfl rfl rfl ?_
  obtain ⟨cs, hcs⟩ := rp_c V
  refine wl_vc (d := d + 1 + 1) (as := [.ref 138]) (rest := []) ji_204_11 jc_204_171 rfl hcs jk_178.symm (Nat.le_of_ble_eq_true rfl) rfl (by rw [jn_178]; rfl) (wr_nt (d := d + 1) V D hL hp hw0) (fun v1 hb_ R => ?_)
  obtain ⟨rfl, k, v, q', r', t', n', w', tk, tr, hb, hw1, V⟩ := R
  show wl_R _ _ 204 14 [some (.ref 138)] [] hb_ _
  have htr := tk_r2 tk tr (fun j hj => bt_r D hL.2 hj) hp.1
  refine wl_s (pc' := 15) ji_204_14 rfl rfl rfl ?_
  refine rp_g9 V ji_204_15 jf_204_95 ?_
  refine wl_bp ji_204_18 rfl ?_
  refine wl_icmp (t := 25) ji_204_20 rfl (by omega) (by omega) (fun (hb1 : (t' : Int) = 40) => ?_) (fun (hb1 : ¬ ((t' : Int) = 40)) => ?_)
  · refine wl_s (pc' := 26) ji_204_25 rfl rfl rfl ?_
    refine wl_s (pc' := 27) ji_204_26 rfl rfl rfl ?_
    refine rp_p18 (y := 1) V ji_204_27 jf_204_202 (fun h V => ?_)
    refine wl_s (pc' := 31) ji_204_30 rfl rfl rfl ?_
    refine wl_bp ji_204_31 rfl ?_
    obtain ⟨cs9, hcs9⟩ := rp_c V
    refine wl_vc (d := d + 2) (as := [.ref 138, wp_i 41]) (rest := []) ji_204_33 jc_204_186 rfl hcs9 jk_205.symm (Nat.le_of_ble_eq_true rfl) rfl (by rw [jn_205]; rfl) (wr_op (d := d) (c := 41) V (u := stl 5 u) (stl_pn e) (by omega) rfl (by omega) D hL (by have := (tok_adv tk).1; have := (tok_adv tk).2.1; omega) hw1 (by decide)) (fun v1 h9 R => ?_)
    rcases R with ⟨o1, ee, rfl⟩ | ⟨o1, rfl, k2, v2, q2, r2, t2, n2, w2, pl2, tk2, tr2, hb2, hw2, e2, V⟩
    · subst ee
      exact wl_ri ji_204_36 jr_204 rfl ⟨k, v, q', r', tk, Or.inr ⟨by omega, Or.inl ⟨by omega, rfl, t', n', wrha, w', pl, tsha, tr, hw1, by omega, V⟩⟩⟩
    · exact wl_ri ji_204_36 jr_204 rfl ⟨k, v, q', r', tk, Or.inr ⟨by omega, Or.inr ⟨by omega, rfl, k2, v2, q2, r2, t2, n2, wrha, w2, pl2, tsha, ⟨tk2, tr2, hb2, hw2⟩, by omega, e2, V⟩⟩⟩
  · refine wl_s (pc' := 24) ji_204_23 rfl rfl rfl ?_
    exact wl_ri ji_204_24 jr_204 rfl ⟨k, v, q', r', tk, Or.inl ⟨by omega, rfl, t', n', wrha, w', pl, tsha, tr, hw1, by omega, V⟩⟩
