/-! the reference's reader: lists, brackets; laid by program (wp_mid2.py) -/
set_option maxRecDepth 100000 in
theorem ji_206_0 : mj_ins 206 0 = some (.aload_n 0) := by decide +kernel
set_option maxRecDepth 100000 in
theorem ji_206_1 : mj_ins 206 1 = some (.getfield 202) := by decide +kernel
set_option maxRecDepth 100000 in
theorem jf_206_202 : mj_fld 206 202 = some (11, 18, .int, true) := by decide +kernel
set_option maxRecDepth 100000 in
theorem ji_206_4 : mj_ins 206 4 = some (.bipush 6) := by decide +kernel
set_option maxRecDepth 100000 in
theorem ji_206_6 : mj_ins 206 6 = some (.if_icmp .ne 6) := by decide +kernel
set_option maxRecDepth 100000 in
theorem ji_206_12 : mj_ins 206 12 = some (.aload_n 0) := by decide +kernel
set_option maxRecDepth 100000 in
theorem ji_206_13 : mj_ins 206 13 = some (.iconst 1) := by decide +kernel
set_option maxRecDepth 100000 in
theorem ji_206_14 : mj_ins 206 14 = some (.invokevirtual 183) := by decide +kernel
set_option maxRecDepth 100000 in
theorem jc_206_183 : mj_cal 206 183 = some (2, 202, 1) := by decide +kernel
set_option maxRecDepth 100000 in
theorem ji_206_17 : mj_ins 206 17 = some (.aload_n 0) := by decide +kernel
set_option maxRecDepth 100000 in
theorem ji_206_18 : mj_ins 206 18 = some (.dup) := by decide +kernel
set_option maxRecDepth 100000 in
theorem ji_206_19 : mj_ins 206 19 = some (.getfield 202) := by decide +kernel
set_option maxRecDepth 100000 in
theorem ji_206_22 : mj_ins 206 22 = some (.iconst 1) := by decide +kernel
set_option maxRecDepth 100000 in
theorem ji_206_23 : mj_ins 206 23 = some (.iadd) := by decide +kernel
set_option maxRecDepth 100000 in
theorem ji_206_24 : mj_ins 206 24 = some (.putfield 202) := by decide +kernel
set_option maxRecDepth 100000 in
theorem ji_206_27 : mj_ins 206 27 = some (.aload_n 0) := by decide +kernel
set_option maxRecDepth 100000 in
theorem ji_206_28 : mj_ins 206 28 = some (.iconst 0) := by decide +kernel
set_option maxRecDepth 100000 in
theorem ji_206_29 : mj_ins 206 29 = some (.putfield 180) := by decide +kernel
set_option maxRecDepth 100000 in
theorem jf_206_180 : mj_fld 206 180 = some (11, 19, .boolean, true) := by decide +kernel
set_option maxRecDepth 100000 in
theorem ji_206_32 : mj_ins 206 32 = some (.aload_n 0) := by decide +kernel
set_option maxRecDepth 100000 in
theorem ji_206_33 : mj_ins 206 33 = some (.invokevirtual 171) := by decide +kernel
set_option maxRecDepth 100000 in
theorem jc_206_171 : mj_cal 206 171 = some (2, 178, 0) := by decide +kernel
set_option maxRecDepth 100000 in
theorem ji_206_36 : mj_ins 206 36 = some (.iconst 0) := by decide +kernel
set_option maxRecDepth 100000 in
theorem ji_206_37 : mj_ins 206 37 = some (.ireturn) := by decide +kernel
set_option maxRecDepth 100000 in
theorem jr_206 : mj_ret 206 = some .int := by decide +kernel
set_option maxRecDepth 100000 in
theorem ji_206_9 : mj_ins 206 9 = some (.bipush 7) := by decide +kernel
set_option maxRecDepth 100000 in
theorem ji_206_11 : mj_ins 206 11 = some (.ireturn) := by decide +kernel
set_option maxRecDepth 100000 in
theorem ji_207_0 : mj_ins 207 0 = some (.aload_n 0) := by decide +kernel
set_option maxRecDepth 100000 in
theorem ji_207_1 : mj_ins 207 1 = some (.iconst 1) := by decide +kernel
set_option maxRecDepth 100000 in
theorem ji_207_2 : mj_ins 207 2 = some (.invokevirtual 183) := by decide +kernel
set_option maxRecDepth 100000 in
theorem jc_207_183 : mj_cal 207 183 = some (2, 202, 1) := by decide +kernel
set_option maxRecDepth 100000 in
theorem ji_207_5 : mj_ins 207 5 = some (.aload_n 0) := by decide +kernel
set_option maxRecDepth 100000 in
theorem ji_207_6 : mj_ins 207 6 = some (.dup) := by decide +kernel
set_option maxRecDepth 100000 in
theorem ji_207_7 : mj_ins 207 7 = some (.getfield 157) := by decide +kernel
set_option maxRecDepth 100000 in
theorem jf_207_157 : mj_fld 207 157 = some (11, 17, .int, true) := by decide +kernel
set_option maxRecDepth 100000 in
theorem ji_207_10 : mj_ins 207 10 = some (.iconst 1) := by decide +kernel
set_option maxRecDepth 100000 in
theorem ji_207_11 : mj_ins 207 11 = some (.isub) := by decide +kernel
set_option maxRecDepth 100000 in
theorem ji_207_12 : mj_ins 207 12 = some (.putfield 157) := by decide +kernel
set_option maxRecDepth 100000 in
theorem ji_207_15 : mj_ins 207 15 = some (.iload_n 1) := by decide +kernel
set_option maxRecDepth 100000 in
theorem ji_207_16 : mj_ins 207 16 = some (.bipush 41) := by decide +kernel
set_option maxRecDepth 100000 in
theorem ji_207_18 : mj_ins 207 18 = some (.if_icmp .ne 30) := by decide +kernel
set_option maxRecDepth 100000 in
theorem ji_207_21 : mj_ins 207 21 = some (.aload_n 0) := by decide +kernel
set_option maxRecDepth 100000 in
theorem ji_207_22 : mj_ins 207 22 = some (.iconst 2) := by decide +kernel
set_option maxRecDepth 100000 in
theorem ji_207_23 : mj_ins 207 23 = some (.aload_n 0) := by decide +kernel
set_option maxRecDepth 100000 in
theorem ji_207_24 : mj_ins 207 24 = some (.getfield 202) := by decide +kernel
set_option maxRecDepth 100000 in
theorem jf_207_202 : mj_fld 207 202 = some (11, 18, .int, true) := by decide +kernel
set_option maxRecDepth 100000 in
theorem ji_207_27 : mj_ins 207 27 = some (.invokevirtual 153) := by decide +kernel
set_option maxRecDepth 100000 in
theorem jc_207_153 : mj_cal 207 153 = some (2, 203, 2) := by decide +kernel
set_option maxRecDepth 100000 in
theorem ji_207_30 : mj_ins 207 30 = some (.aload_n 0) := by decide +kernel
set_option maxRecDepth 100000 in
theorem ji_207_31 : mj_ins 207 31 = some (.getfield 29) := by decide +kernel
set_option maxRecDepth 100000 in
theorem jf_207_29 : mj_fld 207 29 = some (11, 15, (.array .int), false) := by decide +kernel
set_option maxRecDepth 100000 in
theorem ji_207_34 : mj_ins 207 34 = some (.aload_n 0) := by decide +kernel
set_option maxRecDepth 100000 in
theorem ji_207_35 : mj_ins 207 35 = some (.getfield 147) := by decide +kernel
set_option maxRecDepth 100000 in
theorem jf_207_147 : mj_fld 207 147 = some (11, 16, .int, true) := by decide +kernel
set_option maxRecDepth 100000 in
theorem ji_207_38 : mj_ins 207 38 = some (.iconst 1) := by decide +kernel
set_option maxRecDepth 100000 in
theorem ji_207_39 : mj_ins 207 39 = some (.isub) := by decide +kernel
set_option maxRecDepth 100000 in
theorem ji_207_40 : mj_ins 207 40 = some (.bipush 16) := by decide +kernel
set_option maxRecDepth 100000 in
theorem ji_207_42 : mj_ins 207 42 = some (.iastore) := by decide +kernel
set_option maxRecDepth 100000 in
theorem ji_207_43 : mj_ins 207 43 = some (.aload_n 0) := by decide +kernel
set_option maxRecDepth 100000 in
theorem ji_207_44 : mj_ins 207 44 = some (.invokevirtual 171) := by decide +kernel
set_option maxRecDepth 100000 in
theorem jc_207_171 : mj_cal 207 171 = some (2, 178, 0) := by decide +kernel
set_option maxRecDepth 100000 in
theorem ji_207_47 : mj_ins 207 47 = some (.return_) := by decide +kernel
set_option maxRecDepth 100000 in
theorem jr_207 : mj_ret 207 = none := by decide +kernel
set_option maxRecDepth 100000 in
theorem ji_207_48 : mj_ins 207 48 = some (.aload_n 0) := by decide +kernel
set_option maxRecDepth 100000 in
theorem ji_207_49 : mj_ins 207 49 = some (.dup) := by decide +kernel
set_option maxRecDepth 100000 in
theorem ji_207_50 : mj_ins 207 50 = some (.getfield 147) := by decide +kernel
set_option maxRecDepth 100000 in
theorem ji_207_53 : mj_ins 207 53 = some (.iconst 1) := by decide +kernel
set_option maxRecDepth 100000 in
theorem ji_207_54 : mj_ins 207 54 = some (.isub) := by decide +kernel
set_option maxRecDepth 100000 in
theorem ji_207_55 : mj_ins 207 55 = some (.putfield 147) := by decide +kernel
set_option maxRecDepth 100000 in
theorem ji_207_58 : mj_ins 207 58 = some (.aload_n 0) := by decide +kernel
set_option maxRecDepth 100000 in
theorem ji_207_59 : mj_ins 207 59 = some (.invokevirtual 171) := by decide +kernel
set_option maxRecDepth 100000 in
theorem ji_207_62 : mj_ins 207 62 = some (.aload_n 0) := by decide +kernel
set_option maxRecDepth 100000 in
theorem ji_207_63 : mj_ins 207 63 = some (.bipush 7) := by decide +kernel
set_option maxRecDepth 100000 in
theorem ji_207_65 : mj_ins 207 65 = some (.invokevirtual 183) := by decide +kernel
set_option maxRecDepth 100000 in
theorem ji_207_68 : mj_ins 207 68 = some (.return_) := by decide +kernel
/-- what was open is shut: a list becomes a truth -/
theorem ps_shut {t0 pl ts : List Value} {φ φ' : Nat → Int} {s c0 t w am : Nat} {r : List Int} (hp : ps t0 φ pl ts s c0 (41 :: r) (am + 1) t) (hw : φ 13 = (w : Int)) (hl : pl.length = 160) (hlt : ts.length = 2820) (hb : φ 16 ≤ 160) (hw3 : w < 303) (ham : am ≤ 6) (h12 : φ' 12 = φ 12) (h13 : φ' 13 = φ 13 + 1) (h16 : φ' 16 = φ 16) (h17 : φ' 17 = φ 17 - 1) (hj2 : jw (em_t ts s w 2 (am : Int)) s (w + 1)) : ps t0 φ' (pl.set (φ 16 - 1).toNat (wp_i 16)) (em_t ts s w 2 (am : Int)) s c0 (16 :: r) 0 (t + 1) := by
  obtain ⟨w', p, q1, q2, q3, q4, q5, q6, q7, q8, q9, q10⟩ := hp
  have ew : w' = w := by omega
  subst ew
  obtain ⟨q, rfl⟩ : ∃ q, p = q + 1 := ⟨p - 1, by have := pp_len (pl := pl) p; rw [q8, List.length_cons] at this; omega⟩
  rw [pp] at q8
  have e1 : pp pl q = r := (List.cons.inj q8).2
  have ep : (φ 16 - 1).toNat = q := by omega
  rw [ep]
  refine ⟨w' + 1, q + 1, by omega, by omega, by omega, q4, by omega, hj2, em_we q4 hw3 q5 hlt (by omega) (by omega) q7 ?_, ?_, ?_, fun j hj => ?_⟩
  · unfold we_1
    rw [if_neg (by omega), if_neg (by omega), if_pos rfl, if_pos ⟨by omega, by omega, by dsimp only; omega⟩]
    congr 2
    dsimp only
    omega
  · rw [pp, pv_el_set (by omega) (by omega), if_pos rfl, pp_fr (pl := pl) (fun j hj => by rw [pv_el_set (by omega) (by omega), if_neg (by omega)]), e1]
  · rw [po_o_c, if_pos (by omega)] at q9
    rw [po_o_c, if_neg (by omega)]
    omega
  · rw [em_el q4 hw3 hlt (by omega) (by omega), if_neg (by omega), if_neg (by omega)]
    exact q10 j hj
theorem ps_pop {t0 pl ts : List Value} {φ φ' : Nat → Int} {s c0 n t : Nat} {r : List Int} (hp : ps t0 φ pl ts s c0 (40 :: r) n t) (h12 : φ' 12 = φ 12) (h13 : φ' 13 = φ 13) (h16 : φ' 16 = φ 16 - 1) (h17 : φ' 17 = φ 17 - 1) : ps t0 φ' pl ts s c0 r n t := by
  obtain ⟨w, p, q1, q2, q3, q4, q5, q6, q7, q8, q9, q10⟩ := hp
  obtain ⟨q, rfl⟩ : ∃ q, p = q + 1 := ⟨p - 1, by have := pp_len (pl := pl) p; rw [q8, List.length_cons] at this; omega⟩
  rw [pp] at q8
  refine ⟨w, q, by omega, by omega, by omega, q4, q5, q6, q7, (List.cons.inj q8).2, ?_, q10⟩
  rw [po_o_c, if_pos (by omega)] at q9
  omega
theorem ws_nextAmong {d : Nat} {h0 h : mj_H} {a P T : Nat} {φ : Nat → Int} {pl ts t0 : List Value} {s c0 n t : Nat} {l : List Int} (V : pv h0 h a P T φ pl ts) (hp : ps t0 φ pl ts s c0 l n t) (hA : po_A l) (hn : n = po_n (φ 18).toNat l + 1) (ht : t = po_t l) (hon : on l = 41) (h20 : φ 20 = 0 → ∀ x ∈ l, x < 10 ∨ x = 40) (h19 : φ 19 = 1) (hb : tkb φ) (h9 : ¬ φ 9 = 0) (h154 : φ 16 ≤ 154) : wp_R (d + 1 + 1) 206 0 [some (.ref a)] [] h (pX h0 a P T t0 s c0 φ) := by
  have b7 := pv_b V (k := 7) (lo := 0) (hi := 300) (by decide) (by decide)
  have b13 := pv_b V (k := 13) (lo := 0) (hi := 303) (by decide) (by decide)
  have b16 := pv_b V (k := 16) (lo := 0) (hi := 160) (by decide) (by decide)
  have b17 := pv_b V (k := 17) (lo := 0) (hi := 8) (by decide) (by decide)
  have b18 := pv_b V (k := 18) (lo := 0) (hi := 6) (by decide) (by decide)
  subst hn ht
  have hb2 := hb.2 h9
  obtain ⟨k1, hse, hA1, r, hr⟩ := se_O (am := (φ 18).toNat) hA (on_o hon (by omega)) (by omega)
  rw [hr] at hse hA1
  have hmem : ∀ x ∈ r, x ∈ l := fun x hx => List.mem_of_mem_drop (i := k1) (by rw [hr]; exact List.mem_cons_of_mem _ hx)
  have hmemo : (41 : Int) ∈ l := List.mem_of_mem_drop (i := k1) (by rw [hr]; exact List.mem_cons_self)
  have hlen := ps_len hp
  have hle1 : (41 :: r : List Int).length ≤ l.length := by rw [← hr, List.length_drop]; omega
  rw [List.length_cons] at hle1
  refine wp_s (pc' := 1) ji_206_0 rfl rfl rfl ?_
  refine pv_gi V ji_206_1 jf_206_202 (by decide) pf_18 (y := φ 18) rfl (fun l1 u2 => ?_)
  refine wp_bp ji_206_4 rfl ?_
  refine wp_icmp (t := 12) ji_206_6 rfl (by omega) (by omega) (fun (hb3 : ¬ (φ 18 : Int) = 6) => ?_) (fun (hb3 : ¬ (¬ (φ 18 : Int) = 6)) => ?_)
  · refine wp_s (pc' := 13) ji_206_12 rfl rfl rfl ?_
    refine wp_s (pc' := 14) ji_206_13 rfl rfl rfl ?_
    refine pv_vc V ji_206_14 jc_206_183 jk_202 (rest := []) rfl (Nat.le_of_ble_eq_true rfl) rfl (by rw [jn_202]; rfl) (ws_settle (least := 1) (by omega) _ _ _ _ _ _ V hp (show φ 13 + (φ 16) ≤ 300 by omega) hse) (fun v h R => ?_)
    obtain ⟨rfl, φ4, ts4, V, hp4, hf4, hs4⟩ := R
    have e4_4 : φ4 4 = φ 4 := hf4 4 (by decide) (by decide) (by decide)
    have e4_7 : φ4 7 = φ 7 := hf4 7 (by decide) (by decide) (by decide)
    have e4_9 : φ4 9 = φ 9 := hf4 9 (by decide) (by decide) (by decide)
    have e4_10 : φ4 10 = φ 10 := hf4 10 (by decide) (by decide) (by decide)
    have e4_12 : φ4 12 = φ 12 := hf4 12 (by decide) (by decide) (by decide)
    have e4_14 : φ4 14 = φ 14 := hf4 14 (by decide) (by decide) (by decide)
    have e4_18 : φ4 18 = φ 18 := hf4 18 (by decide) (by decide) (by decide)
    have e4_19 : φ4 19 = φ 19 := hf4 19 (by decide) (by decide) (by decide)
    have e4_20 : φ4 20 = φ 20 := hf4 20 (by decide) (by decide) (by decide)
    have e4_21 : φ4 21 = φ 21 := hf4 21 (by decide) (by decide) (by decide)
    have s4 : φ4 13 + φ4 16 ≤ φ 13 + (φ 16) := hs4
    have hlen4 := ps_len hp4
    show wp_R (d + 1 + 1) 206 17 [some (.ref a)] [] h _
    refine wp_s (pc' := 18) ji_206_17 rfl rfl rfl ?_
    refine wp_s (pc' := 19) ji_206_18 rfl rfl rfl ?_
    refine pv_gi V ji_206_19 jf_206_202 (by decide) pf_18 (y := φ4 18) rfl (fun l5 u6 => ?_)
    refine wp_s (pc' := 23) ji_206_22 rfl rfl rfl ?_
    refine wp_iadd (x := φ4 18) (y := 1) (z := φ4 18 + 1) ji_206_23 (by omega) ?_
    refine pv_pi V ji_206_24 jf_206_202 (by decide) pf_18 (by decide) (by decide) (by decide) (by omega) (by omega) (by omega) rfl rfl (fun h V => ?_)
    refine wp_s (pc' := 28) ji_206_27 rfl rfl rfl ?_
    refine wp_s (pc' := 29) ji_206_28 rfl rfl rfl ?_
    refine pv_pi V ji_206_29 jf_206_180 (by decide) pf_19 (by decide) (by decide) (by decide) (by omega) (by omega) (by omega) rfl rfl (fun h V => ?_)
    refine wp_s (pc' := 33) ji_206_32 rfl rfl rfl ?_
    refine pv_vc V ji_206_33 jc_206_171 jk_178 (rest := []) rfl (Nat.le_of_ble_eq_true rfl) rfl (by rw [jn_178]; rfl) (ws_next (by omega) V) (fun v h R => ?_)
    obtain ⟨rfl, φ7, V, hf7, ha7, hb7⟩ := R
    have e7_4 : φ7 4 = φ4 4 := hf7 4 (by decide) (by decide) (by decide) (by decide)
    have e7_12 : φ7 12 = φ4 12 := hf7 12 (by decide) (by decide) (by decide) (by decide)
    have e7_13 : φ7 13 = φ4 13 := hf7 13 (by decide) (by decide) (by decide) (by decide)
    have e7_14 : φ7 14 = φ4 14 := hf7 14 (by decide) (by decide) (by decide) (by decide)
    have e7_16 : φ7 16 = φ4 16 := hf7 16 (by decide) (by decide) (by decide) (by decide)
    have e7_17 : φ7 17 = φ4 17 := hf7 17 (by decide) (by decide) (by decide) (by decide)
    have e7_18 : φ7 18 = φ4 18 + 1 := hf7 18 (by decide) (by decide) (by decide) (by decide)
    have e7_19 : φ7 19 = 0 := hf7 19 (by decide) (by decide) (by decide) (by decide)
    have e7_20 : φ7 20 = φ4 20 := hf7 20 (by decide) (by decide) (by decide) (by decide)
    have e7_21 : φ7 21 = φ4 21 := hf7 21 (by decide) (by decide) (by decide) (by decide)
    have a7 : φ4 7 ≤ φ7 7 := ha7
    have b7 : ¬ φ7 9 = 0 → φ4 7 + 1 ≤ φ7 7 := hb7
    show wp_R (d + 1 + 1) 206 36 [some (.ref a)] [] h _
    refine wp_s (pc' := 37) ji_206_36 rfl rfl rfl ?_
    have hL : po_L r := by rcases hA1 with ⟨q, -⟩ | ⟨-, q⟩ <;> first | exact q | omega
    have e18 : (φ7 18).toNat = (φ 18).toNat + 1 := by omega
    refine wp_ri ji_206_37 jr_206 rfl ⟨0, rfl, Or.inr ⟨rfl, φ7, pl, _, 41 :: r, _, _, V, ps_fr hp4 (by omega) (by omega) (by omega) (by omega), ⟨by omega, by omega, by omega, by omega, by omega⟩, ⟨by omega, fun q => by have := b7 q; omega⟩, ⟨by omega, fun q => by have := b7 q; omega⟩, fun q => absurd (h20 (by omega) 41 hmemo) (by omega), Or.inl ⟨by omega, hA1, ?_, rfl⟩⟩⟩
    show po_n (φ 18).toNat (41 :: r) + 1 = _
    rw [e18, po_n_c, po_n_c, if_neg (by omega), if_neg (by omega), if_pos rfl, if_neg (by omega), if_neg (by omega), if_pos rfl, po_L_n hL, po_L_n hL]
  · refine wp_bp ji_206_9 rfl ?_
    exact wp_ri ji_206_11 jr_206 rfl ⟨7, rfl, Or.inl ⟨by omega, by omega, φ, pl, ts, l, _, _, V, hp, ⟨rfl, rfl, rfl, rfl, rfl⟩, hb.1, fun q => by have := hb.2 q; have := hlen.1; omega, Int.le_refl _⟩⟩
theorem ws_shut41 {d : Nat} {h0 h : mj_H} {a P T : Nat} {φ : Nat → Int} {pl ts t0 : List Value} {s c0 n t : Nat} {l : List Int} (V : pv h0 h a P T φ pl ts) (hp : ps t0 φ pl ts s c0 l n t) (hA : po_A l) (hn : n = po_n (φ 18).toNat l + 1) (ht : t = po_t l) (hon : on l = 41) (h20 : φ 20 = 0 → ∀ x ∈ l, x < 10 ∨ x = 40) (h19 : φ 19 = 1) (hb : tkb φ) (h9 : ¬ φ 9 = 0) (h154 : φ 16 ≤ 154) : wp_R (d + 1 + 1) 207 0 [some (.ref a), some (wp_i 41)] [] h (fun v h1 => v = none ∧ pG h0 a P T t0 s c0 φ h1) := by
  have b7 := pv_b V (k := 7) (lo := 0) (hi := 300) (by decide) (by decide)
  have b13 := pv_b V (k := 13) (lo := 0) (hi := 303) (by decide) (by decide)
  have b16 := pv_b V (k := 16) (lo := 0) (hi := 160) (by decide) (by decide)
  have b17 := pv_b V (k := 17) (lo := 0) (hi := 8) (by decide) (by decide)
  have b18 := pv_b V (k := 18) (lo := 0) (hi := 6) (by decide) (by decide)
  have hpl := (pv_aP V).2.2.2.1
  subst hn ht
  have hb2 := hb.2 h9
  obtain ⟨k1, hse, hA1, r, hr⟩ := se_O (am := (φ 18).toNat) hA (on_o hon (by omega)) (by omega)
  rw [hr] at hse hA1
  have hmem : ∀ x ∈ r, x ∈ l := fun x hx => List.mem_of_mem_drop (i := k1) (by rw [hr]; exact List.mem_cons_of_mem _ hx)
  have hmemo : (41 : Int) ∈ l := List.mem_of_mem_drop (i := k1) (by rw [hr]; exact List.mem_cons_self)
  have hlen := ps_len hp
  have hle1 : (41 :: r : List Int).length ≤ l.length := by rw [← hr, List.length_drop]; omega
  rw [List.length_cons] at hle1
  refine wp_s (pc' := 1) ji_207_0 rfl rfl rfl ?_
  refine wp_s (pc' := 2) ji_207_1 rfl rfl rfl ?_
  refine pv_vc V ji_207_2 jc_207_183 jk_202 (rest := []) rfl (Nat.le_of_ble_eq_true rfl) rfl (by rw [jn_202]; rfl) (ws_settle (least := 1) (by omega) _ _ _ _ _ _ V hp (show φ 13 + (φ 16) ≤ 300 by omega) hse) (fun v h R => ?_)
  obtain ⟨rfl, φ1, ts1, V, hp1, hf1, hs1⟩ := R
  have e1_4 : φ1 4 = φ 4 := hf1 4 (by decide) (by decide) (by decide)
  have e1_7 : φ1 7 = φ 7 := hf1 7 (by decide) (by decide) (by decide)
  have e1_9 : φ1 9 = φ 9 := hf1 9 (by decide) (by decide) (by decide)
  have e1_10 : φ1 10 = φ 10 := hf1 10 (by decide) (by decide) (by decide)
  have e1_12 : φ1 12 = φ 12 := hf1 12 (by decide) (by decide) (by decide)
  have e1_14 : φ1 14 = φ 14 := hf1 14 (by decide) (by decide) (by decide)
  have e1_18 : φ1 18 = φ 18 := hf1 18 (by decide) (by decide) (by decide)
  have e1_19 : φ1 19 = φ 19 := hf1 19 (by decide) (by decide) (by decide)
  have e1_20 : φ1 20 = φ 20 := hf1 20 (by decide) (by decide) (by decide)
  have e1_21 : φ1 21 = φ 21 := hf1 21 (by decide) (by decide) (by decide)
  have s1 : φ1 13 + φ1 16 ≤ φ 13 + (φ 16) := hs1
  have hlen1 := ps_len hp1
  show wp_R (d + 1 + 1) 207 5 [some (.ref a), some (wp_i 41)] [] h _
  have hL : po_L r := by rcases hA1 with ⟨q, -⟩ | ⟨-, q⟩ <;> first | exact q | omega
  obtain ⟨w, hw⟩ : ∃ w : Nat, φ1 13 = (w : Int) := ⟨(φ1 13).toNat, by have := pv_b V (k := 13) (lo := 0) (hi := 303) (by decide) (by decide); omega⟩
  have htl := (pv_aP V).2.2.2.2.1
  obtain ⟨am, ham⟩ : ∃ am : Nat, φ 18 = (am : Int) := ⟨(φ 18).toNat, by omega⟩
  have eam : (φ 18).toNat = am := by omega
  have hps : ps t0 φ1 pl ts1 s c0 (41 :: r) (am + 1) (po_t (41 :: r)) := by
    have q := hp1
    rw [eam] at q
    have e : po_n am (41 :: r) + 1 = am + 1 := by rw [po_n_c, if_neg (by omega), if_neg (by omega), if_pos rfl, po_L_n hL]
    rw [← e]
    exact q
  have hj : jw ts1 s w ∧ φ1 12 = ((705 * s : Nat) : Int) ∧ s < 4 := by
    obtain ⟨w', p, q1, q2, q3, q4, q5, q6, q7, q8, q9, q10⟩ := hps
    have e : w' = w := by omega
    rw [e] at q6
    exact ⟨q6, q3, q4⟩
  have hlx := hlen1
  rw [List.length_cons, po_o_c, if_pos (by omega)] at hlx
  refine wp_s (pc' := 6) ji_207_5 rfl rfl rfl ?_
  refine wp_s (pc' := 7) ji_207_6 rfl rfl rfl ?_
  refine pv_gi V ji_207_7 jf_207_157 (by decide) pf_17 (y := φ1 17) rfl (fun l2 u3 => ?_)
  refine wp_s (pc' := 11) ji_207_10 rfl rfl rfl ?_
  refine wp_isub (x := φ1 17) (y := 1) (z := φ1 17 - 1) ji_207_11 (by omega) ?_
  refine pv_pi V ji_207_12 jf_207_157 (by decide) pf_17 (by decide) (by decide) (by decide) (by omega) (by omega) (by omega) rfl rfl (fun h V => ?_)
  refine wp_s (pc' := 16) ji_207_15 rfl rfl rfl ?_
  refine wp_bp ji_207_16 rfl ?_
  refine wp_icmp (t := 48) ji_207_18 rfl (by omega) (by omega) (fun (hb4 : ¬ (41 : Int) = 41) => (by exfalso; omega)) (fun (hb4 : ¬ (¬ (41 : Int) = 41)) => ?_)
  refine wp_s (pc' := 22) ji_207_21 rfl rfl rfl ?_
  refine wp_s (pc' := 23) ji_207_22 rfl rfl rfl ?_
  refine wp_s (pc' := 24) ji_207_23 rfl rfl rfl ?_
  refine pv_gi V ji_207_24 jf_207_202 (by decide) pf_18 (y := φ1 18) rfl (fun l5 u6 => ?_)
  have ham1 : φ1 18 = (am : Int) := by omega
  refine pv_vc V ji_207_27 jc_207_153 jk_203 (rest := []) rfl (Nat.le_of_ble_eq_true rfl) rfl (by rw [jn_203]; rfl) (by rw [ham1]; exact ws_emit V (s := s) (w := w) (o := 2) (v := (am : Int)) hw hj.2.1 hj.2.2 (by omega) (by omega) (by omega) hj.1) (fun v h R => ?_)
  obtain ⟨rfl, V, hj2⟩ := R
  show wp_R (d + 1 + 1) 207 30 [some (.ref a), some (wp_i 41)] [] h _
  refine wp_s (pc' := 31) ji_207_30 rfl rfl rfl ?_
  refine pv_gp V ji_207_31 jf_207_29 ?_
  refine wp_s (pc' := 35) ji_207_34 rfl rfl rfl ?_
  refine pv_gi V ji_207_35 jf_207_147 (by decide) pf_16 (y := φ1 16) rfl (fun l7 u8 => ?_)
  refine wp_s (pc' := 39) ji_207_38 rfl rfl rfl ?_
  refine wp_isub (x := φ1 16) (y := 1) (z := φ1 16 - 1) ji_207_39 (by omega) ?_
  refine wp_bp ji_207_40 rfl ?_
  refine pv_sp V (x := φ1 16 - 1) (y := 16) ji_207_42 (by omega) (by omega) (by omega) (by omega) (fun h V => ?_)
  refine wp_s (pc' := 44) ji_207_43 rfl rfl rfl ?_
  refine pv_vc V ji_207_44 jc_207_171 jk_178 (rest := []) rfl (Nat.le_of_ble_eq_true rfl) rfl (by rw [jn_178]; rfl) (ws_next (by omega) V) (fun v h R => ?_)
  obtain ⟨rfl, φ9, V, hf9, ha9, hb9⟩ := R
  have e9_4 : φ9 4 = φ1 4 := hf9 4 (by decide) (by decide) (by decide) (by decide)
  have e9_12 : φ9 12 = φ1 12 := hf9 12 (by decide) (by decide) (by decide) (by decide)
  have e9_13 : φ9 13 = (w : Int) + 1 := hf9 13 (by decide) (by decide) (by decide) (by decide)
  have e9_14 : φ9 14 = φ1 14 := hf9 14 (by decide) (by decide) (by decide) (by decide)
  have e9_16 : φ9 16 = φ1 16 := hf9 16 (by decide) (by decide) (by decide) (by decide)
  have e9_17 : φ9 17 = φ1 17 - 1 := hf9 17 (by decide) (by decide) (by decide) (by decide)
  have e9_18 : φ9 18 = φ1 18 := hf9 18 (by decide) (by decide) (by decide) (by decide)
  have e9_19 : φ9 19 = φ1 19 := hf9 19 (by decide) (by decide) (by decide) (by decide)
  have e9_20 : φ9 20 = φ1 20 := hf9 20 (by decide) (by decide) (by decide) (by decide)
  have e9_21 : φ9 21 = φ1 21 := hf9 21 (by decide) (by decide) (by decide) (by decide)
  have a9 : φ1 7 ≤ φ9 7 := ha9
  have b9 : ¬ φ9 9 = 0 → φ1 7 + 1 ≤ φ9 7 := hb9
  show wp_R (d + 1 + 1) 207 47 [some (.ref a), some (wp_i 41)] [] h _
  refine wp_rv ji_207_47 jr_207 ⟨rfl, φ9, _, _, 16 :: r, 0, _, V, ps_shut hps hw hpl htl (by omega) (by omega) (by omega) (by omega) (by omega) (by omega) (by omega) hj2, ⟨by omega, by omega, by omega, by omega, by omega⟩, ⟨by omega, fun q => by have := b9 q; omega⟩, ⟨by omega, fun q => by have := b9 q; omega⟩, fun q => absurd (h20 (by omega) 41 hmemo) (by omega), Or.inr (Or.inr ⟨by omega, ?_, r, rfl, hL, rfl, ?_⟩)⟩
  · have b20 := pv_b V (k := 20) (lo := 0) (hi := 1) (by decide) (by decide)
    by_cases q : φ 20 = 0
    · exact absurd (h20 q 41 hmemo) (by omega)
    · omega
  · rw [po_t_c, if_neg (by omega), Nat.zero_add]
theorem ws_shut40 {d : Nat} {h0 h : mj_H} {a P T : Nat} {φ : Nat → Int} {pl ts t0 : List Value} {s c0 n t : Nat} {l : List Int} (V : pv h0 h a P T φ pl ts) (hp : ps t0 φ pl ts s c0 l n t) (hA : po_A l) (hn : n = po_n (φ 18).toNat l + 1) (ht : t = po_t l) (hon : on l = 40) (h20 : φ 20 = 0 → ∀ x ∈ l, x < 10 ∨ x = 40) (h19 : φ 19 = 1) (hb : tkb φ) (h9 : ¬ φ 9 = 0) (h154 : φ 16 ≤ 154) : wp_R (d + 1 + 1) 207 0 [some (.ref a), some (wp_i 40)] [] h (fun v h1 => v = none ∧ pG h0 a P T t0 s c0 φ h1) := by
  have b7 := pv_b V (k := 7) (lo := 0) (hi := 300) (by decide) (by decide)
  have b13 := pv_b V (k := 13) (lo := 0) (hi := 303) (by decide) (by decide)
  have b16 := pv_b V (k := 16) (lo := 0) (hi := 160) (by decide) (by decide)
  have b17 := pv_b V (k := 17) (lo := 0) (hi := 8) (by decide) (by decide)
  have b18 := pv_b V (k := 18) (lo := 0) (hi := 6) (by decide) (by decide)
  subst hn ht
  have hb2 := hb.2 h9
  obtain ⟨k1, hse, hA1, r, hr⟩ := se_O (am := (φ 18).toNat) hA (on_o hon (by omega)) (by omega)
  rw [hr] at hse hA1
  have hmem : ∀ x ∈ r, x ∈ l := fun x hx => List.mem_of_mem_drop (i := k1) (by rw [hr]; exact List.mem_cons_of_mem _ hx)
  have hmemo : (40 : Int) ∈ l := List.mem_of_mem_drop (i := k1) (by rw [hr]; exact List.mem_cons_self)
  have hlen := ps_len hp
  have hle1 : (40 :: r : List Int).length ≤ l.length := by rw [← hr, List.length_drop]; omega
  rw [List.length_cons] at hle1
  refine wp_s (pc' := 1) ji_207_0 rfl rfl rfl ?_
  refine wp_s (pc' := 2) ji_207_1 rfl rfl rfl ?_
  refine pv_vc V ji_207_2 jc_207_183 jk_202 (rest := []) rfl (Nat.le_of_ble_eq_true rfl) rfl (by rw [jn_202]; rfl) (ws_settle (least := 1) (by omega) _ _ _ _ _ _ V hp (show φ 13 + (φ 16) ≤ 300 by omega) hse) (fun v h R => ?_)
  obtain ⟨rfl, φ1, ts1, V, hp1, hf1, hs1⟩ := R
  have e1_4 : φ1 4 = φ 4 := hf1 4 (by decide) (by decide) (by decide)
  have e1_7 : φ1 7 = φ 7 := hf1 7 (by decide) (by decide) (by decide)
  have e1_9 : φ1 9 = φ 9 := hf1 9 (by decide) (by decide) (by decide)
  have e1_10 : φ1 10 = φ 10 := hf1 10 (by decide) (by decide) (by decide)
  have e1_12 : φ1 12 = φ 12 := hf1 12 (by decide) (by decide) (by decide)
  have e1_14 : φ1 14 = φ 14 := hf1 14 (by decide) (by decide) (by decide)
  have e1_18 : φ1 18 = φ 18 := hf1 18 (by decide) (by decide) (by decide)
  have e1_19 : φ1 19 = φ 19 := hf1 19 (by decide) (by decide) (by decide)
  have e1_20 : φ1 20 = φ 20 := hf1 20 (by decide) (by decide) (by decide)
  have e1_21 : φ1 21 = φ 21 := hf1 21 (by decide) (by decide) (by decide)
  have s1 : φ1 13 + φ1 16 ≤ φ 13 + (φ 16) := hs1
  have hlen1 := ps_len hp1
  show wp_R (d + 1 + 1) 207 5 [some (.ref a), some (wp_i 40)] [] h _
  have hlx := hlen1
  rw [List.length_cons, po_o_c, if_pos (by omega)] at hlx
  refine wp_s (pc' := 6) ji_207_5 rfl rfl rfl ?_
  refine wp_s (pc' := 7) ji_207_6 rfl rfl rfl ?_
  refine pv_gi V ji_207_7 jf_207_157 (by decide) pf_17 (y := φ1 17) rfl (fun l2 u3 => ?_)
  refine wp_s (pc' := 11) ji_207_10 rfl rfl rfl ?_
  refine wp_isub (x := φ1 17) (y := 1) (z := φ1 17 - 1) ji_207_11 (by omega) ?_
  refine pv_pi V ji_207_12 jf_207_157 (by decide) pf_17 (by decide) (by decide) (by decide) (by omega) (by omega) (by omega) rfl rfl (fun h V => ?_)
  refine wp_s (pc' := 16) ji_207_15 rfl rfl rfl ?_
  refine wp_bp ji_207_16 rfl ?_
  refine wp_icmp (t := 48) ji_207_18 rfl (by omega) (by omega) (fun (hb4 : ¬ (40 : Int) = 41) => ?_) (fun (hb4 : ¬ (¬ (40 : Int) = 41)) => (by exfalso; omega))
  refine wp_s (pc' := 49) ji_207_48 rfl rfl rfl ?_
  refine wp_s (pc' := 50) ji_207_49 rfl rfl rfl ?_
  refine pv_gi V ji_207_50 jf_207_147 (by decide) pf_16 (y := φ1 16) rfl (fun l5 u6 => ?_)
  refine wp_s (pc' := 54) ji_207_53 rfl rfl rfl ?_
  refine wp_isub (x := φ1 16) (y := 1) (z := φ1 16 - 1) ji_207_54 (by omega) ?_
  refine pv_pi V ji_207_55 jf_207_147 (by decide) pf_16 (by decide) (by decide) (by decide) (by omega) (by omega) (by omega) rfl rfl (fun h V => ?_)
  refine wp_s (pc' := 59) ji_207_58 rfl rfl rfl ?_
  refine pv_vc V ji_207_59 jc_207_171 jk_178 (rest := []) rfl (Nat.le_of_ble_eq_true rfl) rfl (by rw [jn_178]; rfl) (ws_next (by omega) V) (fun v h R => ?_)
  obtain ⟨rfl, φ7, V, hf7, ha7, hb7⟩ := R
  have e7_4 : φ7 4 = φ1 4 := hf7 4 (by decide) (by decide) (by decide) (by decide)
  have e7_12 : φ7 12 = φ1 12 := hf7 12 (by decide) (by decide) (by decide) (by decide)
  have e7_13 : φ7 13 = φ1 13 := hf7 13 (by decide) (by decide) (by decide) (by decide)
  have e7_14 : φ7 14 = φ1 14 := hf7 14 (by decide) (by decide) (by decide) (by decide)
  have e7_16 : φ7 16 = φ1 16 - 1 := hf7 16 (by decide) (by decide) (by decide) (by decide)
  have e7_17 : φ7 17 = φ1 17 - 1 := hf7 17 (by decide) (by decide) (by decide) (by decide)
  have e7_18 : φ7 18 = φ1 18 := hf7 18 (by decide) (by decide) (by decide) (by decide)
  have e7_19 : φ7 19 = φ1 19 := hf7 19 (by decide) (by decide) (by decide) (by decide)
  have e7_20 : φ7 20 = φ1 20 := hf7 20 (by decide) (by decide) (by decide) (by decide)
  have e7_21 : φ7 21 = φ1 21 := hf7 21 (by decide) (by decide) (by decide) (by decide)
  have a7 : φ1 7 ≤ φ7 7 := ha7
  have b7 : ¬ φ7 9 = 0 → φ1 7 + 1 ≤ φ7 7 := hb7
  show wp_R (d + 1 + 1) 207 62 [some (.ref a), some (wp_i 40)] [] h _
  refine wp_s (pc' := 63) ji_207_62 rfl rfl rfl ?_
  refine wp_bp ji_207_63 rfl ?_
  have hA2 : po_A r := by rcases hA1 with ⟨-, q⟩ | ⟨q, -⟩ <;> first | exact q | omega
  have eN : po_n (φ 18).toNat (40 :: r) = po_n (φ 18).toNat r := by rw [po_n_c, if_neg (by omega), if_neg (by omega), if_neg (by omega), Nat.zero_add]
  have eT : po_t (40 :: r) = po_t r := by rw [po_t_c, if_neg (by omega), Nat.zero_add]
  obtain ⟨l2, hse2, hA3, ⟨k2, hk2⟩, -, -⟩ := se_V (least := 7) (by omega) (am := (φ 18).toNat) hA2 (fun q => by omega)
  have hpp : ps t0 φ7 pl ts1 s c0 r (po_n (φ 18).toNat r + 1) (po_t r) := by
    have q := ps_pop (φ' := φ7) hp1 (by omega) (by omega) (by omega) (by omega)
    rw [eN, eT] at q
    exact q
  have hlp := ps_len hpp
  refine pv_vc V ji_207_65 jc_207_183 jk_202 (rest := []) rfl (Nat.le_of_ble_eq_true rfl) rfl (by rw [jn_202]; rfl) (ws_settle (least := 7) (by omega) _ _ _ _ _ _ V hpp (show φ7 13 + (φ7 16) ≤ 300 by omega) hse2) (fun v h R => ?_)
  obtain ⟨rfl, φ8, ts8, V, hp8, hf8, hs8⟩ := R
  have e8_4 : φ8 4 = φ7 4 := hf8 4 (by decide) (by decide) (by decide)
  have e8_7 : φ8 7 = φ7 7 := hf8 7 (by decide) (by decide) (by decide)
  have e8_9 : φ8 9 = φ7 9 := hf8 9 (by decide) (by decide) (by decide)
  have e8_10 : φ8 10 = φ7 10 := hf8 10 (by decide) (by decide) (by decide)
  have e8_12 : φ8 12 = φ7 12 := hf8 12 (by decide) (by decide) (by decide)
  have e8_14 : φ8 14 = φ7 14 := hf8 14 (by decide) (by decide) (by decide)
  have e8_18 : φ8 18 = φ7 18 := hf8 18 (by decide) (by decide) (by decide)
  have e8_19 : φ8 19 = φ7 19 := hf8 19 (by decide) (by decide) (by decide)
  have e8_20 : φ8 20 = φ7 20 := hf8 20 (by decide) (by decide) (by decide)
  have e8_21 : φ8 21 = φ7 21 := hf8 21 (by decide) (by decide) (by decide)
  have s8 : φ8 13 + φ8 16 ≤ φ7 13 + (φ7 16) := hs8
  have hlen8 := ps_len hp8
  show wp_R (d + 1 + 1) 207 68 [some (.ref a), some (wp_i 40)] [] h _
  exact wp_rv ji_207_68 jr_207 ⟨rfl, φ8, pl, _, l2, _, _, V, hp8, ⟨by omega, by omega, by omega, by omega, by omega⟩, ⟨by omega, fun q => by have := b7 (by omega); omega⟩, ⟨by omega, fun q => by have := b7 (by omega); omega⟩, fun q x hx => h20 (by omega) x (hmem x (by rw [hk2] at hx; exact List.mem_of_mem_drop hx)), Or.inr (Or.inl ⟨by omega, hA3, by rw [show (φ8 18).toNat = (φ 18).toNat by omega], rfl⟩)⟩
