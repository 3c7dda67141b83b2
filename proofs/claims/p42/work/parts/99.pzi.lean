/-! -/
set_option maxRecDepth 100000 in
theorem jc_19_77 : mj_cal 19 77 = some (2, 20, 1) := by decide +kernel
set_option maxRecDepth 100000 in
theorem jc_20_55 : mj_cal 20 55 = some (2, 21, 0) := by decide +kernel
set_option maxRecDepth 100000 in
theorem jc_20_60 : mj_cal 20 60 = some (2, 22, 0) := by decide +kernel
set_option maxRecDepth 100000 in
theorem jf_19_19 : mj_fld 19 19 = some (0, 0, (.object "ForestOfPoles$State"), false) := by decide +kernel
set_option maxRecDepth 100000 in
theorem jf_19_29 : mj_fld 19 29 = some (0, 2, (.object "ForestOfPoles$Tape"), false) := by decide +kernel
set_option maxRecDepth 100000 in
theorem jf_19_38 : mj_fld 19 38 = some (0, 3, (.object "ForestOfPoles$Reader"), false) := by decide +kernel
set_option maxRecDepth 100000 in
theorem jf_19_62 : mj_fld 19 62 = some (8, 1, .int, true) := by decide +kernel
set_option maxRecDepth 100000 in
theorem jf_19_70 : mj_fld 19 70 = some (2, 6, .int, true) := by decide +kernel
set_option maxRecDepth 100000 in
theorem jf_19_73 : mj_fld 19 73 = some (2, 5, (.array (.object "ForestOfPoles$Text")), false) := by decide +kernel
set_option maxRecDepth 100000 in
theorem jf_19_81 : mj_fld 19 81 = some (9, 3, .int, true) := by decide +kernel
set_option maxRecDepth 100000 in
theorem jf_20_19 : mj_fld 20 19 = some (9, 4, .int, true) := by decide +kernel
set_option maxRecDepth 100000 in
theorem jf_20_51 : mj_fld 20 51 = some (9, 1, (.object "ForestOfPoles$Text"), true) := by decide +kernel
set_option maxRecDepth 100000 in
theorem jf_20_9 : mj_fld 20 9 = some (9, 2, .boolean, true) := by decide +kernel
set_option maxRecDepth 100000 in
theorem jf_22_28 : mj_fld 22 28 = some (8, 5, .int, true) := by decide +kernel
set_option maxRecDepth 100000 in
theorem ji_19_0 : mj_ins 19 0 = some (.aload_n 0) := by decide +kernel
set_option maxRecDepth 100000 in
theorem ji_19_1 : mj_ins 19 1 = some (.getfield 19) := by decide +kernel
set_option maxRecDepth 100000 in
theorem ji_19_11 : mj_ins 19 11 = some (.iconst (-1)) := by decide +kernel
set_option maxRecDepth 100000 in
theorem ji_19_12 : mj_ins 19 12 = some (.ireturn) := by decide +kernel
set_option maxRecDepth 100000 in
theorem ji_19_13 : mj_ins 19 13 = some (.aload_n 0) := by decide +kernel
set_option maxRecDepth 100000 in
theorem ji_19_14 : mj_ins 19 14 = some (.getfield 38) := by decide +kernel
set_option maxRecDepth 100000 in
theorem ji_19_17 : mj_ins 19 17 = some (.aload_n 0) := by decide +kernel
set_option maxRecDepth 100000 in
theorem ji_19_18 : mj_ins 19 18 = some (.getfield 19) := by decide +kernel
set_option maxRecDepth 100000 in
theorem ji_19_21 : mj_ins 19 21 = some (.getfield 73) := by decide +kernel
set_option maxRecDepth 100000 in
theorem ji_19_24 : mj_ins 19 24 = some (.aload_n 0) := by decide +kernel
set_option maxRecDepth 100000 in
theorem ji_19_25 : mj_ins 19 25 = some (.getfield 19) := by decide +kernel
set_option maxRecDepth 100000 in
theorem ji_19_28 : mj_ins 19 28 = some (.getfield 70) := by decide +kernel
set_option maxRecDepth 100000 in
theorem ji_19_31 : mj_ins 19 31 = some (.aaload) := by decide +kernel
set_option maxRecDepth 100000 in
theorem ji_19_32 : mj_ins 19 32 = some (.invokevirtual 77) := by decide +kernel
set_option maxRecDepth 100000 in
theorem ji_19_35 : mj_ins 19 35 = some (.aload_n 0) := by decide +kernel
set_option maxRecDepth 100000 in
theorem ji_19_36 : mj_ins 19 36 = some (.getfield 29) := by decide +kernel
set_option maxRecDepth 100000 in
theorem ji_19_39 : mj_ins 19 39 = some (.iconst 0) := by decide +kernel
set_option maxRecDepth 100000 in
theorem ji_19_4 : mj_ins 19 4 = some (.getfield 70) := by decide +kernel
set_option maxRecDepth 100000 in
theorem ji_19_40 : mj_ins 19 40 = some (.putfield 62) := by decide +kernel
set_option maxRecDepth 100000 in
theorem ji_19_43 : mj_ins 19 43 = some (.aload_n 0) := by decide +kernel
set_option maxRecDepth 100000 in
theorem ji_19_44 : mj_ins 19 44 = some (.getfield 38) := by decide +kernel
set_option maxRecDepth 100000 in
theorem ji_19_47 : mj_ins 19 47 = some (.getfield 81) := by decide +kernel
set_option maxRecDepth 100000 in
theorem ji_19_50 : mj_ins 19 50 = some (.ifCond .eq 5) := by decide +kernel
set_option maxRecDepth 100000 in
theorem ji_19_53 : mj_ins 19 53 = some (.iconst (-1)) := by decide +kernel
set_option maxRecDepth 100000 in
theorem ji_19_54 : mj_ins 19 54 = some (.ireturn) := by decide +kernel
set_option maxRecDepth 100000 in
theorem ji_19_55 : mj_ins 19 55 = some (.aload_n 0) := by decide +kernel
set_option maxRecDepth 100000 in
theorem ji_19_56 : mj_ins 19 56 = some (.getfield 19) := by decide +kernel
set_option maxRecDepth 100000 in
theorem ji_19_59 : mj_ins 19 59 = some (.dup) := by decide +kernel
set_option maxRecDepth 100000 in
theorem ji_19_60 : mj_ins 19 60 = some (.getfield 70) := by decide +kernel
set_option maxRecDepth 100000 in
theorem ji_19_63 : mj_ins 19 63 = some (.iconst 1) := by decide +kernel
set_option maxRecDepth 100000 in
theorem ji_19_64 : mj_ins 19 64 = some (.iadd) := by decide +kernel
set_option maxRecDepth 100000 in
theorem ji_19_65 : mj_ins 19 65 = some (.putfield 70) := by decide +kernel
set_option maxRecDepth 100000 in
theorem ji_19_68 : mj_ins 19 68 = some (.aload_n 0) := by decide +kernel
set_option maxRecDepth 100000 in
theorem ji_19_69 : mj_ins 19 69 = some (.getfield 19) := by decide +kernel
set_option maxRecDepth 100000 in
theorem ji_19_7 : mj_ins 19 7 = some (.iconst 4) := by decide +kernel
set_option maxRecDepth 100000 in
theorem ji_19_72 : mj_ins 19 72 = some (.getfield 70) := by decide +kernel
set_option maxRecDepth 100000 in
theorem ji_19_75 : mj_ins 19 75 = some (.iconst 1) := by decide +kernel
set_option maxRecDepth 100000 in
theorem ji_19_76 : mj_ins 19 76 = some (.isub) := by decide +kernel
set_option maxRecDepth 100000 in
theorem ji_19_77 : mj_ins 19 77 = some (.ireturn) := by decide +kernel
set_option maxRecDepth 100000 in
theorem ji_19_8 : mj_ins 19 8 = some (.if_icmp .ne 5) := by decide +kernel
set_option maxRecDepth 100000 in
theorem ji_20_0 : mj_ins 20 0 = some (.aload_n 0) := by decide +kernel
set_option maxRecDepth 100000 in
theorem ji_20_1 : mj_ins 20 1 = some (.aload_n 1) := by decide +kernel
set_option maxRecDepth 100000 in
theorem ji_20_12 : mj_ins 20 12 = some (.aload_n 0) := by decide +kernel
set_option maxRecDepth 100000 in
theorem ji_20_13 : mj_ins 20 13 = some (.iconst 1) := by decide +kernel
set_option maxRecDepth 100000 in
theorem ji_20_14 : mj_ins 20 14 = some (.putfield 9) := by decide +kernel
set_option maxRecDepth 100000 in
theorem ji_20_17 : mj_ins 20 17 = some (.aload_n 0) := by decide +kernel
set_option maxRecDepth 100000 in
theorem ji_20_18 : mj_ins 20 18 = some (.iconst 0) := by decide +kernel
set_option maxRecDepth 100000 in
theorem ji_20_19 : mj_ins 20 19 = some (.putfield 15) := by decide +kernel
set_option maxRecDepth 100000 in
theorem ji_20_2 : mj_ins 20 2 = some (.putfield 51) := by decide +kernel
set_option maxRecDepth 100000 in
theorem ji_20_22 : mj_ins 20 22 = some (.aload_n 0) := by decide +kernel
set_option maxRecDepth 100000 in
theorem ji_20_23 : mj_ins 20 23 = some (.iconst (-1)) := by decide +kernel
set_option maxRecDepth 100000 in
theorem ji_20_24 : mj_ins 20 24 = some (.putfield 19) := by decide +kernel
set_option maxRecDepth 100000 in
theorem ji_20_27 : mj_ins 20 27 = some (.aload_n 0) := by decide +kernel
set_option maxRecDepth 100000 in
theorem ji_20_28 : mj_ins 20 28 = some (.getfield 47) := by decide +kernel
set_option maxRecDepth 100000 in
theorem ji_20_31 : mj_ins 20 31 = some (.invokevirtual 60) := by decide +kernel
set_option maxRecDepth 100000 in
theorem ji_20_34 : mj_ins 20 34 = some (.aload_n 0) := by decide +kernel
set_option maxRecDepth 100000 in
theorem ji_20_35 : mj_ins 20 35 = some (.getfield 47) := by decide +kernel
set_option maxRecDepth 100000 in
theorem ji_20_38 : mj_ins 20 38 = some (.invokevirtual 65) := by decide +kernel
set_option maxRecDepth 100000 in
theorem ji_20_41 : mj_ins 20 41 = some (.iconst 0) := by decide +kernel
set_option maxRecDepth 100000 in
theorem ji_20_42 : mj_ins 20 42 = some (.istore_n 2) := by decide +kernel
set_option maxRecDepth 100000 in
theorem ji_20_5 : mj_ins 20 5 = some (.aload_n 0) := by decide +kernel
set_option maxRecDepth 100000 in
theorem ji_20_6 : mj_ins 20 6 = some (.getfield 51) := by decide +kernel
set_option maxRecDepth 100000 in
theorem ji_20_9 : mj_ins 20 9 = some (.invokevirtual 55) := by decide +kernel
set_option maxRecDepth 100000 in
theorem ji_22_0 : mj_ins 22 0 = some (.aload_n 0) := by decide +kernel
set_option maxRecDepth 100000 in
theorem ji_22_1 : mj_ins 22 1 = some (.iconst 0) := by decide +kernel
set_option maxRecDepth 100000 in
theorem ji_22_2 : mj_ins 22 2 = some (.putfield 28) := by decide +kernel
set_option maxRecDepth 100000 in
theorem ji_22_5 : mj_ins 22 5 = some (.return_) := by decide +kernel
set_option maxRecDepth 100000 in
theorem jr_19 : mj_ret 19 = some .int := by decide +kernel
set_option maxRecDepth 100000 in
theorem jr_22 : mj_ret 22 = none := by decide +kernel
/-! the class's text, whole -/
theorem wl_aal {nn d m pc a k : Nat} {lv : mj_L} {st : List Value} {h : mj_H} {Q : Option Value → mj_H → Prop} {x : Int} {vs : List Value} {v : Value} (hi : mj_ins m pc = some .aaload) (ha : h[a]? = some (k, vs)) (hk : 1100 ≤ k ∧ k < 2000) (hx : 0 ≤ x) (hl : x < vs.length) (hn : vs.length ≤ 2147483647) (hv : vs[x.toNat]? = some v) (hr : wl_R nn d m (pc + 1) lv (v :: st) h Q) : wl_R nn d m pc lv (wp_i x :: .ref a :: st) h Q := by
  refine wl_s (pc' := pc + 1) (lv' := lv) (st' := v :: st) (h' := h) hi rfl rfl ?_ hr
  have e : mj_el h a k (Int32.ofInt x) = some v := by
    unfold mj_el
    rw [ha]
    dsimp only
    rw [if_pos rfl, wp_ix hx hl hn]
    exact hv
  simp only [mj_st, ha, if_pos hk, e, Option.map_some]
theorem clr_f {B : Int → Int} {on : Nat → Bool} {cl ls k v s p f q r : Int} (a : clr B on cl ls k v s p f q r) : 0 ≤ f ∧ f ≤ 7 := by
  rcases a with ⟨-, a, -⟩ | ⟨-, ⟨-, a, -⟩ | ⟨-, ⟨-, a, -⟩ | ⟨-, ⟨-, m, a⟩ | ⟨-, a⟩⟩⟩⟩
  · omega
  · omega
  · omega
  · exact lr_f a
  · exact xr_f a
theorem tr_f {B : Int → Int} : ∀ {m : Nat} {on : Nat → Bool} {cl ls k v s p f q : Int}, tr B m on cl ls k v s p f q → 0 ≤ f ∧ f ≤ 7
  | 0, _, _, _, _, _, _, _, _, _, a => a.elim
  | m + 1, _, _, _, _, _, _, _, _, _, a => by
    rcases a with ⟨-, a, -⟩ | ⟨-, f1, q1, r1, a, ⟨-, e, -⟩ | ⟨-, k2, v2, q2, r2, l2, -, b⟩⟩
    · omega
    · have := clr_f a
      omega
    · exact tr_f b
/-- the class's cells ahead of a text -/
def cE (h : mj_H) (g9 s47 bl ws fr : List Value) (t t0 : Nat) (L k v s p hr f q law st wn op br ls as_ c cl : Int) : Prop := (h[9]? = some (0, g9) ∧ g9[0]? = some (.ref 47) ∧ g9[2]? = some (.ref 91) ∧ g9[3]? = some (.ref 93)) ∧ (h[47]? = some (2, s47) ∧ s47.length = 8 ∧ s47[5]? = some (.ref 11) ∧ s47[6]? = some (wp_i c)) ∧ h[11]? = some (1101, [.ref 12, .ref 19, .ref 26, .ref 33, .ref 40]) ∧ h[91]? = some (8, [.ref 92, wp_i L, wp_i k, wp_i v, wp_i s, wp_i p]) ∧ h[92]? = some (1000, bl) ∧ h[93]? = some (9, [.ref 91, .ref t0, wp_i hr, wp_i f, wp_i q, wp_i law, wp_i st, .ref 94, wp_i wn, wp_i op, wp_i br, wp_i ls, wp_i as_]) ∧ (h[94]? = some (1000, ws) ∧ ws.length = 40) ∧ (tx h t cl fr ∧ fr.length = 3)
theorem wc_ri {nn d : Nat} {h : mj_H} {g9 s47 bl ws fr : List Value} {t t0 : Nat} {L k v s p hr f q law st wn op br ls as_ c cl : Int} (E : cE h g9 s47 bl ws fr t t0 L k v s p hr f q law st wn op br ls as_ c cl) (D : tB bl) (hL : 0 ≤ L ∧ L ≤ 300) (H8 : h[8]? = some (900, tk_V)) (HC : hC h) (ht : 12 ≤ t ∧ t ≤ 33) (hls : 0 ≤ ls ∧ ls ≤ 6) : wl_R nn (d + 6) 20 0 [some (.ref 93), some (.ref t), none] [] h (fun w h1 => ∃ k v s p, tok (bt bl L) 0 k v s p ∧ rQ h bl t L nof 0 ls k v s p w h1) := by
  obtain ⟨-, -, -, e91, e92, e93, ⟨e94, e94l⟩, X, hfl⟩ := E
  refine wl_s (pc' := 1) ji_20_0 rfl rfl rfl ?_
  refine wl_s (pc' := 2) ji_20_1 rfl rfl rfl ?_
  refine wl_pf2 ji_20_2 jf_20_51 e93 (by decide) (Nat.le_of_ble_eq_true rfl) rfl rfl (fun h1 g1 k1 => ?_)
  refine wl_s (pc' := 6) ji_20_5 rfl rfl rfl ?_
  refine wl_gf ji_20_6 jf_20_51 g1 rfl ?_
  have X1 : tx h1 t cl fr := tx_fr X (fun a a1 a2 => k1 a (by omega))
  obtain ⟨cs, hcs⟩ : ∃ cs, h1[t]? = some (1, cs) := by
    obtain ⟨sz, c1, c3, c4, c5, c6, x0, -⟩ := X1
    exact ⟨_, x0⟩
  refine wl_vc (d := d + 5) (as := [.ref t]) (rest := []) ji_20_9 jc_20_55 rfl hcs jk_21.symm (Nat.le_of_ble_eq_true rfl) rfl (by rw [jn_21]; rfl) (wc_em (d := d + 5) ht X1 hfl) (fun v1 h2 R => ?_)
  obtain ⟨rfl, X2, k2⟩ := R
  have g2 := (k2 93 (by omega)).trans g1
  refine wl_s (pc' := 13) ji_20_12 rfl rfl rfl ?_
  refine wl_s (pc' := 14) ji_20_13 rfl rfl rfl ?_
  refine wl_pf2 ji_20_14 jf_20_9 g2 (by decide) (Nat.le_of_ble_eq_true rfl) (pv_nb (Or.inr rfl)) (pv_fb (Or.inr rfl)) (fun h3 g3 k3 => ?_)
  refine wl_s (pc' := 18) ji_20_17 rfl rfl rfl ?_
  refine wl_s (pc' := 19) ji_20_18 rfl rfl rfl ?_
  refine wl_pf2 ji_20_19 jf_20_15 g3 (by decide) (Nat.le_of_ble_eq_true rfl) rfl rfl (fun h4 g4 k4 => ?_)
  refine wl_s (pc' := 23) ji_20_22 rfl rfl rfl ?_
  refine wl_s (pc' := 24) ji_20_23 rfl rfl rfl ?_
  refine wl_pf2 ji_20_24 jf_20_19 g4 (by decide) (Nat.le_of_ble_eq_true rfl) rfl rfl (fun h5 g5 k5 => ?_)
  have fr5 : ∀ a, a ≠ 93 → ¬ (t ≤ a ∧ a ≤ t + 6) → h5[a]? = h[a]? := fun a q1 q2 => (k5 a q1).trans ((k4 a q1).trans ((k3 a q1).trans ((k2 a q2).trans (k1 a q1))))
  have X5 : tx h5 t 0 [wp_i (-1), wp_i (-1), wp_i (-1)] := tx_fr X2 (fun a a1 a2 => (k5 a (by omega)).trans ((k4 a (by omega)).trans (k3 a (by omega))))
  have e91' : h5[91]? = some (8, [.ref 92, wp_i L, wp_i k, wp_i v, wp_i s, wp_i p]) := (fr5 91 (by decide) (by omega)).trans e91
  refine wl_s (pc' := 28) ji_20_27 rfl rfl rfl ?_
  refine wl_gf ji_20_28 jf_20_47 g5 rfl ?_
  have rw_ : wl_R nn (d + 5) 22 0 [some (.ref 91)] [] h5 (fun w h1 => w = none ∧ h1[91]? = some (8, [.ref 92, wp_i L, wp_i k, wp_i v, wp_i s, wp_i 0]) ∧ ∀ b, b ≠ 91 → h1[b]? = h5[b]?) := by
    refine wl_s (pc' := 1) ji_22_0 rfl rfl rfl ?_
    refine wl_s (pc' := 2) ji_22_1 rfl rfl rfl ?_
    refine wl_pf2 ji_22_2 jf_22_28 e91' (by decide) (Nat.le_of_ble_eq_true rfl) rfl rfl (fun h6 g6 k6 => ?_)
    exact wl_rv ji_22_5 jr_22 ⟨rfl, g6, k6⟩
  refine wl_vc (d := d + 5) (as := [.ref 91]) (rest := []) ji_20_31 jc_20_60 rfl e91' jk_22.symm (Nat.le_of_ble_eq_true rfl) rfl (by rw [jn_22]; rfl) rw_ (fun v1 h6 R => ?_)
  obtain ⟨rfl, g6, k6⟩ := R
  refine wl_s (pc' := 35) ji_20_34 rfl rfl rfl ?_
  have g93 := (k6 93 (by decide)).trans g5
  refine wl_gf ji_20_35 jf_20_47 g93 rfl ?_
  have H86 : h6[8]? = some (900, tk_V) := (k6 8 (by decide)).trans ((fr5 8 (by decide) (by omega)).trans H8)
  refine wl_vc (d := d + 5) (as := [.ref 91]) (rest := []) ji_20_38 jc_20_65 rfl g6 jk_23.symm (Nat.le_of_ble_eq_true rfl) rfl (by rw [jn_23]; rfl) (wc_adv (d := d + 3) D hL H86 (⟨g6, (k6 92 (by decide)).trans ((fr5 92 (by decide) (by omega)).trans e92), fun _ _ => rfl⟩ : cT h6 h6 bl L k v s 0) (by omega)) (fun v1 h7 R => ?_)
  obtain ⟨rfl, k', v', s', p', ⟨g7, b7, k7⟩, tk, hqr⟩ := R
  have hta := tok_adv tk
  have htr := tok_r (fun j hj => bt_r D hL.2 hj) (by omega) tk
  refine wl_s (pc' := 42) ji_20_41 rfl rfl rfl ?_
  refine wl_s (pc' := 43) (lv' := [some (.ref 93), some (.ref t), some (wp_i 0)]) ji_20_42 rfl rfl rfl ?_
  have V : cL h h7 bl t L k' v' s' p' 0 (-1) law st wn op br ls as_ 0 ws [wp_i (-1), wp_i (-1), wp_i (-1)] := by
    refine ⟨g7, b7, (k7 93 (by decide)).trans g93, ⟨(k7 94 (by decide)).trans ((k6 94 (by decide)).trans ((fr5 94 (by decide) (by omega)).trans e94)), e94l⟩, tx_fr X5 (fun a a1 a2 => (k7 a (by omega)).trans (k6 a (by omega))), fun a q1 q2 q3 q4 => (k7 a q2).trans ((k6 a q2).trans (fr5 a q3 q1))⟩
  have On : onr [wp_i (-1), wp_i (-1), wp_i (-1)] nof := ⟨rfl, fun j hj => by match j, hj with | 0, _ => exact ⟨rfl, by decide⟩ | 1, _ => exact ⟨rfl, by decide⟩ | 2, _ => exact ⟨rfl, by decide⟩⟩
  refine wl_mono (wc_tl (d := d) D hL H8 ht HC nn h7 nof 0 k' v' s' p' law st wn op br ls as_ 0 ws _ V On (by decide) hls ⟨by omega, by omega, htr.2.2⟩ (by omega) ⟨by decide, by decide, ?_⟩) ?_
  · by_cases h3 : k' = 3
    · exact Or.inl h3
    · have := hta.2.2 h3
      exact Or.inr (by omega)
  · intro w h8 Q
    exact ⟨k', v', s', p', tk, Q⟩
/-- the class's text: the answer, and what becomes of its cells -/
def vQ (h : mj_H) (s47 bl : List Value) (t : Nat) (L c ls : Int) : Option Value → mj_H → Prop := fun v9 h1 => (c = 4 ∧ v9 = some (wp_i (-1)) ∧ h1 = h) ∨ (¬ c = 4 ∧ ∃ k v q r f q9, tok (bt bl L) 0 k v q r ∧ (∃ m, tr (bt bl L) m nof 0 ls k v q r f q9) ∧ v9 = some (wp_i (if f = 0 then c else -1)) ∧ (∃ k v s p, h1[91]? = some (8, [.ref 92, wp_i 0, wp_i k, wp_i v, wp_i s, wp_i p])) ∧ (∃ law st wn op br ls as_, h1[93]? = some (9, [.ref 91, .ref t, wp_i 1, wp_i f, wp_i q9, wp_i law, wp_i st, .ref 94, wp_i wn, wp_i op, wp_i br, wp_i ls, wp_i as_])) ∧ h1[47]? = some (2, if f = 0 then s47.set 6 (wp_i (c + 1)) else s47) ∧ ∀ a, ¬ (t ≤ a ∧ a ≤ t + 6) → a ≠ 91 → a ≠ 93 → a ≠ 94 → a ≠ 47 → h1[a]? = h[a]?)
theorem wc_tx {nn d : Nat} {h : mj_H} {g9 s47 bl ws fr : List Value} {t t0 : Nat} {L k v s p hr f q law st wn op br ls as_ c cl : Int} (E : cE h g9 s47 bl ws fr t t0 L k v s p hr f q law st wn op br ls as_ c cl) (D : tB bl) (hL : 0 ≤ L ∧ L ≤ 300) (H8 : h[8]? = some (900, tk_V)) (HC : hC h) (hc : 0 ≤ c ∧ c ≤ 4) (ht : (t : Int) = 12 + 7 * c ∨ c = 4) (hls : 0 ≤ ls ∧ ls ≤ 6) : wl_R nn (d + 7) 19 0 [some (.ref 9)] [] h (vQ h s47 bl t L c ls) := by
  have E0 := E
  obtain ⟨⟨e9, p0, p2, p3⟩, ⟨e47, l47, p5, p6⟩, e11, e91, e92, e93, ⟨e94, e94l⟩, X, hfl⟩ := E
  refine wl_s (pc' := 1) ji_19_0 rfl rfl rfl ?_
  refine wl_gf ji_19_1 jf_19_19 e9 p0 ?_
  refine wl_gf ji_19_4 jf_19_70 e47 p6 ?_
  refine wl_s (pc' := 8) ji_19_7 rfl rfl rfl ?_
  refine wl_icmp (t := 13) ji_19_8 rfl (x := c) (y := 4) (by omega) (by omega) (fun (c4 : ¬ c = 4) => ?_) (fun (c4 : ¬ ¬ c = 4) => ?_)
  · have ht : (t : Int) = 12 + 7 * c := by omega
    refine wl_s (pc' := 14) ji_19_13 rfl rfl rfl ?_
    refine wl_gf ji_19_14 jf_19_38 e9 p3 ?_
    refine wl_s (pc' := 18) ji_19_17 rfl rfl rfl ?_
    refine wl_gf ji_19_18 jf_19_19 e9 p0 ?_
    refine wl_gf ji_19_21 jf_19_73 e47 p5 ?_
    refine wl_s (pc' := 25) ji_19_24 rfl rfl rfl ?_
    refine wl_gf ji_19_25 jf_19_19 e9 p0 ?_
    refine wl_gf ji_19_28 jf_19_70 e47 p6 ?_
    have hv : [Value.ref 12, .ref 19, .ref 26, .ref 33, .ref 40][c.toNat]? = some (.ref t) := by
      have h4 : c = 0 ∨ c = 1 ∨ c = 2 ∨ c = 3 := by omega
      rcases h4 with e | e | e | e
      · subst e; rw [show t = 12 by omega]; rfl
      · subst e; rw [show t = 19 by omega]; rfl
      · subst e; rw [show t = 26 by omega]; rfl
      · subst e; rw [show t = 33 by omega]; rfl
    refine wl_aal (x := c) ji_19_31 e11 (by decide) hc.1 (by show c < 5; omega) (by decide) hv ?_
    refine wl_vc (d := d + 6) (as := [.ref 93, .ref t]) (rest := []) ji_19_32 jc_19_77 rfl e93 jk_20.symm (Nat.le_of_ble_eq_true rfl) rfl (by rw [jn_20]; rfl) (wc_ri (d := d) E0 D hL H8 HC (by omega) hls) (fun v1 h1 R => ?_)
    obtain ⟨k1, v1, s1, p1, tk, rfl, m, k', v', s', p', f', q', law', st', wn', op', br', ls', as', cl', ws', fr', TR, V⟩ := R
    have hf := tr_f TR
    obtain ⟨f91, f92, f93, -, -, fo⟩ := V
    have g9_ : h1[9]? = some (0, g9) := (fo 9 (by omega) (by decide) (by decide) (by decide)).trans e9
    have g47_ : h1[47]? = some (2, s47) := (fo 47 (by omega) (by decide) (by decide) (by decide)).trans e47
    refine wl_s (pc' := 36) ji_19_35 rfl rfl rfl ?_
    refine wl_gf ji_19_36 jf_19_29 g9_ p2 ?_
    refine wl_s (pc' := 40) ji_19_39 rfl rfl rfl ?_
    refine wl_pf2 ji_19_40 jf_19_62 f91 (by decide) (Nat.le_of_ble_eq_true rfl) rfl rfl (fun h2 g2 k2 => ?_)
    refine wl_s (pc' := 44) ji_19_43 rfl rfl rfl ?_
    refine wl_gf ji_19_44 jf_19_38 ((k2 9 (by decide)).trans g9_) p3 ?_
    refine wl_gf ji_19_47 jf_19_81 ((k2 93 (by decide)).trans f93) rfl ?_
    refine wl_if (t := 55) ji_19_50 rfl (x := f') (by omega) (fun (c0 : f' = 0) => ?_) (fun (c0 : ¬ f' = 0) => ?_)
    · refine wl_s (pc' := 56) ji_19_55 rfl rfl rfl ?_
      refine wl_gf ji_19_56 jf_19_19 ((k2 9 (by decide)).trans g9_) p0 ?_
      refine wl_s (pc' := 60) ji_19_59 rfl rfl rfl ?_
      refine wl_gf ji_19_60 jf_19_70 ((k2 47 (by decide)).trans g47_) p6 ?_
      refine wl_s (pc' := 64) ji_19_63 rfl rfl rfl ?_
      refine wl_iadd (x := c) (y := 1) (z := c + 1) ji_19_64 rfl ?_
      refine wl_pf2 ji_19_65 jf_19_70 ((k2 47 (by decide)).trans g47_) (by decide) (by omega) rfl rfl (fun h3 g3 k3 => ?_)
      refine wl_s (pc' := 69) ji_19_68 rfl rfl rfl ?_
      refine wl_gf ji_19_69 jf_19_19 ((k3 9 (by decide)).trans ((k2 9 (by decide)).trans g9_)) p0 ?_
      refine wl_gf ji_19_72 jf_19_70 g3 (List.getElem?_set_self (by omega)) ?_
      refine wl_s (pc' := 76) ji_19_75 rfl rfl rfl ?_
      refine wl_isub (x := c + 1) (y := 1) (z := c) ji_19_76 (by omega) ?_
      refine wl_ri ji_19_77 jr_19 rfl (Or.inr ⟨c4, k1, v1, s1, p1, f', q', tk, ⟨m, TR⟩, by rw [if_pos c0], ⟨k', v', s', p', (k3 91 (by decide)).trans g2⟩, ⟨law', st', wn', op', br', ls', as', (k3 93 (by decide)).trans ((k2 93 (by decide)).trans f93)⟩, by rw [if_pos c0]; exact g3, fun a q1 q2 q3 q4 q5 => (k3 a q5).trans ((k2 a q2).trans (fo a q1 q2 q3 q4))⟩)
    · refine wl_s (pc' := 54) ji_19_53 rfl rfl rfl ?_
      exact wl_ri ji_19_54 jr_19 rfl (Or.inr ⟨c4, k1, v1, s1, p1, f', q', tk, ⟨m, TR⟩, by rw [if_neg c0], ⟨k', v', s', p', g2⟩, ⟨law', st', wn', op', br', ls', as', (k2 93 (by decide)).trans f93⟩, by rw [if_neg c0]; exact (k2 47 (by decide)).trans g47_, fun a q1 q2 q3 q4 q5 => (k2 a q2).trans (fo a q1 q2 q3 q4)⟩)
  · refine wl_s (pc' := 12) ji_19_11 rfl rfl rfl ?_
    exact wl_ri ji_19_12 jr_19 rfl (Or.inl ⟨by omega, rfl, rfl⟩)
