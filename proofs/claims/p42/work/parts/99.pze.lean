/-! -/
/-! the reference's clauses; laid by program (wp_rread11.py) -/
def bC (B : Int → Int) (x ls s p : Int) : Int → Int → Int → Prop := fun f q r => (x < 3 ∧ ∃ m, lr B x m p (if x = 2 then 0 else 1) [] ls 0 f q r) ∨ (3 ≤ x ∧ xr B (dl x) p s f q r)
def cz (C : Int → Int → Int → Prop) (f k1 v1 q1 r1 : Int) : Prop := ((1 ≤ f ∧ f ≤ 7) ∧ C f q1 r1) ∨ (f = 0 ∧ (¬ (k1 = 2 ∧ v1 = 59) → C 1 q1 r1) ∧ ((k1 = 2 ∧ v1 = 59) → C 0 q1 r1))
section XRS
variable {B : Int → Int} {p k v q r a b s f q' r' : Int} {l : List (Int × Int × Int)}
theorem x_b (tk : tok B p k v q r) (h : ¬ xn a b k v = 0) : xr B ((0, a, b) :: l) p s (xn a b k v) q r := ⟨k, v, q, r, tk, Or.inl ⟨by rw [show xe 0 a b k v = xn a b k v from if_pos rfl]; exact h, (if_pos rfl : xe 0 a b k v = xn a b k v).symm, rfl, rfl⟩⟩
theorem x_g (tk : tok B p k v q r) (h : xn a b k v = 0) (g : xr B l r q f q' r') : xr B ((0, a, b) :: l) p s f q' r' := ⟨k, v, q, r, tk, Or.inr ⟨by rw [show xe 0 a b k v = xn a b k v from if_pos rfl]; exact h, g⟩⟩
theorem xe_1 : xe 1 a b k v = xt a b k v := if_neg (by decide)
theorem y_b (tk : tok B p k v q r) (h : ¬ (k = a ∧ v = b)) : xr B ((1, a, b) :: l) p s 1 q r := by
  have e : xt a b k v = 1 := if_neg h
  exact ⟨k, v, q, r, tk, Or.inl ⟨by rw [xe_1, e]; decide, by rw [xe_1, e], rfl, rfl⟩⟩
theorem y_g (tk : tok B p k v q r) (h : k = a ∧ v = b) (g : xr B l r q f q' r') : xr B ((1, a, b) :: l) p s f q' r' := ⟨k, v, q, r, tk, Or.inr ⟨by rw [xe_1]; exact if_pos h, g⟩⟩
theorem z_l (tk : tok B p k v q r) : (¬ (k = 2 ∧ v = 59) → xr B [(1, 2, 59)] p s 1 q r) ∧ ((k = 2 ∧ v = 59) → xr B [(1, 2, 59)] p s 0 q r) := ⟨fun h => y_b tk h, fun h => y_g tk h ⟨rfl, rfl, rfl⟩⟩
theorem dl_3 : dl 3 = [(0, 1, 99), (1, 0, 10), (0, 0, 99), (1, 2, 59)] := by decide
theorem dl_4 : dl 4 = [(0, 1, 9), (1, 2, 59)] := by decide
theorem dl_5 : dl 5 = [(0, 0, 5), (1, 0, 11), (0, 0, 7), (1, 2, 59)] := by decide
theorem dl_6 : dl 6 = [(0, 0, 5), (1, 0, 11), (0, 0, 7), (1, 2, 59)] := by decide
theorem dl_7 : dl 7 = [(0, 0, 7), (1, 0, 12), (0, 1, 99), (1, 2, 59)] := by decide
theorem dl_8 : dl 8 = [(0, 0, 9), (1, 2, 59)] := by decide
theorem dl_9 : dl 9 = [(0, 1, 60), (1, 2, 59)] := by decide
end XRS
def bQ (C : Int → Int → Int → Prop) (h0 : mj_H) (fs0 bl : List Value) (L x0 so oc cn p : Int) : Option Value → mj_H → Prop := fun v9 h1 => ∃ f, v9 = some (wp_i f) ∧ (0 ≤ f ∧ f ≤ 7) ∧ ∃ (p1 k1 v1 q1 r1 t1 n1 wr1 pd1 op1 am1 wi1 ei1 : Int) (w1 : Nat) (pl1 ts1 : List Value), cz C f k1 v1 q1 r1 ∧ tok (bt bl L) p1 k1 v1 q1 r1 ∧ tkr k1 v1 t1 n1 w1 ∧ (p ≤ p1 ∧ 0 ≤ q1 ∧ r1 ≤ L) ∧ w1 ≤ 2 ^ 60 ∧ (0 ≤ wr1 ∧ wr1 ≤ 1000 * (p1 + 2)) ∧ (0 ≤ am1 ∧ am1 ≤ 100) ∧ rP h0 h1 fs0 bl L r1 q1 t1 n1 x0 wr1 so pd1 op1 am1 wi1 ei1 oc cn w1 pl1 ts1
theorem wr_bd {nn d : Nat} {h0 h : mj_H} {fs0 bl pl ts : List Value} {L p q r t n x0 wr so pd op am wi ei oc cn : Int} {w : Nat} (V : rP h0 h fs0 bl L r q t n x0 wr so pd op am wi ei oc cn w pl ts) {k v : Int} (tk : tok (bt bl L) p k v q r) (T : tkr k v t n w) (D : tB bl) (hL : 0 ≤ L ∧ L ≤ 300) (hx0 : 0 ≤ x0 ∧ x0 ≤ 2900) (hb : 0 ≤ p ∧ 0 ≤ q ∧ r ≤ L) (hw0 : w ≤ 2 ^ 60) (hwr : 0 ≤ wr ∧ wr ≤ 1000 * (p + 1)) (ham : 0 ≤ am ∧ am ≤ 100) {ls s : Int} (hls : 0 ≤ ls ∧ ls ≤ 6) {xi : Int} (hx : x0 + 1 ≤ xi ∧ xi ≤ 2990) (hso : 0 ≤ so ∧ so ≤ 9) : wl_R nn (d + 9) 192 0 [some (.ref 138), some (wp_i so), some (wp_i xi)] [] h (bQ (bC (bt bl L) so ls s p) h0 fs0 bl L x0 so oc cn p) := by
  have hta0 := tok_adv tk
  have hc : so = 0 ∨ so = 1 ∨ so = 2 ∨ so = 3 ∨ so = 4 ∨ so = 5 ∨ so = 6 ∨ so = 7 ∨ so = 8 ∨ so = 9 := by omega
  rcases hc with hv | hv | hv | hv | hv | hv | hv | hv | hv | hv
  · subst hv
    refine wl_s (pc' := 1) ji_192_0 rfl rfl rfl ?_
    refine wl_s (pc' := 56) (lv' := [some (.ref 138), some (wp_i 0), some (wp_i xi)]) (st' := []) (h' := h) ji_192_1 rfl rfl rfl ?_
    refine wl_s (pc' := 57) ji_192_56 rfl rfl rfl ?_
    refine wl_s (pc' := 58) ji_192_57 rfl rfl rfl ?_
    refine wl_s (pc' := 59) ji_192_58 rfl rfl rfl ?_
    obtain ⟨cs, hcs⟩ := rp_c V
    refine wl_vc (d := d + 8) (as := [.ref 138, wp_i xi, wp_i 0]) (rest := []) ji_192_59 jc_192_230 rfl hcs jk_193.symm (Nat.le_of_ble_eq_true rfl) rfl (by rw [jn_193]; rfl) (wr_lc (d := d) (so := 0) (x := xi) (by omega) V tk T D hL (by omega) hb hw0 hwr ham (by decide) hls) (fun v1 h1 R => ?_)
    obtain ⟨f, rfl, hf, p1, k1, v1, q1, r1, t1, n1, wr1, pd1, op1, am1, wi1, w1, pl1, ts1, hz, tk1, T1, hb1, hw1, hwr1, ham1, V1⟩ := R
    show wl_R _ _ 192 62 [some (.ref 138), some (wp_i 0), some (wp_i xi)] [wp_i f] h1 _
    refine wl_ri ji_192_62 jr_192 rfl ⟨f, rfl, hf, p1, k1, v1, q1, r1, t1, n1, wr1, pd1, op1, am1, wi1, _, w1, pl1, ts1, ?_, tk1, T1, hb1, hw1, hwr1, ham1, V1⟩
    rcases hz with ⟨z1, z2, z3⟩ | ⟨z1, z2, z3⟩
    · exact Or.inl ⟨⟨z1, z2⟩, Or.inl ⟨by decide, z3⟩⟩
    · exact Or.inr ⟨z1, fun y => Or.inl ⟨by decide, z2 y⟩, fun y => Or.inl ⟨by decide, z3 y⟩⟩
  · subst hv
    refine wl_s (pc' := 1) ji_192_0 rfl rfl rfl ?_
    refine wl_s (pc' := 63) (lv' := [some (.ref 138), some (wp_i 1), some (wp_i xi)]) (st' := []) (h' := h) ji_192_1 rfl rfl rfl ?_
    refine wl_s (pc' := 64) ji_192_63 rfl rfl rfl ?_
    refine wl_s (pc' := 65) ji_192_64 rfl rfl rfl ?_
    refine wl_s (pc' := 66) ji_192_65 rfl rfl rfl ?_
    obtain ⟨cs, hcs⟩ := rp_c V
    refine wl_vc (d := d + 8) (as := [.ref 138, wp_i xi, wp_i 0]) (rest := []) ji_192_66 jc_192_230 rfl hcs jk_193.symm (Nat.le_of_ble_eq_true rfl) rfl (by rw [jn_193]; rfl) (wr_lc (d := d) (so := 1) (x := xi) (by omega) V tk T D hL (by omega) hb hw0 hwr ham (by decide) hls) (fun v1 h1 R => ?_)
    obtain ⟨f, rfl, hf, p1, k1, v1, q1, r1, t1, n1, wr1, pd1, op1, am1, wi1, w1, pl1, ts1, hz, tk1, T1, hb1, hw1, hwr1, ham1, V1⟩ := R
    show wl_R _ _ 192 69 [some (.ref 138), some (wp_i 1), some (wp_i xi)] [wp_i f] h1 _
    refine wl_ri ji_192_69 jr_192 rfl ⟨f, rfl, hf, p1, k1, v1, q1, r1, t1, n1, wr1, pd1, op1, am1, wi1, _, w1, pl1, ts1, ?_, tk1, T1, hb1, hw1, hwr1, ham1, V1⟩
    rcases hz with ⟨z1, z2, z3⟩ | ⟨z1, z2, z3⟩
    · exact Or.inl ⟨⟨z1, z2⟩, Or.inl ⟨by decide, z3⟩⟩
    · exact Or.inr ⟨z1, fun y => Or.inl ⟨by decide, z2 y⟩, fun y => Or.inl ⟨by decide, z3 y⟩⟩
  · subst hv
    refine wl_s (pc' := 1) ji_192_0 rfl rfl rfl ?_
    refine wl_s (pc' := 70) (lv' := [some (.ref 138), some (wp_i 2), some (wp_i xi)]) (st' := []) (h' := h) ji_192_1 rfl rfl rfl ?_
    refine wl_s (pc' := 71) ji_192_70 rfl rfl rfl ?_
    refine wl_s (pc' := 72) ji_192_71 rfl rfl rfl ?_
    refine wl_s (pc' := 73) ji_192_72 rfl rfl rfl ?_
    obtain ⟨cs, hcs⟩ := rp_c V
    refine wl_vc (d := d + 8) (as := [.ref 138, wp_i xi, wp_i 1]) (rest := []) ji_192_73 jc_192_230 rfl hcs jk_193.symm (Nat.le_of_ble_eq_true rfl) rfl (by rw [jn_193]; rfl) (wr_lc (d := d) (so := 2) (x := xi) (by omega) V tk T D hL (by omega) hb hw0 hwr ham (by decide) hls) (fun v1 h1 R => ?_)
    obtain ⟨f, rfl, hf, p1, k1, v1, q1, r1, t1, n1, wr1, pd1, op1, am1, wi1, w1, pl1, ts1, hz, tk1, T1, hb1, hw1, hwr1, ham1, V1⟩ := R
    show wl_R _ _ 192 76 [some (.ref 138), some (wp_i 2), some (wp_i xi)] [wp_i f] h1 _
    refine wl_ri ji_192_76 jr_192 rfl ⟨f, rfl, hf, p1, k1, v1, q1, r1, t1, n1, wr1, pd1, op1, am1, wi1, _, w1, pl1, ts1, ?_, tk1, T1, hb1, hw1, hwr1, ham1, V1⟩
    rcases hz with ⟨z1, z2, z3⟩ | ⟨z1, z2, z3⟩
    · exact Or.inl ⟨⟨z1, z2⟩, Or.inl ⟨by decide, z3⟩⟩
    · exact Or.inr ⟨z1, fun y => Or.inl ⟨by decide, z2 y⟩, fun y => Or.inl ⟨by decide, z3 y⟩⟩
  · subst hv
    refine wl_s (pc' := 1) ji_192_0 rfl rfl rfl ?_
    refine wl_s (pc' := 77) (lv' := [some (.ref 138), some (wp_i 3), some (wp_i xi)]) (st' := []) (h' := h) ji_192_1 rfl rfl rfl ?_
    refine wl_s (pc' := 78) ji_192_77 rfl rfl rfl ?_
    refine wl_s (pc' := 79) ji_192_78 rfl rfl rfl ?_
    refine wl_s (pc' := 80) ji_192_79 rfl rfl rfl ?_
    refine wl_bp ji_192_80 rfl ?_
    refine wl_bp ji_192_82 rfl ?_
    refine wl_bp ji_192_84 rfl ?_
    refine wl_sc (d := d + 8) (as := [wp_i 97, wp_i 116]) (rest := [wp_i 99, wp_i 1, wp_i xi, .ref 138]) ji_192_86 jc_192_118 (Nat.le_of_ble_eq_true rfl) rfl (Nat.le_of_ble_eq_true rfl) rfl (by rw [jn_189]; rfl) (wr_w2 (by decide) (by decide)) (fun v1 h1 R => ?_)
    obtain ⟨ee, rfl⟩ := R
    subst ee
    show wl_R _ _ 192 89 [some (.ref 138), some (wp_i 3), some (wp_i xi)] [.long (Int64.ofNat (wd [97, 116])), wp_i 99, wp_i 1, wp_i xi, .ref 138] h1 _
    refine wl_s (pc' := 90) ji_192_89 rfl rfl rfl ?_
    refine wl_bp ji_192_90 rfl ?_
    obtain ⟨cs, hcs⟩ := rp_c V
    have htr := tk_tr tk T
    have hta := tok_adv tk
    refine wl_vc (d := d + 8) (as := [.ref 138, wp_i xi, wp_i 1, wp_i 99, .long (Int64.ofNat (wd [97, 116])), wp_i 0, wp_i 99]) (rest := []) ji_192_92 jc_192_234 rfl hcs jk_212.symm (Nat.le_of_ble_eq_true rfl) rfl (by rw [jn_212]; rfl) (wr_pr (d := d + 5) V (x := xi) (a := 1) (b := 99) (a2 := 0) (b2 := 99) (by omega) (by omega) (by decide) D hL (by omega) hw0 T (by omega) (jw := 10) (K := [97, 116]) rfl (by decide +kernel)) (fun v1 h1 R => ?_)
    rcases R with ⟨hz, rfl, V1⟩ | ⟨hz, k2, v2, q', r', t', n', w', ts', tk2, T2, hb2, hw2, ⟨g2, rfl, V2⟩ | ⟨g2, k3, v3, q3, r3, t3, n3, w3, tk3, T3, hb3, hw3, ⟨z3, rfl, V3⟩ | ⟨z3, rfl, k4, v4, q4, r4, t4, n4, w4, ts4, tk4, T4, hb4, hw4, V4⟩⟩⟩
    · show wl_R _ _ 192 95 [some (.ref 138), some (wp_i 3), some (wp_i xi)] [wp_i (xn 1 99 k v)] h1 _
      have hxr := xn_r 1 99 k v
      exact wl_ri ji_192_95 jr_192 rfl ⟨_, rfl, by omega, p, k, v, q, r, t, n, wr, pd, op, am, wi, ei, w, pl, ts, Or.inl ⟨by omega, Or.inr ⟨by decide, by rw [dl_3]; exact x_b tk hz⟩⟩, tk, T, by omega, hw0, by omega, ham, V1⟩
    · show wl_R _ _ 192 95 [some (.ref 138), some (wp_i 3), some (wp_i xi)] [wp_i 1] h1 _
      exact wl_ri ji_192_95 jr_192 rfl ⟨_, rfl, by decide, r, k2, v2, q', r', t', n', wr, pd, op, am, wi, ei, w', pl, ts', Or.inl ⟨by decide, Or.inr ⟨by decide, by rw [dl_3]; exact x_g tk hz (y_b tk2 g2)⟩⟩, tk2, T2, by omega, hw2, by omega, ham, V2⟩
    · show wl_R _ _ 192 95 [some (.ref 138), some (wp_i 3), some (wp_i xi)] [wp_i (xn 0 99 k3 v3)] h1 _
      have hxr := xn_r 0 99 k3 v3
      have hta2 := tok_adv tk2
      exact wl_ri ji_192_95 jr_192 rfl ⟨_, rfl, by omega, r', k3, v3, q3, r3, t3, n3, wr, pd, op, am, wi, ei, w3, pl, ts', Or.inl ⟨by omega, Or.inr ⟨by decide, by rw [dl_3]; exact x_g tk hz (y_g tk2 g2 (x_b tk3 z3))⟩⟩, tk3, T3, by omega, hw3, by omega, ham, V3⟩
    · show wl_R _ _ 192 95 [some (.ref 138), some (wp_i 3), some (wp_i xi)] [wp_i 0] h1 _
      have hta2 := tok_adv tk2
      have hta3 := tok_adv tk3
      exact wl_ri ji_192_95 jr_192 rfl ⟨_, rfl, by decide, r3, k4, v4, q4, r4, t4, n4, wr, pd, op, am, wi, ei, w4, pl, ts4, Or.inr ⟨rfl, fun y => Or.inr ⟨by decide, by rw [dl_3]; exact x_g tk hz (y_g tk2 g2 (x_g tk3 z3 ((z_l tk4).1 y)))⟩, fun y => Or.inr ⟨by decide, by rw [dl_3]; exact x_g tk hz (y_g tk2 g2 (x_g tk3 z3 ((z_l tk4).2 y)))⟩⟩, tk4, T4, by omega, hw4, by omega, ham, V4⟩
  · subst hv
    refine wl_s (pc' := 1) ji_192_0 rfl rfl rfl ?_
    refine wl_s (pc' := 96) (lv' := [some (.ref 138), some (wp_i 4), some (wp_i xi)]) (st' := []) (h' := h) ji_192_1 rfl rfl rfl ?_
    refine wl_s (pc' := 97) ji_192_96 rfl rfl rfl ?_
    refine wl_s (pc' := 98) ji_192_97 rfl rfl rfl ?_
    refine wl_s (pc' := 99) ji_192_98 rfl rfl rfl ?_
    refine wl_iadd (x := xi) (y := 1) (z := xi + 1) ji_192_99 (by omega) ?_
    refine wl_s (pc' := 101) ji_192_100 rfl rfl rfl ?_
    refine wl_bp ji_192_101 rfl ?_
    obtain ⟨cs, hcs⟩ := rp_c V
    have htr := tk_tr tk T
    refine wl_vc (d := d + 8) (as := [.ref 138, wp_i (xi + 1), wp_i 1, wp_i 9]) (rest := []) ji_192_103 jc_192_227 rfl hcs jk_213.symm (Nat.le_of_ble_eq_true rfl) rfl (by rw [jn_213]; rfl) (wr_fg (d := d + 6) V (x := xi + 1) (a := 1) (b := 9) (by omega) (by omega) (by decide) D hL (by omega) hw0 T (by omega)) (fun v1 h1 R => ?_)
    rcases R with ⟨hz, rfl, rfl⟩ | ⟨hz, rfl, k2, v2, q', r', t', n', w', ts', tk2, T2, hb2, hw2, V2⟩
    · show wl_R _ _ 192 106 [some (.ref 138), some (wp_i 4), some (wp_i xi)] [wp_i (xn 1 9 k v)] h1 _
      have hxr := xn_r 1 9 k v
      exact wl_ri ji_192_106 jr_192 rfl ⟨_, rfl, by omega, p, k, v, q, r, t, n, wr, pd, op, am, wi, ei, w, pl, ts, Or.inl ⟨by omega, Or.inr ⟨by decide, by rw [dl_4]; exact x_b tk hz⟩⟩, tk, T, by omega, hw0, by omega, ham, V⟩
    · show wl_R _ _ 192 106 [some (.ref 138), some (wp_i 4), some (wp_i xi)] [wp_i 0] h1 _
      have hta := tok_adv tk
      exact wl_ri ji_192_106 jr_192 rfl ⟨_, rfl, by decide, r, k2, v2, q', r', t', n', wr, pd, op, am, wi, ei, w', pl, ts', Or.inr ⟨rfl, fun y => Or.inr ⟨by decide, by rw [dl_4]; exact x_g tk hz ((z_l tk2).1 y)⟩, fun y => Or.inr ⟨by decide, by rw [dl_4]; exact x_g tk hz ((z_l tk2).2 y)⟩⟩, tk2, T2, by omega, hw2, by omega, ham, V2⟩
  · subst hv
    refine wl_s (pc' := 1) ji_192_0 rfl rfl rfl ?_
    refine wl_s (pc' := 148) (lv' := [some (.ref 138), some (wp_i 5), some (wp_i xi)]) (st' := []) (h' := h) ji_192_1 rfl rfl rfl ?_
    refine wl_s (pc' := 149) ji_192_148 rfl rfl rfl ?_
    refine wl_s (pc' := 150) ji_192_149 rfl rfl rfl ?_
    refine wl_s (pc' := 151) ji_192_150 rfl rfl rfl ?_
    refine wl_s (pc' := 152) ji_192_151 rfl rfl rfl ?_
    refine wl_bp ji_192_152 rfl ?_
    refine wl_bp ji_192_154 rfl ?_
    refine wl_sc (d := d + 8) (as := [wp_i 111, wp_i 110]) (rest := [wp_i 5, wp_i 0, wp_i xi, .ref 138]) ji_192_156 jc_192_118 (Nat.le_of_ble_eq_true rfl) rfl (Nat.le_of_ble_eq_true rfl) rfl (by rw [jn_189]; rfl) (wr_w2 (by decide) (by decide)) (fun v1 h1 R => ?_)
    obtain ⟨ee, rfl⟩ := R
    subst ee
    show wl_R _ _ 192 159 [some (.ref 138), some (wp_i 5), some (wp_i xi)] [.long (Int64.ofNat (wd [111, 110])), wp_i 5, wp_i 0, wp_i xi, .ref 138] h1 _
    refine wl_s (pc' := 160) ji_192_159 rfl rfl rfl ?_
    refine wl_bp ji_192_160 rfl ?_
    obtain ⟨cs, hcs⟩ := rp_c V
    have htr := tk_tr tk T
    have hta := tok_adv tk
    refine wl_vc (d := d + 8) (as := [.ref 138, wp_i xi, wp_i 0, wp_i 5, .long (Int64.ofNat (wd [111, 110])), wp_i 0, wp_i 7]) (rest := []) ji_192_162 jc_192_234 rfl hcs jk_212.symm (Nat.le_of_ble_eq_true rfl) rfl (by rw [jn_212]; rfl) (wr_pr (d := d + 5) V (x := xi) (a := 0) (b := 5) (a2 := 0) (b2 := 7) (by omega) (by omega) (by decide) D hL (by omega) hw0 T (by omega) (jw := 11) (K := [111, 110]) rfl (by decide +kernel)) (fun v1 h1 R => ?_)
    rcases R with ⟨hz, rfl, V1⟩ | ⟨hz, k2, v2, q', r', t', n', w', ts', tk2, T2, hb2, hw2, ⟨g2, rfl, V2⟩ | ⟨g2, k3, v3, q3, r3, t3, n3, w3, tk3, T3, hb3, hw3, ⟨z3, rfl, V3⟩ | ⟨z3, rfl, k4, v4, q4, r4, t4, n4, w4, ts4, tk4, T4, hb4, hw4, V4⟩⟩⟩
    · show wl_R _ _ 192 165 [some (.ref 138), some (wp_i 5), some (wp_i xi)] [wp_i (xn 0 5 k v)] h1 _
      have hxr := xn_r 0 5 k v
      exact wl_ri ji_192_165 jr_192 rfl ⟨_, rfl, by omega, p, k, v, q, r, t, n, wr, pd, op, am, wi, ei, w, pl, ts, Or.inl ⟨by omega, Or.inr ⟨by decide, by rw [dl_5]; exact x_b tk hz⟩⟩, tk, T, by omega, hw0, by omega, ham, V1⟩
    · show wl_R _ _ 192 165 [some (.ref 138), some (wp_i 5), some (wp_i xi)] [wp_i 1] h1 _
      exact wl_ri ji_192_165 jr_192 rfl ⟨_, rfl, by decide, r, k2, v2, q', r', t', n', wr, pd, op, am, wi, ei, w', pl, ts', Or.inl ⟨by decide, Or.inr ⟨by decide, by rw [dl_5]; exact x_g tk hz (y_b tk2 g2)⟩⟩, tk2, T2, by omega, hw2, by omega, ham, V2⟩
    · show wl_R _ _ 192 165 [some (.ref 138), some (wp_i 5), some (wp_i xi)] [wp_i (xn 0 7 k3 v3)] h1 _
      have hxr := xn_r 0 7 k3 v3
      have hta2 := tok_adv tk2
      exact wl_ri ji_192_165 jr_192 rfl ⟨_, rfl, by omega, r', k3, v3, q3, r3, t3, n3, wr, pd, op, am, wi, ei, w3, pl, ts', Or.inl ⟨by omega, Or.inr ⟨by decide, by rw [dl_5]; exact x_g tk hz (y_g tk2 g2 (x_b tk3 z3))⟩⟩, tk3, T3, by omega, hw3, by omega, ham, V3⟩
    · show wl_R _ _ 192 165 [some (.ref 138), some (wp_i 5), some (wp_i xi)] [wp_i 0] h1 _
      have hta2 := tok_adv tk2
      have hta3 := tok_adv tk3
      exact wl_ri ji_192_165 jr_192 rfl ⟨_, rfl, by decide, r3, k4, v4, q4, r4, t4, n4, wr, pd, op, am, wi, ei, w4, pl, ts4, Or.inr ⟨rfl, fun y => Or.inr ⟨by decide, by rw [dl_5]; exact x_g tk hz (y_g tk2 g2 (x_g tk3 z3 ((z_l tk4).1 y)))⟩, fun y => Or.inr ⟨by decide, by rw [dl_5]; exact x_g tk hz (y_g tk2 g2 (x_g tk3 z3 ((z_l tk4).2 y)))⟩⟩, tk4, T4, by omega, hw4, by omega, ham, V4⟩
  · subst hv
    refine wl_s (pc' := 1) ji_192_0 rfl rfl rfl ?_
    refine wl_s (pc' := 148) (lv' := [some (.ref 138), some (wp_i 6), some (wp_i xi)]) (st' := []) (h' := h) ji_192_1 rfl rfl rfl ?_
    refine wl_s (pc' := 149) ji_192_148 rfl rfl rfl ?_
    refine wl_s (pc' := 150) ji_192_149 rfl rfl rfl ?_
    refine wl_s (pc' := 151) ji_192_150 rfl rfl rfl ?_
    refine wl_s (pc' := 152) ji_192_151 rfl rfl rfl ?_
    refine wl_bp ji_192_152 rfl ?_
    refine wl_bp ji_192_154 rfl ?_
    refine wl_sc (d := d + 8) (as := [wp_i 111, wp_i 110]) (rest := [wp_i 5, wp_i 0, wp_i xi, .ref 138]) ji_192_156 jc_192_118 (Nat.le_of_ble_eq_true rfl) rfl (Nat.le_of_ble_eq_true rfl) rfl (by rw [jn_189]; rfl) (wr_w2 (by decide) (by decide)) (fun v1 h1 R => ?_)
    obtain ⟨ee, rfl⟩ := R
    subst ee
    show wl_R _ _ 192 159 [some (.ref 138), some (wp_i 6), some (wp_i xi)] [.long (Int64.ofNat (wd [111, 110])), wp_i 5, wp_i 0, wp_i xi, .ref 138] h1 _
    refine wl_s (pc' := 160) ji_192_159 rfl rfl rfl ?_
    refine wl_bp ji_192_160 rfl ?_
    obtain ⟨cs, hcs⟩ := rp_c V
    have htr := tk_tr tk T
    have hta := tok_adv tk
    refine wl_vc (d := d + 8) (as := [.ref 138, wp_i xi, wp_i 0, wp_i 5, .long (Int64.ofNat (wd [111, 110])), wp_i 0, wp_i 7]) (rest := []) ji_192_162 jc_192_234 rfl hcs jk_212.symm (Nat.le_of_ble_eq_true rfl) rfl (by rw [jn_212]; rfl) (wr_pr (d := d + 5) V (x := xi) (a := 0) (b := 5) (a2 := 0) (b2 := 7) (by omega) (by omega) (by decide) D hL (by omega) hw0 T (by omega) (jw := 11) (K := [111, 110]) rfl (by decide +kernel)) (fun v1 h1 R => ?_)
    rcases R with ⟨hz, rfl, V1⟩ | ⟨hz, k2, v2, q', r', t', n', w', ts', tk2, T2, hb2, hw2, ⟨g2, rfl, V2⟩ | ⟨g2, k3, v3, q3, r3, t3, n3, w3, tk3, T3, hb3, hw3, ⟨z3, rfl, V3⟩ | ⟨z3, rfl, k4, v4, q4, r4, t4, n4, w4, ts4, tk4, T4, hb4, hw4, V4⟩⟩⟩
    · show wl_R _ _ 192 165 [some (.ref 138), some (wp_i 6), some (wp_i xi)] [wp_i (xn 0 5 k v)] h1 _
      have hxr := xn_r 0 5 k v
      exact wl_ri ji_192_165 jr_192 rfl ⟨_, rfl, by omega, p, k, v, q, r, t, n, wr, pd, op, am, wi, ei, w, pl, ts, Or.inl ⟨by omega, Or.inr ⟨by decide, by rw [dl_6]; exact x_b tk hz⟩⟩, tk, T, by omega, hw0, by omega, ham, V1⟩
    · show wl_R _ _ 192 165 [some (.ref 138), some (wp_i 6), some (wp_i xi)] [wp_i 1] h1 _
      exact wl_ri ji_192_165 jr_192 rfl ⟨_, rfl, by decide, r, k2, v2, q', r', t', n', wr, pd, op, am, wi, ei, w', pl, ts', Or.inl ⟨by decide, Or.inr ⟨by decide, by rw [dl_6]; exact x_g tk hz (y_b tk2 g2)⟩⟩, tk2, T2, by omega, hw2, by omega, ham, V2⟩
    · show wl_R _ _ 192 165 [some (.ref 138), some (wp_i 6), some (wp_i xi)] [wp_i (xn 0 7 k3 v3)] h1 _
      have hxr := xn_r 0 7 k3 v3
      have hta2 := tok_adv tk2
      exact wl_ri ji_192_165 jr_192 rfl ⟨_, rfl, by omega, r', k3, v3, q3, r3, t3, n3, wr, pd, op, am, wi, ei, w3, pl, ts', Or.inl ⟨by omega, Or.inr ⟨by decide, by rw [dl_6]; exact x_g tk hz (y_g tk2 g2 (x_b tk3 z3))⟩⟩, tk3, T3, by omega, hw3, by omega, ham, V3⟩
    · show wl_R _ _ 192 165 [some (.ref 138), some (wp_i 6), some (wp_i xi)] [wp_i 0] h1 _
      have hta2 := tok_adv tk2
      have hta3 := tok_adv tk3
      exact wl_ri ji_192_165 jr_192 rfl ⟨_, rfl, by decide, r3, k4, v4, q4, r4, t4, n4, wr, pd, op, am, wi, ei, w4, pl, ts4, Or.inr ⟨rfl, fun y => Or.inr ⟨by decide, by rw [dl_6]; exact x_g tk hz (y_g tk2 g2 (x_g tk3 z3 ((z_l tk4).1 y)))⟩, fun y => Or.inr ⟨by decide, by rw [dl_6]; exact x_g tk hz (y_g tk2 g2 (x_g tk3 z3 ((z_l tk4).2 y)))⟩⟩, tk4, T4, by omega, hw4, by omega, ham, V4⟩
  · subst hv
    refine wl_s (pc' := 1) ji_192_0 rfl rfl rfl ?_
    refine wl_s (pc' := 107) (lv' := [some (.ref 138), some (wp_i 7), some (wp_i xi)]) (st' := []) (h' := h) ji_192_1 rfl rfl rfl ?_
    refine wl_s (pc' := 108) ji_192_107 rfl rfl rfl ?_
    refine wl_s (pc' := 109) ji_192_108 rfl rfl rfl ?_
    refine wl_s (pc' := 110) ji_192_109 rfl rfl rfl ?_
    refine wl_bp ji_192_110 rfl ?_
    refine wl_bp ji_192_112 rfl ?_
    refine wl_bp ji_192_114 rfl ?_
    refine wl_sc (d := d + 8) (as := [wp_i 98, wp_i 121]) (rest := [wp_i 7, wp_i 0, wp_i xi, .ref 138]) ji_192_116 jc_192_118 (Nat.le_of_ble_eq_true rfl) rfl (Nat.le_of_ble_eq_true rfl) rfl (by rw [jn_189]; rfl) (wr_w2 (by decide) (by decide)) (fun v1 h1 R => ?_)
    obtain ⟨ee, rfl⟩ := R
    subst ee
    show wl_R _ _ 192 119 [some (.ref 138), some (wp_i 7), some (wp_i xi)] [.long (Int64.ofNat (wd [98, 121])), wp_i 7, wp_i 0, wp_i xi, .ref 138] h1 _
    refine wl_s (pc' := 120) ji_192_119 rfl rfl rfl ?_
    refine wl_bp ji_192_120 rfl ?_
    obtain ⟨cs, hcs⟩ := rp_c V
    have htr := tk_tr tk T
    have hta := tok_adv tk
    refine wl_vc (d := d + 8) (as := [.ref 138, wp_i xi, wp_i 0, wp_i 7, .long (Int64.ofNat (wd [98, 121])), wp_i 1, wp_i 99]) (rest := []) ji_192_122 jc_192_234 rfl hcs jk_212.symm (Nat.le_of_ble_eq_true rfl) rfl (by rw [jn_212]; rfl) (wr_pr (d := d + 5) V (x := xi) (a := 0) (b := 7) (a2 := 1) (b2 := 99) (by omega) (by omega) (by decide) D hL (by omega) hw0 T (by omega) (jw := 12) (K := [98, 121]) rfl (by decide +kernel)) (fun v1 h1 R => ?_)
    rcases R with ⟨hz, rfl, V1⟩ | ⟨hz, k2, v2, q', r', t', n', w', ts', tk2, T2, hb2, hw2, ⟨g2, rfl, V2⟩ | ⟨g2, k3, v3, q3, r3, t3, n3, w3, tk3, T3, hb3, hw3, ⟨z3, rfl, V3⟩ | ⟨z3, rfl, k4, v4, q4, r4, t4, n4, w4, ts4, tk4, T4, hb4, hw4, V4⟩⟩⟩
    · show wl_R _ _ 192 125 [some (.ref 138), some (wp_i 7), some (wp_i xi)] [wp_i (xn 0 7 k v)] h1 _
      have hxr := xn_r 0 7 k v
      exact wl_ri ji_192_125 jr_192 rfl ⟨_, rfl, by omega, p, k, v, q, r, t, n, wr, pd, op, am, wi, ei, w, pl, ts, Or.inl ⟨by omega, Or.inr ⟨by decide, by rw [dl_7]; exact x_b tk hz⟩⟩, tk, T, by omega, hw0, by omega, ham, V1⟩
    · show wl_R _ _ 192 125 [some (.ref 138), some (wp_i 7), some (wp_i xi)] [wp_i 1] h1 _
      exact wl_ri ji_192_125 jr_192 rfl ⟨_, rfl, by decide, r, k2, v2, q', r', t', n', wr, pd, op, am, wi, ei, w', pl, ts', Or.inl ⟨by decide, Or.inr ⟨by decide, by rw [dl_7]; exact x_g tk hz (y_b tk2 g2)⟩⟩, tk2, T2, by omega, hw2, by omega, ham, V2⟩
    · show wl_R _ _ 192 125 [some (.ref 138), some (wp_i 7), some (wp_i xi)] [wp_i (xn 1 99 k3 v3)] h1 _
      have hxr := xn_r 1 99 k3 v3
      have hta2 := tok_adv tk2
      exact wl_ri ji_192_125 jr_192 rfl ⟨_, rfl, by omega, r', k3, v3, q3, r3, t3, n3, wr, pd, op, am, wi, ei, w3, pl, ts', Or.inl ⟨by omega, Or.inr ⟨by decide, by rw [dl_7]; exact x_g tk hz (y_g tk2 g2 (x_b tk3 z3))⟩⟩, tk3, T3, by omega, hw3, by omega, ham, V3⟩
    · show wl_R _ _ 192 125 [some (.ref 138), some (wp_i 7), some (wp_i xi)] [wp_i 0] h1 _
      have hta2 := tok_adv tk2
      have hta3 := tok_adv tk3
      exact wl_ri ji_192_125 jr_192 rfl ⟨_, rfl, by decide, r3, k4, v4, q4, r4, t4, n4, wr, pd, op, am, wi, ei, w4, pl, ts4, Or.inr ⟨rfl, fun y => Or.inr ⟨by decide, by rw [dl_7]; exact x_g tk hz (y_g tk2 g2 (x_g tk3 z3 ((z_l tk4).1 y)))⟩, fun y => Or.inr ⟨by decide, by rw [dl_7]; exact x_g tk hz (y_g tk2 g2 (x_g tk3 z3 ((z_l tk4).2 y)))⟩⟩, tk4, T4, by omega, hw4, by omega, ham, V4⟩
  · subst hv
    refine wl_s (pc' := 1) ji_192_0 rfl rfl rfl ?_
    refine wl_s (pc' := 126) (lv' := [some (.ref 138), some (wp_i 8), some (wp_i xi)]) (st' := []) (h' := h) ji_192_1 rfl rfl rfl ?_
    refine wl_s (pc' := 127) ji_192_126 rfl rfl rfl ?_
    refine wl_s (pc' := 128) ji_192_127 rfl rfl rfl ?_
    refine wl_s (pc' := 129) ji_192_128 rfl rfl rfl ?_
    refine wl_iadd (x := xi) (y := 1) (z := xi + 1) ji_192_129 (by omega) ?_
    refine wl_s (pc' := 131) ji_192_130 rfl rfl rfl ?_
    refine wl_bp ji_192_131 rfl ?_
    obtain ⟨cs, hcs⟩ := rp_c V
    have htr := tk_tr tk T
    refine wl_vc (d := d + 8) (as := [.ref 138, wp_i (xi + 1), wp_i 0, wp_i 9]) (rest := []) ji_192_133 jc_192_227 rfl hcs jk_213.symm (Nat.le_of_ble_eq_true rfl) rfl (by rw [jn_213]; rfl) (wr_fg (d := d + 6) V (x := xi + 1) (a := 0) (b := 9) (by omega) (by omega) (by decide) D hL (by omega) hw0 T (by omega)) (fun v1 h1 R => ?_)
    rcases R with ⟨hz, rfl, rfl⟩ | ⟨hz, rfl, k2, v2, q', r', t', n', w', ts', tk2, T2, hb2, hw2, V2⟩
    · show wl_R _ _ 192 136 [some (.ref 138), some (wp_i 8), some (wp_i xi)] [wp_i (xn 0 9 k v)] h1 _
      have hxr := xn_r 0 9 k v
      exact wl_ri ji_192_136 jr_192 rfl ⟨_, rfl, by omega, p, k, v, q, r, t, n, wr, pd, op, am, wi, ei, w, pl, ts, Or.inl ⟨by omega, Or.inr ⟨by decide, by rw [dl_8]; exact x_b tk hz⟩⟩, tk, T, by omega, hw0, by omega, ham, V⟩
    · show wl_R _ _ 192 136 [some (.ref 138), some (wp_i 8), some (wp_i xi)] [wp_i 0] h1 _
      have hta := tok_adv tk
      exact wl_ri ji_192_136 jr_192 rfl ⟨_, rfl, by decide, r, k2, v2, q', r', t', n', wr, pd, op, am, wi, ei, w', pl, ts', Or.inr ⟨rfl, fun y => Or.inr ⟨by decide, by rw [dl_8]; exact x_g tk hz ((z_l tk2).1 y)⟩, fun y => Or.inr ⟨by decide, by rw [dl_8]; exact x_g tk hz ((z_l tk2).2 y)⟩⟩, tk2, T2, by omega, hw2, by omega, ham, V2⟩
  · subst hv
    refine wl_s (pc' := 1) ji_192_0 rfl rfl rfl ?_
    refine wl_s (pc' := 137) (lv' := [some (.ref 138), some (wp_i 9), some (wp_i xi)]) (st' := []) (h' := h) ji_192_1 rfl rfl rfl ?_
    refine wl_s (pc' := 138) ji_192_137 rfl rfl rfl ?_
    refine wl_s (pc' := 139) ji_192_138 rfl rfl rfl ?_
    refine wl_s (pc' := 140) ji_192_139 rfl rfl rfl ?_
    refine wl_iadd (x := xi) (y := 1) (z := xi + 1) ji_192_140 (by omega) ?_
    refine wl_s (pc' := 142) ji_192_141 rfl rfl rfl ?_
    refine wl_bp ji_192_142 rfl ?_
    obtain ⟨cs, hcs⟩ := rp_c V
    have htr := tk_tr tk T
    refine wl_vc (d := d + 8) (as := [.ref 138, wp_i (xi + 1), wp_i 1, wp_i 60]) (rest := []) ji_192_144 jc_192_227 rfl hcs jk_213.symm (Nat.le_of_ble_eq_true rfl) rfl (by rw [jn_213]; rfl) (wr_fg (d := d + 6) V (x := xi + 1) (a := 1) (b := 60) (by omega) (by omega) (by decide) D hL (by omega) hw0 T (by omega)) (fun v1 h1 R => ?_)
    rcases R with ⟨hz, rfl, rfl⟩ | ⟨hz, rfl, k2, v2, q', r', t', n', w', ts', tk2, T2, hb2, hw2, V2⟩
    · show wl_R _ _ 192 147 [some (.ref 138), some (wp_i 9), some (wp_i xi)] [wp_i (xn 1 60 k v)] h1 _
      have hxr := xn_r 1 60 k v
      exact wl_ri ji_192_147 jr_192 rfl ⟨_, rfl, by omega, p, k, v, q, r, t, n, wr, pd, op, am, wi, ei, w, pl, ts, Or.inl ⟨by omega, Or.inr ⟨by decide, by rw [dl_9]; exact x_b tk hz⟩⟩, tk, T, by omega, hw0, by omega, ham, V⟩
    · show wl_R _ _ 192 147 [some (.ref 138), some (wp_i 9), some (wp_i xi)] [wp_i 0] h1 _
      have hta := tok_adv tk
      exact wl_ri ji_192_147 jr_192 rfl ⟨_, rfl, by decide, r, k2, v2, q', r', t', n', wr, pd, op, am, wi, ei, w', pl, ts', Or.inr ⟨rfl, fun y => Or.inr ⟨by decide, by rw [dl_9]; exact x_g tk hz ((z_l tk2).1 y)⟩, fun y => Or.inr ⟨by decide, by rw [dl_9]; exact x_g tk hz ((z_l tk2).2 y)⟩⟩, tk2, T2, by omega, hw2, by omega, ham, V2⟩
