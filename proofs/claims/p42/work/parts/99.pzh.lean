/-! -/
/-! the reference's readText and text -/
def tZ (h0 h : mj_H) (fs0 bl : List Value) (L x0 p k v q r cn : Int) (on : Nat → Bool) : Prop := ∃ (t n wr so pd op am wi ei oc : Int) (w : Nat) (pl ts : List Value), tok (bt bl L) p k v q r ∧ tkr k v t n w ∧ (0 ≤ p ∧ 0 ≤ q ∧ r ≤ L) ∧ w ≤ 2 ^ 60 ∧ (0 ≤ wr ∧ wr ≤ 1000 * (p + 1)) ∧ (0 ≤ am ∧ am ≤ 100) ∧ oq oc on ∧ rP h0 h fs0 bl L r q t n x0 wr so pd op am wi ei oc cn w pl ts
def tE (h0 h : mj_H) (fs0 bl : List Value) (L x0 q : Int) : Prop := ∃ (p t n wr so pd op am wi ei oc cn : Int) (w : Nat) (pl ts : List Value), w ≤ 2 ^ 60 ∧ rP h0 h fs0 bl L p q t n x0 wr so pd op am wi ei oc cn w pl ts
theorem tk_t0 {B : Int → Int} {p k v q r t n : Int} {w : Nat} (tk : tok B p k v q r) (T : tkr k v t n w) : t = 0 ↔ k = 3 := by
  rcases T with ⟨rfl, rfl⟩ | ⟨rfl, rfl, -⟩ | ⟨rfl, rfl, -⟩ | ⟨rfl, ht, hv⟩ | ⟨rfl, rfl⟩
  · omega
  · omega
  · omega
  · unfold sg at ht
    split at ht
    · omega
    · split at ht <;> omega
  · omega
theorem clr_24 {B : Int → Int} {on : Nat → Bool} {cl ls k v s p q r : Int} (a : clr B on cl ls k v s p 0 q r) : ¬ cl = 24 := by
  rcases a with ⟨-, a, -⟩ | ⟨-, ⟨-, a, -⟩ | ⟨-, ⟨-, a, -⟩ | ⟨a, -⟩⟩⟩
  · omega
  · omega
  · omega
  · exact a
def tQ (h0 : mj_H) (fs0 bl : List Value) (L x0 : Int) (on : Nat → Bool) (cn ls k v q r : Int) : Option Value → mj_H → Prop := fun v9 h1 => ∃ f q1, v9 = some (wp_i f) ∧ (0 ≤ f ∧ f ≤ 7) ∧ (0 ≤ q1 ∧ q1 ≤ 300) ∧ (∃ m, tr (bt bl L) m on cn ls k v q r f (if f = 0 then -1 else q1)) ∧ tE h0 h1 fs0 bl L x0 q1
theorem wr_rl {d : Nat} {h0 : mj_H} {fs0 bl : List Value} {L x0 : Int} (D : tB bl) (hL : 0 ≤ L ∧ L ≤ 300) (hx0 : 0 ≤ x0 ∧ x0 ≤ 2200) {ls : Int} (hls : 0 ≤ ls ∧ ls ≤ 6) : ∀ (nn : Nat) (h : mj_H) (l1 : Option Value) (p k v q r cn : Int) (on : Nat → Bool), tZ h0 h fs0 bl L x0 p k v q r cn on → (0 ≤ cn ∧ cn ≤ 24) → wl_R nn (d + 11) 177 43 [some (.ref 138), l1] [] h (tQ h0 fs0 bl L x0 on cn ls k v q r) := by
  intro nn
  induction nn with
  | zero => intros; exact wl_0
  | succ nn ih =>
    intro h l1 p k v q r cn on Z hcn
    obtain ⟨t, n, wr, so, pd, op, am, wi, ei, oc, w, pl, ts, tk, T, hb, hw, hwr, ham, O, V⟩ := Z
    have htr := tk_tr tk T
    have ht0 := tk_t0 tk T
    have hta := tok_adv tk
    obtain ⟨cs5, hcs5⟩ := rp_c V
    refine wl_s1 (pc' := 44) ji_177_43 rfl rfl rfl ?_
    refine rp_g9 V ji_177_44 jf_177_95 ?_
    refine wl_if (t := 64) ji_177_47 rfl (x := t) (by omega) (fun (c : t = 0) => ?_) (fun (c : ¬ t = 0) => ?_)
    · refine wl_s (pc' := 65) ji_177_64 rfl rfl rfl ?_
      exact wl_ri ji_177_65 jr_177 rfl ⟨0, q, rfl, by decide, by omega, ⟨1, Or.inl ⟨ht0.mp c, rfl, if_pos rfl⟩⟩, ⟨_, _, _, _, _, _, _, _, _, _, _, _, _, _, _, hw, V⟩⟩
    · have hk3 : ¬ k = 3 := fun e => c (ht0.mpr e)
      refine wl_s (pc' := 51) ji_177_50 rfl rfl rfl ?_
      refine wl_vc (d := d + 10) (as := [.ref 138]) (rest := []) ji_177_51 jc_177_251 rfl hcs5 jk_183.symm (Nat.le_of_ble_eq_true rfl) rfl (by rw [jn_183]; rfl) (wr_kl (d := d) V tk T D hL hx0 hb hw hwr ham hls hcn O) (fun v1 h1 R => ?_)
      rcases R with ⟨f, hf, rfl, q1, r1, p1, t1, n1, wr1, so1, pd1, op1, am1, wi1, ei1, oc1, cn1, w1, pl1, ts1, C, hw1, V1⟩ | ⟨rfl, q1, r1, k2, v2, q2, r2, t1, n1, wr1, so1, pd1, op1, am1, wi1, ei1, oc1, w1, pl1, ts1, C, tk2, T2, hb2, hw2, hwr2, ham2, O2, V2⟩
      · refine wl_s (pc' := 55) (lv' := [some (.ref 138), some (wp_i f)]) ji_177_54 rfl rfl rfl ?_
        refine wl_s (pc' := 56) ji_177_55 rfl rfl rfl ?_
        refine wl_if (t := 61) ji_177_56 rfl (x := f) (by omega) (fun (c : f = 0) => (by exfalso; omega)) (fun _ => ?_)
        refine wl_s (pc' := 60) ji_177_59 rfl rfl rfl ?_
        exact wl_ri ji_177_60 jr_177 rfl ⟨f, q1, rfl, by omega, by omega, ⟨1, Or.inr ⟨hk3, f, q1, r1, C, Or.inl ⟨by omega, rfl, if_neg (by omega)⟩⟩⟩, ⟨_, _, _, _, _, _, _, _, _, _, _, _, _, _, _, hw1.1, V1⟩⟩
      · have h24 := clr_24 C
        refine wl_s (pc' := 55) (lv' := [some (.ref 138), some (wp_i 0)]) ji_177_54 rfl rfl rfl ?_
        refine wl_s (pc' := 56) ji_177_55 rfl rfl rfl ?_
        refine wl_if (t := 61) ji_177_56 rfl (x := 0) (by omega) (fun _ => ?_) (fun (c : ¬ (0 : Int) = 0) => (by exfalso; omega))
        refine wl_goto (t := 43) ji_177_61 rfl ?_
        refine wl_mono (ih h1 (some (wp_i 0)) r1 k2 v2 q2 r2 (cn + 1) _ ⟨t1, n1, wr1, so1, pd1, op1, am1, wi1, ei1, oc1, w1, pl1, ts1, tk2, T2, by omega, hw2, hwr2, ham2, O2, V2⟩ (by omega)) ?_
        rintro v9 h9 ⟨f, q9, e1, e2, e3, ⟨m, e4⟩, e5⟩
        exact ⟨f, q9, e1, e2, e3, ⟨m + 1, Or.inr ⟨hk3, 0, q1, r1, C, Or.inr ⟨rfl, k2, v2, q2, r2, ls, tk2, e4⟩⟩⟩, e5⟩
/-- a field, an element set: the heap behind it, by what it is -/
theorem wl_pf2 {nn d m pc x a c k : Nat} {lv : mj_L} {st : List Value} {h : mj_H} {Q : Option Value → mj_H → Prop} {ty : FieldType} {fs : List Value} {v : Value} (hi : mj_ins m pc = some (.putfield x)) (hf : mj_fld m x = some (c, k, ty, true)) (ha : h[a]? = some (c, fs)) (hn0 : mj_n0 ≤ a) (hk : k < fs.length) (hn : narrow ty v = v) (hfi : fits ty v = true) (hr : ∀ h1, h1[a]? = some (c, fs.set k v) → (∀ b, b ≠ a → h1[b]? = h[b]?) → wl_R nn d m (pc + 3) lv st h1 Q) : wl_R nn d m pc lv (v :: .ref a :: st) h Q := wl_pf hi hf ha hn0 hk hn hfi (hr _ (List.getElem?_set_self (fd_lt ha)) (fun b hb => List.getElem?_set_ne (Ne.symm hb)))
theorem wl_as2 {nn d m pc a : Nat} {lv : mj_L} {st : List Value} {h : mj_H} {Q : Option Value → mj_H → Prop} {x y : Int} {vs : List Value} (hi : mj_ins m pc = some .iastore) (ha : h[a]? = some (1000, vs)) (hx : wp_r x) (hr : ∀ h1, 0 ≤ x → x < vs.length → h1[a]? = some (1000, vs.set x.toNat (wp_i y)) → (∀ b, b ≠ a → h1[b]? = h[b]?) → wl_R nn d m (pc + 1) lv st h1 Q) : wl_R nn d m pc lv (wp_i y :: wp_i x :: .ref a :: st) h Q := wl_as hi ha hx (fun x1 x2 => hr _ x1 x2 (List.getElem?_set_self (fd_lt ha)) (fun b hb => List.getElem?_set_ne (Ne.symm hb)))
/-- the reference's cells ahead of a text -/
def rE (h : mj_H) (fs : List Value) (bl pl ts as : List Value) (L c : Int) (w : Nat) : Prop := h[138]? = some (11, fs) ∧ fs.length = 31 ∧ (fs[0]? = some (.ref 139) ∧ fs[2]? = some (.ref 141) ∧ fs[3]? = some (.ref 142) ∧ fs[15]? = some (.ref 143) ∧ fs[4]? = some (wp_i L) ∧ fs[11]? = some (.long (Int64.ofNat w))) ∧ (∀ j ∈ [8, 9, 10, 14, 16, 17, 18, 19, 20], fs[j]? = some (wp_i (sx_el fs j))) ∧ h[139]? = some (1000, as) ∧ as[2]? = some (wp_i c) ∧ h[141]? = some (1000, ts) ∧ ts.length = 2820 ∧ h[142]? = some (1000, bl) ∧ h[143]? = some (1000, pl)
def nof : Nat → Bool := fun _ => false
theorem wr_rt {nn d : Nat} {h : mj_H} {fs bl pl ts as : List Value} {L c : Int} {w : Nat} (E : rE h fs bl pl ts as L c w) (D : tB bl) (hL : 0 ≤ L ∧ L ≤ 300) (hc : 0 ≤ c ∧ c ≤ 3) (hw : w ≤ 2 ^ 60) (ham : 0 ≤ sx_el fs 18 ∧ sx_el fs 18 ≤ 100) {ls : Int} (hls : 0 ≤ ls ∧ ls ≤ 6) : wl_R nn (d + 11) 177 0 [some (.ref 138), none] [] h (fun v9 h1 => ∃ k v q r, tok (bt bl L) 0 k v q r ∧ tQ h fs bl L (705 * c) nof 0 ls k v q r v9 h1) := by
  obtain ⟨e0, el, ⟨p0, p2, p3, p15, p4, p11⟩, ei, a0, a2, t0, tl, b0, l0⟩ := E
  refine wl_s (pc' := 1) ji_177_0 rfl rfl rfl ?_
  refine wl_sp ji_177_1 rfl ?_
  refine wl_s (pc' := 5) ji_177_4 rfl rfl rfl ?_
  refine wl_gf ji_177_5 jf_177_7 e0 p0 ?_
  refine wl_s (pc' := 9) ji_177_8 rfl rfl rfl ?_
  refine wl_al (x := 2) ji_177_9 a0 (by omega) (fun y y1 y2 y3 => ?_)
  have y3 : as[2]? = some y := y3
  rw [a2] at y3
  cases y3
  refine wl_imul (x := 705) (y := c) (z := 705 * c) ji_177_10 rfl ?_
  refine wl_pf2 ji_177_11 jf_177_134 e0 (by decide) (by omega) rfl rfl (fun h1 g1 f1 => ?_)
  have el1 : (fs.set 12 (wp_i (705 * c))).length = 31 := by rw [List.length_set]; exact el
  refine wl_s (pc' := 15) ji_177_14 rfl rfl rfl ?_
  refine wl_gf ji_177_15 jf_177_16 g1 (by rw [List.getElem?_set_ne (by decide)]; exact p2) ?_
  refine wl_s (pc' := 19) ji_177_18 rfl rfl rfl ?_
  refine wl_gf ji_177_19 jf_177_134 g1 (List.getElem?_set_self (by omega)) ?_
  refine wl_s (pc' := 23) ji_177_22 rfl rfl rfl ?_
  refine wl_as2 (x := 705 * c) (y := 0) ji_177_23 ((f1 141 (by decide)).trans t0) (by omega) (fun h2 x1 x2 g2 f2 => ?_)
  have e138 : h2[138]? = some (11, fs.set 12 (wp_i (705 * c))) := (f2 138 (by decide)).trans g1
  refine wl_s (pc' := 25) ji_177_24 rfl rfl rfl ?_
  refine wl_s (pc' := 26) ji_177_25 rfl rfl rfl ?_
  refine wl_pf2 ji_177_26 jf_177_137 e138 (by decide) (by omega) rfl rfl (fun h3 g3 f3 => ?_)
  refine wl_s (pc' := 30) ji_177_29 rfl rfl rfl ?_
  refine wl_s (pc' := 31) ji_177_30 rfl rfl rfl ?_
  refine wl_pf2 ji_177_31 jf_177_241 g3 (by decide) (by rw [List.length_set]; omega) rfl rfl (fun h4 g4 f4 => ?_)
  refine wl_s (pc' := 35) ji_177_34 rfl rfl rfl ?_
  refine wl_s (pc' := 36) ji_177_35 rfl rfl rfl ?_
  refine wl_pf2 ji_177_36 jf_177_85 g4 (by decide) (by rw [List.length_set, List.length_set]; omega) rfl rfl (fun h5 g5 f5 => ?_)
  have fr : ∀ a, a ≠ 138 → a ≠ 141 → h5[a]? = h[a]? := fun a q1 q2 => (f5 a q1).trans ((f4 a q1).trans ((f3 a q1).trans ((f2 a q2).trans (f1 a q1))))
  have g141 : h5[141]? = some (1000, ts.set (705 * c).toNat (wp_i 0)) := (f5 141 (by decide)).trans ((f4 141 (by decide)).trans ((f3 141 (by decide)).trans g2))
  obtain ⟨fs5, hfs5⟩ : ∃ fs5, (((fs.set 12 (wp_i (705 * c))).set 13 (wp_i 0)).set 21 (wp_i 0)).set 7 (wp_i 0) = fs5 := ⟨_, rfl⟩
  rw [hfs5] at g5
  have ne5 : ∀ j, j ≠ 7 → j ≠ 12 → j ≠ 13 → j ≠ 21 → fs5[j]? = fs[j]? := fun j q1 q2 q3 q4 => by
    rw [← hfs5, List.getElem?_set_ne (Ne.symm q1), List.getElem?_set_ne (Ne.symm q4), List.getElem?_set_ne (Ne.symm q3), List.getElem?_set_ne (Ne.symm q2)]
  have ie := fun j hj => ei j hj
  have V : rP h h5 fs bl L 0 (sx_el fs 8) (sx_el fs 9) (sx_el fs 10) (705 * c) 0 (sx_el fs 14) (sx_el fs 16) (sx_el fs 17) (sx_el fs 18) (sx_el fs 19) (sx_el fs 20) 0 0 w pl (ts.set (705 * c).toNat (wp_i 0)) := by
    refine ⟨⟨fs5, g5, by rw [← hfs5]; simp only [List.length_set]; exact el, ⟨?_, ?_, ?_, ?_, ?_, ?_, ?_, ?_, ?_, ?_, ?_, ?_, ?_, ?_, ?_, ?_, ?_, ?_⟩, fun j hj => ?_⟩, (fr 142 (by decide) (by decide)).trans b0, (fr 143 (by decide) (by decide)).trans l0, ⟨g141, List.getElem?_set_self (by omega), fun j hj => by rw [List.getElem?_set_ne (by omega)]; exact (congrArg (fun o : Option (Nat × List Value) => (o.getD (0, [])).2[j]?) t0).symm⟩, fun a q1 q2 q3 => fr a q1 q2⟩
    · rw [ne5 4 (by decide) (by decide) (by decide) (by decide)]; exact p4
    · rw [← hfs5]; exact List.getElem?_set_self (by simp only [List.length_set]; omega)
    · rw [ne5 8 (by decide) (by decide) (by decide) (by decide)]; exact ei 8 (by decide)
    · rw [ne5 9 (by decide) (by decide) (by decide) (by decide)]; exact ei 9 (by decide)
    · rw [ne5 10 (by decide) (by decide) (by decide) (by decide)]; exact ei 10 (by decide)
    · rw [← hfs5, List.getElem?_set_ne (by decide), List.getElem?_set_ne (by decide), List.getElem?_set_ne (by decide)]; exact List.getElem?_set_self (by omega)
    · rw [← hfs5, List.getElem?_set_ne (by decide), List.getElem?_set_ne (by decide)]; exact List.getElem?_set_self (by rw [List.length_set]; omega)
    · rw [ne5 14 (by decide) (by decide) (by decide) (by decide)]; exact ei 14 (by decide)
    · rw [ne5 16 (by decide) (by decide) (by decide) (by decide)]; exact ei 16 (by decide)
    · rw [ne5 17 (by decide) (by decide) (by decide) (by decide)]; exact ei 17 (by decide)
    · rw [ne5 18 (by decide) (by decide) (by decide) (by decide)]; exact ei 18 (by decide)
    · rw [ne5 19 (by decide) (by decide) (by decide) (by decide)]; exact ei 19 (by decide)
    · rw [ne5 20 (by decide) (by decide) (by decide) (by decide)]; exact ei 20 (by decide)
    · rw [← hfs5, List.getElem?_set_ne (by decide)]; exact List.getElem?_set_self (by simp only [List.length_set]; omega)
    · rw [ne5 11 (by decide) (by decide) (by decide) (by decide)]; exact p11
    · rw [ne5 2 (by decide) (by decide) (by decide) (by decide)]; exact p2
    · rw [ne5 3 (by decide) (by decide) (by decide) (by decide)]; exact p3
    · rw [ne5 15 (by decide) (by decide) (by decide) (by decide)]; exact p15
    · exact ne5 j (fun e => hj (by rw [e]; decide)) (fun e => hj (by rw [e]; decide)) (fun e => hj (by rw [e]; decide)) (fun e => hj (by rw [e]; decide))
  refine wl_s (pc' := 40) ji_177_39 rfl rfl rfl ?_
  refine wl_vc (d := d + 10) (as := [.ref 138]) (rest := []) ji_177_40 jc_177_171 rfl g5 jk_178.symm (Nat.le_of_ble_eq_true rfl) rfl (by rw [jn_178]; rfl) (wr_nt (d := d + 9) V D hL (by omega) hw) (fun v1 h6 R => ?_)
  obtain ⟨rfl, k, v, q, r, t, n, w', tk, T, hb, hw1, V⟩ := R
  refine wl_mono (wr_rl D hL (by omega) hls nn h6 none 0 k v q r 0 nof ⟨t, n, 0, _, _, _, _, _, _, 0, w', pl, _, tk, T, by omega, hw1, by omega, ham, ⟨by decide, fun j hj => by match j, hj with | 0, _ => rfl | 1, _ => rfl | 2, _ => rfl⟩, V⟩ (by decide)) ?_
  intro v9 h9 Q
  exact ⟨k, v, q, r, tk, Q⟩
/-- the reference's text: the answer, and what becomes of its cells -/
def wQ (h : mj_H) (fs bl as : List Value) (L c ls : Int) : Option Value → mj_H → Prop := fun v9 h1 => (c = 4 ∧ v9 = some (wp_i (-1)) ∧ h1 = h) ∨ (¬ c = 4 ∧ ∃ k v q r f q9, tok (bt bl L) 0 k v q r ∧ (∃ m, tr (bt bl L) m nof 0 ls k v q r f q9) ∧ (0 ≤ f ∧ f ≤ 7) ∧ v9 = some (wp_i (if f = 0 then c else -1)) ∧ (∃ (fs1 : List Value) (w1 : Nat), h1[138]? = some (11, fs1) ∧ fs1.length = 31 ∧ (fs1[4]? = some (wp_i 0) ∧ fs1[5]? = some (wp_i f) ∧ fs1[6]? = some (wp_i q9) ∧ fs1[11]? = some (.long (Int64.ofNat w1)) ∧ w1 ≤ 2 ^ 60) ∧ ∀ j ∈ [0, 1, 2, 3, 15, 22, 23, 24, 25, 26, 27, 28, 29, 30], fs1[j]? = fs[j]?) ∧ h1[139]? = some (1000, if f = 0 then as.set 2 (wp_i (c + 1)) else as) ∧ ∀ a, a ≠ 138 → a ≠ 139 → a ≠ 141 → a ≠ 143 → h1[a]? = h[a]?)
theorem wr_tx {nn d : Nat} {h : mj_H} {fs bl pl ts as : List Value} {L c : Int} {w : Nat} (E : rE h fs bl pl ts as L c w) (D : tB bl) (hL : 0 ≤ L ∧ L ≤ 300) (hc : 0 ≤ c ∧ c ≤ 4) (hw : w ≤ 2 ^ 60) (ham : 0 ≤ sx_el fs 18 ∧ sx_el fs 18 ≤ 100) {ls : Int} (hls : 0 ≤ ls ∧ ls ≤ 6) : wl_R nn (d + 12) 176 0 [some (.ref 138)] [] h (wQ h fs bl as L c ls) := by
  have E0 := E
  obtain ⟨e0, el, ⟨p0, p2, p3, p15, p4, p11⟩, ei, a0, a2, t0, tl, b0, l0⟩ := E
  refine wl_s (pc' := 1) ji_176_0 rfl rfl rfl ?_
  refine wl_gf ji_176_1 jf_176_7 e0 p0 ?_
  refine wl_s (pc' := 5) ji_176_4 rfl rfl rfl ?_
  refine wl_al (x := 2) ji_176_5 a0 (by omega) (fun y y1 y2 y3 => ?_)
  have y3 : as[2]? = some y := y3
  rw [a2] at y3
  cases y3
  refine wl_s (pc' := 7) ji_176_6 rfl rfl rfl ?_
  refine wl_icmp (t := 12) ji_176_7 rfl (x := c) (y := 4) (by omega) (by omega) (fun (c4 : ¬ c = 4) => ?_) (fun (c4 : ¬ ¬ c = 4) => ?_)
  · refine wl_s (pc' := 13) ji_176_12 rfl rfl rfl ?_
    refine wl_s (pc' := 14) ji_176_13 rfl rfl rfl ?_
    refine wl_vc (d := d + 11) (as := [.ref 138]) (rest := [.ref 138]) ji_176_14 jc_176_254 rfl e0 jk_177.symm (Nat.le_of_ble_eq_true rfl) rfl (by rw [jn_177]; rfl) (wr_rt (d := d) E0 D hL (by omega) hw ham hls) (fun v1 h1 R => ?_)
    obtain ⟨k, v, q, r, tk, f, q1, rfl, hf, hq1, TR, p, t, n, wr, so, pd, op, am, wi, ei1, oc, cn, w1, pl1, ts1, hw1, ⟨fs1, g1, gl, ⟨e4, e7, e8, e9, e10, e12, e13, e14, e16, e17, e18, e19, e20, e21, e11, e2, e3, e15⟩, gg⟩, f1, f2, ⟨f3, f4⟩, f5⟩ := R
    have ne : ∀ j, j ∉ [7, 8, 9, 10, 11, 12, 13, 14, 16, 17, 18, 19, 20, 21] → fs1[j]? = fs[j]? := gg
    refine wl_pf2 ji_176_17 jf_176_22 g1 (by decide) (by omega) rfl rfl (fun h2 g2 k2 => ?_)
    have l2 : (fs1.set 5 (wp_i f)).length = 31 := by rw [List.length_set]; exact gl
    refine wl_s (pc' := 21) ji_176_20 rfl rfl rfl ?_
    refine wl_s (pc' := 22) ji_176_21 rfl rfl rfl ?_
    refine wl_gf ji_176_22 jf_176_22 g2 (List.getElem?_set_self (by omega)) ?_
    have ht : ∀ {x : Int}, x = (if f = 0 then -1 else q1) → wl_R nn (d + 12) 176 36 [some (.ref 138)] [wp_i x, .ref 138] h2 (wQ h fs bl as L c ls) := by
      intro x hx
      refine wl_pf2 ji_176_36 jf_176_26 g2 (by decide) (by omega) rfl rfl (fun h3 g3 k3 => ?_)
      refine wl_s (pc' := 40) ji_176_39 rfl rfl rfl ?_
      refine wl_s (pc' := 41) ji_176_40 rfl rfl rfl ?_
      refine wl_pf2 ji_176_41 jf_176_78 g3 (by decide) (by rw [List.length_set]; omega) rfl rfl (fun h4 g4 k4 => ?_)
      obtain ⟨fs4, hfs4⟩ : ∃ fs4, ((fs1.set 5 (wp_i f)).set 6 (wp_i x)).set 4 (wp_i 0) = fs4 := ⟨_, rfl⟩
      rw [hfs4] at g4
      have l4 : fs4.length = 31 := by rw [← hfs4, List.length_set, List.length_set, List.length_set]; exact gl
      have ne4 : ∀ j, j ≠ 4 → j ≠ 5 → j ≠ 6 → fs4[j]? = fs1[j]? := fun j q1 q2 q3 => by
        rw [← hfs4, List.getElem?_set_ne (Ne.symm q1), List.getElem?_set_ne (Ne.symm q3), List.getElem?_set_ne (Ne.symm q2)]
      have s4 : fs4[4]? = some (wp_i 0) := by rw [← hfs4]; exact List.getElem?_set_self (by rw [List.length_set, List.length_set]; omega)
      have s5 : fs4[5]? = some (wp_i f) := by rw [← hfs4, List.getElem?_set_ne (by decide), List.getElem?_set_ne (by decide)]; exact List.getElem?_set_self (by omega)
      have s6 : fs4[6]? = some (wp_i x) := by rw [← hfs4, List.getElem?_set_ne (by decide)]; exact List.getElem?_set_self (by rw [List.length_set]; omega)
      have fr : ∀ a, a ≠ 138 → a ≠ 141 → a ≠ 143 → h4[a]? = h[a]? := fun a q1 q2 q3 => (k4 a q1).trans ((k3 a q1).trans ((k2 a q1).trans (f5 a q1 q2 q3)))
      have pd4 : ∀ j ∈ [0, 1, 2, 3, 15, 22, 23, 24, 25, 26, 27, 28, 29, 30], fs4[j]? = fs[j]? := fun j hj => by
        rw [ne4 j (fun e => by subst e; exact absurd hj (by decide)) (fun e => by subst e; exact absurd hj (by decide)) (fun e => by subst e; exact absurd hj (by decide))]
        by_cases h23 : j = 2 ∨ j = 3 ∨ j = 15
        · rcases h23 with rfl | rfl | rfl
          · rw [e2, p2]
          · rw [e3, p3]
          · rw [e15, p15]
        · exact ne j (fun hm => by
            simp only [List.mem_cons, List.not_mem_nil, or_false] at hm hj
            omega)
      have P0 : fs4[0]? = some (.ref 139) := (pd4 0 (by decide)).trans p0
      refine wl_s (pc' := 45) ji_176_44 rfl rfl rfl ?_
      refine wl_gf ji_176_45 jf_176_22 g4 s5 ?_
      have a04 : h4[139]? = some (1000, as) := (fr 139 (by decide) (by decide) (by decide)).trans a0
      refine wl_if (t := 53) ji_176_48 rfl (x := f) (by omega) (fun (c0 : f = 0) => ?_) (fun (c0 : ¬ f = 0) => ?_)
      · refine wl_s (pc' := 54) ji_176_53 rfl rfl rfl ?_
        refine wl_gf ji_176_54 jf_176_7 g4 P0 ?_
        refine wl_s (pc' := 58) ji_176_57 rfl rfl rfl ?_
        refine wl_s (pc' := 59) ji_176_58 rfl rfl rfl ?_
        refine wl_al (x := 2) ji_176_59 a04 (by omega) (fun y y1 y2 y3 => ?_)
        have y3 : as[2]? = some y := y3
        rw [a2] at y3
        cases y3
        refine wl_s (pc' := 61) ji_176_60 rfl rfl rfl ?_
        refine wl_iadd (x := c) (y := 1) (z := c + 1) ji_176_61 rfl ?_
        refine wl_as2 (x := 2) (y := c + 1) ji_176_62 a04 (by omega) (fun h5 x1 x2 g5 k5 => ?_)
        have g5 : h5[139]? = some (1000, as.set 2 (wp_i (c + 1))) := g5
        refine wl_s (pc' := 64) ji_176_63 rfl rfl rfl ?_
        refine wl_gf ji_176_64 jf_176_7 ((k5 138 (by decide)).trans g4) P0 ?_
        refine wl_s (pc' := 68) ji_176_67 rfl rfl rfl ?_
        refine wl_al (x := 2) ji_176_68 g5 (by omega) (fun y y1 y2 y3 => ?_)
        have y3 : (as.set 2 (wp_i (c + 1)))[2]? = some y := y3
        have x2 : (2 : Int) < (as.length : Int) := x2
        rw [List.getElem?_set_self (by omega)] at y3
        cases y3
        refine wl_s (pc' := 70) ji_176_69 rfl rfl rfl ?_
        refine wl_isub (x := c + 1) (y := 1) (z := c) ji_176_70 (by omega) ?_
        refine wl_ri ji_176_71 jr_176 rfl (Or.inr ⟨c4, k, v, q, r, f, x, tk, by rw [hx]; exact TR, hf, by rw [if_pos c0], ⟨fs4, w1, (k5 138 (by decide)).trans g4, l4, ⟨s4, s5, s6, (ne4 11 (by decide) (by decide) (by decide)).trans e11, hw1⟩, pd4⟩, by rw [if_pos c0]; exact g5, fun a q1 q2 q3 q4 => (k5 a q2).trans (fr a q1 q3 q4)⟩)
      · refine wl_s (pc' := 52) ji_176_51 rfl rfl rfl ?_
        exact wl_ri ji_176_52 jr_176 rfl (Or.inr ⟨c4, k, v, q, r, f, x, tk, by rw [hx]; exact TR, hf, by rw [if_neg c0], ⟨fs4, w1, g4, l4, ⟨s4, s5, s6, (ne4 11 (by decide) (by decide) (by decide)).trans e11, hw1⟩, pd4⟩, by rw [if_neg c0]; exact a04, fun a q1 q2 q3 q4 => fr a q1 q3 q4⟩)
    refine wl_if (t := 32) ji_176_25 rfl (x := f) (by omega) (fun (c0 : ¬ f = 0) => ?_) (fun (c0 : ¬ ¬ f = 0) => ?_)
    · refine wl_s (pc' := 33) ji_176_32 rfl rfl rfl ?_
      refine wl_gf ji_176_33 jf_176_92 g2 (by rw [List.getElem?_set_ne (by decide)]; exact e8) ?_
      exact ht (if_neg c0).symm
    · refine wl_s (pc' := 29) ji_176_28 rfl rfl rfl ?_
      refine wl_goto (t := 36) ji_176_29 rfl ?_
      exact ht (if_pos (by omega)).symm
  · refine wl_s (pc' := 11) ji_176_10 rfl rfl rfl ?_
    exact wl_ri ji_176_11 jr_176 rfl (Or.inl ⟨by omega, rfl, rfl⟩)
