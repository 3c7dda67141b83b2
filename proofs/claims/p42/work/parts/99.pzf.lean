/-! -/
set_option maxRecDepth 100000 in
theorem ji_191_0 : mj_ins 191 0 = some (.iload_n 0) := by decide +kernel
set_option maxRecDepth 100000 in
theorem ji_191_1 : mj_ins 191 1 = some (.iload_n 1) := by decide +kernel
set_option maxRecDepth 100000 in
theorem ji_191_2 : mj_ins 191 2 = some (.ishr) := by decide +kernel
set_option maxRecDepth 100000 in
theorem ji_191_3 : mj_ins 191 3 = some (.iconst 1) := by decide +kernel
set_option maxRecDepth 100000 in
theorem ji_191_4 : mj_ins 191 4 = some (.iand) := by decide +kernel
set_option maxRecDepth 100000 in
theorem ji_191_5 : mj_ins 191 5 = some (.iconst 1) := by decide +kernel
set_option maxRecDepth 100000 in
theorem ji_191_6 : mj_ins 191 6 = some (.if_icmp .ne 7) := by decide +kernel
set_option maxRecDepth 100000 in
theorem ji_191_13 : mj_ins 191 13 = some (.iconst 0) := by decide +kernel
set_option maxRecDepth 100000 in
theorem ji_191_14 : mj_ins 191 14 = some (.ireturn) := by decide +kernel
set_option maxRecDepth 100000 in
theorem jr_191 : mj_ret 191 = some .boolean := by decide +kernel
set_option maxRecDepth 100000 in
theorem ji_191_9 : mj_ins 191 9 = some (.iconst 1) := by decide +kernel
set_option maxRecDepth 100000 in
theorem ji_191_10 : mj_ins 191 10 = some (.goto 4) := by decide +kernel
/-! the reference's text; laid by program (wp_rread12.py) -/
section WRT
variable {nn d m pc : Nat} {lv : mj_L} {st : List Value} {h h0 : mj_H} {Q : Option Value → mj_H → Prop} {fs0 bl pl ts : List Value} {L p q t n x0 wr so pd op am wi ei oc cn : Int} {w : Nat}
theorem rp_tl {x : Int} (V : rP h0 h fs0 bl L p q t n x0 wr so pd op am wi ei oc cn w pl ts) (hx : wp_r x) (hx0 : x = x0) (hi : mj_ins m pc = some .iaload) (hr : wl_R nn d m (pc + 1) lv (wp_i cn :: st) h Q) : wl_R nn d m pc lv (wp_i x :: .ref 141 :: st) h Q := by
  obtain ⟨-, -, -, ⟨f3, f4⟩, -⟩ := V
  refine wl_al hi f3 hx (fun y y1 y2 y3 => ?_)
  subst hx0
  rw [f4.1] at y3
  cases y3
  exact hr
theorem rp_tc {x y : Int} (V : rP h0 h fs0 bl L p q t n x0 wr so pd op am wi ei oc cn w pl ts) (hx : wp_r x) (hx0 : x = x0) (hi : mj_ins m pc = some .iastore) (hr : ∀ h ts, rP h0 h fs0 bl L p q t n x0 wr so pd op am wi ei oc y w pl ts → wl_R nn d m (pc + 1) lv st h Q) : wl_R nn d m pc lv (wp_i y :: wp_i x :: .ref 141 :: st) h Q := by
  obtain ⟨⟨fs, e0, F⟩, f1, f2, ⟨f3, f4⟩, f5⟩ := V
  subst hx0
  refine wl_as hi f3 hx (fun x1 x2 => hr _ (ts.set x.toNat (wp_i y)) ⟨⟨fs, ?_, F⟩, ?_, ?_, ⟨List.getElem?_set_self (fd_lt f3), List.getElem?_set_self (by omega), fun j hj => by rw [List.getElem?_set_ne (by omega)]; exact f4.2 j hj⟩, fun a a1 a2 a3 => ?_⟩)
  · rw [List.getElem?_set_ne (by decide)]; exact e0
  · rw [List.getElem?_set_ne (by decide)]; exact f1
  · rw [List.getElem?_set_ne (by decide)]; exact f2
  · rw [List.getElem?_set_ne (Ne.symm a2)]; exact f5 a a1 a2 a3
end WRT
/-- which laws a text has, as bits -/
def oqb (oc : Int) (j : Nat) : Bool := oc / 2 ^ j % 2 == 1
def oq (oc : Int) (on : Nat → Bool) : Prop := (0 ≤ oc ∧ oc ≤ 7) ∧ ∀ j, j < 3 → oqb oc j = on j
theorem oq_1 {oc x : Int} {on : Nat → Bool} (O : oq oc on) (hx : 0 ≤ x ∧ x ≤ 2) : ∃ o2, Int32.ofInt oc ||| (Int32.ofInt 1 <<< (Int32.ofInt x &&& 31)) = Int32.ofInt o2 ∧ oq o2 (on1 on x) := by
  have key : ∀ oc : Fin 8, ∀ x : Fin 3, ∃ o2 : Fin 8, Int32.ofInt oc.val ||| (Int32.ofInt 1 <<< (Int32.ofInt x.val &&& 31)) = Int32.ofInt o2.val ∧ ∀ j : Fin 3, oqb o2.val j.val = (oqb oc.val j.val || decide (j.val = x.val)) := by decide +kernel
  obtain ⟨o1, o2⟩ := O
  obtain ⟨o2', e1, e2⟩ := key ⟨oc.toNat, by omega⟩ ⟨x.toNat, by omega⟩
  have eo : ((oc.toNat : Nat) : Int) = oc := Int.toNat_of_nonneg o1.1
  have ex : ((x.toNat : Nat) : Int) = x := Int.toNat_of_nonneg hx.1
  simp only [eo, ex] at e1 e2
  have h8 := o2'.isLt
  refine ⟨o2'.val, e1, by omega, fun j hj => ?_⟩
  have := e2 ⟨j, hj⟩
  simp only at this
  rw [this, o2 j hj]
  rfl
theorem wr_has {nn d : Nat} {h : mj_H} {oc x : Int} {on : Nat → Bool} (O : oq oc on) (hx : 0 ≤ x ∧ x ≤ 2) : wl_R nn d 191 0 [some (wp_i oc), some (wp_i x)] [] h (fun v1 h1 => h1 = h ∧ ∃ y : Int, v1 = some (wp_i y) ∧ (y = 0 ∨ y = 1) ∧ (y = 1 ↔ on x.toNat = true)) := by
  have key : ∀ oc : Fin 8, ∀ x : Fin 3, ∃ b : Fin 2, (Int32.ofInt oc.val >>> (Int32.ofInt x.val &&& 31)) &&& Int32.ofInt 1 = Int32.ofInt b.val ∧ (b.val = 1 ↔ oqb oc.val x.val = true) := by decide +kernel
  obtain ⟨o1, o2⟩ := O
  obtain ⟨b, e1, e2⟩ := key ⟨oc.toNat, by omega⟩ ⟨x.toNat, by omega⟩
  have eo : ((oc.toNat : Nat) : Int) = oc := Int.toNat_of_nonneg o1.1
  have ex : ((x.toNat : Nat) : Int) = x := Int.toNat_of_nonneg hx.1
  simp only [eo, ex] at e1 e2
  rw [o2 x.toNat (by omega)] at e2
  have hb := b.isLt
  refine wl_s (pc' := 1) ji_191_0 rfl rfl rfl ?_
  refine wl_s (pc' := 2) ji_191_1 rfl rfl rfl ?_
  refine wl_s (pc' := 3) (lv' := [some (wp_i oc), some (wp_i x)]) (st' := [.int (Int32.ofInt oc >>> (Int32.ofInt x &&& 31))]) ji_191_2 rfl rfl rfl ?_
  refine wl_s (pc' := 4) ji_191_3 rfl rfl rfl ?_
  refine wl_s (pc' := 5) (lv' := [some (wp_i oc), some (wp_i x)]) (st' := [wp_i b.val]) (h' := h) ji_191_4 rfl rfl (congrArg (fun z => (some (5, [some (wp_i oc), some (wp_i x)], [Value.int z], h) : Option mj_S)) e1) ?_
  refine wl_s (pc' := 6) ji_191_5 rfl rfl rfl ?_
  refine wl_icmp (t := 13) ji_191_6 rfl (x := b.val) (y := 1) (by omega) (by omega) (fun (c : ¬ (b.val : Int) = 1) => ?_) (fun (c : ¬ ¬ (b.val : Int) = 1) => ?_)
  · refine wl_s (pc' := 14) ji_191_13 rfl rfl rfl ?_
    exact wl_ri ji_191_14 jr_191 rfl ⟨rfl, 0, rfl, Or.inl rfl, fun z => absurd z (by decide), fun z => absurd (e2.mpr z) (by omega)⟩
  · refine wl_s (pc' := 10) ji_191_9 rfl rfl rfl ?_
    refine wl_goto (t := 14) ji_191_10 rfl ?_
    exact wl_ri ji_191_14 jr_191 rfl ⟨rfl, 1, rfl, Or.inr rfl, fun _ => e2.mp (by omega), fun _ => rfl⟩
theorem tk_59 {B : Int → Int} {p k v q r t n : Int} {w : Nat} (tk : tok B p k v q r) (T : tkr k v t n w) : t = 59 ↔ (k = 2 ∧ v = 59) := by
  rcases tk_gs tk T with ⟨ek, h⟩ | ⟨ek, et, h⟩ | ⟨-, h1, h2, h⟩
  · rcases h with e | e | e | e | e | e | e | e | e | e | e | e | e | e <;> omega
  · omega
  · omega
def kBad (h0 h1 : mj_H) (fs0 bl : List Value) (L x0 : Int) (C : Int → Int → Int → Prop) (f : Int) : Prop := ∃ (q1 r1 p1 t1 n1 wr1 so1 pd1 op1 am1 wi1 ei1 oc1 cn1 : Int) (w1 : Nat) (pl1 ts1 : List Value), C f q1 r1 ∧ (w1 ≤ 2 ^ 60 ∧ 0 ≤ q1 ∧ q1 ≤ 300) ∧ rP h0 h1 fs0 bl L p1 q1 t1 n1 x0 wr1 so1 pd1 op1 am1 wi1 ei1 oc1 cn1 w1 pl1 ts1
def kOk (h0 h1 : mj_H) (fs0 bl : List Value) (L x0 cn x p : Int) (on : Nat → Bool) (C : Int → Int → Int → Prop) : Prop := ∃ (q1 r1 k2 v2 q2 r2 t1 n1 wr1 so1 pd1 op1 am1 wi1 ei1 oc1 : Int) (w1 : Nat) (pl1 ts1 : List Value), C 0 q1 r1 ∧ tok (bt bl L) r1 k2 v2 q2 r2 ∧ tkr k2 v2 t1 n1 w1 ∧ (p ≤ r1 ∧ 0 ≤ q2 ∧ r2 ≤ L) ∧ w1 ≤ 2 ^ 60 ∧ (0 ≤ wr1 ∧ wr1 ≤ 1000 * (r1 + 1)) ∧ (0 ≤ am1 ∧ am1 ≤ 100) ∧ oq oc1 (if x < 3 then on1 on x else on) ∧ rP h0 h1 fs0 bl L r2 q2 t1 n1 x0 wr1 so1 pd1 op1 am1 wi1 ei1 oc1 (cn + 1) w1 pl1 ts1
def kQ (h0 : mj_H) (fs0 bl : List Value) (L x0 cn x p : Int) (on : Nat → Bool) (C : Int → Int → Int → Prop) : Option Value → mj_H → Prop := fun v9 h1 => (∃ f, (1 ≤ f ∧ f ≤ 7) ∧ v9 = some (wp_i f) ∧ kBad h0 h1 fs0 bl L x0 C f) ∨ (v9 = some (wp_i 0) ∧ kOk h0 h1 fs0 bl L x0 cn x p on C)
theorem srt_w {k v : Int} : (0 ≤ wdo k v ∧ wdo k v ≤ 9 ∧ srt k v = wdo k v) ∨ (¬ (0 ≤ wdo k v ∧ wdo k v ≤ 9) ∧ srt k v = -1) := by
  unfold srt wdo
  repeat' split
  all_goals omega
theorem wr_kl {nn d : Nat} {h0 h : mj_H} {fs0 bl pl ts : List Value} {L p q r t n x0 wr so pd op am wi ei oc cn : Int} {w : Nat} (V : rP h0 h fs0 bl L r q t n x0 wr so pd op am wi ei oc cn w pl ts) {k v : Int} (tk : tok (bt bl L) p k v q r) (T : tkr k v t n w) (D : tB bl) (hL : 0 ≤ L ∧ L ≤ 300) (hx0 : 0 ≤ x0 ∧ x0 ≤ 2200) (hb : 0 ≤ p ∧ 0 ≤ q ∧ r ≤ L) (hw0 : w ≤ 2 ^ 60) (hwr : 0 ≤ wr ∧ wr ≤ 1000 * (p + 1)) (ham : 0 ≤ am ∧ am ≤ 100) {ls : Int} (hls : 0 ≤ ls ∧ ls ≤ 6) (hcn : 0 ≤ cn ∧ cn ≤ 24) {on : Nat → Bool} (O : oq oc on) : wl_R nn (d + 10) 183 0 [some (.ref 138), none, none, none, none] [] h (kQ h0 fs0 bl L x0 cn (wdo k v) p on (clr (bt bl L) on cn ls k v q r)) := by
  have hta0 := tok_adv tk
  refine wl_s (pc' := 1) ji_183_0 rfl rfl rfl ?_
  obtain ⟨cs, hcs⟩ := rp_c V
  refine wl_vc (d := d + 9) (as := [.ref 138]) (rest := []) ji_183_1 jc_183_238 rfl hcs jk_184.symm (Nat.le_of_ble_eq_true rfl) rfl (by rw [jn_184]; rfl) (wr_so (d := d + 4) V T hw0 (by have := tk_tr tk T; omega)) (fun v1 h1 R => ?_)
  obtain ⟨ee, rfl⟩ := R
  subst ee
  have hsr : (0 ≤ wdo k v ∧ wdo k v ≤ 9 ∧ srt k v = wdo k v) ∨ (¬ (0 ≤ wdo k v ∧ wdo k v ≤ 9) ∧ srt k v = -1) := srt_w
  obtain ⟨x, hx⟩ : ∃ x, srt k v = x := ⟨_, rfl⟩
  rw [hx] at hsr ⊢
  show wl_R _ _ 183 4 [some (.ref 138), none, none, none, none] [wp_i x] h1 _
  refine wl_s (pc' := 5) (lv' := [some (.ref 138), some (wp_i x), none, none, none]) ji_183_4 rfl rfl rfl ?_
  refine wl_s (pc' := 6) ji_183_5 rfl rfl rfl ?_
  refine wl_if (t := 11) ji_183_6 rfl (by omega) (fun (hb1 : (0 : Int) ≤ x) => ?_) (fun (hb1 : ¬ ((0 : Int) ≤ x)) => ?_)
  · refine wl_s (pc' := 12) ji_183_11 rfl rfl rfl ?_
    refine wl_s (pc' := 13) ji_183_12 rfl rfl rfl ?_
    refine wl_icmp (t := 29) ji_183_13 rfl (by omega) (by omega) (fun (hb2 : (2 : Int) < x) => ?_) (fun (hb2 : ¬ ((2 : Int) < x)) => ?_)
    · refine wl_s (pc' := 30) ji_183_29 rfl rfl rfl ?_
      refine rp_g2 V ji_183_30 jf_183_16 ?_
      refine wl_s (pc' := 34) ji_183_33 rfl rfl rfl ?_
      refine rp_g12 V ji_183_34 jf_183_134 ?_
      refine rp_tl (x := x0) V (by omega) rfl ji_183_37 ?_
      refine wl_s (pc' := 39) (lv' := [some (.ref 138), some (wp_i x), some (wp_i cn), none, none]) ji_183_38 rfl rfl rfl ?_
      refine wl_s (pc' := 40) ji_183_39 rfl rfl rfl ?_
      refine wl_bp ji_183_40 rfl ?_
      refine wl_icmp (t := 48) ji_183_42 rfl (by omega) (by omega) (fun (hb3 : ¬ (cn : Int) = 24) => ?_) (fun (hb3 : ¬ (¬ (cn : Int) = 24)) => ?_)
      · refine wl_s (pc' := 49) ji_183_48 rfl rfl rfl ?_
        refine wl_s (pc' := 50) ji_183_49 rfl rfl rfl ?_
        refine wl_icmp (t := 65) ji_183_50 rfl (by omega) (by omega) (fun (hb4 : (2 : Int) < x) => ?_) (fun (hb4 : ¬ ((2 : Int) < x)) => (by exfalso; omega))
        refine wl_s (pc' := 66) ji_183_65 rfl rfl rfl ?_
        refine wl_s (pc' := 67) ji_183_66 rfl rfl rfl ?_
        refine rp_p14 (y := x) V ji_183_67 jf_183_144 (fun h V => ?_)
        refine wl_s (pc' := 71) ji_183_70 rfl rfl rfl ?_
        have hx9 : x = wdo k v := by omega
        have hk3 : ¬ k = 3 := fun e => by have h9 : wdo k v = -1 := if_neg (by omega); omega
        have hta := tok_adv tk
        obtain ⟨cs, hcs⟩ := rp_c V
        refine wl_vc (d := d + 9) (as := [.ref 138]) (rest := []) ji_183_71 jc_183_171 rfl hcs jk_178.symm (Nat.le_of_ble_eq_true rfl) rfl (by rw [jn_178]; rfl) (wr_nt (d := d + 8) V D hL (by omega) hw0) (fun v1 hb_ R => ?_)
        obtain ⟨rfl, k2, v2, q2, r2, t2, n2, w2, tk2, T2, hb2, hw2, V⟩ := R
        show wl_R _ _ 183 74 [some (.ref 138), some (wp_i x), some (wp_i cn), none, none] [] hb_ _
        refine wl_s (pc' := 75) ji_183_74 rfl rfl rfl ?_
        refine rp_g12 V ji_183_75 jf_183_134 ?_
        refine wl_s (pc' := 79) ji_183_78 rfl rfl rfl ?_
        refine wl_iadd (x := x0) (y := 1) (z := x0 + 1) ji_183_79 (by omega) ?_
        refine wl_s (pc' := 81) ji_183_80 rfl rfl rfl ?_
        refine wl_s (pc' := 82) ji_183_81 rfl rfl rfl ?_
        refine wl_imul (x := 4) (y := cn) (z := 4 * cn) ji_183_82 (by omega) ?_
        refine wl_iadd (x := x0 + 1) (y := 4 * cn) (z := x0 + 1 + (4 * cn)) ji_183_83 (by omega) ?_
        refine wl_s (pc' := 85) (lv' := [some (.ref 138), some (wp_i x), some (wp_i cn), some (wp_i (x0 + 1 + (4 * cn))), none]) ji_183_84 rfl rfl rfl ?_
        refine wl_s (pc' := 86) ji_183_85 rfl rfl rfl ?_
        refine rp_g2 V ji_183_86 jf_183_16 ?_
        refine wl_s (pc' := 90) ji_183_89 rfl rfl rfl ?_
        refine wl_s (pc' := 91) ji_183_90 rfl rfl rfl ?_
        refine rp_t (x := x0 + 1 + (4 * cn)) (y := x) V (by omega) (by omega) (by omega) ji_183_91 (fun h ts V => ?_)
        refine wl_s (pc' := 93) ji_183_92 rfl rfl rfl ?_
        refine wl_s (pc' := 94) ji_183_93 rfl rfl rfl ?_
        refine wl_s (pc' := 95) ji_183_94 rfl rfl rfl ?_
        obtain ⟨cs, hcs⟩ := rp_c V
        refine wl_vc (d := d + 9) (as := [.ref 138, wp_i x, wp_i (x0 + 1 + (4 * cn))]) (rest := []) ji_183_95 jc_183_247 rfl hcs jk_192.symm (Nat.le_of_ble_eq_true rfl) rfl (by rw [jn_192]; rfl) (wr_bd (d := d) (ls := ls) (s := q) V tk2 T2 D hL (by omega) (by omega) hw2 (by omega) ham hls (by omega) (by omega)) (fun v1 h1 R => ?_)
        obtain ⟨f, rfl, hf, p1, k1, v1, q1, r1, t1, n1, wr1, pd1, op1, am1, wi1, ei1, w1, pl1, ts1, hz, tk1, T1, hb1, hw1, hwr1, ham1, V⟩ := R
        show wl_R _ _ 183 98 [some (.ref 138), some (wp_i x), some (wp_i cn), some (wp_i (x0 + 1 + (4 * cn))), none] [wp_i f] h1 _
        have up9 : ∀ {f q' r' : Int}, bC (bt bl L) x ls q r f q' r' → clr (bt bl L) on cn ls k v q r f q' r' := fun z => by rw [hx9] at z; exact Or.inr ⟨by omega, Or.inr ⟨fun y => by omega, Or.inr ⟨by omega, z⟩⟩⟩
        have h59 := tk_59 tk1 T1
        have hta1 := tok_adv tk1
        have ht1 := tk_tr tk1 T1
        refine wl_s (pc' := 100) (lv' := [some (.ref 138), some (wp_i x), some (wp_i cn), some (wp_i (x0 + 1 + (4 * cn))), some (wp_i f)]) ji_183_98 rfl rfl rfl ?_
        refine wl_s (pc' := 102) ji_183_100 rfl rfl rfl ?_
        refine wl_if (t := 108) ji_183_102 rfl (by omega) (fun (hb5 : (f : Int) = 0) => ?_) (fun (hb5 : ¬ ((f : Int) = 0)) => ?_)
        · refine wl_s (pc' := 109) ji_183_108 rfl rfl rfl ?_
          refine rp_g2 V ji_183_109 jf_183_16 ?_
          refine wl_s (pc' := 113) ji_183_112 rfl rfl rfl ?_
          refine rp_g12 V ji_183_113 jf_183_134 ?_
          refine wl_s (pc' := 117) ji_183_116 rfl rfl rfl ?_
          refine rp_tl (x := x0) V (by omega) rfl ji_183_117 ?_
          refine wl_s (pc' := 119) ji_183_118 rfl rfl rfl ?_
          refine wl_iadd (x := cn) (y := 1) (z := cn + 1) ji_183_119 (by omega) ?_
          refine rp_tc (x := x0) (y := cn + 1) V (by omega) rfl ji_183_120 (fun h ts V => ?_)
          refine wl_s (pc' := 122) ji_183_121 rfl rfl rfl ?_
          refine rp_g9 V ji_183_122 jf_183_95 ?_
          refine wl_bp ji_183_125 rfl ?_
          refine wl_icmp (t := 132) ji_183_127 rfl (by omega) (by omega) (fun (hb6 : (t1 : Int) = 59) => ?_) (fun (hb6 : ¬ ((t1 : Int) = 59)) => ?_)
          · refine wl_s (pc' := 133) ji_183_132 rfl rfl rfl ?_
            obtain ⟨cs, hcs⟩ := rp_c V
            refine wl_vc (d := d + 9) (as := [.ref 138]) (rest := []) ji_183_133 jc_183_171 rfl hcs jk_178.symm (Nat.le_of_ble_eq_true rfl) rfl (by rw [jn_178]; rfl) (wr_nt (d := d + 8) V D hL (by omega) hw1) (fun v1 hb_ R => ?_)
            obtain ⟨rfl, k3, v3, q3, r3, t3, n3, w3, tk3, T3, hb3, hw3, V⟩ := R
            show wl_R _ _ 183 136 [some (.ref 138), some (wp_i x), some (wp_i cn), some (wp_i (x0 + 1 + (4 * cn))), some (wp_i f)] [] hb_ _
            refine wl_s (pc' := 137) ji_183_136 rfl rfl rfl ?_
            rcases hz with ⟨z1, z2⟩ | ⟨z1, z2, z3⟩
            · exfalso; omega
            · have hta2 := tok_adv tk2
              exact wl_ri ji_183_137 jr_183 rfl (Or.inr ⟨rfl, q1, r1, k3, v3, q3, r3, t3, n3, wr1, x, pd1, op1, am1, wi1, ei1, oc, w3, pl1, ts, up9 (z3 (h59.mp (by omega))), tk3, T3, by omega, hw3, by omega, ham1, by rw [if_neg (by omega)]; exact O, V⟩)
          · refine wl_s (pc' := 131) ji_183_130 rfl rfl rfl ?_
            rcases hz with ⟨z1, z2⟩ | ⟨z1, z2, z3⟩
            · exfalso; omega
            · exact wl_ri ji_183_131 jr_183 rfl (Or.inl ⟨1, by decide, rfl, q1, r1, r1, t1, n1, wr1, x, pd1, op1, am1, wi1, ei1, oc, (cn + 1), w1, pl1, ts, up9 (z2 (fun y => by omega)), ⟨hw1, by omega, by omega⟩, V⟩)
        · refine wl_s (pc' := 107) ji_183_105 rfl rfl rfl ?_
          rcases hz with ⟨z1, z2⟩ | ⟨z1, -⟩
          · exact wl_ri ji_183_107 jr_183 rfl (Or.inl ⟨f, z1, rfl, q1, r1, r1, t1, n1, wr1, x, pd1, op1, am1, wi1, ei1, oc, cn, w1, pl1, ts1, up9 z2, ⟨hw1, by omega, by omega⟩, V⟩)
          · exfalso; omega
      · refine wl_bp ji_183_45 rfl ?_
        exact wl_ri ji_183_47 jr_183 rfl (Or.inl ⟨6, by decide, rfl, q, r, r, t, n, wr, so, pd, op, am, wi, ei, oc, cn, w, pl, ts, Or.inr ⟨by omega, Or.inr ⟨fun y => by omega, Or.inl ⟨by omega, rfl, rfl, rfl⟩⟩⟩, ⟨hw0, by omega, by omega⟩, V⟩)
    · refine wl_s (pc' := 17) ji_183_16 rfl rfl rfl ?_
      refine rp_g21 V ji_183_17 jf_183_241 ?_
      refine wl_s (pc' := 21) ji_183_20 rfl rfl rfl ?_
      refine wl_sc (d := d + 9) (as := [wp_i oc, wp_i x]) (rest := []) ji_183_21 jc_183_244 (Nat.le_of_ble_eq_true rfl) rfl (Nat.le_of_ble_eq_true rfl) rfl (by rw [jn_191]; rfl) (wr_has O (by omega)) (fun v1 h1 R => ?_)
      obtain ⟨ee, z, rfl, hza, hzb⟩ := R
      subst ee
      show wl_R _ _ 183 24 [some (.ref 138), some (wp_i x), none, none, none] [wp_i z] h1 _
      refine wl_if (t := 29) ji_183_24 rfl (by omega) (fun (hb7 : (z : Int) = 0) => ?_) (fun (hb7 : ¬ ((z : Int) = 0)) => ?_)
      · refine wl_s (pc' := 30) ji_183_29 rfl rfl rfl ?_
        refine rp_g2 V ji_183_30 jf_183_16 ?_
        refine wl_s (pc' := 34) ji_183_33 rfl rfl rfl ?_
        refine rp_g12 V ji_183_34 jf_183_134 ?_
        refine rp_tl (x := x0) V (by omega) rfl ji_183_37 ?_
        refine wl_s (pc' := 39) (lv' := [some (.ref 138), some (wp_i x), some (wp_i cn), none, none]) ji_183_38 rfl rfl rfl ?_
        refine wl_s (pc' := 40) ji_183_39 rfl rfl rfl ?_
        refine wl_bp ji_183_40 rfl ?_
        refine wl_icmp (t := 48) ji_183_42 rfl (by omega) (by omega) (fun (hb8 : ¬ (cn : Int) = 24) => ?_) (fun (hb8 : ¬ (¬ (cn : Int) = 24)) => ?_)
        · refine wl_s (pc' := 49) ji_183_48 rfl rfl rfl ?_
          refine wl_s (pc' := 50) ji_183_49 rfl rfl rfl ?_
          refine wl_icmp (t := 65) ji_183_50 rfl (by omega) (by omega) (fun (hb9 : (2 : Int) < x) => (by exfalso; omega)) (fun (hb9 : ¬ ((2 : Int) < x)) => ?_)
          refine wl_s (pc' := 54) ji_183_53 rfl rfl rfl ?_
          refine wl_s (pc' := 55) ji_183_54 rfl rfl rfl ?_
          refine rp_g21 V ji_183_55 jf_183_241 ?_
          refine wl_s (pc' := 59) ji_183_58 rfl rfl rfl ?_
          refine wl_s (pc' := 60) ji_183_59 rfl rfl rfl ?_
          refine wl_s (pc' := 61) ji_183_60 rfl rfl rfl ?_
          obtain ⟨o2, eo2, O2⟩ := oq_1 O (x := x) (by omega)
          refine wl_s (pc' := 62) (lv' := [some (.ref 138), some (wp_i x), some (wp_i cn), none, none]) (st' := [wp_i o2, .ref 138]) (h' := h1) ji_183_61 rfl rfl (congrArg (fun z => (some (62, [some (.ref 138), some (wp_i x), some (wp_i cn), none, none], [Value.int z, .ref 138], h1) : Option mj_S)) eo2) ?_
          refine rp_p21 (y := o2) V ji_183_62 jf_183_241 (fun h V => ?_)
          refine wl_s (pc' := 66) ji_183_65 rfl rfl rfl ?_
          refine wl_s (pc' := 67) ji_183_66 rfl rfl rfl ?_
          refine rp_p14 (y := x) V ji_183_67 jf_183_144 (fun h V => ?_)
          refine wl_s (pc' := 71) ji_183_70 rfl rfl rfl ?_
          have hx9 : x = wdo k v := by omega
          have hk3 : ¬ k = 3 := fun e => by have h9 : wdo k v = -1 := if_neg (by omega); omega
          have hta := tok_adv tk
          obtain ⟨cs, hcs⟩ := rp_c V
          refine wl_vc (d := d + 9) (as := [.ref 138]) (rest := []) ji_183_71 jc_183_171 rfl hcs jk_178.symm (Nat.le_of_ble_eq_true rfl) rfl (by rw [jn_178]; rfl) (wr_nt (d := d + 8) V D hL (by omega) hw0) (fun v1 hb_ R => ?_)
          obtain ⟨rfl, k2, v2, q2, r2, t2, n2, w2, tk2, T2, hb2, hw2, V⟩ := R
          show wl_R _ _ 183 74 [some (.ref 138), some (wp_i x), some (wp_i cn), none, none] [] hb_ _
          refine wl_s (pc' := 75) ji_183_74 rfl rfl rfl ?_
          refine rp_g12 V ji_183_75 jf_183_134 ?_
          refine wl_s (pc' := 79) ji_183_78 rfl rfl rfl ?_
          refine wl_iadd (x := x0) (y := 1) (z := x0 + 1) ji_183_79 (by omega) ?_
          refine wl_s (pc' := 81) ji_183_80 rfl rfl rfl ?_
          refine wl_s (pc' := 82) ji_183_81 rfl rfl rfl ?_
          refine wl_imul (x := 4) (y := cn) (z := 4 * cn) ji_183_82 (by omega) ?_
          refine wl_iadd (x := x0 + 1) (y := 4 * cn) (z := x0 + 1 + (4 * cn)) ji_183_83 (by omega) ?_
          refine wl_s (pc' := 85) (lv' := [some (.ref 138), some (wp_i x), some (wp_i cn), some (wp_i (x0 + 1 + (4 * cn))), none]) ji_183_84 rfl rfl rfl ?_
          refine wl_s (pc' := 86) ji_183_85 rfl rfl rfl ?_
          refine rp_g2 V ji_183_86 jf_183_16 ?_
          refine wl_s (pc' := 90) ji_183_89 rfl rfl rfl ?_
          refine wl_s (pc' := 91) ji_183_90 rfl rfl rfl ?_
          refine rp_t (x := x0 + 1 + (4 * cn)) (y := x) V (by omega) (by omega) (by omega) ji_183_91 (fun h ts V => ?_)
          refine wl_s (pc' := 93) ji_183_92 rfl rfl rfl ?_
          refine wl_s (pc' := 94) ji_183_93 rfl rfl rfl ?_
          refine wl_s (pc' := 95) ji_183_94 rfl rfl rfl ?_
          obtain ⟨cs, hcs⟩ := rp_c V
          refine wl_vc (d := d + 9) (as := [.ref 138, wp_i x, wp_i (x0 + 1 + (4 * cn))]) (rest := []) ji_183_95 jc_183_247 rfl hcs jk_192.symm (Nat.le_of_ble_eq_true rfl) rfl (by rw [jn_192]; rfl) (wr_bd (d := d) (ls := ls) (s := q) V tk2 T2 D hL (by omega) (by omega) hw2 (by omega) ham hls (by omega) (by omega)) (fun v1 h1 R => ?_)
          obtain ⟨f, rfl, hf, p1, k1, v1, q1, r1, t1, n1, wr1, pd1, op1, am1, wi1, ei1, w1, pl1, ts1, hz, tk1, T1, hb1, hw1, hwr1, ham1, V⟩ := R
          show wl_R _ _ 183 98 [some (.ref 138), some (wp_i x), some (wp_i cn), some (wp_i (x0 + 1 + (4 * cn))), none] [wp_i f] h1 _
          have up9 : ∀ {f q' r' : Int}, bC (bt bl L) x ls q r f q' r' → clr (bt bl L) on cn ls k v q r f q' r' := fun z => by rw [hx9] at z; exact Or.inr ⟨by omega, Or.inr ⟨fun y => by have := hzb.mpr (by rw [hx9]; exact y.2); omega, Or.inr ⟨by omega, z⟩⟩⟩
          have h59 := tk_59 tk1 T1
          have hta1 := tok_adv tk1
          have ht1 := tk_tr tk1 T1
          refine wl_s (pc' := 100) (lv' := [some (.ref 138), some (wp_i x), some (wp_i cn), some (wp_i (x0 + 1 + (4 * cn))), some (wp_i f)]) ji_183_98 rfl rfl rfl ?_
          refine wl_s (pc' := 102) ji_183_100 rfl rfl rfl ?_
          refine wl_if (t := 108) ji_183_102 rfl (by omega) (fun (hb10 : (f : Int) = 0) => ?_) (fun (hb10 : ¬ ((f : Int) = 0)) => ?_)
          · refine wl_s (pc' := 109) ji_183_108 rfl rfl rfl ?_
            refine rp_g2 V ji_183_109 jf_183_16 ?_
            refine wl_s (pc' := 113) ji_183_112 rfl rfl rfl ?_
            refine rp_g12 V ji_183_113 jf_183_134 ?_
            refine wl_s (pc' := 117) ji_183_116 rfl rfl rfl ?_
            refine rp_tl (x := x0) V (by omega) rfl ji_183_117 ?_
            refine wl_s (pc' := 119) ji_183_118 rfl rfl rfl ?_
            refine wl_iadd (x := cn) (y := 1) (z := cn + 1) ji_183_119 (by omega) ?_
            refine rp_tc (x := x0) (y := cn + 1) V (by omega) rfl ji_183_120 (fun h ts V => ?_)
            refine wl_s (pc' := 122) ji_183_121 rfl rfl rfl ?_
            refine rp_g9 V ji_183_122 jf_183_95 ?_
            refine wl_bp ji_183_125 rfl ?_
            refine wl_icmp (t := 132) ji_183_127 rfl (by omega) (by omega) (fun (hb11 : (t1 : Int) = 59) => ?_) (fun (hb11 : ¬ ((t1 : Int) = 59)) => ?_)
            · refine wl_s (pc' := 133) ji_183_132 rfl rfl rfl ?_
              obtain ⟨cs, hcs⟩ := rp_c V
              refine wl_vc (d := d + 9) (as := [.ref 138]) (rest := []) ji_183_133 jc_183_171 rfl hcs jk_178.symm (Nat.le_of_ble_eq_true rfl) rfl (by rw [jn_178]; rfl) (wr_nt (d := d + 8) V D hL (by omega) hw1) (fun v1 hb_ R => ?_)
              obtain ⟨rfl, k3, v3, q3, r3, t3, n3, w3, tk3, T3, hb3, hw3, V⟩ := R
              show wl_R _ _ 183 136 [some (.ref 138), some (wp_i x), some (wp_i cn), some (wp_i (x0 + 1 + (4 * cn))), some (wp_i f)] [] hb_ _
              refine wl_s (pc' := 137) ji_183_136 rfl rfl rfl ?_
              rcases hz with ⟨z1, z2⟩ | ⟨z1, z2, z3⟩
              · exfalso; omega
              · have hta2 := tok_adv tk2
                exact wl_ri ji_183_137 jr_183 rfl (Or.inr ⟨rfl, q1, r1, k3, v3, q3, r3, t3, n3, wr1, x, pd1, op1, am1, wi1, ei1, o2, w3, pl1, ts, up9 (z3 (h59.mp (by omega))), tk3, T3, by omega, hw3, by omega, ham1, by rw [if_pos (by omega), ← hx9]; exact O2, V⟩)
            · refine wl_s (pc' := 131) ji_183_130 rfl rfl rfl ?_
              rcases hz with ⟨z1, z2⟩ | ⟨z1, z2, z3⟩
              · exfalso; omega
              · exact wl_ri ji_183_131 jr_183 rfl (Or.inl ⟨1, by decide, rfl, q1, r1, r1, t1, n1, wr1, x, pd1, op1, am1, wi1, ei1, o2, (cn + 1), w1, pl1, ts, up9 (z2 (fun y => by omega)), ⟨hw1, by omega, by omega⟩, V⟩)
          · refine wl_s (pc' := 107) ji_183_105 rfl rfl rfl ?_
            rcases hz with ⟨z1, z2⟩ | ⟨z1, -⟩
            · exact wl_ri ji_183_107 jr_183 rfl (Or.inl ⟨f, z1, rfl, q1, r1, r1, t1, n1, wr1, x, pd1, op1, am1, wi1, ei1, o2, cn, w1, pl1, ts1, up9 z2, ⟨hw1, by omega, by omega⟩, V⟩)
            · exfalso; omega
        · refine wl_bp ji_183_45 rfl ?_
          exact wl_ri ji_183_47 jr_183 rfl (Or.inl ⟨6, by decide, rfl, q, r, r, t, n, wr, so, pd, op, am, wi, ei, oc, cn, w, pl, ts, Or.inr ⟨by omega, Or.inr ⟨fun y => by have := hzb.mpr (by rw [show x = wdo k v by omega]; exact y.2); omega, Or.inl ⟨by omega, rfl, rfl, rfl⟩⟩⟩, ⟨hw0, by omega, by omega⟩, V⟩)
      · refine wl_s (pc' := 28) ji_183_27 rfl rfl rfl ?_
        exact wl_ri ji_183_28 jr_183 rfl (Or.inl ⟨4, by decide, rfl, q, r, r, t, n, wr, so, pd, op, am, wi, ei, oc, cn, w, pl, ts, Or.inr ⟨by omega, Or.inl ⟨⟨by omega, by rw [show wdo k v = x by omega]; exact hzb.mp (by omega)⟩, rfl, rfl, rfl⟩⟩, ⟨hw0, by omega, by omega⟩, V⟩)
  · refine wl_s (pc' := 10) ji_183_9 rfl rfl rfl ?_
    exact wl_ri ji_183_10 jr_183 rfl (Or.inl ⟨1, by decide, rfl, q, r, r, t, n, wr, so, pd, op, am, wi, ei, oc, cn, w, pl, ts, Or.inl ⟨by omega, rfl, rfl, rfl⟩, ⟨hw0, by omega, by omega⟩, V⟩)
