/-! -/
/-! the reference's reader with what it writes: deeds, clauses, texts; laid by program (wp_u93.py) -/
/-- a clause's numbers, or a law's code, in the reference's texts -/
def bdR (x0 xi : Int) (ts : List Value) (wr : Int) (K : KC) : List Value × Int := if K.1.1 < 3 then ((emW x0 (ts.set (xi + 1).toNat (wp_i wr)) wr (K.2.map cvt)).set (xi + 2).toNat (wp_i (wr + (K.2.length : Int))), wr + (K.2.length : Int)) else if K.1.1 = 4 ∨ K.1.1 = 8 ∨ K.1.1 = 9 then (ts.set (xi + 1).toNat (wp_i K.1.2.1), wr) else ((ts.set (xi + 1).toNat (wp_i K.1.2.1)).set (xi + 2).toNat (wp_i K.1.2.2), wr)
def akR (x0 : Int) (ts : List Value) (wr cn : Int) (K : KC) : List Value × Int := ((bdR x0 (x0 + 1 + (4 * cn)) (ts.set (x0 + 1 + (4 * cn)).toNat (wp_i K.1.1)) wr K).1.set x0.toNat (wp_i (cn + 1)), (bdR x0 (x0 + 1 + (4 * cn)) (ts.set (x0 + 1 + (4 * cn)).toNat (wp_i K.1.1)) wr K).2)
def akRs (x0 : Int) : List Value → Int → Int → List KC → List Value × Int
  | ts, wr, _, [] => (ts, wr)
  | ts, wr, cn, K :: l => akRs x0 (akR x0 ts wr cn K).1 (akR x0 ts wr cn K).2 (cn + 1) l
section XQS
variable {B : Int → Int} {p k v q r a b s f q' r' : Int} {l : List (Int × Int × Int)} {N : List Int}
theorem xe_g (tk : tok B p k v q r) (h : xn a b k v = 0) (g : xre B l r q N f q' r') : xre B ((0, a, b) :: l) p s (v :: N) f q' r' := ⟨k, v, q, r, tk, Or.inr ⟨by rw [show xe 0 a b k v = xn a b k v from if_pos rfl]; exact h, N, (if_pos rfl).symm, g⟩⟩
theorem ye_g (tk : tok B p k v q r) (h : k = a ∧ v = b) (g : xre B l r q N f q' r') : xre B ((1, a, b) :: l) p s N f q' r' := ⟨k, v, q, r, tk, Or.inr ⟨by rw [xe_1]; exact if_pos h, N, (if_neg (by decide)).symm, g⟩⟩
theorem ze_l (tk : tok B p k v q r) (h : k = 2 ∧ v = 59) : xre B [(1, 2, 59)] p s [] 0 q r := ye_g tk h ⟨rfl, rfl, rfl, rfl⟩
end XQS
theorem wq_fg {nn d : Nat} {h0 h : mj_H} {fs0 bl pl ts : List Value} {L p q t n x0 wr so pd op am wi ei oc cn : Int} {w : Nat} (V : rP h0 h fs0 bl L p q t n x0 wr so pd op am wi ei oc cn w pl ts) {x a b : Int} (hx : (x0 ≤ x ∧ x ≤ 3000) ∧ ¬ x = x0) (hx0 : 0 ≤ x0 ∧ x0 ≤ 3000) (hab : (0 ≤ a ∧ a ≤ 9) ∧ (0 ≤ b ∧ b ≤ 9000)) (D : tB bl) (hL : 0 ≤ L ∧ L ≤ 300) (hp : 0 ≤ p ∧ p ≤ L) (hw0 : w ≤ 2 ^ 60) {k v : Int} (T : tkr k v t n w) (htr : wp_r t) : wl_R nn (d + 2) 213 0 [some (.ref 138), some (wp_i x), some (wp_i a), some (wp_i b)] [] h (fun v9 h1 => (¬ xn a b k v = 0 ∧ v9 = some (wp_i (xn a b k v)) ∧ h1 = h) ∨ (xn a b k v = 0 ∧ v9 = some (wp_i 0) ∧ ∃ (k2 v2 q' r' t' n' : Int) (w' : Nat) (ts' : List Value), ts' = ts.set x.toNat (wp_i v) ∧ tok (bt bl L) p k2 v2 q' r' ∧ tkr k2 v2 t' n' w' ∧ (0 ≤ q' ∧ r' ≤ L) ∧ w' ≤ 2 ^ 60 ∧ rP h0 h1 fs0 bl L r' q' t' n' x0 wr so pd op am wi ei oc cn w' pl ts')) := by
  have hk1 := (tk_t T).1
  refine wl_s (pc' := 1) ji_213_0 rfl rfl rfl ?_
  refine rp_g9 V ji_213_1 jf_213_95 ?_
  refine wl_s (pc' := 5) ji_213_4 rfl rfl rfl ?_
  refine wl_icmp (t := 10) ji_213_5 rfl (by omega) (by omega) (fun (hb1 : (t : Int) = 1) => ?_) (fun (hb1 : ¬ ((t : Int) = 1)) => ?_)
  · refine wl_s (pc' := 11) ji_213_10 rfl rfl rfl ?_
    refine rp_g10 V ji_213_11 jf_213_102 ?_
    refine wl_s (pc' := 15) ji_213_14 rfl rfl rfl ?_
    refine wl_s (pc' := 16) ji_213_15 rfl rfl rfl ?_
    have hnr := tk_nr T (by omega)
    refine wl_sc (d := d + 1) (as := [wp_i n, wp_i a, wp_i b]) (rest := []) ji_213_16 jc_213_66 (Nat.le_of_ble_eq_true rfl) rfl (Nat.le_of_ble_eq_true rfl) rfl (by rw [jn_171]; rfl) (wp_wl (ws_isIn (x := n) (lo := a) (hi := b) (by omega) (by omega) (by omega))) (fun v1 h2 R => ?_)
    obtain ⟨ee, rfl⟩ := R
    subst ee
    obtain ⟨y, hy⟩ : ∃ y, (if a ≤ n ∧ n ≤ b then (1 : Int) else 0) = y := ⟨_, rfl⟩
    rw [hy]
    have hyi : (a ≤ n ∧ n ≤ b ∧ y = 1) ∨ (¬ (a ≤ n ∧ n ≤ b) ∧ y = 0) := by split at hy <;> omega
    show wl_R _ _ 213 19 [some (.ref 138), some (wp_i x), some (wp_i a), some (wp_i b)] [wp_i y] h2 _
    refine wl_if (t := 24) ji_213_19 rfl (by omega) (fun (hb2 : ¬ (y : Int) = 0) => ?_) (fun (hb2 : ¬ (¬ (y : Int) = 0)) => ?_)
    · refine wl_s (pc' := 25) ji_213_24 rfl rfl rfl ?_
      refine rp_g2 V ji_213_25 jf_213_16 ?_
      refine wl_s (pc' := 29) ji_213_28 rfl rfl rfl ?_
      refine wl_s (pc' := 30) ji_213_29 rfl rfl rfl ?_
      refine rp_g10 V ji_213_30 jf_213_102 ?_
      refine rp_u (x := x) (y := n) V (by omega) (by omega) (by omega) ji_213_33 (fun h x1 x2 V => ?_)
      refine wl_s (pc' := 35) ji_213_34 rfl rfl rfl ?_
      obtain ⟨cs, hcs⟩ := rp_c V
      refine wl_vc (d := d + 1) (as := [.ref 138]) (rest := []) ji_213_35 jc_213_171 rfl hcs jk_178.symm (Nat.le_of_ble_eq_true rfl) rfl (by rw [jn_178]; rfl) (wr_nt (d := d) V D hL hp hw0) (fun v1 hb_ R => ?_)
      obtain ⟨rfl, k2, v2, q', r', t', n', w', tk, tr, hb, hw1, V⟩ := R
      show wl_R _ _ 213 38 [some (.ref 138), some (wp_i x), some (wp_i a), some (wp_i b)] [] hb_ _
      refine wl_s (pc' := 39) ji_213_38 rfl rfl rfl ?_
      exact wl_ri ji_213_39 jr_213 rfl (Or.inr ⟨(if_neg (by omega)).trans (if_neg (by have := tk_v1 T; omega)), rfl, k2, v2, q', r', t', n', w', _, (by rw [show n = v by have := tk_v1 T; omega]), tk, tr, hb, hw1, V⟩)
    · refine wl_s (pc' := 23) ji_213_22 rfl rfl rfl ?_
      rw [show xn a b k v = 2 from (if_neg (by omega)).trans (if_pos (by have := tk_v1 T; omega))]
      exact wl_ri ji_213_23 jr_213 rfl (Or.inl ⟨by decide, rfl, rfl⟩)
  · refine wl_s (pc' := 9) ji_213_8 rfl rfl rfl ?_
    rw [show xn a b k v = 1 from if_pos (by omega)]
    exact wl_ri ji_213_9 jr_213 rfl (Or.inl ⟨by decide, rfl, rfl⟩)
theorem wq_pr {nn d : Nat} {h0 h : mj_H} {fs0 bl pl ts : List Value} {L p q t n x0 wr so pd op am wi ei oc cn : Int} {w : Nat} (V : rP h0 h fs0 bl L p q t n x0 wr so pd op am wi ei oc cn w pl ts) {x a b a2 b2 : Int} (hx : x0 + 1 ≤ x ∧ x ≤ 2998) (hx0 : 0 ≤ x0 ∧ x0 ≤ 3000) (hab : ((0 ≤ a ∧ a ≤ 9) ∧ (0 ≤ b ∧ b ≤ 9000)) ∧ ((0 ≤ a2 ∧ a2 ≤ 9) ∧ (0 ≤ b2 ∧ b2 ≤ 9000))) (D : tB bl) (hL : 0 ≤ L ∧ L ≤ 300) (hp : 0 ≤ p ∧ p ≤ L) (hw0 : w ≤ 2 ^ 60) {k v : Int} (T : tkr k v t n w) (htr : wp_r t) {jw : Nat} {K : List Int} (hK : tk_W[jw]? = some K) (hK1 : wd K ≤ 2 ^ 60) : wl_R nn (d + 3) 212 0 [some (.ref 138), some (wp_i x), some (wp_i a), some (wp_i b), some (.long (Int64.ofNat (wd K))), none, some (wp_i a2), some (wp_i b2), none] [] h (fun v9 h1 => (¬ xn a b k v = 0 ∧ v9 = some (wp_i (xn a b k v)) ∧ rP h0 h1 fs0 bl L p q t n x0 wr so pd op am wi ei oc cn w pl ts) ∨ (xn a b k v = 0 ∧ ∃ (k2 v2 q' r' t' n' : Int) (w' : Nat) (ts' : List Value), ts' = ts.set (x + 1).toNat (wp_i v) ∧ tok (bt bl L) p k2 v2 q' r' ∧ tkr k2 v2 t' n' w' ∧ (0 ≤ q' ∧ r' ≤ L) ∧ w' ≤ 2 ^ 60 ∧ ((¬ (k2 = 0 ∧ v2 = (jw : Int)) ∧ v9 = some (wp_i 1) ∧ rP h0 h1 fs0 bl L r' q' t' n' x0 wr so pd op am wi ei oc cn w' pl ts') ∨ ((k2 = 0 ∧ v2 = (jw : Int)) ∧ ∃ (k3 v3 q3 r3 t3 n3 : Int) (w3 : Nat), tok (bt bl L) r' k3 v3 q3 r3 ∧ tkr k3 v3 t3 n3 w3 ∧ (0 ≤ q3 ∧ r3 ≤ L) ∧ w3 ≤ 2 ^ 60 ∧ ((¬ xn a2 b2 k3 v3 = 0 ∧ v9 = some (wp_i (xn a2 b2 k3 v3)) ∧ rP h0 h1 fs0 bl L r3 q3 t3 n3 x0 wr so pd op am wi ei oc cn w3 pl ts') ∨ (xn a2 b2 k3 v3 = 0 ∧ v9 = some (wp_i 0) ∧ ∃ (k4 v4 q4 r4 t4 n4 : Int) (w4 : Nat) (ts9 : List Value), ts9 = ts'.set (x + 2).toNat (wp_i v3) ∧ tok (bt bl L) r3 k4 v4 q4 r4 ∧ tkr k4 v4 t4 n4 w4 ∧ (0 ≤ q4 ∧ r4 ≤ L) ∧ w4 ≤ 2 ^ 60 ∧ rP h0 h1 fs0 bl L r4 q4 t4 n4 x0 wr so pd op am wi ei oc cn w4 pl ts9)))))) := by
  refine wl_s (pc' := 1) ji_212_0 rfl rfl rfl ?_
  refine wl_s (pc' := 2) ji_212_1 rfl rfl rfl ?_
  refine wl_s (pc' := 3) ji_212_2 rfl rfl rfl ?_
  refine wl_iadd (x := x) (y := 1) (z := x + 1) ji_212_3 (by omega) ?_
  refine wl_s (pc' := 5) ji_212_4 rfl rfl rfl ?_
  refine wl_s (pc' := 6) ji_212_5 rfl rfl rfl ?_
  obtain ⟨csh1, hcsh1⟩ := rp_c V
  refine wl_vc (d := d + 2) (as := [.ref 138, wp_i (x + 1), wp_i a, wp_i b]) (rest := []) ji_212_6 jc_212_227 rfl hcsh1 jk_213.symm (Nat.le_of_ble_eq_true rfl) rfl (by rw [jn_213]; rfl) (wq_fg (d := d) V (x := x + 1) (a := a) (b := b) (by omega) hx0 (by omega) D hL hp hw0 T htr) (fun v1 h1 R => ?_)
  rcases R with ⟨hz, rfl, rfl⟩ | ⟨hz, rfl, k2, v2, q', r', t', n', w', ts', hts, tk2, T2, hB2, hw2, V⟩
  · have hxr := xn_r a b k v
    obtain ⟨y, hy⟩ : ∃ y, xn a b k v = y := ⟨_, rfl⟩
    rw [hy] at hz hxr ⊢
    show wl_R _ _ 212 9 [some (.ref 138), some (wp_i x), some (wp_i a), some (wp_i b), some (.long (Int64.ofNat (wd K))), none, some (wp_i a2), some (wp_i b2), none] [wp_i y] h1 _
    refine wl_s (pc' := 11) (lv' := [some (.ref 138), some (wp_i x), some (wp_i a), some (wp_i b), some (.long (Int64.ofNat (wd K))), none, some (wp_i a2), some (wp_i b2), some (wp_i y)]) ji_212_9 rfl rfl rfl ?_
    refine wl_s (pc' := 13) ji_212_11 rfl rfl rfl ?_
    refine wl_if (t := 19) ji_212_13 rfl (by omega) (fun (hb1 : (y : Int) = 0) => (by exfalso; omega)) (fun (hb1 : ¬ ((y : Int) = 0)) => ?_)
    refine wl_s (pc' := 18) ji_212_16 rfl rfl rfl ?_
    exact wl_ri ji_212_18 jr_212 rfl (Or.inl ⟨hz, rfl, V⟩)
  · show wl_R _ _ 212 9 [some (.ref 138), some (wp_i x), some (wp_i a), some (wp_i b), some (.long (Int64.ofNat (wd K))), none, some (wp_i a2), some (wp_i b2), none] [wp_i 0] h1 _
    have hta2 := tok_adv tk2
    refine wl_s (pc' := 11) (lv' := [some (.ref 138), some (wp_i x), some (wp_i a), some (wp_i b), some (.long (Int64.ofNat (wd K))), none, some (wp_i a2), some (wp_i b2), some (wp_i 0)]) ji_212_9 rfl rfl rfl ?_
    refine wl_s (pc' := 13) ji_212_11 rfl rfl rfl ?_
    refine wl_if (t := 19) ji_212_13 rfl (by omega) (fun (hb2 : (0 : Int) = 0) => ?_) (fun (hb2 : ¬ ((0 : Int) = 0)) => (by exfalso; omega))
    refine wl_s (pc' := 20) ji_212_19 rfl rfl rfl ?_
    refine wl_s (pc' := 22) ji_212_20 rfl rfl rfl ?_
    obtain ⟨cs8, hcs8⟩ := rp_c V
    refine wl_vc (d := d + 2) (as := [.ref 138, .long (Int64.ofNat (wd K))]) (rest := []) ji_212_22 jc_212_189 rfl hcs8 jk_190.symm (Nat.le_of_ble_eq_true rfl) rfl (by rw [jn_190]; rfl) (wr_iw (W := wd K) V hw2 (Nat.lt_of_le_of_lt hK1 (by decide)) (by have := tk_tr tk2 T2; omega)) (fun v1 h1 R => ?_)
    obtain ⟨ee, z, rfl, hza, hzb⟩ := R
    subst ee
    rw [kw T2 (j := jw) (K := K) hK] at hzb
    show wl_R _ _ 212 25 [some (.ref 138), some (wp_i x), some (wp_i a), some (wp_i b), some (.long (Int64.ofNat (wd K))), none, some (wp_i a2), some (wp_i b2), some (wp_i 0)] [wp_i z] h1 _
    refine wl_if (t := 30) ji_212_25 rfl (by omega) (fun (hb3 : ¬ (z : Int) = 0) => ?_) (fun (hb3 : ¬ (¬ (z : Int) = 0)) => ?_)
    · refine wl_s (pc' := 31) ji_212_30 rfl rfl rfl ?_
      have hzz : k2 = 0 ∧ v2 = (jw : Int) := hzb.mp (by omega)
      obtain ⟨cs, hcs⟩ := rp_c V
      refine wl_vc (d := d + 2) (as := [.ref 138]) (rest := []) ji_212_31 jc_212_171 rfl hcs jk_178.symm (Nat.le_of_ble_eq_true rfl) rfl (by rw [jn_178]; rfl) (wr_nt (d := d + 1) V D hL (by omega) hw2) (fun v1 h2 R => ?_)
      obtain ⟨rfl, k3, v3, q3, r3, t3, n3, w3, tk3, T3, hB3, hw3, V⟩ := R
      have hta3 := tok_adv tk3
      show wl_R _ _ 212 34 [some (.ref 138), some (wp_i x), some (wp_i a), some (wp_i b), some (.long (Int64.ofNat (wd K))), none, some (wp_i a2), some (wp_i b2), some (wp_i 0)] [] h2 _
      refine wl_s (pc' := 35) ji_212_34 rfl rfl rfl ?_
      refine wl_s (pc' := 36) ji_212_35 rfl rfl rfl ?_
      refine wl_s (pc' := 37) ji_212_36 rfl rfl rfl ?_
      refine wl_iadd (x := x) (y := 2) (z := x + 2) ji_212_37 (by omega) ?_
      refine wl_s (pc' := 40) ji_212_38 rfl rfl rfl ?_
      refine wl_s (pc' := 42) ji_212_40 rfl rfl rfl ?_
      obtain ⟨csh3, hcsh3⟩ := rp_c V
      refine wl_vc (d := d + 2) (as := [.ref 138, wp_i (x + 2), wp_i a2, wp_i b2]) (rest := []) ji_212_42 jc_212_227 rfl hcsh3 jk_213.symm (Nat.le_of_ble_eq_true rfl) rfl (by rw [jn_213]; rfl) (wq_fg (d := d) V (x := x + 2) (a := a2) (b := b2) (by omega) hx0 (by omega) D hL (by omega) hw3 T3 (by have := tk_tr tk3 T3; omega)) (fun v1 h3 R => ?_)
      obtain ⟨y9, hy9⟩ : ∃ y9 : Int, v1 = some (wp_i y9) := by rcases R with ⟨_, z, _⟩ | ⟨_, z, _⟩ <;> exact ⟨_, z⟩
      subst hy9
      show wl_R _ _ 212 45 [some (.ref 138), some (wp_i x), some (wp_i a), some (wp_i b), some (.long (Int64.ofNat (wd K))), none, some (wp_i a2), some (wp_i b2), some (wp_i 0)] [wp_i y9] h3 _
      refine wl_ri ji_212_45 jr_212 rfl (Or.inr ⟨hz, k2, v2, q', r', t', n', w', ts', hts, tk2, T2, hB2, hw2, Or.inr ⟨hzz, k3, v3, q3, r3, t3, n3, w3, tk3, T3, hB3, hw3, ?_⟩⟩)
      rcases R with ⟨z1, z2, rfl⟩ | ⟨z1, z2, z3⟩
      · exact Or.inl ⟨z1, z2, V⟩
      · exact Or.inr ⟨z1, z2, z3⟩
    · refine wl_s (pc' := 29) ji_212_28 rfl rfl rfl ?_
      exact wl_ri ji_212_29 jr_212 rfl (Or.inr ⟨hz, k2, v2, q', r', t', n', w', ts', hts, tk2, T2, hB2, hw2, Or.inl ⟨fun z9 => by have := hzb.mpr z9; omega, rfl, V⟩⟩)
/-- what a law's body leaves -/
def lcQ (h0 : mj_H) (fs0 bl : List Value) (L x0 oc cn law : Int) (ts : List Value) (wr p st ls ei : Int) (G : List Int → List Value → Int → Prop) : Option Value → mj_H → Prop := fun v9 h1 => ∃ f, v9 = some (wp_i f) ∧ (0 ≤ f ∧ f ≤ 7) ∧ ∃ (p1 k1 v1 q1 r1 t1 n1 wr1 pd op am wi : Int) (w9 : Nat) (pl ts1 : List Value) (E : List Int), qz (bt bl L) law p st [] ls 0 E f k1 v1 q1 r1 ∧ tok (bt bl L) p1 k1 v1 q1 r1 ∧ tkr k1 v1 t1 n1 w9 ∧ (p ≤ p1 ∧ 0 ≤ q1 ∧ r1 ≤ L) ∧ w9 ≤ 2 ^ 60 ∧ (f = 0 → G E ts1 wr1) ∧ (0 ≤ wr1 ∧ wr1 ≤ 1000 * (p1 + 2)) ∧ (0 ≤ am ∧ am ≤ 100) ∧ rP h0 h1 fs0 bl L r1 q1 t1 n1 x0 wr1 law pd op am wi ei oc cn w9 pl ts1
theorem wq_pa {nn d : Nat} {h0 h : mj_H} {fs0 bl pl ts : List Value} {L p q r t n x0 wr so pd op am wi ei oc cn : Int} {w : Nat} (V : rP h0 h fs0 bl L r q t n x0 wr so pd op am wi ei oc cn w pl ts) {k v : Int} (tk : tok (bt bl L) p k v q r) (T : tkr k v t n w) (D : tB bl) (hL : 0 ≤ L ∧ L ≤ 300) (hx0 : 0 ≤ x0 ∧ x0 ≤ 3000) (hb : 0 ≤ p ∧ 0 ≤ q ∧ r ≤ L) (hw0 : w ≤ 2 ^ 60) (hwr : 0 ≤ wr ∧ wr ≤ 1000 * (p + 1)) (ham : 0 ≤ am ∧ am ≤ 100) (hso : 0 ≤ so ∧ so ≤ 2) {ls : Int} (hls : 0 ≤ ls ∧ ls ≤ 6) : wl_R nn (d + 7) 194 0 [some (.ref 138), some (wp_i (if so = 2 then 1 else 0)), none] [] h (qQ h0 fs0 bl L x0 oc cn so ts wr [] p (if so = 2 then 0 else 1) [] ls 0 (if so = 2 then 1 else 0)) := by
  have he2 : (if so = 2 then (1 : Int) else 0) = 0 ∨ (if so = 2 then (1 : Int) else 0) = 1 := by split <;> omega
  refine wl_s (pc' := 1) ji_194_0 rfl rfl rfl ?_
  refine wl_s (pc' := 2) ji_194_1 rfl rfl rfl ?_
  refine rp_p16 (y := 0) V ji_194_2 jf_194_147 (fun h V => ?_)
  refine wl_s (pc' := 6) ji_194_5 rfl rfl rfl ?_
  refine wl_s (pc' := 7) ji_194_6 rfl rfl rfl ?_
  refine rp_p17 (y := 0) V ji_194_7 jf_194_157 (fun h V => ?_)
  refine wl_s (pc' := 11) ji_194_10 rfl rfl rfl ?_
  refine wl_s (pc' := 12) ji_194_11 rfl rfl rfl ?_
  refine rp_p19 (y := 0) (by omega) V ji_194_12 jf_194_180 (fun h V => ?_)
  refine wl_s (pc' := 16) ji_194_15 rfl rfl rfl ?_
  refine wl_s (pc' := 17) ji_194_16 rfl rfl rfl ?_
  refine rp_p20 (y := (if so = 2 then 1 else 0)) (by omega) V ji_194_17 jf_194_160 (fun h V => ?_)
  exact wq_pl (d := d) D hL hx0 hso nn h none [] p k v q r _ [] ls 0 ⟨t, n, wr, 0, am, 0, w, [], pl, ts, tk, T, by omega, hw0, RL_0 hls hso, trivial, (by rw [show lag (if so = 2 then 0 else 1) [] = [] by unfold lag; split <;> rfl]; exact qE_0), by omega, ham, V⟩
theorem wq_lc {nn d : Nat} {x x0 : Int} (hx : x0 + 1 ≤ x ∧ x ≤ 2998) {h0 h : mj_H} {fs0 bl pl ts : List Value} {L p q r t n wr so pd op am wi ei oc cn : Int} {w : Nat} (V : rP h0 h fs0 bl L r q t n x0 wr so pd op am wi ei oc cn w pl ts) {k v : Int} (tk : tok (bt bl L) p k v q r) (T : tkr k v t n w) (D : tB bl) (hL : 0 ≤ L ∧ L ≤ 300) (hx0 : 0 ≤ x0 ∧ x0 ≤ 3000) (hb : 0 ≤ p ∧ 0 ≤ q ∧ r ≤ L) (hw0 : w ≤ 2 ^ 60) (hwr : 0 ≤ wr ∧ wr ≤ 1000 * (p + 1)) (ham : 0 ≤ am ∧ am ≤ 100) (hso : 0 ≤ so ∧ so ≤ 2) {ls : Int} (hls : 0 ≤ ls ∧ ls ≤ 6) : wl_R nn (d + 8) 193 0 [some (.ref 138), some (wp_i x), some (wp_i (if so = 2 then 1 else 0)), none] [] h (lcQ h0 fs0 bl L x0 oc cn so ts wr p (if so = 2 then 0 else 1) ls (if so = 2 then 1 else 0) (fun E ts1 wr1 => bdR x0 x ts wr ((so, 0, 0), E) = (ts1, wr1))) := by
  refine wl_s (pc' := 1) ji_193_0 rfl rfl rfl ?_
  refine rp_g2 V ji_193_1 jf_193_16 ?_
  refine wl_s (pc' := 5) ji_193_4 rfl rfl rfl ?_
  refine wl_s (pc' := 6) ji_193_5 rfl rfl rfl ?_
  refine wl_iadd (x := x) (y := 1) (z := x + 1) ji_193_6 (by omega) ?_
  refine wl_s (pc' := 8) ji_193_7 rfl rfl rfl ?_
  refine rp_g13 V ji_193_8 jf_193_137 ?_
  refine rp_u (x := x + 1) (y := wr) V (by omega) (by omega) (by omega) ji_193_11 (fun h x1 x2 V => ?_)
  refine wl_s (pc' := 13) ji_193_12 rfl rfl rfl ?_
  refine wl_s (pc' := 14) ji_193_13 rfl rfl rfl ?_
  obtain ⟨cs, hcs⟩ := rp_c V
  refine wl_vc (d := d + 7) (as := [.ref 138, wp_i (if so = 2 then 1 else 0)]) (rest := []) ji_193_14 jc_193_223 rfl hcs jk_194.symm (Nat.le_of_ble_eq_true rfl) rfl (by rw [jn_194]; rfl) (wq_pa (d := d) V tk T D hL hx0 hb hw0 hwr ham hso hls) (fun v1 h1 R => ?_)
  obtain ⟨f, rfl, hf, p1, k1, v1, q1, r1, t1, n1, wr1, pd1, op1, am1, wi1, w1, pl1, ts1, E, hz, tk1, T1, hb1, hw1, hE, hwr1, ham1, V⟩ := R
  show wl_R _ _ 193 17 [some (.ref 138), some (wp_i x), some (wp_i ((if so = 2 then 1 else 0))), none] [wp_i f] h1 _
  refine wl_s (pc' := 18) (lv' := [some (.ref 138), some (wp_i x), some (wp_i ((if so = 2 then 1 else 0))), some (wp_i f)]) ji_193_17 rfl rfl rfl ?_
  refine wl_s (pc' := 19) ji_193_18 rfl rfl rfl ?_
  refine rp_g2 V ji_193_19 jf_193_16 ?_
  refine wl_s (pc' := 23) ji_193_22 rfl rfl rfl ?_
  refine wl_s (pc' := 24) ji_193_23 rfl rfl rfl ?_
  refine wl_iadd (x := x) (y := 2) (z := x + 2) ji_193_24 (by omega) ?_
  refine wl_s (pc' := 26) ji_193_25 rfl rfl rfl ?_
  refine rp_g13 V ji_193_26 jf_193_137 ?_
  refine rp_u (x := x + 2) (y := wr1) V (by omega) (by omega) (by omega) ji_193_29 (fun h x3 x4 V => ?_)
  refine wl_s (pc' := 31) ji_193_30 rfl rfl rfl ?_
  refine wl_ri ji_193_31 jr_193 rfl ⟨f, rfl, hf, p1, k1, v1, q1, r1, t1, n1, wr1, pd1, op1, am1, wi1, w1, pl1, _, E, hz, tk1, T1, hb1, hw1, fun z => ?_, hwr1, ham1, V⟩
  obtain ⟨e1, e2⟩ := hE z
  rw [show (([] : List Int) ++ E) = E from rfl] at e1 e2
  rw [List.length_map] at e1
  refine (if_pos (by show so < 3; omega)).trans ?_
  show ((emW x0 (ts.set (x + 1).toNat (wp_i wr)) wr (E.map cvt)).set (x + 2).toNat (wp_i (wr + (E.length : Int))), wr + (E.length : Int)) = _
  rw [← e2, ← e1]
def bCe (B : Int → Int) (x ls s p : Int) : KC → Int → Int → Int → Prop := fun K f q r => (x < 3 ∧ K.1 = (x, 0, 0) ∧ ∃ m, lre B x m p (if x = 2 then 0 else 1) [] ls 0 K.2 f q r) ∨ (3 ≤ x ∧ ∃ N, K = ((x, N.headD 0, N.tail.headD 0), []) ∧ xre B (dl x) p s N f q r)
def cze (C : Int → Int → Int → Prop) (CE : KC → Int → Int → Int → Prop) (K : KC) (f k1 v1 q1 r1 : Int) : Prop := ((1 ≤ f ∧ f ≤ 7) ∧ C f q1 r1) ∨ (f = 0 ∧ (¬ (k1 = 2 ∧ v1 = 59) → C 1 q1 r1) ∧ ((k1 = 2 ∧ v1 = 59) → CE K 0 q1 r1))
def bQe (C : Int → Int → Int → Prop) (CE : KC → Int → Int → Int → Prop) (h0 : mj_H) (fs0 bl : List Value) (L x0 so oc cn p : Int) (G : KC → List Value → Int → Prop) : Option Value → mj_H → Prop := fun v9 h1 => ∃ f, v9 = some (wp_i f) ∧ (0 ≤ f ∧ f ≤ 7) ∧ ∃ (p1 k1 v1 q1 r1 t1 n1 wr1 pd1 op1 am1 wi1 ei1 : Int) (w1 : Nat) (pl1 ts1 : List Value) (K : KC), cze C CE K f k1 v1 q1 r1 ∧ tok (bt bl L) p1 k1 v1 q1 r1 ∧ tkr k1 v1 t1 n1 w1 ∧ (p ≤ p1 ∧ 0 ≤ q1 ∧ r1 ≤ L) ∧ w1 ≤ 2 ^ 60 ∧ (f = 0 → G K ts1 wr1 ∧ K.1.1 = so) ∧ (0 ≤ wr1 ∧ wr1 ≤ 1000 * (p1 + 2)) ∧ (0 ≤ am1 ∧ am1 ≤ 100) ∧ rP h0 h1 fs0 bl L r1 q1 t1 n1 x0 wr1 so pd1 op1 am1 wi1 ei1 oc cn w1 pl1 ts1
theorem wq_bd {nn d : Nat} {h0 h : mj_H} {fs0 bl pl ts : List Value} {L p q r t n x0 wr so pd op am wi ei oc cn : Int} {w : Nat} (V : rP h0 h fs0 bl L r q t n x0 wr so pd op am wi ei oc cn w pl ts) {k v : Int} (tk : tok (bt bl L) p k v q r) (T : tkr k v t n w) (D : tB bl) (hL : 0 ≤ L ∧ L ≤ 300) (hx0 : 0 ≤ x0 ∧ x0 ≤ 2900) (hb : 0 ≤ p ∧ 0 ≤ q ∧ r ≤ L) (hw0 : w ≤ 2 ^ 60) (hwr : 0 ≤ wr ∧ wr ≤ 1000 * (p + 1)) (ham : 0 ≤ am ∧ am ≤ 100) {ls s : Int} (hls : 0 ≤ ls ∧ ls ≤ 6) {xi : Int} (hx : x0 + 1 ≤ xi ∧ xi ≤ 2990) (hso : 0 ≤ so ∧ so ≤ 9) : wl_R nn (d + 9) 192 0 [some (.ref 138), some (wp_i so), some (wp_i xi)] [] h (bQe (bC (bt bl L) so ls s p) (bCe (bt bl L) so ls s p) h0 fs0 bl L x0 so oc cn p (fun K ts1 wr1 => bdR x0 xi ts wr K = (ts1, wr1))) := by
  have hta0 := tok_adv tk
  have hc : so = 0 ∨ so = 1 ∨ so = 2 ∨ so = 3 ∨ so = 4 ∨ so = 5 ∨ so = 6 ∨ so = 7 ∨ so = 8 ∨ so = 9 := by omega
  rcases hc with hv | hv | hv | hv | hv | hv | hv | hv | hv | hv
  · subst hv
    refine wl_s (pc' := 1) ji_192_0 rfl rfl rfl ?_
    refine wl_s (pc' := 56) (lv' := [some (.ref 138), some (wp_i 0), some (wp_i xi)]) (st' := []) (h' := h) ji_192_1 rfl rfl rfl ?_
    refine wl_s (pc' := 57) ji_192_56 rfl rfl rfl ?_
    refine wl_s (pc' := 58) ji_192_57 rfl rfl rfl ?_
    refine wl_s (pc' := 59) ji_192_58 rfl rfl rfl ?_
    obtain ⟨cs, hcs⟩ := rp_c V
    refine wl_vc (d := d + 8) (as := [.ref 138, wp_i xi, wp_i 0]) (rest := []) ji_192_59 jc_192_230 rfl hcs jk_193.symm (Nat.le_of_ble_eq_true rfl) rfl (by rw [jn_193]; rfl) (wq_lc (d := d) (so := 0) (x := xi) (by omega) V tk T D hL (by omega) hb hw0 hwr ham (by decide) hls) (fun v1 h1 R => ?_)
    obtain ⟨f, rfl, hf, p1, k1, v1, q1, r1, t1, n1, wr1, pd1, op1, am1, wi1, w1, pl1, ts1, E, hz, tk1, T1, hb1, hw1, hE, hwr1, ham1, V1⟩ := R
    show wl_R _ _ 192 62 [some (.ref 138), some (wp_i 0), some (wp_i xi)] [wp_i f] h1 _
    refine wl_ri ji_192_62 jr_192 rfl ⟨f, rfl, hf, p1, k1, v1, q1, r1, t1, n1, wr1, pd1, op1, am1, wi1, _, w1, pl1, ts1, ((0, 0, 0), E), ?_, tk1, T1, hb1, hw1, fun z => ⟨hE z, rfl⟩, hwr1, ham1, V1⟩
    rcases hz with ⟨z1, z2, z3⟩ | ⟨z1, z2, z3⟩
    · exact Or.inl ⟨⟨z1, z2⟩, Or.inl ⟨by decide, z3⟩⟩
    · exact Or.inr ⟨z1, fun y => Or.inl ⟨by decide, z2 y⟩, fun y => Or.inl ⟨by decide, rfl, z3 y⟩⟩
  · subst hv
    refine wl_s (pc' := 1) ji_192_0 rfl rfl rfl ?_
    refine wl_s (pc' := 63) (lv' := [some (.ref 138), some (wp_i 1), some (wp_i xi)]) (st' := []) (h' := h) ji_192_1 rfl rfl rfl ?_
    refine wl_s (pc' := 64) ji_192_63 rfl rfl rfl ?_
    refine wl_s (pc' := 65) ji_192_64 rfl rfl rfl ?_
    refine wl_s (pc' := 66) ji_192_65 rfl rfl rfl ?_
    obtain ⟨cs, hcs⟩ := rp_c V
    refine wl_vc (d := d + 8) (as := [.ref 138, wp_i xi, wp_i 0]) (rest := []) ji_192_66 jc_192_230 rfl hcs jk_193.symm (Nat.le_of_ble_eq_true rfl) rfl (by rw [jn_193]; rfl) (wq_lc (d := d) (so := 1) (x := xi) (by omega) V tk T D hL (by omega) hb hw0 hwr ham (by decide) hls) (fun v1 h1 R => ?_)
    obtain ⟨f, rfl, hf, p1, k1, v1, q1, r1, t1, n1, wr1, pd1, op1, am1, wi1, w1, pl1, ts1, E, hz, tk1, T1, hb1, hw1, hE, hwr1, ham1, V1⟩ := R
    show wl_R _ _ 192 69 [some (.ref 138), some (wp_i 1), some (wp_i xi)] [wp_i f] h1 _
    refine wl_ri ji_192_69 jr_192 rfl ⟨f, rfl, hf, p1, k1, v1, q1, r1, t1, n1, wr1, pd1, op1, am1, wi1, _, w1, pl1, ts1, ((1, 0, 0), E), ?_, tk1, T1, hb1, hw1, fun z => ⟨hE z, rfl⟩, hwr1, ham1, V1⟩
    rcases hz with ⟨z1, z2, z3⟩ | ⟨z1, z2, z3⟩
    · exact Or.inl ⟨⟨z1, z2⟩, Or.inl ⟨by decide, z3⟩⟩
    · exact Or.inr ⟨z1, fun y => Or.inl ⟨by decide, z2 y⟩, fun y => Or.inl ⟨by decide, rfl, z3 y⟩⟩
  · subst hv
    refine wl_s (pc' := 1) ji_192_0 rfl rfl rfl ?_
    refine wl_s (pc' := 70) (lv' := [some (.ref 138), some (wp_i 2), some (wp_i xi)]) (st' := []) (h' := h) ji_192_1 rfl rfl rfl ?_
    refine wl_s (pc' := 71) ji_192_70 rfl rfl rfl ?_
    refine wl_s (pc' := 72) ji_192_71 rfl rfl rfl ?_
    refine wl_s (pc' := 73) ji_192_72 rfl rfl rfl ?_
    obtain ⟨cs, hcs⟩ := rp_c V
    refine wl_vc (d := d + 8) (as := [.ref 138, wp_i xi, wp_i 1]) (rest := []) ji_192_73 jc_192_230 rfl hcs jk_193.symm (Nat.le_of_ble_eq_true rfl) rfl (by rw [jn_193]; rfl) (wq_lc (d := d) (so := 2) (x := xi) (by omega) V tk T D hL (by omega) hb hw0 hwr ham (by decide) hls) (fun v1 h1 R => ?_)
    obtain ⟨f, rfl, hf, p1, k1, v1, q1, r1, t1, n1, wr1, pd1, op1, am1, wi1, w1, pl1, ts1, E, hz, tk1, T1, hb1, hw1, hE, hwr1, ham1, V1⟩ := R
    show wl_R _ _ 192 76 [some (.ref 138), some (wp_i 2), some (wp_i xi)] [wp_i f] h1 _
    refine wl_ri ji_192_76 jr_192 rfl ⟨f, rfl, hf, p1, k1, v1, q1, r1, t1, n1, wr1, pd1, op1, am1, wi1, _, w1, pl1, ts1, ((2, 0, 0), E), ?_, tk1, T1, hb1, hw1, fun z => ⟨hE z, rfl⟩, hwr1, ham1, V1⟩
    rcases hz with ⟨z1, z2, z3⟩ | ⟨z1, z2, z3⟩
    · exact Or.inl ⟨⟨z1, z2⟩, Or.inl ⟨by decide, z3⟩⟩
    · exact Or.inr ⟨z1, fun y => Or.inl ⟨by decide, z2 y⟩, fun y => Or.inl ⟨by decide, rfl, z3 y⟩⟩
  · subst hv
    refine wl_s (pc' := 1) ji_192_0 rfl rfl rfl ?_
    refine wl_s (pc' := 77) (lv' := [some (.ref 138), some (wp_i 3), some (wp_i xi)]) (st' := []) (h' := h) ji_192_1 rfl rfl rfl ?_
    refine wl_s (pc' := 78) ji_192_77 rfl rfl rfl ?_
    refine wl_s (pc' := 79) ji_192_78 rfl rfl rfl ?_
    refine wl_s (pc' := 80) ji_192_79 rfl rfl rfl ?_
    refine wl_bp ji_192_80 rfl ?_
    refine wl_bp ji_192_82 rfl ?_
    refine wl_bp ji_192_84 rfl ?_
    refine wl_sc (d := d + 8) (as := [wp_i 97, wp_i 116]) (rest := [wp_i 99, wp_i 1, wp_i xi, .ref 138]) ji_192_86 jc_192_118 (Nat.le_of_ble_eq_true rfl) rfl (Nat.le_of_ble_eq_true rfl) rfl (by rw [jn_189]; rfl) (wr_w2 (by decide) (by decide)) (fun v1 h1 R => ?_)
    obtain ⟨ee, rfl⟩ := R
    subst ee
    show wl_R _ _ 192 89 [some (.ref 138), some (wp_i 3), some (wp_i xi)] [.long (Int64.ofNat (wd [97, 116])), wp_i 99, wp_i 1, wp_i xi, .ref 138] h1 _
    refine wl_s (pc' := 90) ji_192_89 rfl rfl rfl ?_
    refine wl_bp ji_192_90 rfl ?_
    obtain ⟨cs, hcs⟩ := rp_c V
    have htr := tk_tr tk T
    have hta := tok_adv tk
    refine wl_vc (d := d + 8) (as := [.ref 138, wp_i xi, wp_i 1, wp_i 99, .long (Int64.ofNat (wd [97, 116])), wp_i 0, wp_i 99]) (rest := []) ji_192_92 jc_192_234 rfl hcs jk_212.symm (Nat.le_of_ble_eq_true rfl) rfl (by rw [jn_212]; rfl) (wq_pr (d := d + 5) V (x := xi) (a := 1) (b := 99) (a2 := 0) (b2 := 99) (by omega) (by omega) (by decide) D hL (by omega) hw0 T (by omega) (jw := 10) (K := [97, 116]) rfl (by decide +kernel)) (fun v1 h1 R => ?_)
    rcases R with ⟨hz, rfl, V1⟩ | ⟨hz, k2, v2, q', r', t', n', w', ts', hts, tk2, T2, hb2, hw2, ⟨g2, rfl, V2⟩ | ⟨g2, k3, v3, q3, r3, t3, n3, w3, tk3, T3, hb3, hw3, ⟨z3, rfl, V3⟩ | ⟨z3, rfl, k4, v4, q4, r4, t4, n4, w4, ts4, hts4, tk4, T4, hb4, hw4, V4⟩⟩⟩
    · show wl_R _ _ 192 95 [some (.ref 138), some (wp_i 3), some (wp_i xi)] [wp_i (xn 1 99 k v)] h1 _
      have hxr := xn_r 1 99 k v
      exact wl_ri ji_192_95 jr_192 rfl ⟨_, rfl, by omega, p, k, v, q, r, t, n, wr, pd, op, am, wi, ei, w, pl, ts, ((0, 0, 0), []), Or.inl ⟨by omega, Or.inr ⟨by decide, by rw [dl_3]; exact x_b tk hz⟩⟩, tk, T, by omega, hw0, (fun z => by omega), by omega, ham, V1⟩
    · show wl_R _ _ 192 95 [some (.ref 138), some (wp_i 3), some (wp_i xi)] [wp_i 1] h1 _
      exact wl_ri ji_192_95 jr_192 rfl ⟨_, rfl, by decide, r, k2, v2, q', r', t', n', wr, pd, op, am, wi, ei, w', pl, ts', ((0, 0, 0), []), Or.inl ⟨by decide, Or.inr ⟨by decide, by rw [dl_3]; exact x_g tk hz (y_b tk2 g2)⟩⟩, tk2, T2, by omega, hw2, (fun z => by omega), by omega, ham, V2⟩
    · show wl_R _ _ 192 95 [some (.ref 138), some (wp_i 3), some (wp_i xi)] [wp_i (xn 0 99 k3 v3)] h1 _
      have hxr := xn_r 0 99 k3 v3
      have hta2 := tok_adv tk2
      exact wl_ri ji_192_95 jr_192 rfl ⟨_, rfl, by omega, r', k3, v3, q3, r3, t3, n3, wr, pd, op, am, wi, ei, w3, pl, ts', ((0, 0, 0), []), Or.inl ⟨by omega, Or.inr ⟨by decide, by rw [dl_3]; exact x_g tk hz (y_g tk2 g2 (x_b tk3 z3))⟩⟩, tk3, T3, by omega, hw3, (fun z => by omega), by omega, ham, V3⟩
    · show wl_R _ _ 192 95 [some (.ref 138), some (wp_i 3), some (wp_i xi)] [wp_i 0] h1 _
      have hta2 := tok_adv tk2
      have hta3 := tok_adv tk3
      exact wl_ri ji_192_95 jr_192 rfl ⟨_, rfl, by decide, r3, k4, v4, q4, r4, t4, n4, wr, pd, op, am, wi, ei, w4, pl, ts4, ((3, v, v3), []), Or.inr ⟨rfl, fun y => Or.inr ⟨by decide, by rw [dl_3]; exact x_g tk hz (y_g tk2 g2 (x_g tk3 z3 ((z_l tk4).1 y)))⟩, fun y => Or.inr ⟨by decide, [v, v3], rfl, by rw [dl_3]; exact xe_g tk hz (ye_g tk2 g2 (xe_g tk3 z3 (ze_l tk4 y)))⟩⟩, tk4, T4, by omega, hw4, (fun _ => ⟨by rw [hts4, hts]; exact (if_neg (by show ¬ (3 : Int) < 3; decide)).trans (if_neg (by show ¬ ((3 : Int) = 4 ∨ (3 : Int) = 8 ∨ (3 : Int) = 9); decide)), rfl⟩), by omega, ham, V4⟩
  · subst hv
    refine wl_s (pc' := 1) ji_192_0 rfl rfl rfl ?_
    refine wl_s (pc' := 96) (lv' := [some (.ref 138), some (wp_i 4), some (wp_i xi)]) (st' := []) (h' := h) ji_192_1 rfl rfl rfl ?_
    refine wl_s (pc' := 97) ji_192_96 rfl rfl rfl ?_
    refine wl_s (pc' := 98) ji_192_97 rfl rfl rfl ?_
    refine wl_s (pc' := 99) ji_192_98 rfl rfl rfl ?_
    refine wl_iadd (x := xi) (y := 1) (z := xi + 1) ji_192_99 (by omega) ?_
    refine wl_s (pc' := 101) ji_192_100 rfl rfl rfl ?_
    refine wl_bp ji_192_101 rfl ?_
    obtain ⟨cs, hcs⟩ := rp_c V
    have htr := tk_tr tk T
    refine wl_vc (d := d + 8) (as := [.ref 138, wp_i (xi + 1), wp_i 1, wp_i 9]) (rest := []) ji_192_103 jc_192_227 rfl hcs jk_213.symm (Nat.le_of_ble_eq_true rfl) rfl (by rw [jn_213]; rfl) (wq_fg (d := d + 6) V (x := xi + 1) (a := 1) (b := 9) (by omega) (by omega) (by decide) D hL (by omega) hw0 T (by omega)) (fun v1 h1 R => ?_)
    rcases R with ⟨hz, rfl, rfl⟩ | ⟨hz, rfl, k2, v2, q', r', t', n', w', ts', hts, tk2, T2, hb2, hw2, V2⟩
    · show wl_R _ _ 192 106 [some (.ref 138), some (wp_i 4), some (wp_i xi)] [wp_i (xn 1 9 k v)] h1 _
      have hxr := xn_r 1 9 k v
      exact wl_ri ji_192_106 jr_192 rfl ⟨_, rfl, by omega, p, k, v, q, r, t, n, wr, pd, op, am, wi, ei, w, pl, ts, ((0, 0, 0), []), Or.inl ⟨by omega, Or.inr ⟨by decide, by rw [dl_4]; exact x_b tk hz⟩⟩, tk, T, by omega, hw0, (fun z => by omega), by omega, ham, V⟩
    · show wl_R _ _ 192 106 [some (.ref 138), some (wp_i 4), some (wp_i xi)] [wp_i 0] h1 _
      have hta := tok_adv tk
      exact wl_ri ji_192_106 jr_192 rfl ⟨_, rfl, by decide, r, k2, v2, q', r', t', n', wr, pd, op, am, wi, ei, w', pl, ts', ((4, v, 0), []), Or.inr ⟨rfl, fun y => Or.inr ⟨by decide, by rw [dl_4]; exact x_g tk hz ((z_l tk2).1 y)⟩, fun y => Or.inr ⟨by decide, [v], rfl, by rw [dl_4]; exact xe_g tk hz (ze_l tk2 y)⟩⟩, tk2, T2, by omega, hw2, (fun _ => ⟨by rw [hts]; exact (if_neg (by show ¬ (4 : Int) < 3; decide)).trans (if_pos (by show ((4 : Int) = 4 ∨ (4 : Int) = 8 ∨ (4 : Int) = 9); decide)), rfl⟩), by omega, ham, V2⟩
  · subst hv
    refine wl_s (pc' := 1) ji_192_0 rfl rfl rfl ?_
    refine wl_s (pc' := 148) (lv' := [some (.ref 138), some (wp_i 5), some (wp_i xi)]) (st' := []) (h' := h) ji_192_1 rfl rfl rfl ?_
    refine wl_s (pc' := 149) ji_192_148 rfl rfl rfl ?_
    refine wl_s (pc' := 150) ji_192_149 rfl rfl rfl ?_
    refine wl_s (pc' := 151) ji_192_150 rfl rfl rfl ?_
    refine wl_s (pc' := 152) ji_192_151 rfl rfl rfl ?_
    refine wl_bp ji_192_152 rfl ?_
    refine wl_bp ji_192_154 rfl ?_
    refine wl_sc (d := d + 8) (as := [wp_i 111, wp_i 110]) (rest := [wp_i 5, wp_i 0, wp_i xi, .ref 138]) ji_192_156 jc_192_118 (Nat.le_of_ble_eq_true rfl) rfl (Nat.le_of_ble_eq_true rfl) rfl (by rw [jn_189]; rfl) (wr_w2 (by decide) (by decide)) (fun v1 h1 R => ?_)
    obtain ⟨ee, rfl⟩ := R
    subst ee
    show wl_R _ _ 192 159 [some (.ref 138), some (wp_i 5), some (wp_i xi)] [.long (Int64.ofNat (wd [111, 110])), wp_i 5, wp_i 0, wp_i xi, .ref 138] h1 _
    refine wl_s (pc' := 160) ji_192_159 rfl rfl rfl ?_
    refine wl_bp ji_192_160 rfl ?_
    obtain ⟨cs, hcs⟩ := rp_c V
    have htr := tk_tr tk T
    have hta := tok_adv tk
    refine wl_vc (d := d + 8) (as := [.ref 138, wp_i xi, wp_i 0, wp_i 5, .long (Int64.ofNat (wd [111, 110])), wp_i 0, wp_i 7]) (rest := []) ji_192_162 jc_192_234 rfl hcs jk_212.symm (Nat.le_of_ble_eq_true rfl) rfl (by rw [jn_212]; rfl) (wq_pr (d := d + 5) V (x := xi) (a := 0) (b := 5) (a2 := 0) (b2 := 7) (by omega) (by omega) (by decide) D hL (by omega) hw0 T (by omega) (jw := 11) (K := [111, 110]) rfl (by decide +kernel)) (fun v1 h1 R => ?_)
    rcases R with ⟨hz, rfl, V1⟩ | ⟨hz, k2, v2, q', r', t', n', w', ts', hts, tk2, T2, hb2, hw2, ⟨g2, rfl, V2⟩ | ⟨g2, k3, v3, q3, r3, t3, n3, w3, tk3, T3, hb3, hw3, ⟨z3, rfl, V3⟩ | ⟨z3, rfl, k4, v4, q4, r4, t4, n4, w4, ts4, hts4, tk4, T4, hb4, hw4, V4⟩⟩⟩
    · show wl_R _ _ 192 165 [some (.ref 138), some (wp_i 5), some (wp_i xi)] [wp_i (xn 0 5 k v)] h1 _
      have hxr := xn_r 0 5 k v
      exact wl_ri ji_192_165 jr_192 rfl ⟨_, rfl, by omega, p, k, v, q, r, t, n, wr, pd, op, am, wi, ei, w, pl, ts, ((0, 0, 0), []), Or.inl ⟨by omega, Or.inr ⟨by decide, by rw [dl_5]; exact x_b tk hz⟩⟩, tk, T, by omega, hw0, (fun z => by omega), by omega, ham, V1⟩
    · show wl_R _ _ 192 165 [some (.ref 138), some (wp_i 5), some (wp_i xi)] [wp_i 1] h1 _
      exact wl_ri ji_192_165 jr_192 rfl ⟨_, rfl, by decide, r, k2, v2, q', r', t', n', wr, pd, op, am, wi, ei, w', pl, ts', ((0, 0, 0), []), Or.inl ⟨by decide, Or.inr ⟨by decide, by rw [dl_5]; exact x_g tk hz (y_b tk2 g2)⟩⟩, tk2, T2, by omega, hw2, (fun z => by omega), by omega, ham, V2⟩
    · show wl_R _ _ 192 165 [some (.ref 138), some (wp_i 5), some (wp_i xi)] [wp_i (xn 0 7 k3 v3)] h1 _
      have hxr := xn_r 0 7 k3 v3
      have hta2 := tok_adv tk2
      exact wl_ri ji_192_165 jr_192 rfl ⟨_, rfl, by omega, r', k3, v3, q3, r3, t3, n3, wr, pd, op, am, wi, ei, w3, pl, ts', ((0, 0, 0), []), Or.inl ⟨by omega, Or.inr ⟨by decide, by rw [dl_5]; exact x_g tk hz (y_g tk2 g2 (x_b tk3 z3))⟩⟩, tk3, T3, by omega, hw3, (fun z => by omega), by omega, ham, V3⟩
    · show wl_R _ _ 192 165 [some (.ref 138), some (wp_i 5), some (wp_i xi)] [wp_i 0] h1 _
      have hta2 := tok_adv tk2
      have hta3 := tok_adv tk3
      exact wl_ri ji_192_165 jr_192 rfl ⟨_, rfl, by decide, r3, k4, v4, q4, r4, t4, n4, wr, pd, op, am, wi, ei, w4, pl, ts4, ((5, v, v3), []), Or.inr ⟨rfl, fun y => Or.inr ⟨by decide, by rw [dl_5]; exact x_g tk hz (y_g tk2 g2 (x_g tk3 z3 ((z_l tk4).1 y)))⟩, fun y => Or.inr ⟨by decide, [v, v3], rfl, by rw [dl_5]; exact xe_g tk hz (ye_g tk2 g2 (xe_g tk3 z3 (ze_l tk4 y)))⟩⟩, tk4, T4, by omega, hw4, (fun _ => ⟨by rw [hts4, hts]; exact (if_neg (by show ¬ (5 : Int) < 3; decide)).trans (if_neg (by show ¬ ((5 : Int) = 4 ∨ (5 : Int) = 8 ∨ (5 : Int) = 9); decide)), rfl⟩), by omega, ham, V4⟩
  · subst hv
    refine wl_s (pc' := 1) ji_192_0 rfl rfl rfl ?_
    refine wl_s (pc' := 148) (lv' := [some (.ref 138), some (wp_i 6), some (wp_i xi)]) (st' := []) (h' := h) ji_192_1 rfl rfl rfl ?_
    refine wl_s (pc' := 149) ji_192_148 rfl rfl rfl ?_
    refine wl_s (pc' := 150) ji_192_149 rfl rfl rfl ?_
    refine wl_s (pc' := 151) ji_192_150 rfl rfl rfl ?_
    refine wl_s (pc' := 152) ji_192_151 rfl rfl rfl ?_
    refine wl_bp ji_192_152 rfl ?_
    refine wl_bp ji_192_154 rfl ?_
    refine wl_sc (d := d + 8) (as := [wp_i 111, wp_i 110]) (rest := [wp_i 5, wp_i 0, wp_i xi, .ref 138]) ji_192_156 jc_192_118 (Nat.le_of_ble_eq_true rfl) rfl (Nat.le_of_ble_eq_true rfl) rfl (by rw [jn_189]; rfl) (wr_w2 (by decide) (by decide)) (fun v1 h1 R => ?_)
    obtain ⟨ee, rfl⟩ := R
    subst ee
    show wl_R _ _ 192 159 [some (.ref 138), some (wp_i 6), some (wp_i xi)] [.long (Int64.ofNat (wd [111, 110])), wp_i 5, wp_i 0, wp_i xi, .ref 138] h1 _
    refine wl_s (pc' := 160) ji_192_159 rfl rfl rfl ?_
    refine wl_bp ji_192_160 rfl ?_
    obtain ⟨cs, hcs⟩ := rp_c V
    have htr := tk_tr tk T
    have hta := tok_adv tk
    refine wl_vc (d := d + 8) (as := [.ref 138, wp_i xi, wp_i 0, wp_i 5, .long (Int64.ofNat (wd [111, 110])), wp_i 0, wp_i 7]) (rest := []) ji_192_162 jc_192_234 rfl hcs jk_212.symm (Nat.le_of_ble_eq_true rfl) rfl (by rw [jn_212]; rfl) (wq_pr (d := d + 5) V (x := xi) (a := 0) (b := 5) (a2 := 0) (b2 := 7) (by omega) (by omega) (by decide) D hL (by omega) hw0 T (by omega) (jw := 11) (K := [111, 110]) rfl (by decide +kernel)) (fun v1 h1 R => ?_)
    rcases R with ⟨hz, rfl, V1⟩ | ⟨hz, k2, v2, q', r', t', n', w', ts', hts, tk2, T2, hb2, hw2, ⟨g2, rfl, V2⟩ | ⟨g2, k3, v3, q3, r3, t3, n3, w3, tk3, T3, hb3, hw3, ⟨z3, rfl, V3⟩ | ⟨z3, rfl, k4, v4, q4, r4, t4, n4, w4, ts4, hts4, tk4, T4, hb4, hw4, V4⟩⟩⟩
    · show wl_R _ _ 192 165 [some (.ref 138), some (wp_i 6), some (wp_i xi)] [wp_i (xn 0 5 k v)] h1 _
      have hxr := xn_r 0 5 k v
      exact wl_ri ji_192_165 jr_192 rfl ⟨_, rfl, by omega, p, k, v, q, r, t, n, wr, pd, op, am, wi, ei, w, pl, ts, ((0, 0, 0), []), Or.inl ⟨by omega, Or.inr ⟨by decide, by rw [dl_6]; exact x_b tk hz⟩⟩, tk, T, by omega, hw0, (fun z => by omega), by omega, ham, V1⟩
    · show wl_R _ _ 192 165 [some (.ref 138), some (wp_i 6), some (wp_i xi)] [wp_i 1] h1 _
      exact wl_ri ji_192_165 jr_192 rfl ⟨_, rfl, by decide, r, k2, v2, q', r', t', n', wr, pd, op, am, wi, ei, w', pl, ts', ((0, 0, 0), []), Or.inl ⟨by decide, Or.inr ⟨by decide, by rw [dl_6]; exact x_g tk hz (y_b tk2 g2)⟩⟩, tk2, T2, by omega, hw2, (fun z => by omega), by omega, ham, V2⟩
    · show wl_R _ _ 192 165 [some (.ref 138), some (wp_i 6), some (wp_i xi)] [wp_i (xn 0 7 k3 v3)] h1 _
      have hxr := xn_r 0 7 k3 v3
      have hta2 := tok_adv tk2
      exact wl_ri ji_192_165 jr_192 rfl ⟨_, rfl, by omega, r', k3, v3, q3, r3, t3, n3, wr, pd, op, am, wi, ei, w3, pl, ts', ((0, 0, 0), []), Or.inl ⟨by omega, Or.inr ⟨by decide, by rw [dl_6]; exact x_g tk hz (y_g tk2 g2 (x_b tk3 z3))⟩⟩, tk3, T3, by omega, hw3, (fun z => by omega), by omega, ham, V3⟩
    · show wl_R _ _ 192 165 [some (.ref 138), some (wp_i 6), some (wp_i xi)] [wp_i 0] h1 _
      have hta2 := tok_adv tk2
      have hta3 := tok_adv tk3
      exact wl_ri ji_192_165 jr_192 rfl ⟨_, rfl, by decide, r3, k4, v4, q4, r4, t4, n4, wr, pd, op, am, wi, ei, w4, pl, ts4, ((6, v, v3), []), Or.inr ⟨rfl, fun y => Or.inr ⟨by decide, by rw [dl_6]; exact x_g tk hz (y_g tk2 g2 (x_g tk3 z3 ((z_l tk4).1 y)))⟩, fun y => Or.inr ⟨by decide, [v, v3], rfl, by rw [dl_6]; exact xe_g tk hz (ye_g tk2 g2 (xe_g tk3 z3 (ze_l tk4 y)))⟩⟩, tk4, T4, by omega, hw4, (fun _ => ⟨by rw [hts4, hts]; exact (if_neg (by show ¬ (6 : Int) < 3; decide)).trans (if_neg (by show ¬ ((6 : Int) = 4 ∨ (6 : Int) = 8 ∨ (6 : Int) = 9); decide)), rfl⟩), by omega, ham, V4⟩
  · subst hv
    refine wl_s (pc' := 1) ji_192_0 rfl rfl rfl ?_
    refine wl_s (pc' := 107) (lv' := [some (.ref 138), some (wp_i 7), some (wp_i xi)]) (st' := []) (h' := h) ji_192_1 rfl rfl rfl ?_
    refine wl_s (pc' := 108) ji_192_107 rfl rfl rfl ?_
    refine wl_s (pc' := 109) ji_192_108 rfl rfl rfl ?_
    refine wl_s (pc' := 110) ji_192_109 rfl rfl rfl ?_
    refine wl_bp ji_192_110 rfl ?_
    refine wl_bp ji_192_112 rfl ?_
    refine wl_bp ji_192_114 rfl ?_
    refine wl_sc (d := d + 8) (as := [wp_i 98, wp_i 121]) (rest := [wp_i 7, wp_i 0, wp_i xi, .ref 138]) ji_192_116 jc_192_118 (Nat.le_of_ble_eq_true rfl) rfl (Nat.le_of_ble_eq_true rfl) rfl (by rw [jn_189]; rfl) (wr_w2 (by decide) (by decide)) (fun v1 h1 R => ?_)
    obtain ⟨ee, rfl⟩ := R
    subst ee
    show wl_R _ _ 192 119 [some (.ref 138), some (wp_i 7), some (wp_i xi)] [.long (Int64.ofNat (wd [98, 121])), wp_i 7, wp_i 0, wp_i xi, .ref 138] h1 _
    refine wl_s (pc' := 120) ji_192_119 rfl rfl rfl ?_
    refine wl_bp ji_192_120 rfl ?_
    obtain ⟨cs, hcs⟩ := rp_c V
    have htr := tk_tr tk T
    have hta := tok_adv tk
    refine wl_vc (d := d + 8) (as := [.ref 138, wp_i xi, wp_i 0, wp_i 7, .long (Int64.ofNat (wd [98, 121])), wp_i 1, wp_i 99]) (rest := []) ji_192_122 jc_192_234 rfl hcs jk_212.symm (Nat.le_of_ble_eq_true rfl) rfl (by rw [jn_212]; rfl) (wq_pr (d := d + 5) V (x := xi) (a := 0) (b := 7) (a2 := 1) (b2 := 99) (by omega) (by omega) (by decide) D hL (by omega) hw0 T (by omega) (jw := 12) (K := [98, 121]) rfl (by decide +kernel)) (fun v1 h1 R => ?_)
    rcases R with ⟨hz, rfl, V1⟩ | ⟨hz, k2, v2, q', r', t', n', w', ts', hts, tk2, T2, hb2, hw2, ⟨g2, rfl, V2⟩ | ⟨g2, k3, v3, q3, r3, t3, n3, w3, tk3, T3, hb3, hw3, ⟨z3, rfl, V3⟩ | ⟨z3, rfl, k4, v4, q4, r4, t4, n4, w4, ts4, hts4, tk4, T4, hb4, hw4, V4⟩⟩⟩
    · show wl_R _ _ 192 125 [some (.ref 138), some (wp_i 7), some (wp_i xi)] [wp_i (xn 0 7 k v)] h1 _
      have hxr := xn_r 0 7 k v
      exact wl_ri ji_192_125 jr_192 rfl ⟨_, rfl, by omega, p, k, v, q, r, t, n, wr, pd, op, am, wi, ei, w, pl, ts, ((0, 0, 0), []), Or.inl ⟨by omega, Or.inr ⟨by decide, by rw [dl_7]; exact x_b tk hz⟩⟩, tk, T, by omega, hw0, (fun z => by omega), by omega, ham, V1⟩
    · show wl_R _ _ 192 125 [some (.ref 138), some (wp_i 7), some (wp_i xi)] [wp_i 1] h1 _
      exact wl_ri ji_192_125 jr_192 rfl ⟨_, rfl, by decide, r, k2, v2, q', r', t', n', wr, pd, op, am, wi, ei, w', pl, ts', ((0, 0, 0), []), Or.inl ⟨by decide, Or.inr ⟨by decide, by rw [dl_7]; exact x_g tk hz (y_b tk2 g2)⟩⟩, tk2, T2, by omega, hw2, (fun z => by omega), by omega, ham, V2⟩
    · show wl_R _ _ 192 125 [some (.ref 138), some (wp_i 7), some (wp_i xi)] [wp_i (xn 1 99 k3 v3)] h1 _
      have hxr := xn_r 1 99 k3 v3
      have hta2 := tok_adv tk2
      exact wl_ri ji_192_125 jr_192 rfl ⟨_, rfl, by omega, r', k3, v3, q3, r3, t3, n3, wr, pd, op, am, wi, ei, w3, pl, ts', ((0, 0, 0), []), Or.inl ⟨by omega, Or.inr ⟨by decide, by rw [dl_7]; exact x_g tk hz (y_g tk2 g2 (x_b tk3 z3))⟩⟩, tk3, T3, by omega, hw3, (fun z => by omega), by omega, ham, V3⟩
    · show wl_R _ _ 192 125 [some (.ref 138), some (wp_i 7), some (wp_i xi)] [wp_i 0] h1 _
      have hta2 := tok_adv tk2
      have hta3 := tok_adv tk3
      exact wl_ri ji_192_125 jr_192 rfl ⟨_, rfl, by decide, r3, k4, v4, q4, r4, t4, n4, wr, pd, op, am, wi, ei, w4, pl, ts4, ((7, v, v3), []), Or.inr ⟨rfl, fun y => Or.inr ⟨by decide, by rw [dl_7]; exact x_g tk hz (y_g tk2 g2 (x_g tk3 z3 ((z_l tk4).1 y)))⟩, fun y => Or.inr ⟨by decide, [v, v3], rfl, by rw [dl_7]; exact xe_g tk hz (ye_g tk2 g2 (xe_g tk3 z3 (ze_l tk4 y)))⟩⟩, tk4, T4, by omega, hw4, (fun _ => ⟨by rw [hts4, hts]; exact (if_neg (by show ¬ (7 : Int) < 3; decide)).trans (if_neg (by show ¬ ((7 : Int) = 4 ∨ (7 : Int) = 8 ∨ (7 : Int) = 9); decide)), rfl⟩), by omega, ham, V4⟩
  · subst hv
    refine wl_s (pc' := 1) ji_192_0 rfl rfl rfl ?_
    refine wl_s (pc' := 126) (lv' := [some (.ref 138), some (wp_i 8), some (wp_i xi)]) (st' := []) (h' := h) ji_192_1 rfl rfl rfl ?_
    refine wl_s (pc' := 127) ji_192_126 rfl rfl rfl ?_
    refine wl_s (pc' := 128) ji_192_127 rfl rfl rfl ?_
    refine wl_s (pc' := 129) ji_192_128 rfl rfl rfl ?_
    refine wl_iadd (x := xi) (y := 1) (z := xi + 1) ji_192_129 (by omega) ?_
    refine wl_s (pc' := 131) ji_192_130 rfl rfl rfl ?_
    refine wl_bp ji_192_131 rfl ?_
    obtain ⟨cs, hcs⟩ := rp_c V
    have htr := tk_tr tk T
    refine wl_vc (d := d + 8) (as := [.ref 138, wp_i (xi + 1), wp_i 0, wp_i 9]) (rest := []) ji_192_133 jc_192_227 rfl hcs jk_213.symm (Nat.le_of_ble_eq_true rfl) rfl (by rw [jn_213]; rfl) (wq_fg (d := d + 6) V (x := xi + 1) (a := 0) (b := 9) (by omega) (by omega) (by decide) D hL (by omega) hw0 T (by omega)) (fun v1 h1 R => ?_)
    rcases R with ⟨hz, rfl, rfl⟩ | ⟨hz, rfl, k2, v2, q', r', t', n', w', ts', hts, tk2, T2, hb2, hw2, V2⟩
    · show wl_R _ _ 192 136 [some (.ref 138), some (wp_i 8), some (wp_i xi)] [wp_i (xn 0 9 k v)] h1 _
      have hxr := xn_r 0 9 k v
      exact wl_ri ji_192_136 jr_192 rfl ⟨_, rfl, by omega, p, k, v, q, r, t, n, wr, pd, op, am, wi, ei, w, pl, ts, ((0, 0, 0), []), Or.inl ⟨by omega, Or.inr ⟨by decide, by rw [dl_8]; exact x_b tk hz⟩⟩, tk, T, by omega, hw0, (fun z => by omega), by omega, ham, V⟩
    · show wl_R _ _ 192 136 [some (.ref 138), some (wp_i 8), some (wp_i xi)] [wp_i 0] h1 _
      have hta := tok_adv tk
      exact wl_ri ji_192_136 jr_192 rfl ⟨_, rfl, by decide, r, k2, v2, q', r', t', n', wr, pd, op, am, wi, ei, w', pl, ts', ((8, v, 0), []), Or.inr ⟨rfl, fun y => Or.inr ⟨by decide, by rw [dl_8]; exact x_g tk hz ((z_l tk2).1 y)⟩, fun y => Or.inr ⟨by decide, [v], rfl, by rw [dl_8]; exact xe_g tk hz (ze_l tk2 y)⟩⟩, tk2, T2, by omega, hw2, (fun _ => ⟨by rw [hts]; exact (if_neg (by show ¬ (8 : Int) < 3; decide)).trans (if_pos (by show ((8 : Int) = 4 ∨ (8 : Int) = 8 ∨ (8 : Int) = 9); decide)), rfl⟩), by omega, ham, V2⟩
  · subst hv
    refine wl_s (pc' := 1) ji_192_0 rfl rfl rfl ?_
    refine wl_s (pc' := 137) (lv' := [some (.ref 138), some (wp_i 9), some (wp_i xi)]) (st' := []) (h' := h) ji_192_1 rfl rfl rfl ?_
    refine wl_s (pc' := 138) ji_192_137 rfl rfl rfl ?_
    refine wl_s (pc' := 139) ji_192_138 rfl rfl rfl ?_
    refine wl_s (pc' := 140) ji_192_139 rfl rfl rfl ?_
    refine wl_iadd (x := xi) (y := 1) (z := xi + 1) ji_192_140 (by omega) ?_
    refine wl_s (pc' := 142) ji_192_141 rfl rfl rfl ?_
    refine wl_bp ji_192_142 rfl ?_
    obtain ⟨cs, hcs⟩ := rp_c V
    have htr := tk_tr tk T
    refine wl_vc (d := d + 8) (as := [.ref 138, wp_i (xi + 1), wp_i 1, wp_i 60]) (rest := []) ji_192_144 jc_192_227 rfl hcs jk_213.symm (Nat.le_of_ble_eq_true rfl) rfl (by rw [jn_213]; rfl) (wq_fg (d := d + 6) V (x := xi + 1) (a := 1) (b := 60) (by omega) (by omega) (by decide) D hL (by omega) hw0 T (by omega)) (fun v1 h1 R => ?_)
    rcases R with ⟨hz, rfl, rfl⟩ | ⟨hz, rfl, k2, v2, q', r', t', n', w', ts', hts, tk2, T2, hb2, hw2, V2⟩
    · show wl_R _ _ 192 147 [some (.ref 138), some (wp_i 9), some (wp_i xi)] [wp_i (xn 1 60 k v)] h1 _
      have hxr := xn_r 1 60 k v
      exact wl_ri ji_192_147 jr_192 rfl ⟨_, rfl, by omega, p, k, v, q, r, t, n, wr, pd, op, am, wi, ei, w, pl, ts, ((0, 0, 0), []), Or.inl ⟨by omega, Or.inr ⟨by decide, by rw [dl_9]; exact x_b tk hz⟩⟩, tk, T, by omega, hw0, (fun z => by omega), by omega, ham, V⟩
    · show wl_R _ _ 192 147 [some (.ref 138), some (wp_i 9), some (wp_i xi)] [wp_i 0] h1 _
      have hta := tok_adv tk
      exact wl_ri ji_192_147 jr_192 rfl ⟨_, rfl, by decide, r, k2, v2, q', r', t', n', wr, pd, op, am, wi, ei, w', pl, ts', ((9, v, 0), []), Or.inr ⟨rfl, fun y => Or.inr ⟨by decide, by rw [dl_9]; exact x_g tk hz ((z_l tk2).1 y)⟩, fun y => Or.inr ⟨by decide, [v], rfl, by rw [dl_9]; exact xe_g tk hz (ze_l tk2 y)⟩⟩, tk2, T2, by omega, hw2, (fun _ => ⟨by rw [hts]; exact (if_neg (by show ¬ (9 : Int) < 3; decide)).trans (if_pos (by show ((9 : Int) = 4 ∨ (9 : Int) = 8 ∨ (9 : Int) = 9); decide)), rfl⟩), by omega, ham, V2⟩

section WRX
variable {nn d m pc : Nat} {lv : mj_L} {st : List Value} {h h0 : mj_H} {Q : Option Value → mj_H → Prop} {fs0 bl pl ts : List Value} {L p q t n x0 wr so pd op am wi ei oc cn : Int} {w : Nat}
theorem rp_td {x y : Int} (V : rP h0 h fs0 bl L p q t n x0 wr so pd op am wi ei oc cn w pl ts) (hx : wp_r x) (hx0 : x = x0) (hi : mj_ins m pc = some .iastore) (hr : ∀ h, rP h0 h fs0 bl L p q t n x0 wr so pd op am wi ei oc y w pl (ts.set x.toNat (wp_i y)) → wl_R nn d m (pc + 1) lv st h Q) : wl_R nn d m pc lv (wp_i y :: wp_i x :: .ref 141 :: st) h Q := by
  obtain ⟨⟨fs, e0, F⟩, f1, f2, ⟨f3, f4⟩, f5⟩ := V
  subst hx0
  refine wl_as hi f3 hx (fun x1 x2 => hr _ ⟨⟨fs, ?_, F⟩, ?_, ?_, ⟨List.getElem?_set_self (fd_lt f3), List.getElem?_set_self (by omega), fun j hj => by rw [List.getElem?_set_ne (by omega)]; exact f4.2 j hj⟩, fun a a1 a2 a3 => ?_⟩)
  · rw [List.getElem?_set_ne (by decide)]; exact e0
  · rw [List.getElem?_set_ne (by decide)]; exact f1
  · rw [List.getElem?_set_ne (by decide)]; exact f2
  · rw [List.getElem?_set_ne (Ne.symm a2)]; exact f5 a a1 a2 a3
end WRX
def qOk (h0 h1 : mj_H) (fs0 bl : List Value) (L x0 cn x p : Int) (on : Nat → Bool) (ts : List Value) (wr : Int) (C : KC → Int → Int → Int → Prop) : Prop := ∃ (q1 r1 k2 v2 q2 r2 t1 n1 wr1 so1 pd1 op1 am1 wi1 ei1 oc1 : Int) (w1 : Nat) (pl1 ts1 : List Value) (K : KC), C K 0 q1 r1 ∧ akR x0 ts wr cn K = (ts1, wr1) ∧ tok (bt bl L) r1 k2 v2 q2 r2 ∧ tkr k2 v2 t1 n1 w1 ∧ (p ≤ r1 ∧ 0 ≤ q2 ∧ r2 ≤ L) ∧ w1 ≤ 2 ^ 60 ∧ (0 ≤ wr1 ∧ wr1 ≤ 1000 * (r1 + 1)) ∧ (0 ≤ am1 ∧ am1 ≤ 100) ∧ oq oc1 (if x < 3 then on1 on x else on) ∧ rP h0 h1 fs0 bl L r2 q2 t1 n1 x0 wr1 so1 pd1 op1 am1 wi1 ei1 oc1 (cn + 1) w1 pl1 ts1
def qkQ (h0 : mj_H) (fs0 bl : List Value) (L x0 cn x p : Int) (on : Nat → Bool) (ts : List Value) (wr : Int) (C : Int → Int → Int → Prop) (CE : KC → Int → Int → Int → Prop) : Option Value → mj_H → Prop := fun v9 h1 => (∃ f, (1 ≤ f ∧ f ≤ 7) ∧ v9 = some (wp_i f) ∧ kBad h0 h1 fs0 bl L x0 C f) ∨ (v9 = some (wp_i 0) ∧ qOk h0 h1 fs0 bl L x0 cn x p on ts wr CE)
theorem wq_kl {nn d : Nat} {h0 h : mj_H} {fs0 bl pl ts : List Value} {L p q r t n x0 wr so pd op am wi ei oc cn : Int} {w : Nat} (V : rP h0 h fs0 bl L r q t n x0 wr so pd op am wi ei oc cn w pl ts) {k v : Int} (tk : tok (bt bl L) p k v q r) (T : tkr k v t n w) (D : tB bl) (hL : 0 ≤ L ∧ L ≤ 300) (hx0 : 0 ≤ x0 ∧ x0 ≤ 2200) (hb : 0 ≤ p ∧ 0 ≤ q ∧ r ≤ L) (hw0 : w ≤ 2 ^ 60) (hwr : 0 ≤ wr ∧ wr ≤ 1000 * (p + 1)) (ham : 0 ≤ am ∧ am ≤ 100) {ls : Int} (hls : 0 ≤ ls ∧ ls ≤ 6) (hcn : 0 ≤ cn ∧ cn ≤ 24) {on : Nat → Bool} (O : oq oc on) : wl_R nn (d + 10) 183 0 [some (.ref 138), none, none, none, none] [] h (qkQ h0 fs0 bl L x0 cn (wdo k v) p on ts wr (clr (bt bl L) on cn ls k v q r) (kre (bt bl L) on cn ls k v q r)) := by
  have hta0 := tok_adv tk
  refine wl_s (pc' := 1) ji_183_0 rfl rfl rfl ?_
  obtain ⟨cs, hcs⟩ := rp_c V
  refine wl_vc (d := d + 9) (as := [.ref 138]) (rest := []) ji_183_1 jc_183_238 rfl hcs jk_184.symm (Nat.le_of_ble_eq_true rfl) rfl (by rw [jn_184]; rfl) (wr_so (d := d + 4) V T hw0 (by have := tk_tr tk T; omega)) (fun v1 h1 R => ?_)
  obtain ⟨ee, rfl⟩ := R
  subst ee
  have hsr : (0 ≤ wdo k v ∧ wdo k v ≤ 9 ∧ srt k v = wdo k v) ∨ (¬ (0 ≤ wdo k v ∧ wdo k v ≤ 9) ∧ srt k v = -1) := srt_w
  obtain ⟨x, hx⟩ : ∃ x, srt k v = x := ⟨_, rfl⟩
  rw [hx] at hsr ⊢
  show wl_R _ _ 183 4 [some (.ref 138), none, none, none, none] [wp_i x] h1 _
  refine wl_s (pc' := 5) (lv' := [some (.ref 138), some (wp_i x), none, none, none]) ji_183_4 rfl rfl rfl ?_
  refine wl_s (pc' := 6) ji_183_5 rfl rfl rfl ?_
  refine wl_if (t := 11) ji_183_6 rfl (by omega) (fun (hb1 : (0 : Int) ≤ x) => ?_) (fun (hb1 : ¬ ((0 : Int) ≤ x)) => ?_)
  · refine wl_s (pc' := 12) ji_183_11 rfl rfl rfl ?_
    refine wl_s (pc' := 13) ji_183_12 rfl rfl rfl ?_
    refine wl_icmp (t := 29) ji_183_13 rfl (by omega) (by omega) (fun (hb2 : (2 : Int) < x) => ?_) (fun (hb2 : ¬ ((2 : Int) < x)) => ?_)
    · refine wl_s (pc' := 30) ji_183_29 rfl rfl rfl ?_
      refine rp_g2 V ji_183_30 jf_183_16 ?_
      refine wl_s (pc' := 34) ji_183_33 rfl rfl rfl ?_
      refine rp_g12 V ji_183_34 jf_183_134 ?_
      refine rp_tl (x := x0) V (by omega) rfl ji_183_37 ?_
      refine wl_s (pc' := 39) (lv' := [some (.ref 138), some (wp_i x), some (wp_i cn), none, none]) ji_183_38 rfl rfl rfl ?_
      refine wl_s (pc' := 40) ji_183_39 rfl rfl rfl ?_
      refine wl_bp ji_183_40 rfl ?_
      refine wl_icmp (t := 48) ji_183_42 rfl (by omega) (by omega) (fun (hb3 : ¬ (cn : Int) = 24) => ?_) (fun (hb3 : ¬ (¬ (cn : Int) = 24)) => ?_)
      · refine wl_s (pc' := 49) ji_183_48 rfl rfl rfl ?_
        refine wl_s (pc' := 50) ji_183_49 rfl rfl rfl ?_
        refine wl_icmp (t := 65) ji_183_50 rfl (by omega) (by omega) (fun (hb4 : (2 : Int) < x) => ?_) (fun (hb4 : ¬ ((2 : Int) < x)) => (by exfalso; omega))
        refine wl_s (pc' := 66) ji_183_65 rfl rfl rfl ?_
        refine wl_s (pc' := 67) ji_183_66 rfl rfl rfl ?_
        refine rp_p14 (y := x) V ji_183_67 jf_183_144 (fun h V => ?_)
        refine wl_s (pc' := 71) ji_183_70 rfl rfl rfl ?_
        have hx9 : x = wdo k v := by omega
        have hk3 : ¬ k = 3 := fun e => by have h9 : wdo k v = -1 := if_neg (by omega); omega
        have hta := tok_adv tk
        obtain ⟨cs, hcs⟩ := rp_c V
        refine wl_vc (d := d + 9) (as := [.ref 138]) (rest := []) ji_183_71 jc_183_171 rfl hcs jk_178.symm (Nat.le_of_ble_eq_true rfl) rfl (by rw [jn_178]; rfl) (wr_nt (d := d + 8) V D hL (by omega) hw0) (fun v1 hb_ R => ?_)
        obtain ⟨rfl, k2, v2, q2, r2, t2, n2, w2, tk2, T2, hb2, hw2, V⟩ := R
        show wl_R _ _ 183 74 [some (.ref 138), some (wp_i x), some (wp_i cn), none, none] [] hb_ _
        refine wl_s (pc' := 75) ji_183_74 rfl rfl rfl ?_
        refine rp_g12 V ji_183_75 jf_183_134 ?_
        refine wl_s (pc' := 79) ji_183_78 rfl rfl rfl ?_
        refine wl_iadd (x := x0) (y := 1) (z := x0 + 1) ji_183_79 (by omega) ?_
        refine wl_s (pc' := 81) ji_183_80 rfl rfl rfl ?_
        refine wl_s (pc' := 82) ji_183_81 rfl rfl rfl ?_
        refine wl_imul (x := 4) (y := cn) (z := 4 * cn) ji_183_82 (by omega) ?_
        refine wl_iadd (x := x0 + 1) (y := 4 * cn) (z := x0 + 1 + (4 * cn)) ji_183_83 (by omega) ?_
        refine wl_s (pc' := 85) (lv' := [some (.ref 138), some (wp_i x), some (wp_i cn), some (wp_i (x0 + 1 + (4 * cn))), none]) ji_183_84 rfl rfl rfl ?_
        refine wl_s (pc' := 86) ji_183_85 rfl rfl rfl ?_
        refine rp_g2 V ji_183_86 jf_183_16 ?_
        refine wl_s (pc' := 90) ji_183_89 rfl rfl rfl ?_
        refine wl_s (pc' := 91) ji_183_90 rfl rfl rfl ?_
        refine rp_u (x := x0 + 1 + (4 * cn)) (y := x) V (by omega) (by omega) (by omega) ji_183_91 (fun h x1 x2 V => ?_)
        refine wl_s (pc' := 93) ji_183_92 rfl rfl rfl ?_
        refine wl_s (pc' := 94) ji_183_93 rfl rfl rfl ?_
        refine wl_s (pc' := 95) ji_183_94 rfl rfl rfl ?_
        obtain ⟨cs, hcs⟩ := rp_c V
        refine wl_vc (d := d + 9) (as := [.ref 138, wp_i x, wp_i (x0 + 1 + (4 * cn))]) (rest := []) ji_183_95 jc_183_247 rfl hcs jk_192.symm (Nat.le_of_ble_eq_true rfl) rfl (by rw [jn_192]; rfl) (wq_bd (d := d) (ls := ls) (s := q) V tk2 T2 D hL (by omega) (by omega) hw2 (by omega) ham hls (by omega) (by omega)) (fun v1 h1 R => ?_)
        obtain ⟨f, rfl, hf, p1, k1, v1, q1, r1, t1, n1, wr1, pd1, op1, am1, wi1, ei1, w1, pl1, ts1, K, hz, tk1, T1, hb1, hw1, hG, hwr1, ham1, V⟩ := R
        show wl_R _ _ 183 98 [some (.ref 138), some (wp_i x), some (wp_i cn), some (wp_i (x0 + 1 + (4 * cn))), none] [wp_i f] h1 _
        have up9 : ∀ {f q' r' : Int}, bC (bt bl L) x ls q r f q' r' → clr (bt bl L) on cn ls k v q r f q' r' := fun z => by rw [hx9] at z; exact Or.inr ⟨by omega, Or.inr ⟨fun y => by omega, Or.inr ⟨by omega, z⟩⟩⟩
        have up8 : ∀ {f q' r' : Int}, bCe (bt bl L) x ls q r K f q' r' → kre (bt bl L) on cn ls k v q r K f q' r' := fun z => by rw [hx9] at z; exact Or.inr ⟨by omega, Or.inr ⟨fun y => by omega, Or.inr ⟨by omega, z⟩⟩⟩
        have h59 := tk_59 tk1 T1
        have hta1 := tok_adv tk1
        have ht1 := tk_tr tk1 T1
        refine wl_s (pc' := 100) (lv' := [some (.ref 138), some (wp_i x), some (wp_i cn), some (wp_i (x0 + 1 + (4 * cn))), some (wp_i f)]) ji_183_98 rfl rfl rfl ?_
        refine wl_s (pc' := 102) ji_183_100 rfl rfl rfl ?_
        refine wl_if (t := 108) ji_183_102 rfl (by omega) (fun (hb5 : (f : Int) = 0) => ?_) (fun (hb5 : ¬ ((f : Int) = 0)) => ?_)
        · refine wl_s (pc' := 109) ji_183_108 rfl rfl rfl ?_
          refine rp_g2 V ji_183_109 jf_183_16 ?_
          refine wl_s (pc' := 113) ji_183_112 rfl rfl rfl ?_
          refine rp_g12 V ji_183_113 jf_183_134 ?_
          refine wl_s (pc' := 117) ji_183_116 rfl rfl rfl ?_
          refine rp_tl (x := x0) V (by omega) rfl ji_183_117 ?_
          refine wl_s (pc' := 119) ji_183_118 rfl rfl rfl ?_
          refine wl_iadd (x := cn) (y := 1) (z := cn + 1) ji_183_119 (by omega) ?_
          refine rp_td (x := x0) (y := cn + 1) V (by omega) rfl ji_183_120 (fun h V => ?_)
          refine wl_s (pc' := 122) ji_183_121 rfl rfl rfl ?_
          refine rp_g9 V ji_183_122 jf_183_95 ?_
          refine wl_bp ji_183_125 rfl ?_
          refine wl_icmp (t := 132) ji_183_127 rfl (by omega) (by omega) (fun (hb6 : (t1 : Int) = 59) => ?_) (fun (hb6 : ¬ ((t1 : Int) = 59)) => ?_)
          · refine wl_s (pc' := 133) ji_183_132 rfl rfl rfl ?_
            obtain ⟨cs, hcs⟩ := rp_c V
            refine wl_vc (d := d + 9) (as := [.ref 138]) (rest := []) ji_183_133 jc_183_171 rfl hcs jk_178.symm (Nat.le_of_ble_eq_true rfl) rfl (by rw [jn_178]; rfl) (wr_nt (d := d + 8) V D hL (by omega) hw1) (fun v1 hb_ R => ?_)
            obtain ⟨rfl, k3, v3, q3, r3, t3, n3, w3, tk3, T3, hb3, hw3, V⟩ := R
            show wl_R _ _ 183 136 [some (.ref 138), some (wp_i x), some (wp_i cn), some (wp_i (x0 + 1 + (4 * cn))), some (wp_i f)] [] hb_ _
            refine wl_s (pc' := 137) ji_183_136 rfl rfl rfl ?_
            rcases hz with ⟨z1, z2⟩ | ⟨z1, z2, z3⟩
            · exfalso; omega
            · have hta2 := tok_adv tk2
              exact wl_ri ji_183_137 jr_183 rfl (Or.inr ⟨rfl, q1, r1, k3, v3, q3, r3, t3, n3, wr1, x, pd1, op1, am1, wi1, ei1, oc, w3, pl1, _, K, up8 (z3 (h59.mp (by omega))), (by have hG2 := hG (by omega); unfold akR; rw [hG2.2, hG2.1]), tk3, T3, by omega, hw3, by omega, ham1, by rw [if_neg (by omega)]; exact O, V⟩)
          · refine wl_s (pc' := 131) ji_183_130 rfl rfl rfl ?_
            rcases hz with ⟨z1, z2⟩ | ⟨z1, z2, z3⟩
            · exfalso; omega
            · exact wl_ri ji_183_131 jr_183 rfl (Or.inl ⟨1, by decide, rfl, q1, r1, r1, t1, n1, wr1, x, pd1, op1, am1, wi1, ei1, oc, (cn + 1), w1, pl1, _, up9 (z2 (fun y => by omega)), ⟨hw1, by omega, by omega⟩, V⟩)
        · refine wl_s (pc' := 107) ji_183_105 rfl rfl rfl ?_
          rcases hz with ⟨z1, z2⟩ | ⟨z1, -⟩
          · exact wl_ri ji_183_107 jr_183 rfl (Or.inl ⟨f, z1, rfl, q1, r1, r1, t1, n1, wr1, x, pd1, op1, am1, wi1, ei1, oc, cn, w1, pl1, ts1, up9 z2, ⟨hw1, by omega, by omega⟩, V⟩)
          · exfalso; omega
      · refine wl_bp ji_183_45 rfl ?_
        exact wl_ri ji_183_47 jr_183 rfl (Or.inl ⟨6, by decide, rfl, q, r, r, t, n, wr, so, pd, op, am, wi, ei, oc, cn, w, pl, ts, Or.inr ⟨by omega, Or.inr ⟨fun y => by omega, Or.inl ⟨by omega, rfl, rfl, rfl⟩⟩⟩, ⟨hw0, by omega, by omega⟩, V⟩)
    · refine wl_s (pc' := 17) ji_183_16 rfl rfl rfl ?_
      refine rp_g21 V ji_183_17 jf_183_241 ?_
      refine wl_s (pc' := 21) ji_183_20 rfl rfl rfl ?_
      refine wl_sc (d := d + 9) (as := [wp_i oc, wp_i x]) (rest := []) ji_183_21 jc_183_244 (Nat.le_of_ble_eq_true rfl) rfl (Nat.le_of_ble_eq_true rfl) rfl (by rw [jn_191]; rfl) (wr_has O (by omega)) (fun v1 h1 R => ?_)
      obtain ⟨ee, z, rfl, hza, hzb⟩ := R
      subst ee
      show wl_R _ _ 183 24 [some (.ref 138), some (wp_i x), none, none, none] [wp_i z] h1 _
      refine wl_if (t := 29) ji_183_24 rfl (by omega) (fun (hb7 : (z : Int) = 0) => ?_) (fun (hb7 : ¬ ((z : Int) = 0)) => ?_)
      · refine wl_s (pc' := 30) ji_183_29 rfl rfl rfl ?_
        refine rp_g2 V ji_183_30 jf_183_16 ?_
        refine wl_s (pc' := 34) ji_183_33 rfl rfl rfl ?_
        refine rp_g12 V ji_183_34 jf_183_134 ?_
        refine rp_tl (x := x0) V (by omega) rfl ji_183_37 ?_
        refine wl_s (pc' := 39) (lv' := [some (.ref 138), some (wp_i x), some (wp_i cn), none, none]) ji_183_38 rfl rfl rfl ?_
        refine wl_s (pc' := 40) ji_183_39 rfl rfl rfl ?_
        refine wl_bp ji_183_40 rfl ?_
        refine wl_icmp (t := 48) ji_183_42 rfl (by omega) (by omega) (fun (hb8 : ¬ (cn : Int) = 24) => ?_) (fun (hb8 : ¬ (¬ (cn : Int) = 24)) => ?_)
        · refine wl_s (pc' := 49) ji_183_48 rfl rfl rfl ?_
          refine wl_s (pc' := 50) ji_183_49 rfl rfl rfl ?_
          refine wl_icmp (t := 65) ji_183_50 rfl (by omega) (by omega) (fun (hb9 : (2 : Int) < x) => (by exfalso; omega)) (fun (hb9 : ¬ ((2 : Int) < x)) => ?_)
          refine wl_s (pc' := 54) ji_183_53 rfl rfl rfl ?_
          refine wl_s (pc' := 55) ji_183_54 rfl rfl rfl ?_
          refine rp_g21 V ji_183_55 jf_183_241 ?_
          refine wl_s (pc' := 59) ji_183_58 rfl rfl rfl ?_
          refine wl_s (pc' := 60) ji_183_59 rfl rfl rfl ?_
          refine wl_s (pc' := 61) ji_183_60 rfl rfl rfl ?_
          obtain ⟨o2, eo2, O2⟩ := oq_1 O (x := x) (by omega)
          refine wl_s (pc' := 62) (lv' := [some (.ref 138), some (wp_i x), some (wp_i cn), none, none]) (st' := [wp_i o2, .ref 138]) (h' := h1) ji_183_61 rfl rfl (congrArg (fun z => (some (62, [some (.ref 138), some (wp_i x), some (wp_i cn), none, none], [Value.int z, .ref 138], h1) : Option mj_S)) eo2) ?_
          refine rp_p21 (y := o2) V ji_183_62 jf_183_241 (fun h V => ?_)
          refine wl_s (pc' := 66) ji_183_65 rfl rfl rfl ?_
          refine wl_s (pc' := 67) ji_183_66 rfl rfl rfl ?_
          refine rp_p14 (y := x) V ji_183_67 jf_183_144 (fun h V => ?_)
          refine wl_s (pc' := 71) ji_183_70 rfl rfl rfl ?_
          have hx9 : x = wdo k v := by omega
          have hk3 : ¬ k = 3 := fun e => by have h9 : wdo k v = -1 := if_neg (by omega); omega
          have hta := tok_adv tk
          obtain ⟨cs, hcs⟩ := rp_c V
          refine wl_vc (d := d + 9) (as := [.ref 138]) (rest := []) ji_183_71 jc_183_171 rfl hcs jk_178.symm (Nat.le_of_ble_eq_true rfl) rfl (by rw [jn_178]; rfl) (wr_nt (d := d + 8) V D hL (by omega) hw0) (fun v1 hb_ R => ?_)
          obtain ⟨rfl, k2, v2, q2, r2, t2, n2, w2, tk2, T2, hb2, hw2, V⟩ := R
          show wl_R _ _ 183 74 [some (.ref 138), some (wp_i x), some (wp_i cn), none, none] [] hb_ _
          refine wl_s (pc' := 75) ji_183_74 rfl rfl rfl ?_
          refine rp_g12 V ji_183_75 jf_183_134 ?_
          refine wl_s (pc' := 79) ji_183_78 rfl rfl rfl ?_
          refine wl_iadd (x := x0) (y := 1) (z := x0 + 1) ji_183_79 (by omega) ?_
          refine wl_s (pc' := 81) ji_183_80 rfl rfl rfl ?_
          refine wl_s (pc' := 82) ji_183_81 rfl rfl rfl ?_
          refine wl_imul (x := 4) (y := cn) (z := 4 * cn) ji_183_82 (by omega) ?_
          refine wl_iadd (x := x0 + 1) (y := 4 * cn) (z := x0 + 1 + (4 * cn)) ji_183_83 (by omega) ?_
          refine wl_s (pc' := 85) (lv' := [some (.ref 138), some (wp_i x), some (wp_i cn), some (wp_i (x0 + 1 + (4 * cn))), none]) ji_183_84 rfl rfl rfl ?_
          refine wl_s (pc' := 86) ji_183_85 rfl rfl rfl ?_
          refine rp_g2 V ji_183_86 jf_183_16 ?_
          refine wl_s (pc' := 90) ji_183_89 rfl rfl rfl ?_
          refine wl_s (pc' := 91) ji_183_90 rfl rfl rfl ?_
          refine rp_u (x := x0 + 1 + (4 * cn)) (y := x) V (by omega) (by omega) (by omega) ji_183_91 (fun h x1 x2 V => ?_)
          refine wl_s (pc' := 93) ji_183_92 rfl rfl rfl ?_
          refine wl_s (pc' := 94) ji_183_93 rfl rfl rfl ?_
          refine wl_s (pc' := 95) ji_183_94 rfl rfl rfl ?_
          obtain ⟨cs, hcs⟩ := rp_c V
          refine wl_vc (d := d + 9) (as := [.ref 138, wp_i x, wp_i (x0 + 1 + (4 * cn))]) (rest := []) ji_183_95 jc_183_247 rfl hcs jk_192.symm (Nat.le_of_ble_eq_true rfl) rfl (by rw [jn_192]; rfl) (wq_bd (d := d) (ls := ls) (s := q) V tk2 T2 D hL (by omega) (by omega) hw2 (by omega) ham hls (by omega) (by omega)) (fun v1 h1 R => ?_)
          obtain ⟨f, rfl, hf, p1, k1, v1, q1, r1, t1, n1, wr1, pd1, op1, am1, wi1, ei1, w1, pl1, ts1, K, hz, tk1, T1, hb1, hw1, hG, hwr1, ham1, V⟩ := R
          show wl_R _ _ 183 98 [some (.ref 138), some (wp_i x), some (wp_i cn), some (wp_i (x0 + 1 + (4 * cn))), none] [wp_i f] h1 _
          have up9 : ∀ {f q' r' : Int}, bC (bt bl L) x ls q r f q' r' → clr (bt bl L) on cn ls k v q r f q' r' := fun z => by rw [hx9] at z; exact Or.inr ⟨by omega, Or.inr ⟨fun y => by have := hzb.mpr (by rw [hx9]; exact y.2); omega, Or.inr ⟨by omega, z⟩⟩⟩
          have up8 : ∀ {f q' r' : Int}, bCe (bt bl L) x ls q r K f q' r' → kre (bt bl L) on cn ls k v q r K f q' r' := fun z => by rw [hx9] at z; exact Or.inr ⟨by omega, Or.inr ⟨fun y => by have := hzb.mpr (by rw [hx9]; exact y.2); omega, Or.inr ⟨by omega, z⟩⟩⟩
          have h59 := tk_59 tk1 T1
          have hta1 := tok_adv tk1
          have ht1 := tk_tr tk1 T1
          refine wl_s (pc' := 100) (lv' := [some (.ref 138), some (wp_i x), some (wp_i cn), some (wp_i (x0 + 1 + (4 * cn))), some (wp_i f)]) ji_183_98 rfl rfl rfl ?_
          refine wl_s (pc' := 102) ji_183_100 rfl rfl rfl ?_
          refine wl_if (t := 108) ji_183_102 rfl (by omega) (fun (hb10 : (f : Int) = 0) => ?_) (fun (hb10 : ¬ ((f : Int) = 0)) => ?_)
          · refine wl_s (pc' := 109) ji_183_108 rfl rfl rfl ?_
            refine rp_g2 V ji_183_109 jf_183_16 ?_
            refine wl_s (pc' := 113) ji_183_112 rfl rfl rfl ?_
            refine rp_g12 V ji_183_113 jf_183_134 ?_
            refine wl_s (pc' := 117) ji_183_116 rfl rfl rfl ?_
            refine rp_tl (x := x0) V (by omega) rfl ji_183_117 ?_
            refine wl_s (pc' := 119) ji_183_118 rfl rfl rfl ?_
            refine wl_iadd (x := cn) (y := 1) (z := cn + 1) ji_183_119 (by omega) ?_
            refine rp_td (x := x0) (y := cn + 1) V (by omega) rfl ji_183_120 (fun h V => ?_)
            refine wl_s (pc' := 122) ji_183_121 rfl rfl rfl ?_
            refine rp_g9 V ji_183_122 jf_183_95 ?_
            refine wl_bp ji_183_125 rfl ?_
            refine wl_icmp (t := 132) ji_183_127 rfl (by omega) (by omega) (fun (hb11 : (t1 : Int) = 59) => ?_) (fun (hb11 : ¬ ((t1 : Int) = 59)) => ?_)
            · refine wl_s (pc' := 133) ji_183_132 rfl rfl rfl ?_
              obtain ⟨cs, hcs⟩ := rp_c V
              refine wl_vc (d := d + 9) (as := [.ref 138]) (rest := []) ji_183_133 jc_183_171 rfl hcs jk_178.symm (Nat.le_of_ble_eq_true rfl) rfl (by rw [jn_178]; rfl) (wr_nt (d := d + 8) V D hL (by omega) hw1) (fun v1 hb_ R => ?_)
              obtain ⟨rfl, k3, v3, q3, r3, t3, n3, w3, tk3, T3, hb3, hw3, V⟩ := R
              show wl_R _ _ 183 136 [some (.ref 138), some (wp_i x), some (wp_i cn), some (wp_i (x0 + 1 + (4 * cn))), some (wp_i f)] [] hb_ _
              refine wl_s (pc' := 137) ji_183_136 rfl rfl rfl ?_
              rcases hz with ⟨z1, z2⟩ | ⟨z1, z2, z3⟩
              · exfalso; omega
              · have hta2 := tok_adv tk2
                exact wl_ri ji_183_137 jr_183 rfl (Or.inr ⟨rfl, q1, r1, k3, v3, q3, r3, t3, n3, wr1, x, pd1, op1, am1, wi1, ei1, o2, w3, pl1, _, K, up8 (z3 (h59.mp (by omega))), (by have hG2 := hG (by omega); unfold akR; rw [hG2.2, hG2.1]), tk3, T3, by omega, hw3, by omega, ham1, by rw [if_pos (by omega), ← hx9]; exact O2, V⟩)
            · refine wl_s (pc' := 131) ji_183_130 rfl rfl rfl ?_
              rcases hz with ⟨z1, z2⟩ | ⟨z1, z2, z3⟩
              · exfalso; omega
              · exact wl_ri ji_183_131 jr_183 rfl (Or.inl ⟨1, by decide, rfl, q1, r1, r1, t1, n1, wr1, x, pd1, op1, am1, wi1, ei1, o2, (cn + 1), w1, pl1, _, up9 (z2 (fun y => by omega)), ⟨hw1, by omega, by omega⟩, V⟩)
          · refine wl_s (pc' := 107) ji_183_105 rfl rfl rfl ?_
            rcases hz with ⟨z1, z2⟩ | ⟨z1, -⟩
            · exact wl_ri ji_183_107 jr_183 rfl (Or.inl ⟨f, z1, rfl, q1, r1, r1, t1, n1, wr1, x, pd1, op1, am1, wi1, ei1, o2, cn, w1, pl1, ts1, up9 z2, ⟨hw1, by omega, by omega⟩, V⟩)
            · exfalso; omega
        · refine wl_bp ji_183_45 rfl ?_
          exact wl_ri ji_183_47 jr_183 rfl (Or.inl ⟨6, by decide, rfl, q, r, r, t, n, wr, so, pd, op, am, wi, ei, oc, cn, w, pl, ts, Or.inr ⟨by omega, Or.inr ⟨fun y => by have := hzb.mpr (by rw [show x = wdo k v by omega]; exact y.2); omega, Or.inl ⟨by omega, rfl, rfl, rfl⟩⟩⟩, ⟨hw0, by omega, by omega⟩, V⟩)
      · refine wl_s (pc' := 28) ji_183_27 rfl rfl rfl ?_
        exact wl_ri ji_183_28 jr_183 rfl (Or.inl ⟨4, by decide, rfl, q, r, r, t, n, wr, so, pd, op, am, wi, ei, oc, cn, w, pl, ts, Or.inr ⟨by omega, Or.inl ⟨⟨by omega, by rw [show wdo k v = x by omega]; exact hzb.mp (by omega)⟩, rfl, rfl, rfl⟩⟩, ⟨hw0, by omega, by omega⟩, V⟩)
  · refine wl_s (pc' := 10) ji_183_9 rfl rfl rfl ?_
    exact wl_ri ji_183_10 jr_183 rfl (Or.inl ⟨1, by decide, rfl, q, r, r, t, n, wr, so, pd, op, am, wi, ei, oc, cn, w, pl, ts, Or.inl ⟨by omega, rfl, rfl, rfl⟩, ⟨hw0, by omega, by omega⟩, V⟩)

def sZ (h0 h : mj_H) (fs0 bl : List Value) (L x0 p k v q r cn : Int) (on : Nat → Bool) (ts : List Value) (wr : Int) : Prop := ∃ (t n so pd op am wi ei oc : Int) (w : Nat) (pl : List Value), tok (bt bl L) p k v q r ∧ tkr k v t n w ∧ (0 ≤ p ∧ 0 ≤ q ∧ r ≤ L) ∧ w ≤ 2 ^ 60 ∧ (0 ≤ wr ∧ wr ≤ 1000 * (p + 1)) ∧ (0 ≤ am ∧ am ≤ 100) ∧ oq oc on ∧ rP h0 h fs0 bl L r q t n x0 wr so pd op am wi ei oc cn w pl ts
def sE (h0 h : mj_H) (fs0 bl : List Value) (L x0 q : Int) (G : List Value → Prop) : Prop := ∃ (p t n wr so pd op am wi ei oc cn : Int) (w : Nat) (pl ts : List Value), w ≤ 2 ^ 60 ∧ G ts ∧ rP h0 h fs0 bl L p q t n x0 wr so pd op am wi ei oc cn w pl ts
def sQ (h0 : mj_H) (fs0 bl : List Value) (L x0 : Int) (on : Nat → Bool) (cn ls k v q r : Int) (ts : List Value) (wr : Int) : Option Value → mj_H → Prop := fun v9 h1 => ∃ f q1, v9 = some (wp_i f) ∧ (0 ≤ f ∧ f ≤ 7) ∧ (0 ≤ q1 ∧ q1 ≤ 300) ∧ (∃ m, tr (bt bl L) m on cn ls k v q r f (if f = 0 then -1 else q1)) ∧ sE h0 h1 fs0 bl L x0 q1 (fun ts1 => f = 0 → ∃ m Cs, tre (bt bl L) m on cn ls k v q r Cs 0 (-1) ∧ (akRs x0 ts wr cn Cs).1 = ts1)
theorem wq_rl {d : Nat} {h0 : mj_H} {fs0 bl : List Value} {L x0 : Int} (D : tB bl) (hL : 0 ≤ L ∧ L ≤ 300) (hx0 : 0 ≤ x0 ∧ x0 ≤ 2200) {ls : Int} (hls : 0 ≤ ls ∧ ls ≤ 6) : ∀ (nn : Nat) (h : mj_H) (l1 : Option Value) (p k v q r cn : Int) (on : Nat → Bool) (ts : List Value) (wr : Int), sZ h0 h fs0 bl L x0 p k v q r cn on ts wr → (0 ≤ cn ∧ cn ≤ 24) → wl_R nn (d + 11) 177 43 [some (.ref 138), l1] [] h (sQ h0 fs0 bl L x0 on cn ls k v q r ts wr) := by
  intro nn
  induction nn with
  | zero => intros; exact wl_0
  | succ nn ih =>
    intro h l1 p k v q r cn on ts wr Z hcn
    obtain ⟨t, n, so, pd, op, am, wi, ei, oc, w, pl, tk, T, hb, hw, hwr, ham, O, V⟩ := Z
    have htr := tk_tr tk T
    have ht0 := tk_t0 tk T
    have hta := tok_adv tk
    obtain ⟨cs5, hcs5⟩ := rp_c V
    refine wl_s1 (pc' := 44) ji_177_43 rfl rfl rfl ?_
    refine rp_g9 V ji_177_44 jf_177_95 ?_
    refine wl_if (t := 64) ji_177_47 rfl (x := t) (by omega) (fun (c : t = 0) => ?_) (fun (c : ¬ t = 0) => ?_)
    · refine wl_s (pc' := 65) ji_177_64 rfl rfl rfl ?_
      exact wl_ri ji_177_65 jr_177 rfl ⟨0, q, rfl, by decide, by omega, ⟨1, Or.inl ⟨ht0.mp c, rfl, if_pos rfl⟩⟩, ⟨_, _, _, _, _, _, _, _, _, _, _, _, _, _, _, hw, fun _ => ⟨1, [], Or.inl ⟨ht0.mp c, rfl, rfl, rfl⟩, rfl⟩, V⟩⟩
    · have hk3 : ¬ k = 3 := fun e => c (ht0.mpr e)
      refine wl_s (pc' := 51) ji_177_50 rfl rfl rfl ?_
      refine wl_vc (d := d + 10) (as := [.ref 138]) (rest := []) ji_177_51 jc_177_251 rfl hcs5 jk_183.symm (Nat.le_of_ble_eq_true rfl) rfl (by rw [jn_183]; rfl) (wq_kl (d := d) V tk T D hL hx0 hb hw hwr ham hls hcn O) (fun v1 h1 R => ?_)
      rcases R with ⟨f, hf, rfl, q1, r1, p1, t1, n1, wr1, so1, pd1, op1, am1, wi1, ei1, oc1, cn1, w1, pl1, ts1, C, hw1, V1⟩ | ⟨rfl, q1, r1, k2, v2, q2, r2, t1, n1, wr1, so1, pd1, op1, am1, wi1, ei1, oc1, w1, pl1, ts1, K, CE, hak, tk2, T2, hb2, hw2, hwr2, ham2, O2, V2⟩
      · refine wl_s (pc' := 55) (lv' := [some (.ref 138), some (wp_i f)]) ji_177_54 rfl rfl rfl ?_
        refine wl_s (pc' := 56) ji_177_55 rfl rfl rfl ?_
        refine wl_if (t := 61) ji_177_56 rfl (x := f) (by omega) (fun (c : f = 0) => (by exfalso; omega)) (fun _ => ?_)
        refine wl_s (pc' := 60) ji_177_59 rfl rfl rfl ?_
        exact wl_ri ji_177_60 jr_177 rfl ⟨f, q1, rfl, by omega, by omega, ⟨1, Or.inr ⟨hk3, f, q1, r1, C, Or.inl ⟨by omega, rfl, if_neg (by omega)⟩⟩⟩, ⟨_, _, _, _, _, _, _, _, _, _, _, _, _, _, _, hw1.1, fun z => by omega, V1⟩⟩
      · have C := kre_k CE
        have h24 := clr_24 C
        refine wl_s (pc' := 55) (lv' := [some (.ref 138), some (wp_i 0)]) ji_177_54 rfl rfl rfl ?_
        refine wl_s (pc' := 56) ji_177_55 rfl rfl rfl ?_
        refine wl_if (t := 61) ji_177_56 rfl (x := 0) (by omega) (fun _ => ?_) (fun (c : ¬ (0 : Int) = 0) => (by exfalso; omega))
        refine wl_goto (t := 43) ji_177_61 rfl ?_
        refine wl_mono (ih h1 (some (wp_i 0)) r1 k2 v2 q2 r2 (cn + 1) _ ts1 wr1 ⟨t1, n1, so1, pd1, op1, am1, wi1, ei1, oc1, w1, pl1, tk2, T2, by omega, hw2, hwr2, ham2, O2, V2⟩ (by omega)) ?_
        rintro v9 h9 ⟨f, q9, e1, e2, e3, ⟨m, e4⟩, p9, t9, n9, wr9, so9, pd9, op9, am9, wi9, ei9, oc9, cn9, w9, pl9, ts9, g1, g2, g3⟩
        exact ⟨f, q9, e1, e2, e3, ⟨m + 1, Or.inr ⟨hk3, 0, q1, r1, C, Or.inr ⟨rfl, k2, v2, q2, r2, ls, tk2, e4⟩⟩⟩, p9, t9, n9, wr9, so9, pd9, op9, am9, wi9, ei9, oc9, cn9, w9, pl9, ts9, g1, (fun z => by obtain ⟨m2, Cs, a1, a2⟩ := g2 z; refine ⟨m2 + 1, K :: Cs, Or.inr ⟨hk3, K, 0, q1, r1, CE, Or.inr ⟨rfl, k2, v2, q2, r2, ls, Cs, tk2, rfl, a1⟩⟩, ?_⟩; show (akRs x0 (akR x0 ts wr cn K).1 (akR x0 ts wr cn K).2 (cn + 1) Cs).1 = ts9; rw [hak]; exact a2), g3⟩
theorem wq_rt {nn d : Nat} {h : mj_H} {fs bl pl ts as : List Value} {L c : Int} {w : Nat} (E : rE h fs bl pl ts as L c w) (D : tB bl) (hL : 0 ≤ L ∧ L ≤ 300) (hc : 0 ≤ c ∧ c ≤ 3) (hw : w ≤ 2 ^ 60) (ham : 0 ≤ sx_el fs 18 ∧ sx_el fs 18 ≤ 100) {ls : Int} (hls : 0 ≤ ls ∧ ls ≤ 6) : wl_R nn (d + 11) 177 0 [some (.ref 138), none] [] h (fun v9 h1 => ∃ k v q r, tok (bt bl L) 0 k v q r ∧ sQ h fs bl L (705 * c) nof 0 ls k v q r (ts.set (705 * c).toNat (wp_i 0)) 0 v9 h1) := by
  obtain ⟨e0, el, ⟨p0, p2, p3, p15, p4, p11⟩, ei, a0, a2, t0, tl, b0, l0⟩ := E
  refine wl_s (pc' := 1) ji_177_0 rfl rfl rfl ?_
  refine wl_sp ji_177_1 rfl ?_
  refine wl_s (pc' := 5) ji_177_4 rfl rfl rfl ?_
  refine wl_gf ji_177_5 jf_177_7 e0 p0 ?_
  refine wl_s (pc' := 9) ji_177_8 rfl rfl rfl ?_
  refine wl_al (x := 2) ji_177_9 a0 (by omega) (fun y y1 y2 y3 => ?_)
  have y3 : as[2]? = some y := y3
  rw [a2] at y3
  cases y3
  refine wl_imul (x := 705) (y := c) (z := 705 * c) ji_177_10 rfl ?_
  refine wl_pf2 ji_177_11 jf_177_134 e0 (by decide) (by omega) rfl rfl (fun h1 g1 f1 => ?_)
  have el1 : (fs.set 12 (wp_i (705 * c))).length = 31 := by rw [List.length_set]; exact el
  refine wl_s (pc' := 15) ji_177_14 rfl rfl rfl ?_
  refine wl_gf ji_177_15 jf_177_16 g1 (by rw [List.getElem?_set_ne (by decide)]; exact p2) ?_
  refine wl_s (pc' := 19) ji_177_18 rfl rfl rfl ?_
  refine wl_gf ji_177_19 jf_177_134 g1 (List.getElem?_set_self (by omega)) ?_
  refine wl_s (pc' := 23) ji_177_22 rfl rfl rfl ?_
  refine wl_as2 (x := 705 * c) (y := 0) ji_177_23 ((f1 141 (by decide)).trans t0) (by omega) (fun h2 x1 x2 g2 f2 => ?_)
  have e138 : h2[138]? = some (11, fs.set 12 (wp_i (705 * c))) := (f2 138 (by decide)).trans g1
  refine wl_s (pc' := 25) ji_177_24 rfl rfl rfl ?_
  refine wl_s (pc' := 26) ji_177_25 rfl rfl rfl ?_
  refine wl_pf2 ji_177_26 jf_177_137 e138 (by decide) (by omega) rfl rfl (fun h3 g3 f3 => ?_)
  refine wl_s (pc' := 30) ji_177_29 rfl rfl rfl ?_
  refine wl_s (pc' := 31) ji_177_30 rfl rfl rfl ?_
  refine wl_pf2 ji_177_31 jf_177_241 g3 (by decide) (by rw [List.length_set]; omega) rfl rfl (fun h4 g4 f4 => ?_)
  refine wl_s (pc' := 35) ji_177_34 rfl rfl rfl ?_
  refine wl_s (pc' := 36) ji_177_35 rfl rfl rfl ?_
  refine wl_pf2 ji_177_36 jf_177_85 g4 (by decide) (by rw [List.length_set, List.length_set]; omega) rfl rfl (fun h5 g5 f5 => ?_)
  have fr : ∀ a, a ≠ 138 → a ≠ 141 → h5[a]? = h[a]? := fun a q1 q2 => (f5 a q1).trans ((f4 a q1).trans ((f3 a q1).trans ((f2 a q2).trans (f1 a q1))))
  have g141 : h5[141]? = some (1000, ts.set (705 * c).toNat (wp_i 0)) := (f5 141 (by decide)).trans ((f4 141 (by decide)).trans ((f3 141 (by decide)).trans g2))
  obtain ⟨fs5, hfs5⟩ : ∃ fs5, (((fs.set 12 (wp_i (705 * c))).set 13 (wp_i 0)).set 21 (wp_i 0)).set 7 (wp_i 0) = fs5 := ⟨_, rfl⟩
  rw [hfs5] at g5
  have ne5 : ∀ j, j ≠ 7 → j ≠ 12 → j ≠ 13 → j ≠ 21 → fs5[j]? = fs[j]? := fun j q1 q2 q3 q4 => by
    rw [← hfs5, List.getElem?_set_ne (Ne.symm q1), List.getElem?_set_ne (Ne.symm q4), List.getElem?_set_ne (Ne.symm q3), List.getElem?_set_ne (Ne.symm q2)]
  have ie := fun j hj => ei j hj
  have V : rP h h5 fs bl L 0 (sx_el fs 8) (sx_el fs 9) (sx_el fs 10) (705 * c) 0 (sx_el fs 14) (sx_el fs 16) (sx_el fs 17) (sx_el fs 18) (sx_el fs 19) (sx_el fs 20) 0 0 w pl (ts.set (705 * c).toNat (wp_i 0)) := by
    refine ⟨⟨fs5, g5, by rw [← hfs5]; simp only [List.length_set]; exact el, ⟨?_, ?_, ?_, ?_, ?_, ?_, ?_, ?_, ?_, ?_, ?_, ?_, ?_, ?_, ?_, ?_, ?_, ?_⟩, fun j hj => ?_⟩, (fr 142 (by decide) (by decide)).trans b0, (fr 143 (by decide) (by decide)).trans l0, ⟨g141, List.getElem?_set_self (by omega), fun j hj => by rw [List.getElem?_set_ne (by omega)]; exact (congrArg (fun o : Option (Nat × List Value) => (o.getD (0, [])).2[j]?) t0).symm⟩, fun a q1 q2 q3 => fr a q1 q2⟩
    · rw [ne5 4 (by decide) (by decide) (by decide) (by decide)]; exact p4
    · rw [← hfs5]; exact List.getElem?_set_self (by simp only [List.length_set]; omega)
    · rw [ne5 8 (by decide) (by decide) (by decide) (by decide)]; exact ei 8 (by decide)
    · rw [ne5 9 (by decide) (by decide) (by decide) (by decide)]; exact ei 9 (by decide)
    · rw [ne5 10 (by decide) (by decide) (by decide) (by decide)]; exact ei 10 (by decide)
    · rw [← hfs5, List.getElem?_set_ne (by decide), List.getElem?_set_ne (by decide), List.getElem?_set_ne (by decide)]; exact List.getElem?_set_self (by omega)
    · rw [← hfs5, List.getElem?_set_ne (by decide), List.getElem?_set_ne (by decide)]; exact List.getElem?_set_self (by rw [List.length_set]; omega)
    · rw [ne5 14 (by decide) (by decide) (by decide) (by decide)]; exact ei 14 (by decide)
    · rw [ne5 16 (by decide) (by decide) (by decide) (by decide)]; exact ei 16 (by decide)
    · rw [ne5 17 (by decide) (by decide) (by decide) (by decide)]; exact ei 17 (by decide)
    · rw [ne5 18 (by decide) (by decide) (by decide) (by decide)]; exact ei 18 (by decide)
    · rw [ne5 19 (by decide) (by decide) (by decide) (by decide)]; exact ei 19 (by decide)
    · rw [ne5 20 (by decide) (by decide) (by decide) (by decide)]; exact ei 20 (by decide)
    · rw [← hfs5, List.getElem?_set_ne (by decide)]; exact List.getElem?_set_self (by simp only [List.length_set]; omega)
    · rw [ne5 11 (by decide) (by decide) (by decide) (by decide)]; exact p11
    · rw [ne5 2 (by decide) (by decide) (by decide) (by decide)]; exact p2
    · rw [ne5 3 (by decide) (by decide) (by decide) (by decide)]; exact p3
    · rw [ne5 15 (by decide) (by decide) (by decide) (by decide)]; exact p15
    · exact ne5 j (fun e => hj (by rw [e]; decide)) (fun e => hj (by rw [e]; decide)) (fun e => hj (by rw [e]; decide)) (fun e => hj (by rw [e]; decide))
  refine wl_s (pc' := 40) ji_177_39 rfl rfl rfl ?_
  refine wl_vc (d := d + 10) (as := [.ref 138]) (rest := []) ji_177_40 jc_177_171 rfl g5 jk_178.symm (Nat.le_of_ble_eq_true rfl) rfl (by rw [jn_178]; rfl) (wr_nt (d := d + 9) V D hL (by omega) hw) (fun v1 h6 R => ?_)
  obtain ⟨rfl, k, v, q, r, t, n, w', tk, T, hb, hw1, V⟩ := R
  refine wl_mono (wq_rl D hL (by omega) hls nn h6 none 0 k v q r 0 nof _ 0 ⟨t, n, _, _, _, _, _, _, 0, w', pl, tk, T, by omega, hw1, by omega, ham, ⟨by decide, fun j hj => by match j, hj with | 0, _ => rfl | 1, _ => rfl | 2, _ => rfl⟩, V⟩ (by decide)) ?_
  intro v9 h9 Q
  exact ⟨k, v, q, r, tk, Q⟩
def sWQ (h : mj_H) (fs bl as : List Value) (L c ls : Int) (ts : List Value) : Option Value → mj_H → Prop := fun v9 h1 => (c = 4 ∧ v9 = some (wp_i (-1)) ∧ h1 = h) ∨ (¬ c = 4 ∧ ∃ k v q r f q9, tok (bt bl L) 0 k v q r ∧ (∃ m, tr (bt bl L) m nof 0 ls k v q r f q9) ∧ (0 ≤ f ∧ f ≤ 7) ∧ (∃ ts1, h1[141]? = some (1000, ts1) ∧ (∀ j : Nat, (j : Int) < 705 * c → ts1[j]? = ts[j]?) ∧ (f = 0 → ∃ m Cs, tre (bt bl L) m nof 0 ls k v q r Cs 0 (-1) ∧ (akRs (705 * c) (ts.set (705 * c).toNat (wp_i 0)) 0 0 Cs).1 = ts1)) ∧ v9 = some (wp_i (if f = 0 then c else -1)) ∧ (∃ (fs1 : List Value) (w1 : Nat), h1[138]? = some (11, fs1) ∧ fs1.length = 31 ∧ (fs1[4]? = some (wp_i 0) ∧ fs1[5]? = some (wp_i f) ∧ fs1[6]? = some (wp_i q9) ∧ fs1[11]? = some (.long (Int64.ofNat w1)) ∧ w1 ≤ 2 ^ 60) ∧ ∀ j ∈ [0, 1, 2, 3, 15, 22, 23, 24, 25, 26, 27, 28, 29, 30], fs1[j]? = fs[j]?) ∧ h1[139]? = some (1000, if f = 0 then as.set 2 (wp_i (c + 1)) else as) ∧ ∀ a, a ≠ 138 → a ≠ 139 → a ≠ 141 → a ≠ 143 → h1[a]? = h[a]?)
theorem wq_tx {nn d : Nat} {h : mj_H} {fs bl pl ts as : List Value} {L c : Int} {w : Nat} (E : rE h fs bl pl ts as L c w) (D : tB bl) (hL : 0 ≤ L ∧ L ≤ 300) (hc : 0 ≤ c ∧ c ≤ 4) (hw : w ≤ 2 ^ 60) (ham : 0 ≤ sx_el fs 18 ∧ sx_el fs 18 ≤ 100) {ls : Int} (hls : 0 ≤ ls ∧ ls ≤ 6) : wl_R nn (d + 12) 176 0 [some (.ref 138)] [] h (sWQ h fs bl as L c ls ts) := by
  have E0 := E
  obtain ⟨e0, el, ⟨p0, p2, p3, p15, p4, p11⟩, ei, a0, a2, t0, tl, b0, l0⟩ := E
  refine wl_s (pc' := 1) ji_176_0 rfl rfl rfl ?_
  refine wl_gf ji_176_1 jf_176_7 e0 p0 ?_
  refine wl_s (pc' := 5) ji_176_4 rfl rfl rfl ?_
  refine wl_al (x := 2) ji_176_5 a0 (by omega) (fun y y1 y2 y3 => ?_)
  have y3 : as[2]? = some y := y3
  rw [a2] at y3
  cases y3
  refine wl_s (pc' := 7) ji_176_6 rfl rfl rfl ?_
  refine wl_icmp (t := 12) ji_176_7 rfl (x := c) (y := 4) (by omega) (by omega) (fun (c4 : ¬ c = 4) => ?_) (fun (c4 : ¬ ¬ c = 4) => ?_)
  · refine wl_s (pc' := 13) ji_176_12 rfl rfl rfl ?_
    refine wl_s (pc' := 14) ji_176_13 rfl rfl rfl ?_
    refine wl_vc (d := d + 11) (as := [.ref 138]) (rest := [.ref 138]) ji_176_14 jc_176_254 rfl e0 jk_177.symm (Nat.le_of_ble_eq_true rfl) rfl (by rw [jn_177]; rfl) (wq_rt (d := d) E0 D hL (by omega) hw ham hls) (fun v1 h1 R => ?_)
    obtain ⟨k, v, q, r, tk, f, q1, rfl, hf, hq1, TR, p, t, n, wr, so, pd, op, am, wi, ei1, oc, cn, w1, pl1, ts1, hw1, hG, ⟨fs1, g1, gl, ⟨e4, e7, e8, e9, e10, e12, e13, e14, e16, e17, e18, e19, e20, e21, e11, e2, e3, e15⟩, gg⟩, f1, f2, ⟨f3, f4⟩, f5⟩ := R
    have ne : ∀ j, j ∉ [7, 8, 9, 10, 11, 12, 13, 14, 16, 17, 18, 19, 20, 21] → fs1[j]? = fs[j]? := gg
    refine wl_pf2 ji_176_17 jf_176_22 g1 (by decide) (by omega) rfl rfl (fun h2 g2 k2 => ?_)
    have l2 : (fs1.set 5 (wp_i f)).length = 31 := by rw [List.length_set]; exact gl
    refine wl_s (pc' := 21) ji_176_20 rfl rfl rfl ?_
    refine wl_s (pc' := 22) ji_176_21 rfl rfl rfl ?_
    refine wl_gf ji_176_22 jf_176_22 g2 (List.getElem?_set_self (by omega)) ?_
    have ht : ∀ {x : Int}, x = (if f = 0 then -1 else q1) → wl_R nn (d + 12) 176 36 [some (.ref 138)] [wp_i x, .ref 138] h2 (sWQ h fs bl as L c ls ts) := by
      intro x hx
      refine wl_pf2 ji_176_36 jf_176_26 g2 (by decide) (by omega) rfl rfl (fun h3 g3 k3 => ?_)
      refine wl_s (pc' := 40) ji_176_39 rfl rfl rfl ?_
      refine wl_s (pc' := 41) ji_176_40 rfl rfl rfl ?_
      refine wl_pf2 ji_176_41 jf_176_78 g3 (by decide) (by rw [List.length_set]; omega) rfl rfl (fun h4 g4 k4 => ?_)
      obtain ⟨fs4, hfs4⟩ : ∃ fs4, ((fs1.set 5 (wp_i f)).set 6 (wp_i x)).set 4 (wp_i 0) = fs4 := ⟨_, rfl⟩
      rw [hfs4] at g4
      have l4 : fs4.length = 31 := by rw [← hfs4, List.length_set, List.length_set, List.length_set]; exact gl
      have ne4 : ∀ j, j ≠ 4 → j ≠ 5 → j ≠ 6 → fs4[j]? = fs1[j]? := fun j q1 q2 q3 => by
        rw [← hfs4, List.getElem?_set_ne (Ne.symm q1), List.getElem?_set_ne (Ne.symm q3), List.getElem?_set_ne (Ne.symm q2)]
      have s4 : fs4[4]? = some (wp_i 0) := by rw [← hfs4]; exact List.getElem?_set_self (by rw [List.length_set, List.length_set]; omega)
      have s5 : fs4[5]? = some (wp_i f) := by rw [← hfs4, List.getElem?_set_ne (by decide), List.getElem?_set_ne (by decide)]; exact List.getElem?_set_self (by omega)
      have s6 : fs4[6]? = some (wp_i x) := by rw [← hfs4, List.getElem?_set_ne (by decide)]; exact List.getElem?_set_self (by rw [List.length_set]; omega)
      have fr : ∀ a, a ≠ 138 → a ≠ 141 → a ≠ 143 → h4[a]? = h[a]? := fun a q1 q2 q3 => (k4 a q1).trans ((k3 a q1).trans ((k2 a q1).trans (f5 a q1 q2 q3)))
      have pd4 : ∀ j ∈ [0, 1, 2, 3, 15, 22, 23, 24, 25, 26, 27, 28, 29, 30], fs4[j]? = fs[j]? := fun j hj => by
        rw [ne4 j (fun e => by subst e; exact absurd hj (by decide)) (fun e => by subst e; exact absurd hj (by decide)) (fun e => by subst e; exact absurd hj (by decide))]
        by_cases h23 : j = 2 ∨ j = 3 ∨ j = 15
        · rcases h23 with rfl | rfl | rfl
          · rw [e2, p2]
          · rw [e3, p3]
          · rw [e15, p15]
        · exact ne j (fun hm => by
            simp only [List.mem_cons, List.not_mem_nil, or_false] at hm hj
            omega)
      have P0 : fs4[0]? = some (.ref 139) := (pd4 0 (by decide)).trans p0
      refine wl_s (pc' := 45) ji_176_44 rfl rfl rfl ?_
      refine wl_gf ji_176_45 jf_176_22 g4 s5 ?_
      have a04 : h4[139]? = some (1000, as) := (fr 139 (by decide) (by decide) (by decide)).trans a0
      refine wl_if (t := 53) ji_176_48 rfl (x := f) (by omega) (fun (c0 : f = 0) => ?_) (fun (c0 : ¬ f = 0) => ?_)
      · refine wl_s (pc' := 54) ji_176_53 rfl rfl rfl ?_
        refine wl_gf ji_176_54 jf_176_7 g4 P0 ?_
        refine wl_s (pc' := 58) ji_176_57 rfl rfl rfl ?_
        refine wl_s (pc' := 59) ji_176_58 rfl rfl rfl ?_
        refine wl_al (x := 2) ji_176_59 a04 (by omega) (fun y y1 y2 y3 => ?_)
        have y3 : as[2]? = some y := y3
        rw [a2] at y3
        cases y3
        refine wl_s (pc' := 61) ji_176_60 rfl rfl rfl ?_
        refine wl_iadd (x := c) (y := 1) (z := c + 1) ji_176_61 rfl ?_
        refine wl_as2 (x := 2) (y := c + 1) ji_176_62 a04 (by omega) (fun h5 x1 x2 g5 k5 => ?_)
        have g5 : h5[139]? = some (1000, as.set 2 (wp_i (c + 1))) := g5
        refine wl_s (pc' := 64) ji_176_63 rfl rfl rfl ?_
        refine wl_gf ji_176_64 jf_176_7 ((k5 138 (by decide)).trans g4) P0 ?_
        refine wl_s (pc' := 68) ji_176_67 rfl rfl rfl ?_
        refine wl_al (x := 2) ji_176_68 g5 (by omega) (fun y y1 y2 y3 => ?_)
        have y3 : (as.set 2 (wp_i (c + 1)))[2]? = some y := y3
        have x2 : (2 : Int) < (as.length : Int) := x2
        rw [List.getElem?_set_self (by omega)] at y3
        cases y3
        refine wl_s (pc' := 70) ji_176_69 rfl rfl rfl ?_
        refine wl_isub (x := c + 1) (y := 1) (z := c) ji_176_70 (by omega) ?_
        refine wl_ri ji_176_71 jr_176 rfl (Or.inr ⟨c4, k, v, q, r, f, x, tk, by rw [hx]; exact TR, hf, ⟨ts1, (k5 141 (by decide)).trans ((k4 141 (by decide)).trans ((k3 141 (by decide)).trans ((k2 141 (by decide)).trans f3))), (fun j hj => (f4.2 j hj).trans (congrArg (fun o : Option (Nat × List Value) => (o.getD (0, [])).2[j]?) t0)), hG⟩, by rw [if_pos c0], ⟨fs4, w1, (k5 138 (by decide)).trans g4, l4, ⟨s4, s5, s6, (ne4 11 (by decide) (by decide) (by decide)).trans e11, hw1⟩, pd4⟩, by rw [if_pos c0]; exact g5, fun a q1 q2 q3 q4 => (k5 a q2).trans (fr a q1 q3 q4)⟩)
      · refine wl_s (pc' := 52) ji_176_51 rfl rfl rfl ?_
        exact wl_ri ji_176_52 jr_176 rfl (Or.inr ⟨c4, k, v, q, r, f, x, tk, by rw [hx]; exact TR, hf, ⟨ts1, (k4 141 (by decide)).trans ((k3 141 (by decide)).trans ((k2 141 (by decide)).trans f3)), (fun j hj => (f4.2 j hj).trans (congrArg (fun o : Option (Nat × List Value) => (o.getD (0, [])).2[j]?) t0)), hG⟩, by rw [if_neg c0], ⟨fs4, w1, g4, l4, ⟨s4, s5, s6, (ne4 11 (by decide) (by decide) (by decide)).trans e11, hw1⟩, pd4⟩, by rw [if_neg c0]; exact a04, fun a q1 q2 q3 q4 => fr a q1 q3 q4⟩)
    refine wl_if (t := 32) ji_176_25 rfl (x := f) (by omega) (fun (c0 : ¬ f = 0) => ?_) (fun (c0 : ¬ ¬ f = 0) => ?_)
    · refine wl_s (pc' := 33) ji_176_32 rfl rfl rfl ?_
      refine wl_gf ji_176_33 jf_176_92 g2 (by rw [List.getElem?_set_ne (by decide)]; exact e8) ?_
      exact ht (if_neg c0).symm
    · refine wl_s (pc' := 29) ji_176_28 rfl rfl rfl ?_
      refine wl_goto (t := 36) ji_176_29 rfl ?_
      exact ht (if_pos (by omega)).symm
  · refine wl_s (pc' := 11) ji_176_10 rfl rfl rfl ?_
    exact wl_ri ji_176_11 jr_176 rfl (Or.inl ⟨by omega, rfl, rfl⟩)

