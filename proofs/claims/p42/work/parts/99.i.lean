/-! orders of the powers: the reference's row -/
def rv (M : List Nat) (h0 h : mj_H) (a R X A : Nat) (P : Int) (rl tl : List Value) : Prop := sx_H sx_TT 20 sx_tau h ∧ sx_ef sx_tau M h0 h ∧ h.length = h0.length ∧ sx_tau[a]? = some 63 ∧ sx_tau[R]? = some 69 ∧ sx_tau[X]? = some 70 ∧ sx_tau[A]? = some 21 ∧ (0 ≤ P ∧ P ≤ 6) ∧ ∃ fs as, h[a]? = some (11, fs) ∧ fs[27]? = some (.ref R) ∧ fs[28]? = some (.ref X) ∧ fs[0]? = some (.ref A) ∧ h[R]? = some (1000, rl) ∧ h[X]? = some (1000, tl) ∧ h[A]? = some (1000, as) ∧ as.length = 6044 ∧ as[1]? = some (wp_i P)
theorem fd_one {n : Nat} {d : sx_D} {j : Nat} (hj : j < n) : sx_fd [(0, n, [d])] j = some d := by
  unfold sx_fd
  have e2 : ([((0 : Nat), n, [d])].find? fun q => decide (q.1 ≤ j) && decide (j < q.1 + q.2.1)) = some (0, n, [d]) := by
    rw [List.find?_cons_of_pos]
    simp only [Bool.and_eq_true, decide_eq_true_eq]
    omega
  rw [e2]
  dsimp only
  rw [show (j - 0) % ([d] : List sx_D).length = 0 from Nat.mod_one _]
  rfl
/-- an element of an array of ints of one kind throughout -/
theorem rv_el {h : mj_H} (hH : sx_H sx_TT 20 sx_tau h) {b t n : Nat} {lo hi : Int} (tb : sx_tau[b]? = some t) (hT : sx_TT[t]? = some (1000, n, [(0, n, [(0, lo, hi)])])) {vs : List Value} (hb : h[b]? = some (1000, vs)) : vs.length = n ∧ ∀ j, j < n → vs[j]? = some (wp_i (sx_el vs j)) ∧ lo ≤ sx_el vs j ∧ sx_el vs j ≤ hi := by
  obtain ⟨-, ws, c1, c2, c3, -⟩ := hH b t _ tb hT
  have c1 : h[b]? = some (1000, ws) := c1
  rw [hb] at c1
  cases c1
  have c2 : vs.length = n := c2
  refine ⟨c2, fun j hj => ?_⟩
  have hv : vs[j]? = some vs[j] := List.getElem?_eq_getElem (by omega)
  obtain ⟨d', d1, d2⟩ := c3 _ _ hv
  have d1 : sx_fd [(0, n, [(0, lo, hi)])] j = some d' := d1
  rw [fd_one hj] at d1
  cases d1
  obtain ⟨z, ez, z1, z2⟩ := d2
  have e : sx_el vs j = z.toInt := by
    unfold sx_el
    rw [hv, ez]
  rw [e]
  exact ⟨by rw [hv, ez, wp_iz], z1, z2⟩
/-- one is set -/
theorem rv_set {M : List Nat} {h : mj_H} (hH : sx_H sx_TT 20 sx_tau h) {b t n : Nat} {lo hi y : Int} (tb : sx_tau[b]? = some t) (hT : sx_TT[t]? = some (1000, n, [(0, n, [(0, lo, hi)])])) (h20 : t ≠ 20) (hm : 10000 + t ∈ M) (hn21 : t ≠ 21) (hst : sx_nst t = true) {vs : List Value} (hb : h[b]? = some (1000, vs)) {j : Nat} (hj : j < n) (hy : lo ≤ y ∧ y ≤ hi) (hw : wp_r y) : sx_H sx_TT 20 sx_tau (h.set b (1000, vs.set j (wp_i y))) ∧ sx_ef sx_tau M h (h.set b (1000, vs.set j (wp_i y))) := by
  obtain ⟨-, ws, c1, c2, c3, -⟩ := hH b t _ tb hT
  have c1 : h[b]? = some (1000, ws) := c1
  rw [hb] at c1
  cases c1
  have c2 : vs.length = n := c2
  refine ⟨?_, ?_⟩
  · refine sx_H_set (P := sx_PP) hH tb (t := t) (kd := 1000) (len := n) (l := [(0, n, [(0, lo, hi)])]) hT (by rw [List.length_set]; exact c2) (sx_lt_of hb) (fun k w hw2 => ?_) (fun e => absurd e h20)
    by_cases e : j = k
    · subst e
      rw [List.getElem?_set_self (by omega)] at hw2
      cases hw2
      exact ⟨(0, lo, hi), fd_one hj, _, rfl, by rw [wp_ti hw]; exact hy.1, by rw [wp_ti hw]; exact hy.2⟩
    · rw [List.getElem?_set_ne e] at hw2
      exact c3 k w hw2
  · refine sx_ef_ax (t := t) hb tb (fun key hkey => sx_at_n (by decide) (by rw [tb]; exact fun e => hn21 (Option.some.inj e))) (fun _ q => absurd hm q) (fun _ B hW => sx_W_set hW tb hb (fun k hs => ?_))
    rw [sx_nst_ok hst] at hs
    cases hs
section RVS
variable {M : List Nat} {h0 h : mj_H} {a R X A : Nat} {P : Int} {rl tl : List Value} {d m pc : Nat} {lv : mj_L} {st : List Value} {Q : Option Value → mj_H → Prop}
theorem rv_ne (V : rv M h0 h a R X A P rl tl) : a ≠ R ∧ a ≠ X ∧ a ≠ A ∧ R ≠ X ∧ R ≠ A ∧ X ≠ A ∧ mj_n0 ≤ R ∧ mj_n0 ≤ X := by
  obtain ⟨hH, -, -, ta, tR, tX, tA, -⟩ := V
  obtain ⟨n1, -⟩ := hH R 69 sx_y69 tR rfl
  obtain ⟨n2, -⟩ := hH X 70 sx_y70 tX rfl
  refine ⟨fun e => ?_, fun e => ?_, fun e => ?_, fun e => ?_, fun e => ?_, fun e => ?_, n1 (by decide), n2 (by decide)⟩
  · rw [e, tR] at ta
    cases ta
  · rw [e, tX] at ta
    cases ta
  · rw [e, tA] at ta
    cases ta
  · rw [e, tX] at tR
    cases tR
  · rw [e, tA] at tR
    cases tR
  · rw [e, tA] at tX
    cases tX
theorem rv_gR (V : rv M h0 h a R X A P rl tl) {x : Nat} {ty : FieldType} {w : Bool} (hi : mj_ins m pc = some (.getfield x)) (hf : mj_fld m x = some (11, 27, ty, w)) (hr : wp_R d m (pc + 3) lv (.ref R :: st) h Q) : wp_R d m pc lv (.ref a :: st) h Q := by
  obtain ⟨-, -, -, -, -, -, -, -, fs, as, f1, f2, -⟩ := V
  exact wp_gf hi hf f1 f2 hr
theorem rv_gX (V : rv M h0 h a R X A P rl tl) {x : Nat} {ty : FieldType} {w : Bool} (hi : mj_ins m pc = some (.getfield x)) (hf : mj_fld m x = some (11, 28, ty, w)) (hr : wp_R d m (pc + 3) lv (.ref X :: st) h Q) : wp_R d m pc lv (.ref a :: st) h Q := by
  obtain ⟨-, -, -, -, -, -, -, -, fs, as, f1, -, f3, -⟩ := V
  exact wp_gf hi hf f1 f3 hr
theorem rv_gA (V : rv M h0 h a R X A P rl tl) {x : Nat} {ty : FieldType} {w : Bool} (hi : mj_ins m pc = some (.getfield x)) (hf : mj_fld m x = some (11, 0, ty, w)) (hr : wp_R d m (pc + 3) lv (.ref A :: st) h Q) : wp_R d m pc lv (.ref a :: st) h Q := by
  obtain ⟨-, -, -, -, -, -, -, -, fs, as, f1, -, -, f4, -⟩ := V
  exact wp_gf hi hf f1 f4 hr
theorem rv_gF (V : rv M h0 h a R X A P rl tl) {x k : Nat} {ty : FieldType} {w : Bool} {t : Int} (hi : mj_ins m pc = some (.getfield x)) (hf : mj_fld m x = some (11, k, ty, w)) (hk : k < 31) (hd : sx_fd sx_y63.2.2 k = some (2, t, 0)) (hr : ∀ b, sx_tau[b]? = some t.toNat → wp_R d m (pc + 3) lv (.ref b :: st) h Q) : wp_R d m pc lv (.ref a :: st) h Q := by
  obtain ⟨hH, -, -, ta, -⟩ := V
  obtain ⟨vs, v, g1, g2, g3, b, rfl, g4⟩ := sx_rf hH ta hk hd
  exact wp_gf hi hf g1 g3 (hr b g4)
theorem rv_P (V : rv M h0 h a R X A P rl tl) (hi : mj_ins m pc = some .iaload) (hr : wp_R d m (pc + 1) lv (wp_i P :: st) h Q) : wp_R d m pc lv (wp_i 1 :: .ref A :: st) h Q := by
  obtain ⟨-, -, -, -, -, -, -, -, fs, as, -, -, -, -, -, -, f7, f8, f9⟩ := V
  exact wp_ial hi f7 (by omega) (by omega) (by omega) f9 hr
/-- another place of the state -/
theorem rv_la (V : rv M h0 h a R X A P rl tl) {x lo hi' : Int} (hi : mj_ins m pc = some .iaload) (hx : 0 ≤ x) (hl : x < 6044) (hd : sx_fd sx_y21.2.2 x.toNat = some (0, lo, hi')) (hr : ∀ y, lo ≤ y → y ≤ hi' → wp_R d m (pc + 1) lv (wp_i y :: st) h Q) : wp_R d m pc lv (wp_i x :: .ref A :: st) h Q := by
  obtain ⟨hH, -, -, -, -, -, tA, -⟩ := V
  obtain ⟨-, as, v, a1, a2, a3, z, rfl, z1, z2⟩ := sx_ra hH tA (k := x.toNat) (by omega) hd
  exact wp_ial hi a1 hx (by omega) (by omega) (by rw [a3, wp_iz]) (hr _ z1 z2)
theorem rv_lr (V : rv M h0 h a R X A P rl tl) {x y : Int} (hi : mj_ins m pc = some .iaload) (hx : 0 ≤ x) (hl : x < 6) (hy : sx_el rl x.toNat = y) (hr : 0 ≤ y → y ≤ 5 → wp_R d m (pc + 1) lv (wp_i y :: st) h Q) : wp_R d m pc lv (wp_i x :: .ref R :: st) h Q := by
  obtain ⟨hH, -, -, -, tR, -, -, -, fs, as, -, -, -, -, f5, -⟩ := V
  obtain ⟨e1, e2⟩ := rv_el hH tR (n := 6) (lo := 0) (hi := 5) rfl f5
  obtain ⟨e3, e4, e5⟩ := e2 x.toNat (by omega)
  rw [hy] at e3 e4 e5
  exact wp_ial hi f5 hx (by omega) (by omega) e3 (hr e4 e5)
theorem rv_lx (V : rv M h0 h a R X A P rl tl) {x y : Int} (hi : mj_ins m pc = some .iaload) (hx : 0 ≤ x) (hl : x < 6) (hy : sx_el tl x.toNat = y) (hr : 0 ≤ y → y ≤ 720 → wp_R d m (pc + 1) lv (wp_i y :: st) h Q) : wp_R d m pc lv (wp_i x :: .ref X :: st) h Q := by
  obtain ⟨hH, -, -, -, -, tX, -, -, fs, as, -, -, -, -, -, f6, -⟩ := V
  obtain ⟨e1, e2⟩ := rv_el hH tX (n := 6) (lo := 0) (hi := 720) rfl f6
  obtain ⟨e3, e4, e5⟩ := e2 x.toNat (by omega)
  rw [hy] at e3 e4 e5
  exact wp_ial hi f6 hx (by omega) (by omega) e3 (hr e4 e5)
theorem rv_len (V : rv M h0 h a R X A P rl tl) : rl.length = 6 ∧ tl.length = 6 := by
  obtain ⟨hH, -, -, -, tR, tX, -, -, fs, as, -, -, -, -, f5, f6, -⟩ := V
  exact ⟨(rv_el hH tR (n := 6) (lo := 0) (hi := 5) rfl f5).1, (rv_el hH tX (n := 6) (lo := 0) (hi := 720) rfl f6).1⟩
theorem rv_sr (hM : 10069 ∈ M) (V : rv M h0 h a R X A P rl tl) {x y : Int} (hi : mj_ins m pc = some .iastore) (hx : 0 ≤ x) (hl : x < 6) (hy : 0 ≤ y ∧ y ≤ 5) (hr : ∀ h', rv M h0 h' a R X A P (rl.set x.toNat (wp_i y)) tl → wp_R d m (pc + 1) lv st h' Q) : wp_R d m pc lv (wp_i y :: wp_i x :: .ref R :: st) h Q := by
  obtain ⟨q1, q2, q3, q4, q5, q6, n1, n2⟩ := rv_ne V
  have hlen := (rv_len V).1
  obtain ⟨hH, hef, hln, ta, tR, tX, tA, hP, fs, as, f1, f2, f3, f4, f5, f6, f7, f8, f9⟩ := V
  obtain ⟨s1, s2⟩ := rv_set (y := y) hH tR (n := 6) (lo := 0) (hi := 5) rfl (by decide) hM (by decide) (by decide) f5 (j := x.toNat) (by omega) hy (by omega)
  exact wp_ias hi f5 n1 hx (by omega) (by omega) (hr _ ⟨s1, sx_ef_tr hef s2, by rw [List.length_set]; exact hln, ta, tR, tX, tA, hP, fs, as, by rw [List.getElem?_set_ne (Ne.symm q1)]; exact f1, f2, f3, f4, List.getElem?_set_self (sx_lt_of f5), by rw [List.getElem?_set_ne q4]; exact f6, by rw [List.getElem?_set_ne q5]; exact f7, f8, f9⟩)
theorem rv_sx (hM : 10070 ∈ M) (V : rv M h0 h a R X A P rl tl) {x y : Int} (hi : mj_ins m pc = some .iastore) (hx : 0 ≤ x) (hl : x < 6) (hy : 0 ≤ y ∧ y ≤ 720) (hr : ∀ h', rv M h0 h' a R X A P rl (tl.set x.toNat (wp_i y)) → wp_R d m (pc + 1) lv st h' Q) : wp_R d m pc lv (wp_i y :: wp_i x :: .ref X :: st) h Q := by
  obtain ⟨q1, q2, q3, q4, q5, q6, n1, n2⟩ := rv_ne V
  have hlen := (rv_len V).2
  obtain ⟨hH, hef, hln, ta, tR, tX, tA, hP, fs, as, f1, f2, f3, f4, f5, f6, f7, f8, f9⟩ := V
  obtain ⟨s1, s2⟩ := rv_set (y := y) hH tX (n := 6) (lo := 0) (hi := 720) rfl (by decide) hM (by decide) (by decide) f6 (j := x.toNat) (by omega) hy (by omega)
  exact wp_ias hi f6 n2 hx (by omega) (by omega) (hr _ ⟨s1, sx_ef_tr hef s2, by rw [List.length_set]; exact hln, ta, tR, tX, tA, hP, fs, as, by rw [List.getElem?_set_ne (Ne.symm q2)]; exact f1, f2, f3, f4, by rw [List.getElem?_set_ne (Ne.symm q4)]; exact f5, List.getElem?_set_self (sx_lt_of f6), by rw [List.getElem?_set_ne q6]; exact f7, f8, f9⟩)
/-- into the first row found -/
theorem rv_sf (hM : 10072 ∈ M) (V : rv M h0 h a R X A P rl tl) {b : Nat} {x y : Int} (tb : sx_tau[b]? = some 72) (hi : mj_ins m pc = some .iastore) (hx : 0 ≤ x) (hl : x < 6) (hy : 0 ≤ y ∧ y ≤ 5) (hr : ∀ h', rv M h0 h' a R X A P rl tl → wp_R d m (pc + 1) lv st h' Q) : wp_R d m pc lv (wp_i y :: wp_i x :: .ref b :: st) h Q := by
  obtain ⟨hH, hef, hln, ta, tR, tX, tA, hP, fs, as, f1, f2, f3, f4, f5, f6, f7, f8, f9⟩ := V
  obtain ⟨n0, vs, c1, c2, -⟩ := hH b 72 sx_y72 tb rfl
  have c1 : h[b]? = some (1000, vs) := c1
  have c2 : vs.length = 6 := c2
  obtain ⟨s1, s2⟩ := rv_set (y := y) hH tb (n := 6) (lo := 0) (hi := 5) rfl (by decide) hM (by decide) (by decide) c1 (j := x.toNat) (by omega) hy (by omega)
  have ne : ∀ {c t : Nat}, sx_tau[c]? = some t → t ≠ 72 → b ≠ c := fun hc ht e => by
    rw [e, hc] at tb
    exact ht (Option.some.inj tb)
  exact wp_ias hi c1 (n0 (by decide)) hx (by omega) (by omega) (hr _ ⟨s1, sx_ef_tr hef s2, by rw [List.length_set]; exact hln, ta, tR, tX, tA, hP, fs, as, by rw [List.getElem?_set_ne (ne ta (by decide))]; exact f1, f2, f3, f4, by rw [List.getElem?_set_ne (ne tR (by decide))]; exact f5, by rw [List.getElem?_set_ne (ne tX (by decide))]; exact f6, by rw [List.getElem?_set_ne (ne tA (by decide))]; exact f7, f8, f9⟩)
/-- a call -/
theorem rv_vc (V : rv M h0 h a R X A P rl tl) {x c n : Nat} {st0 rest as : List Value} {lv0 : mj_L} {Q1 : Option Value → mj_H → Prop} (hi : mj_ins m pc = some (.invokevirtual x)) (hc : mj_cal m x = some (2, c, n)) (hk : mj_cls c = 11) (hd : st0.drop n = .ref a :: rest) (hq : mj_cat rest ≤ 8) (has : .ref a :: (st0.take n).reverse = as) (hn : mj_ent (mj_nl c) as = some lv0) (h0 : wp_R d c 0 lv0 [] h Q1) (hr : ∀ v h1, Q1 v h1 → wp_R (d + 1) m (pc + 3) lv (v.toList ++ rest) h1 Q) : wp_R (d + 1) m pc lv st0 h Q := by
  obtain ⟨-, -, -, -, -, -, -, -, fs, as, f1, -⟩ := V
  exact wp_vc hi hc hd f1 hk.symm hq has hn h0 hr
end RVS
theorem rv_init {M : List Nat} {h : mj_H} (hH : sx_H sx_TT 20 sx_tau h) {a : Nat} (ta : sx_tau[a]? = some 63) : ∃ R X A P rl tl, rv M h h a R X A P rl tl := by
  obtain ⟨fs, v, g1, g2, g3, R, rfl, tR⟩ := sx_rf hH ta (k := 27) (d := (2, 69, 0)) (by decide) (by decide)
  obtain ⟨fs', v, k1, k2, k3, X, rfl, tX⟩ := sx_rf hH ta (k := 28) (d := (2, 70, 0)) (by decide) (by decide)
  rw [g1] at k1
  cases k1
  obtain ⟨fs', v, l1, l2, l3, A, rfl, tA⟩ := sx_rf hH ta (k := 0) (d := (2, 21, 0)) (by decide) (by decide)
  rw [g1] at l1
  cases l1
  obtain ⟨-, rl, c1, -⟩ := hH R 69 sx_y69 tR rfl
  obtain ⟨-, tl, e1, -⟩ := hH X 70 sx_y70 tX rfl
  obtain ⟨-, as, v, a1, a2, a3, z, rfl, z1, z2⟩ := sx_ra hH tA (k := 1) (d := (0, 0, 6)) (by decide) (by decide)
  exact ⟨R, X, A, z.toInt, rl, tl, hH, sx_ef_rf, rfl, ta, tR, tX, tA, ⟨z1, z2⟩, fs, as, g1, g3, k3, l3, c1, e1, a1, a2, by rw [a3, wp_iz]⟩
/-! the next row, purely -/
def nr_i (q : List Int) : Nat → Int
  | 0 => -1
  | k + 1 => if q.getD k 0 ≤ q.getD (k + 1) 0 then (k : Int) else nr_i q k
def nr_k (q : List Int) (v : Int) : Nat → Nat
  | 0 => 0
  | k + 1 => if v ≤ q.getD k 0 then k else nr_k q v k
def nr_s (q : List Int) (i k : Nat) : List Int := (q.set i (q.getD k 0)).set k (q.getD i 0)
def nr_r : Nat → List Int → Nat → Nat → List Int
  | 0, q, _, _ => q
  | n + 1, q, x, y => if x < y then nr_r n (nr_s q x y) (x + 1) (y - 1) else q
def nr (P : Nat) (q : List Int) : Option (List Int) := if nr_i q (P - 1) < 0 then none else some (nr_r 3 (nr_s q (nr_i q (P - 1)).toNat (nr_k q (q.getD (nr_i q (P - 1)).toNat 0) P)) ((nr_i q (P - 1)).toNat + 1) (P - 1))
/-- all of 0 to 5 are there -/
def nr_g (q : List Int) : Bool := decide (q.length = 6) && [(0 : Int), 1, 2, 3, 4, 5].all fun w => q.contains w
def nr_ok (P : Nat) : Nat → List Int → Bool
  | 0, _ => false
  | n + 1, q => nr_g q && match nr P q with
    | none => true
    | some q' => nr_ok P n q'
set_option maxRecDepth 100000 in
theorem nr_all : ((List.range 7).all fun P => nr_ok P 720 [0, 1, 2, 3, 4, 5]) = true := by decide +kernel
