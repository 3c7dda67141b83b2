/-! the reference's reader: its state, step by step -/
def pv_mods : List Nat := [1104, 1105, 1106, 1107, 1108, 1109, 1110, 1111, 1112, 1113, 1114, 1116, 1117, 1118, 1119, 1120, 1121, 10020, 10065]
def pv_u (φ : Nat → Int) (k : Nat) (y : Int) : Nat → Int := fun j => if j = k then y else φ j
/-- the heap is well typed, only what the reader may write differs from h0; φ: the int fields, pl: the pile, ts: the texts -/
def pv (h0 h : mj_H) (a P T : Nat) (φ : Nat → Int) (pl ts : List Value) : Prop := sx_H sx_TT 20 sx_tau h ∧ sx_ef sx_tau pv_mods h0 h ∧ h.length = h0.length ∧ sx_tau[a]? = some 63 ∧ sx_tau[P]? = some 65 ∧ sx_tau[T]? = some 20 ∧ ∃ fs, h[a]? = some (11, fs) ∧ fs[2]? = some (.ref T) ∧ fs[15]? = some (.ref P) ∧ (∀ k, φ k = sx_el fs k) ∧ h[P]? = some (1000, pl) ∧ h[T]? = some (1000, ts)
theorem pv_el_set {vs : List Value} {k j : Nat} {y : Int} (hk : k < vs.length) (hy : wp_r y) : sx_el (vs.set k (wp_i y)) j = if j = k then y else sx_el vs j := by
  unfold sx_el
  by_cases e : j = k
  · subst e
    rw [List.getElem?_set_self hk, if_pos rfl]
    exact wp_ti hy
  · rw [List.getElem?_set_ne (Ne.symm e), if_neg e]
theorem pv_fd65 {j : Nat} (hj : j < 160) : sx_fd sx_y65.2.2 j = some (0, 0, 41) := by
  have e : sx_y65.2.2 = [(0, 160, [(0, 0, 41)])] := by decide
  rw [e]
  unfold sx_fd
  have e2 : ([((0 : Nat), (160 : Nat), ([(0, 0, 41)] : List sx_D))].find? fun q => decide (q.1 ≤ j) && decide (j < q.1 + q.2.1)) = some (0, 160, [(0, 0, 41)]) := by
    rw [List.find?_cons_of_pos]
    simp only [Bool.and_eq_true, decide_eq_true_eq]
    omega
  rw [e2]
  dsimp only
  rw [show (j - 0) % ([((0 : Nat), (0 : Int), (41 : Int))] : List sx_D).length = 0 from Nat.mod_one _]
  rfl
section PVS
variable {h0 h : mj_H} {a P T : Nat} {φ : Nat → Int} {pl ts : List Value} {d m pc : Nat} {lv : mj_L} {st : List Value} {Q : Option Value → mj_H → Prop}
theorem pv_f (V : pv h0 h a P T φ pl ts) {k : Nat} {lo hi : Int} (hk : k < 31) (hd : sx_fd sx_y63.2.2 k = some (0, lo, hi)) : ∃ fs, h[a]? = some (11, fs) ∧ fs.length = 31 ∧ fs[k]? = some (wp_i (φ k)) ∧ lo ≤ φ k ∧ φ k ≤ hi := by
  obtain ⟨hH, -, -, ta, -, -, fs, f1, -, -, f4, -⟩ := V
  obtain ⟨vs, v, g1, g2, g3, g4⟩ := sx_rf hH ta hk hd
  rw [f1] at g1
  cases g1
  obtain ⟨z, rfl, z1, z2⟩ := g4
  have e : φ k = z.toInt := by
    rw [f4]
    unfold sx_el
    rw [g3]
  refine ⟨fs, f1, g2, ?_, by omega, by omega⟩
  rw [e, g3, wp_iz]
theorem pv_gi (V : pv h0 h a P T φ pl ts) {x k : Nat} {lo hi' : Int} {ty : FieldType} {w : Bool} {y : Int} (hi : mj_ins m pc = some (.getfield x)) (hf : mj_fld m x = some (11, k, ty, w)) (hk : k < 31) (hd : sx_fd sx_y63.2.2 k = some (0, lo, hi')) (hy : φ k = y) (hr : lo ≤ y → y ≤ hi' → wp_R d m (pc + 3) lv (wp_i y :: st) h Q) : wp_R d m pc lv (.ref a :: st) h Q := by
  obtain ⟨fs, f1, f2, f3, f4, f5⟩ := pv_f V hk hd
  rw [hy] at f3 f4 f5
  exact wp_gf hi hf f1 f3 (hr f4 f5)
theorem pv_b (V : pv h0 h a P T φ pl ts) {k : Nat} {lo hi : Int} (hk : k < 31) (hd : sx_fd sx_y63.2.2 k = some (0, lo, hi)) : lo ≤ φ k ∧ φ k ≤ hi := by
  obtain ⟨fs, f1, f2, f3, f4, f5⟩ := pv_f V hk hd
  exact ⟨f4, f5⟩
theorem pv_gp (V : pv h0 h a P T φ pl ts) {x : Nat} {ty : FieldType} {w : Bool} (hi : mj_ins m pc = some (.getfield x)) (hf : mj_fld m x = some (11, 15, ty, w)) (hr : wp_R d m (pc + 3) lv (.ref P :: st) h Q) : wp_R d m pc lv (.ref a :: st) h Q := by
  obtain ⟨-, -, -, -, -, -, fs, f1, -, f3, -⟩ := V
  exact wp_gf hi hf f1 f3 hr
theorem pv_gt (V : pv h0 h a P T φ pl ts) {x : Nat} {ty : FieldType} {w : Bool} (hi : mj_ins m pc = some (.getfield x)) (hf : mj_fld m x = some (11, 2, ty, w)) (hr : wp_R d m (pc + 3) lv (.ref T :: st) h Q) : wp_R d m pc lv (.ref a :: st) h Q := by
  obtain ⟨-, -, -, -, -, -, fs, f1, f2, -⟩ := V
  exact wp_gf hi hf f1 f2 hr
/-- another array -/
theorem pv_gr (V : pv h0 h a P T φ pl ts) {x k : Nat} {ty : FieldType} {w : Bool} {t : Int} (hi : mj_ins m pc = some (.getfield x)) (hf : mj_fld m x = some (11, k, ty, w)) (hk : k < 31) (hd : sx_fd sx_y63.2.2 k = some (2, t, 0)) (hr : ∀ b, sx_tau[b]? = some t.toNat → wp_R d m (pc + 3) lv (.ref b :: st) h Q) : wp_R d m pc lv (.ref a :: st) h Q := by
  obtain ⟨hH, -, -, ta, -, -, fs, f1, -⟩ := V
  obtain ⟨vs, v, g1, g2, g3, b, rfl, g4⟩ := sx_rf hH ta hk hd
  exact wp_gf hi hf g1 g3 (hr b g4)
/-- an int of an int array of one type throughout -/
theorem pv_la (V : pv h0 h a P T φ pl ts) {b t n : Nat} {x lo hi' : Int} {l : List (Nat × Nat × List sx_D)} (hi : mj_ins m pc = some .iaload) (tb : sx_tau[b]? = some t) (hT : sx_TT[t]? = some (1000, n, l)) (hn : n ≤ 2147483647) (hx : 0 ≤ x) (hl : x < n) (hd : sx_fd l x.toNat = some (0, lo, hi')) (hr : ∀ y, lo ≤ y → y ≤ hi' → wp_R d m (pc + 1) lv (wp_i y :: st) h Q) : wp_R d m pc lv (wp_i x :: .ref b :: st) h Q := by
  obtain ⟨hH, -⟩ := V
  obtain ⟨-, vs, c1, c2, c3, -⟩ := hH b t _ tb hT
  have c2 : vs.length = n := c2
  have hlt : x.toNat < vs.length := by omega
  have hv : vs[x.toNat]? = some vs[x.toNat] := List.getElem?_eq_getElem hlt
  obtain ⟨d', d1, d2⟩ := c3 _ _ hv
  have d1 : sx_fd l x.toNat = some d' := d1
  rw [hd] at d1
  cases d1
  obtain ⟨z, ez, z1, z2⟩ := d2
  rw [ez, wp_iz] at hv
  exact wp_ial hi c1 hx (by omega) (by omega) hv (hr _ z1 z2)
theorem pv_aP (V : pv h0 h a P T φ pl ts) : a ≠ P ∧ a ≠ T ∧ P ≠ T ∧ pl.length = 160 ∧ ts.length = 2820 ∧ mj_n0 ≤ a ∧ mj_n0 ≤ P ∧ mj_n0 ≤ T ∧ a < h.length ∧ P < h.length ∧ T < h.length := by
  obtain ⟨hH, -, -, ta, tP, tT, fs, f1, -, -, -, f5, f6⟩ := V
  obtain ⟨n1, vs, c1, c2, -⟩ := hH P 65 sx_y65 tP rfl
  obtain ⟨n2, ws, e1, e2, -⟩ := hH T 20 sx_y20 tT rfl
  obtain ⟨n3, -⟩ := hH a 63 sx_y63 ta rfl
  rw [f5] at c1
  cases c1
  rw [f6] at e1
  cases e1
  refine ⟨fun e => ?_, fun e => ?_, fun e => ?_, c2, e2, n3 (by decide), n1 (by decide), n2 (by decide), sx_lt_of f1, sx_lt_of f5, sx_lt_of f6⟩
  · rw [e, tP] at ta
    cases ta
  · rw [e, tT] at ta
    cases ta
  · rw [e, tT] at tP
    cases tP
/-- a field is set -/
theorem pv_up (V : pv h0 h a P T φ pl ts) {k : Nat} {lo hi' y : Int} (hk : k < 31) (hd : sx_fd sx_y63.2.2 k = some (0, lo, hi')) (h2 : k ≠ 2) (h15 : k ≠ 15) (hm : 1100 + k ∈ pv_mods) (hlo : lo ≤ y) (hhi : y ≤ hi') (hw : wp_r y) {fs : List Value} (f1 : h[a]? = some (11, fs)) : pv h0 (h.set a (11, fs.set k (wp_i y))) a P T (pv_u φ k y) pl ts := by
  obtain ⟨q1, q2, -, q4, q5, n1, n2, n3, l1, l2, l3⟩ := pv_aP V
  obtain ⟨hH, hef, hln, ta, tP, tT, fs', g1, g2, g3, g4, g5, g6⟩ := V
  rw [f1] at g1
  cases g1
  obtain ⟨-, us, c1, c2, c3, -⟩ := hH a 63 sx_y63 ta rfl
  have c1 : h[a]? = some (11, us) := c1
  rw [f1] at c1
  cases c1
  have c2 : fs.length = 31 := c2
  refine ⟨?_, sx_ef_tr hef ?_, by rw [List.length_set]; exact hln, ta, tP, tT, fs.set k (wp_i y), List.getElem?_set_self l1, by rw [List.getElem?_set_ne h2]; exact g2, by rw [List.getElem?_set_ne h15]; exact g3, fun j => ?_, by rw [List.getElem?_set_ne q1]; exact g5, by rw [List.getElem?_set_ne q2]; exact g6⟩
  · refine sx_H_set (P := sx_PP) hH ta (t := 63) (kd := sx_y63.1) (len := sx_y63.2.1) (l := sx_y63.2.2) rfl (by rw [List.length_set]; exact c2) l1 (fun j w hw2 => ?_) (fun e => by cases e)
    by_cases e : k = j
    · subst e
      rw [List.getElem?_set_self (by omega)] at hw2
      cases hw2
      exact ⟨_, hd, _, rfl, by rw [wp_ti hw]; exact hlo, by rw [wp_ti hw]; exact hhi⟩
    · rw [List.getElem?_set_ne e] at hw2
      exact c3 j w hw2
  · refine sx_ef_ax (t := 63) f1 ta (fun key hkey => sx_at_fs (by decide) (fun e => hkey ?_)) (fun q => absurd q (by decide)) (fun _ B hW => sx_W_set hW ta f1 (fun j hs => ?_))
    · rw [e]
      exact hm
    · rw [sx_nst_ok (by decide)] at hs
      cases hs
  · rw [pv_el_set (by omega) hw]
    unfold pv_u
    split
    · rfl
    · exact g4 j
theorem pv_pi (V : pv h0 h a P T φ pl ts) {x k : Nat} {lo hi' y : Int} {ty : FieldType} (hi : mj_ins m pc = some (.putfield x)) (hf : mj_fld m x = some (11, k, ty, true)) (hk : k < 31) (hd : sx_fd sx_y63.2.2 k = some (0, lo, hi')) (h2 : k ≠ 2) (h15 : k ≠ 15) (hm : 1100 + k ∈ pv_mods) (hlo : lo ≤ y) (hhi : y ≤ hi') (hw : wp_r y) (hn : narrow ty (wp_i y) = wp_i y) (hfi : fits ty (wp_i y) = true) (hr : ∀ h', pv h0 h' a P T (pv_u φ k y) pl ts → wp_R d m (pc + 3) lv st h' Q) : wp_R d m pc lv (wp_i y :: .ref a :: st) h Q := by
  obtain ⟨fs, f1, f2, -⟩ := pv_f V hk hd
  exact wp_pf hi hf f1 (pv_aP V).2.2.2.2.2.1 (by omega) hn hfi (hr _ (pv_up V hk hd h2 h15 hm hlo hhi hw f1))
/-- a long field is set -/
theorem pv_pl (V : pv h0 h a P T φ pl ts) {x : Nat} {z : Int64} (hi : mj_ins m pc = some (.putfield x)) (hf : mj_fld m x = some (11, 11, .long, true)) (hr : ∀ h', pv h0 h' a P T φ pl ts → wp_R d m (pc + 3) lv st h' Q) : wp_R d m pc lv (.long z :: .ref a :: st) h Q := by
  obtain ⟨q1, q2, -, q4, q5, n1, n2, n3, l1, l2, l3⟩ := pv_aP V
  obtain ⟨hH, hef, hln, ta, tP, tT, fs, f1, g2, g3, g4, g5, g6⟩ := V
  obtain ⟨-, us, c1, c2, c3, -⟩ := hH a 63 sx_y63 ta rfl
  have c1 : h[a]? = some (11, us) := c1
  rw [f1] at c1
  cases c1
  have c2 : fs.length = 31 := c2
  refine wp_pf hi hf f1 n1 (by omega) rfl rfl (hr _ ?_)
  refine ⟨?_, sx_ef_tr hef ?_, by rw [List.length_set]; exact hln, ta, tP, tT, fs.set 11 (.long z), List.getElem?_set_self l1, by rw [List.getElem?_set_ne (by decide)]; exact g2, by rw [List.getElem?_set_ne (by decide)]; exact g3, fun j => ?_, by rw [List.getElem?_set_ne q1]; exact g5, by rw [List.getElem?_set_ne q2]; exact g6⟩
  · refine sx_H_set (P := sx_PP) hH ta (t := 63) (kd := sx_y63.1) (len := sx_y63.2.1) (l := sx_y63.2.2) rfl (by rw [List.length_set]; exact c2) l1 (fun j w hw2 => ?_) (fun e => by cases e)
    by_cases e : 11 = j
    · subst e
      rw [List.getElem?_set_self (by omega)] at hw2
      cases hw2
      exact ⟨(1, -9223372036854775808, 9223372036854775807), by decide, z, rfl, (sx_r64 z).1, (sx_r64 z).2⟩
    · rw [List.getElem?_set_ne e] at hw2
      exact c3 j w hw2
  · refine sx_ef_ax (t := 63) f1 ta (fun key hkey => sx_at_fs (by decide) (fun e => hkey ?_)) (fun q => absurd q (by decide)) (fun _ B hW => sx_W_set hW ta f1 (fun j hs => ?_))
    · rw [e]
      decide
    · rw [sx_nst_ok (by decide)] at hs
      cases hs
  · rw [g4 j]
    by_cases e : j = 11
    · subst e
      have hv : fs[11]? = some fs[11] := List.getElem?_eq_getElem (by omega)
      obtain ⟨d', d1, d2⟩ := c3 _ _ hv
      have d1 : some ((1, -9223372036854775808, 9223372036854775807) : sx_D) = some d' := d1
      cases d1
      obtain ⟨y, ey, -⟩ := d2
      unfold sx_el
      rw [hv, ey, List.getElem?_set_self (by omega)]
    · unfold sx_el
      rw [List.getElem?_set_ne (Ne.symm e)]
/-- the pile -/
theorem pv_lp (V : pv h0 h a P T φ pl ts) {x y : Int} (hi : mj_ins m pc = some .iaload) (hx : 0 ≤ x) (hl : x < 160) (hy : sx_el pl x.toNat = y) (hr : 0 ≤ y → y ≤ 41 → wp_R d m (pc + 1) lv (wp_i y :: st) h Q) : wp_R d m pc lv (wp_i x :: .ref P :: st) h Q := by
  obtain ⟨-, -, -, q4, -⟩ := pv_aP V
  obtain ⟨hH, -, -, -, tP, -, fs, -, -, -, -, g5, -⟩ := V
  obtain ⟨-, vs, c1, c2, c3, -⟩ := hH P 65 sx_y65 tP rfl
  have c1 : h[P]? = some (1000, vs) := c1
  rw [g5] at c1
  cases c1
  have hlt : x.toNat < pl.length := by omega
  have hv : pl[x.toNat]? = some pl[x.toNat] := List.getElem?_eq_getElem hlt
  obtain ⟨d', d1, d2⟩ := c3 _ _ hv
  have e : sx_fd sx_y65.2.2 x.toNat = some (0, 0, 41) := pv_fd65 (by omega)
  rw [e] at d1
  cases d1
  obtain ⟨z, ez, z1, z2⟩ := d2
  rw [ez] at hv
  have ey : y = z.toInt := by
    rw [← hy]
    unfold sx_el
    rw [hv]
  rw [wp_iz, ← ey] at hv
  exact wp_ial hi g5 hx (by omega) (by omega) hv (hr (by omega) (by omega))
theorem pv_sp (V : pv h0 h a P T φ pl ts) {x y : Int} (hi : mj_ins m pc = some .iastore) (hx : 0 ≤ x) (hl : x < 160) (y0 : 0 ≤ y) (y1 : y ≤ 41) (hr : ∀ h', pv h0 h' a P T φ (pl.set x.toNat (wp_i y)) ts → wp_R d m (pc + 1) lv st h' Q) : wp_R d m pc lv (wp_i y :: wp_i x :: .ref P :: st) h Q := by
  obtain ⟨q1, q2, q3, q4, q5, n1, n2, n3, l1, l2, l3⟩ := pv_aP V
  obtain ⟨hH, hef, hln, ta, tP, tT, fs, f1, g2, g3, g4, g5, g6⟩ := V
  obtain ⟨-, vs, c1, c2, c3, -⟩ := hH P 65 sx_y65 tP rfl
  have c1 : h[P]? = some (1000, vs) := c1
  rw [g5] at c1
  cases c1
  refine wp_ias hi g5 n2 hx (by omega) (by omega) (hr _ ?_)
  refine ⟨?_, sx_ef_tr hef ?_, by rw [List.length_set]; exact hln, ta, tP, tT, fs, by rw [List.getElem?_set_ne (Ne.symm q1)]; exact f1, g2, g3, g4, List.getElem?_set_self l2, by rw [List.getElem?_set_ne q3]; exact g6⟩
  · refine sx_H_set (P := sx_PP) hH tP (t := 65) (kd := sx_y65.1) (len := sx_y65.2.1) (l := sx_y65.2.2) rfl (by rw [List.length_set]; exact c2) l2 (fun j w hw2 => ?_) (fun e => by cases e)
    by_cases e : x.toNat = j
    · subst e
      rw [List.getElem?_set_self (by omega)] at hw2
      cases hw2
      exact ⟨_, pv_fd65 (by omega), _, rfl, by rw [wp_ti (by omega)]; exact y0, by rw [wp_ti (by omega)]; exact y1⟩
    · rw [List.getElem?_set_ne e] at hw2
      exact c3 j w hw2
  · refine sx_ef_ax (t := 65) g5 tP (fun key hkey => sx_at_n (by decide) (by rw [tP]; decide)) (fun _ q => absurd (by decide) q) (fun _ B hW => sx_W_set hW tP g5 (fun j hs => ?_))
    rw [sx_nst_ok (by decide)] at hs
    cases hs
/-- the texts -/
theorem pv_lt (V : pv h0 h a P T φ pl ts) {x y : Int} (hi : mj_ins m pc = some .iaload) (hx : 0 ≤ x) (hl : x < 2820) (hy : sx_el ts x.toNat = y) (hr : (∀ lo hi, sx_p20[x.toNat % 705]? = some (0, lo, hi) → lo ≤ y ∧ y ≤ hi) → wp_R d m (pc + 1) lv (wp_i y :: st) h Q) : wp_R d m pc lv (wp_i x :: .ref T :: st) h Q := by
  obtain ⟨hH, -, -, -, -, tT, fs, -, -, -, -, -, g6⟩ := V
  obtain ⟨e1, z, e2, e3, e4⟩ := sx_txt hH tT g6 (J := Int32.ofInt x) (j := x.toNat) (by rw [wp_ti (by omega)]; omega) (by omega)
  have ey : y = z.toInt := by rw [← hy, e3]
  have hv : ts[x.toNat]? = some (wp_i y) := by
    unfold mj_el at e2
    rw [g6] at e2
    dsimp only at e2
    rw [if_pos rfl, wp_ix hx (by omega) (by omega)] at e2
    dsimp only at e2
    rw [e2, wp_iz, ey]
  exact wp_ial hi g6 hx (by omega) (by omega) hv (hr (fun lo hi q => by rw [ey]; exact e4 lo hi q))
theorem pv_st (V : pv h0 h a P T φ pl ts) {x y lo hi' : Int} (hi : mj_ins m pc = some .iastore) (hx : 0 ≤ x) (hl : x < 2820) (hd : sx_p20[x.toNat % 705]? = some (0, lo, hi')) (y0 : lo ≤ y) (y1 : y ≤ hi') (hw : wp_r y) (hJ : sx_JT (ts.set x.toNat (wp_i y))) (hr : ∀ h', pv h0 h' a P T φ pl (ts.set x.toNat (wp_i y)) → wp_R d m (pc + 1) lv st h' Q) : wp_R d m pc lv (wp_i y :: wp_i x :: .ref T :: st) h Q := by
  obtain ⟨q1, q2, q3, q4, q5, n1, n2, n3, l1, l2, l3⟩ := pv_aP V
  obtain ⟨hH, hef, hln, ta, tP, tT, fs, f1, g2, g3, g4, g5, g6⟩ := V
  obtain ⟨-, vs, c1, c2, c3, -⟩ := hH T 20 sx_y20 tT rfl
  have c1 : h[T]? = some (1000, vs) := c1
  rw [g6] at c1
  cases c1
  refine wp_ias hi g6 n3 hx (by omega) (by omega) (hr _ ?_)
  refine ⟨?_, sx_ef_tr hef ?_, by rw [List.length_set]; exact hln, ta, tP, tT, fs, by rw [List.getElem?_set_ne (Ne.symm q2)]; exact f1, g2, g3, g4, by rw [List.getElem?_set_ne (Ne.symm q3)]; exact g5, List.getElem?_set_self l3⟩
  · refine sx_H_set (P := sx_PP) hH tT (t := 20) (kd := sx_y20.1) (len := sx_y20.2.1) (l := sx_y20.2.2) rfl (by rw [List.length_set]; exact c2) l3 (fun j w hw2 => ?_) (fun _ => hJ)
    by_cases e : x.toNat = j
    · subst e
      rw [List.getElem?_set_self (by omega)] at hw2
      cases hw2
      exact ⟨(0, lo, hi'), by rw [sx_fd20 (by omega)]; exact hd, _, rfl, by rw [wp_ti hw]; exact y0, by rw [wp_ti hw]; exact y1⟩
    · rw [List.getElem?_set_ne e] at hw2
      exact c3 j w hw2
  · refine sx_ef_ax (t := 20) g6 tT (fun key hkey => sx_at_n (by decide) (by rw [tT]; decide)) (fun _ q => absurd (by decide) q) (fun _ B hW => sx_W_set hW tT g6 (fun j hs => ?_))
    rw [sx_nst_ok (by decide)] at hs
    cases hs
/-- a call by contract: only some fields differ behind it -/
theorem pv_K (V : pv h0 h a P T φ pl ts) {c : Nat} {K : sx_K} (hM : sx_M sx_PP d c K) {vs : List Value} {lv0 : mj_L} (ha : sx_ag sx_tau K.1 vs) (hd : sx_lev K vs ≤ d) (hc : sx_cost K.2.2.2 = 0) (hn : mj_ent (mj_nl c) vs = some lv0) (hm : ∀ k ∈ K.2.2.2, k ∈ pv_mods) (hm2 : 10020 ∉ K.2.2.2 ∧ 10065 ∉ K.2.2.2 ∧ 1102 ∉ K.2.2.2 ∧ 1115 ∉ K.2.2.2) : wp_R d c 0 lv0 [] h (fun v h1 => sx_an sx_tau K.2.1 v ∧ ∃ φ1, pv h0 h1 a P T φ1 pl ts ∧ ∀ k, k < 31 → 1100 + k ∉ K.2.2.2 → φ1 k = φ k) := by
  obtain ⟨hH, hef, hln, ta, tP, tT, fs, f1, g2, g3, g4, g5, g6⟩ := V
  have hW : sx_W sx_tau h sx_mx := fun _ _ _ _ _ z _ _ _ _ => (sx_r32 z).2
  refine wp_mono (wp_K hM hH ha hd hW (by rw [hc]; decide) hn) ?_
  rintro v h1 ⟨k1, k2, k3, k4, k5⟩
  refine ⟨k2, ?_⟩
  obtain ⟨fs1, b1, b2⟩ := k3.1 a 11 fs f1
  have fk : ∀ k, k < 31 → 1100 + k ∉ K.2.2.2 → fs1[k]? = fs[k]? := by
    intro k hk hk2
    have := b2 (100 * 11 + k) hk2
    rw [sx_at_f (by decide) (by omega), sx_at_f (by decide) (by omega)] at this
    exact this
  obtain ⟨pl1, c1, c2⟩ := k3.2.1 P 65 1000 pl tP (by decide) g5 hm2.2.1
  obtain ⟨ts1, e1, e2⟩ := k3.2.1 T 20 1000 ts tT (by decide) g6 hm2.1
  have epl : pl1 = pl := List.ext_getElem? (fun j => c2 j (fun e => by cases e))
  have ets : ts1 = ts := List.ext_getElem? (fun j => e2 j (fun e => by cases e))
  subst epl ets
  refine ⟨fun k => sx_el fs1 k, ⟨k1, sx_ef_tr hef (sx_ef_sub k3 hm), k4.trans hln, ta, tP, tT, fs1, b1, by rw [fk 2 (by decide) hm2.2.2.1]; exact g2, by rw [fk 15 (by decide) hm2.2.2.2]; exact g3, fun _ => rfl, c1, e1⟩, fun k hk hk2 => ?_⟩
  rw [g4 k]
  show sx_el fs1 k = sx_el fs k
  unfold sx_el
  rw [fk k hk hk2]
end PVS
