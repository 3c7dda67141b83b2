/-! -/
/-! orders and surely, in the reference; laid by program (wp_v37.py) -/
def FI_ (h : mj_H) (a F : Nat) (fl : List Value) : Prop := (∃ fs, h[a]? = some (11, fs) ∧ fs[30]? = some (.ref F)) ∧ h[F]? = some (1000, fl) ∧ fl.length = 6
theorem FI_ef {M : List Nat} {h h1 : mj_H} {a F : Nat} {fl : List Value} (e : sx_ef sx_tau M h h1) (n1 : 1130 ∉ M) (n2 : 10072 ∉ M) (tF : sx_tau[F]? = some 72) (H : FI_ h a F fl) : FI_ h1 a F fl := by
  obtain ⟨⟨fs, f1, f2⟩, f3, f4⟩ := H
  obtain ⟨gs, g1, g2⟩ := e.1 a 11 fs f1
  obtain ⟨vs, v1, v2⟩ := e.2.1 F 72 1000 fl tF (by decide) f3 n2
  have k := g2 1130 n1
  rw [show (1130 : Nat) = 100 * 11 + 30 from rfl, sx_at_f (by decide) (by decide), sx_at_f (by decide) (by decide)] at k
  have ev : vs = fl := List.ext_getElem? (fun j => v2 j (fun z => by cases z))
  rw [ev] at v1
  exact ⟨⟨gs, g1, k.trans f2⟩, v1, f4⟩
section RVY
variable {M : List Nat} {h0 h : mj_H} {a R X A F : Nat} {P : Int} {rl tl fl : List Value} {d m pc : Nat} {lv : mj_L} {st : List Value} {Q : Option Value → mj_H → Prop}
theorem rv_laY (V : rv M h0 h a R X A P rl tl) (hA : 10021 ∉ M) {as : List Value} (HA : h0[A]? = some (1000, as)) {x y : Int} (hi : mj_ins m pc = some .iaload) (hx : 16 ≤ x) (hl : x < 6044) (hy : as[x.toNat]? = some (wp_i y)) (hr : wp_R d m (pc + 1) lv (wp_i y :: st) h Q) : wp_R d m pc lv (wp_i x :: .ref A :: st) h Q := by
  obtain ⟨hH, ef, -, -, -, -, tA, -⟩ := V
  obtain ⟨vs, v1, v2⟩ := ef.2.1 A 21 1000 as tA (by decide) HA hA
  obtain ⟨-, ws, c1, c2, -⟩ := hH A 21 sx_y21 tA rfl
  have c1 : h[A]? = some (1000, ws) := c1
  rw [v1] at c1
  cases c1
  have c2 : vs.length = 6044 := c2
  exact wp_ial hi v1 (by omega) (by omega) (by omega) (by rw [v2 x.toNat (fun _ => by omega)]; exact hy) hr
theorem rv_la6 (V : rv M h0 h a R X A P rl tl) (h6 : 20006 ∉ M) {as : List Value} (HA : h0[A]? = some (1000, as)) {y : Int} (hi : mj_ins m pc = some .iaload) (hy : as[6]? = some (wp_i y)) (hr : wp_R d m (pc + 1) lv (wp_i y :: st) h Q) : wp_R d m pc lv (wp_i 6 :: .ref A :: st) h Q := by
  obtain ⟨hH, ef, -, -, -, -, tA, -⟩ := V
  obtain ⟨vs, v1, v2⟩ := ef.1 A 1000 as HA
  obtain ⟨-, ws, c1, c2, -⟩ := hH A 21 sx_y21 tA rfl
  have c1 : h[A]? = some (1000, ws) := c1
  rw [v1] at c1
  cases c1
  have c2 : vs.length = 6044 := c2
  have k := v2 20006 h6
  have e : ∀ us : List Value, sx_at sx_tau A (1000, us) 20006 = us[6]? := fun us => by
    refine (if_neg (show ¬ (1000 : Nat) < 900 by decide)).trans ?_
    exact if_pos ⟨tA, by decide, by decide⟩
  rw [e, e] at k
  exact wp_ial hi v1 (by omega) (by omega) (by omega) (k.trans hy) hr
theorem rv_gFY (FI : FI_ h a F fl) {x : Nat} {ty : FieldType} {w : Bool} (hi : mj_ins m pc = some (.getfield x)) (hf : mj_fld m x = some (11, 30, ty, w)) (hr : wp_R d m (pc + 3) lv (.ref F :: st) h Q) : wp_R d m pc lv (.ref a :: st) h Q := by
  obtain ⟨⟨fs, f1, f2⟩, -⟩ := FI
  exact wp_gf hi hf f1 f2 hr
theorem rv_sfY (hM : 10072 ∈ M) (V : rv M h0 h a R X A P rl tl) (FI : FI_ h a F fl) {x y : Int} (tb : sx_tau[F]? = some 72) (hi : mj_ins m pc = some .iastore) (hx : 0 ≤ x) (hl : x < 6) (hy : 0 ≤ y ∧ y ≤ 5) (hr : ∀ h', rv M h0 h' a R X A P rl tl → FI_ h' a F (fl.set x.toNat (wp_i y)) → wp_R d m (pc + 1) lv st h' Q) : wp_R d m pc lv (wp_i y :: wp_i x :: .ref F :: st) h Q := by
  obtain ⟨⟨gs, g1, g2⟩, c1, c2⟩ := FI
  obtain ⟨hH, hef, hln, ta, tR, tX, tA, hP, fs, as, f1, f2, f3, f4, f5, f6, f7, f8, f9⟩ := V
  obtain ⟨n0, -⟩ := hH F 72 sx_y72 tb rfl
  obtain ⟨s1, s2⟩ := rv_set (y := y) hH tb (n := 6) (lo := 0) (hi := 5) rfl (by decide) hM (by decide) (by decide) c1 (j := x.toNat) (by omega) hy (by omega)
  have ne : ∀ {c t : Nat}, sx_tau[c]? = some t → t ≠ 72 → F ≠ c := fun hc ht e => by
    rw [e, hc] at tb
    exact ht (Option.some.inj tb)
  exact wp_ias hi c1 (n0 (by decide)) hx (by omega) (by omega) (hr _ ⟨s1, sx_ef_tr hef s2, by rw [List.length_set]; exact hln, ta, tR, tX, tA, hP, fs, as, by rw [List.getElem?_set_ne (ne ta (by decide))]; exact f1, f2, f3, f4, by rw [List.getElem?_set_ne (ne tR (by decide))]; exact f5, by rw [List.getElem?_set_ne (ne tX (by decide))]; exact f6, by rw [List.getElem?_set_ne (ne tA (by decide))]; exact f7, f8, f9⟩ ⟨⟨gs, by rw [List.getElem?_set_ne (ne ta (by decide))]; exact g1, g2⟩, List.getElem?_set_self (sx_lt_of c1), by rw [List.length_set]; exact c2⟩)
theorem rv_rb (V : rv M h0 h a R X A P rl tl) {M1 : List Nat} : rv M1 h h a R X A P rl tl := by
  obtain ⟨hH, -, -, r⟩ := V
  exact ⟨hH, sx_ef_rf, rfl, r⟩
theorem rv_tr {M1 : List Nat} {h1 : mj_H} {rl1 tl1 : List Value} (V : rv M h0 h a R X A P rl tl) (V1 : rv M1 h h1 a R X A P rl1 tl1) (hs : ∀ k ∈ M1, k ∈ M) : rv M h0 h1 a R X A P rl1 tl1 := by
  obtain ⟨-, e, l, -⟩ := V
  obtain ⟨hH, e1, l1, r⟩ := V1
  exact ⟨hH, sx_ef_tr e (sx_ef_sub e1 hs), l1.trans l, r⟩
end RVY
/-- a row of the reference: all of 0 to 5, within bounds -/
def rgq (q : List Int) : Bool := nr_g q && q.all fun x => decide (0 ≤ x ∧ x ≤ 5)
set_option maxRecDepth 100000 in
theorem rq_ok : ∀ P : Fin 7, ((rqL P.val 720 q05).all rgq) = true := by decide +kernel
theorem rgq_v {q : List Int} (h : rgq q = true) : nr_g q = true ∧ q.length = 6 ∧ ∀ j, j < 6 → 0 ≤ q.getD j 0 ∧ q.getD j 0 ≤ 5 := by
  unfold rgq at h
  rw [Bool.and_eq_true] at h
  have hl : q.length = 6 := by
    have k := h.1
    unfold nr_g at k
    rw [Bool.and_eq_true] at k
    exact of_decide_eq_true k.1
  refine ⟨h.1, hl, fun j hj => ?_⟩
  rw [List.getD_eq_getElem?_getD, List.getElem?_eq_getElem (show j < q.length by omega)]
  exact of_decide_eq_true (List.all_eq_true.mp h.2 _ (List.getElem_mem _))
theorem wx_q {q : List Int} {w k : Nat} (hl : q.length = 6) (hk : k < 6) (h : q.getD k 0 = (w : Int)) (hn : ∀ j, j < k → ¬ q.getD j 0 = (w : Int)) (nn : ∀ j, j < 6 → 0 ≤ q.getD j 0 ∧ q.getD j 0 ≤ 5) : wx_ (rN_ q) w = k := by
  have e : ∀ j, j < 6 → (rN_ q)[j]? = some (q.getD j 0).toNat := fun j hj => by
    unfold rN_
    rw [List.getElem?_map, List.getD_eq_getElem?_getD, List.getElem?_eq_getElem (show j < q.length by omega)]
    rfl
  refine wx_at _ k ?_ (fun j hj z => ?_)
  · rw [e k hk, h]
    rfl
  · rw [e j (by omega)] at z
    have z : (q.getD j 0).toNat = w := Option.some.inj z
    have a := nn j (by omega)
    exact hn j hj (by omega)
def CLA (as : List Value) (n P : Nat) (o e : Nat → Nat) : Prop := as[6]? = some (wp_i (n : Int)) ∧ n ≤ 10 ∧ P ≤ 6 ∧ ∀ k : Nat, k < n → as[164 + 2 * k]? = some (wp_i (o k : Int)) ∧ as[164 + 2 * k + 1]? = some (wp_i (e k : Int)) ∧ o k < P ∧ e k < P ∧ ¬ o k = e k
theorem ws_whereX {d : Nat} {M : List Nat} {h0 h : mj_H} {a R X A PN : Nat} {rl tl : List Value} {q : List Int} (V : rv M h0 h a R X A (PN : Int) rl tl) (hr : rr rl q) (hq : rgq q = true) {w : Nat} (hw : w ≤ 5) : wp_R d 310 0 [some (.ref a), some (wp_i (w : Int)), none] [] h (fun v h1 => h1 = h ∧ v = some (wp_i ((wx_ (rN_ q) w : Nat) : Int)) ∧ wx_ (rN_ q) w ≤ 5) := by
  have hg := rgq_v hq
  obtain ⟨j, j1, j2⟩ := nr_g_w hg.1 (w := (w : Int)) (by omega)
  have key : ∀ (n k : Nat), k + n = j + 1 → k ≤ j → (∀ i, i < k → ¬ q.getD i 0 = (w : Int)) → wp_R d 310 2 [some (.ref a), some (wp_i (w : Int)), some (wp_i (k : Int))] [] h (fun v h1 => h1 = h ∧ v = some (wp_i ((wx_ (rN_ q) w : Nat) : Int)) ∧ wx_ (rN_ q) w ≤ 5) := by
    intro n
    induction n with
    | zero => intro k h1 h2; omega
    | succ n ih =>
      intro k hn hk hB
      have qb := hg.2.2 k (by omega)
      refine wp_s (pc' := 3) ji_310_2 rfl rfl rfl ?_
      refine rv_gR V ji_310_3 jf_310_50 ?_
      refine wp_s (pc' := 7) ji_310_6 rfl rfl rfl ?_
      refine rv_lr V (x := (k : Int)) (y := q.getD k 0) ji_310_7 (by omega) (by omega) (hr.2 k (by omega)) (fun l1 u2 => ?_)
      refine wp_s (pc' := 9) ji_310_8 rfl rfl rfl ?_
      refine wp_icmp (t := 18) ji_310_9 rfl (by omega) (by omega) (fun (hb3 : (q.getD k 0 : Int) = ((w : Int))) => ?_) (fun (hb3 : ¬ ((q.getD k 0 : Int) = ((w : Int)))) => ?_)
      · refine wp_s (pc' := 19) ji_310_18 rfl rfl rfl ?_
        have ew := wx_q (w := w) hg.2.1 (by omega) (k := k) (by omega) hB hg.2.2
        exact wp_ri ji_310_19 jr_310 rfl ⟨rfl, by rw [ew], by omega⟩
      · refine wp_iinc (x := (k : Int)) (z := ((k + 1 : Nat) : Int)) (lv' := [some (.ref a), some (wp_i ((w : Int))), some (wp_i (((k + 1 : Nat) : Int)))]) ji_310_12 rfl (Nat.le_of_ble_eq_true rfl) (by omega) rfl ?_
        refine wp_goto (t := 2) ji_310_15 rfl ?_
        have kj : k ≠ j := fun e => by rw [← e] at j2; omega
        exact ih (k + 1) (by omega) (by omega) (fun i hi => if c : i = k then (by subst c; omega) else hB i (by omega))
  refine wp_s (pc' := 1) ji_310_0 rfl rfl rfl ?_
  refine wp_s (pc' := 2) (lv' := [some (.ref a), some (wp_i (w : Int)), some (wp_i 0)]) ji_310_1 rfl rfl rfl ?_
  exact key (j + 1) 0 (by omega) (by omega) (fun i hi => absurd hi (Nat.not_lt_zero _))
theorem ws_toldX {d : Nat} {M : List Nat} {h0 h : mj_H} {a R X A PN : Nat} {rl tl : List Value} {q : List Int} (V : rv M h0 h a R X A (PN : Int) rl tl) (hr : rr rl q) (hq : rgq q = true) (hA : 10021 ∉ M) (h6 : 20006 ∉ M) {as : List Value} (HA : h0[A]? = some (1000, as)) {n : Nat} {o e : Nat → Nat} (CA : CLA as n PN o e) : wp_R (d + 1) 309 0 [some (.ref a), none] [] h (fun v h1 => h1 = h ∧ ∃ y : Int, v = some (wp_i y) ∧ (y = 0 ∨ y = 1) ∧ (y = 1 ↔ asT n o e q = true)) := by
  have hP6 := CA.2.2.1
  have hn10 := CA.2.1
  have key : ∀ (m k : Nat), k + m = n + 1 → k ≤ n → (∀ i, i < k → wx_ (rN_ q) (o i) ≤ wx_ (rN_ q) (e i)) → wp_R (d + 1) 309 2 [some (.ref a), some (wp_i (k : Int))] [] h (fun v h1 => h1 = h ∧ ∃ y : Int, v = some (wp_i y) ∧ (y = 0 ∨ y = 1) ∧ (y = 1 ↔ asT n o e q = true)) := by
    intro m
    induction m with
    | zero => intro k h1 h2; omega
    | succ m ih =>
      intro k hn hk hB
      refine wp_s (pc' := 3) ji_309_2 rfl rfl rfl ?_
      refine wp_s (pc' := 4) ji_309_3 rfl rfl rfl ?_
      refine rv_gA V ji_309_4 jf_309_7 ?_
      refine wp_bp ji_309_7 rfl ?_
      refine rv_la6 V h6 HA (y := (n : Int)) ji_309_9 CA.1 ?_
      refine wp_icmp (t := 58) ji_309_10 rfl (by omega) (by omega) (fun (hb1 : ((n : Int) : Int) ≤ ((k : Int))) => ?_) (fun (hb1 : ¬ (((n : Int) : Int) ≤ ((k : Int)))) => ?_)
      · refine wp_s (pc' := 59) ji_309_58 rfl rfl rfl ?_
        exact wp_ri ji_309_59 jr_309 rfl ⟨rfl, 1, rfl, Or.inr rfl, ⟨fun _ => asT_i.mpr (fun i hi => hB i (by omega)), fun _ => rfl⟩⟩
      · refine wp_s (pc' := 14) ji_309_13 rfl rfl rfl ?_
        refine wp_s (pc' := 15) ji_309_14 rfl rfl rfl ?_
        refine rv_gA V ji_309_15 jf_309_7 ?_
        refine wp_sp ji_309_18 rfl ?_
        refine wp_s (pc' := 22) ji_309_21 rfl rfl rfl ?_
        refine wp_s (pc' := 23) ji_309_22 rfl rfl rfl ?_
        refine wp_imul (x := 2) (y := (k : Int)) (z := 2 * ((k : Int))) ji_309_23 (by omega) ?_
        refine wp_iadd (x := 164) (y := 2 * ((k : Int))) (z := 164 + (2 * ((k : Int)))) ji_309_24 (by omega) ?_
        have ck := CA.2.2.2 k (by omega)
        refine rv_laY V hA HA (x := 164 + (2 * ((k : Int)))) (y := (o k : Int)) ji_309_25 (by omega) (by omega) (by rw [show (164 + (2 * ((k : Int)))).toNat = 164 + 2 * k by omega]; exact ck.1) ?_
        refine rv_vc V ji_309_26 jc_309_461 jk_310 (rest := []) rfl (Nat.le_of_ble_eq_true rfl) rfl (by rw [jn_310]; rfl) (ws_whereX V hr hq (w := o k) (by omega)) (fun v h R => ?_)
        obtain ⟨rfl, rfl, wb2⟩ := R
        show wp_R (d + 1) 309 29 [some (.ref a), some (wp_i ((k : Int)))] [wp_i (((wx_ (rN_ q) (o k) : Nat) : Int))] h _
        refine wp_s (pc' := 30) ji_309_29 rfl rfl rfl ?_
        refine wp_s (pc' := 31) ji_309_30 rfl rfl rfl ?_
        refine rv_gA V ji_309_31 jf_309_7 ?_
        refine wp_sp ji_309_34 rfl ?_
        refine wp_s (pc' := 38) ji_309_37 rfl rfl rfl ?_
        refine wp_s (pc' := 39) ji_309_38 rfl rfl rfl ?_
        refine wp_imul (x := 2) (y := (k : Int)) (z := 2 * ((k : Int))) ji_309_39 (by omega) ?_
        refine wp_iadd (x := 164) (y := 2 * ((k : Int))) (z := 164 + (2 * ((k : Int)))) ji_309_40 (by omega) ?_
        refine wp_s (pc' := 42) ji_309_41 rfl rfl rfl ?_
        refine wp_iadd (x := 164 + (2 * ((k : Int)))) (y := 1) (z := 164 + (2 * ((k : Int))) + 1) ji_309_42 (by omega) ?_
        have ck := CA.2.2.2 k (by omega)
        refine rv_laY V hA HA (x := 164 + (2 * ((k : Int))) + 1) (y := (e k : Int)) ji_309_43 (by omega) (by omega) (by rw [show (164 + (2 * ((k : Int))) + 1).toNat = 164 + 2 * k + 1 by omega]; exact ck.2.1) ?_
        refine rv_vc V ji_309_44 jc_309_461 jk_310 (rest := [wp_i (((wx_ (rN_ q) (o k) : Nat) : Int))]) rfl (Nat.le_of_ble_eq_true rfl) rfl (by rw [jn_310]; rfl) (ws_whereX V hr hq (w := e k) (by omega)) (fun v h R => ?_)
        obtain ⟨rfl, rfl, wb3⟩ := R
        show wp_R (d + 1) 309 47 [some (.ref a), some (wp_i ((k : Int)))] [wp_i (((wx_ (rN_ q) (e k) : Nat) : Int)), wp_i (((wx_ (rN_ q) (o k) : Nat) : Int))] h _
        refine wp_icmp (t := 52) ji_309_47 rfl (by omega) (by omega) (fun (hb4 : (((wx_ (rN_ q) (o k) : Nat) : Int) : Int) ≤ (((wx_ (rN_ q) (e k) : Nat) : Int))) => ?_) (fun (hb4 : ¬ ((((wx_ (rN_ q) (o k) : Nat) : Int) : Int) ≤ (((wx_ (rN_ q) (e k) : Nat) : Int)))) => ?_)
        · refine wp_iinc (x := (k : Int)) (z := ((k + 1 : Nat) : Int)) (lv' := [some (.ref a), some (wp_i (((k + 1 : Nat) : Int)))]) ji_309_52 rfl (Nat.le_of_ble_eq_true rfl) (by omega) rfl ?_
          refine wp_goto (t := 2) ji_309_55 rfl ?_
          exact ih (k + 1) (by omega) (by omega) (fun i hi => if c : i = k then (by subst c; omega) else hB i (by omega))
        · refine wp_s (pc' := 51) ji_309_50 rfl rfl rfl ?_
          exact wp_ri ji_309_51 jr_309 rfl ⟨rfl, 0, rfl, Or.inl rfl, ⟨fun z => absurd z (by decide), fun z => absurd (asT_i.mp z k (by omega)) (by omega)⟩⟩
  refine wp_s (pc' := 1) ji_309_0 rfl rfl rfl ?_
  refine wp_s (pc' := 2) (lv' := [some (.ref a), some (wp_i 0)]) ji_309_1 rfl rfl rfl ?_
  exact key (n + 1) 0 (by omega) (by omega) (fun i hi => absurd hi (Nat.not_lt_zero _))
theorem ox27 {d : Nat} {M : List Nat} (hMF : 10072 ∈ M) {h0 : mj_H} {a R X A PN F : Nat} (tF : sx_tau[F]? = some 72) {rl tl fl : List Value} {q : List Int} {o1 o2 c all : Int} (hall : 0 ≤ all ∧ all ≤ 719) (hr : rr rl q) {Q : Option Value → mj_H → Prop} (hQ : ∀ (h : mj_H) (k : Int) (fl1 : List Value), rv M h0 h a R X A (PN : Int) rl tl → FI_ h a F fl1 → (¬ all = 0 → fl1 = fl) → (all = 0 → ∀ i, i < 6 → fl1[i]? = some (wp_i (q.getD i 0))) → wp_R (d + 1) 308 59 [some (.ref a), some (wp_i o1), some (wp_i o2), some (wp_i c), some (wp_i all), some (wp_i 1), some (wp_i k)] [] h Q) : ∀ (m k : Nat) (h : mj_H) (fl1 : List Value), rv M h0 h a R X A (PN : Int) rl tl → FI_ h a F fl1 → k + m = 7 → k ≤ 6 → (¬ all = 0 → fl1 = fl) → (all = 0 → ∀ i, i < k → fl1[i]? = some (wp_i (q.getD i 0))) → wp_R (d + 1) 308 27 [some (.ref a), some (wp_i o1), some (wp_i o2), some (wp_i c), some (wp_i all), some (wp_i 1), some (wp_i (k : Int))] [] h Q := by
  intro m
  induction m with
  | zero => intro k h fl1 V FI h1 h2; omega
  | succ m ih =>
    intro k h fl1 V FI hn hk f1 f2
    by_cases hk6 : k = 6
    · subst hk6
      refine wp_s (pc' := 29) ji_308_27 rfl rfl rfl ?_
      refine wp_bp ji_308_29 rfl ?_
      refine wp_icmp (t := 59) ji_308_31 rfl (by omega) (by omega) (fun (hb1 : (6 : Int) ≤ (((6 : Nat) : Int))) => ?_) (fun (hb1 : ¬ ((6 : Int) ≤ (((6 : Nat) : Int)))) => (by exfalso; omega))
      exact hQ h ((6 : Nat) : Int) fl1 V FI f1 f2
    · have qb := rv_qb V hr (j := k) (by omega)
      have FI0 := FI
      refine wp_s (pc' := 29) ji_308_27 rfl rfl rfl ?_
      refine wp_bp ji_308_29 rfl ?_
      refine wp_icmp (t := 59) ji_308_31 rfl (by omega) (by omega) (fun (hb1 : (6 : Int) ≤ ((k : Int))) => (by exfalso; omega)) (fun (hb1 : ¬ ((6 : Int) ≤ ((k : Int)))) => ?_)
      refine wp_s (pc' := 36) ji_308_34 rfl rfl rfl ?_
      refine wp_if (t := 59) ji_308_36 rfl (by omega) (fun (hb2 : ¬ (all : Int) = 0) => ?_) (fun (hb2 : ¬ (¬ (all : Int) = 0)) => ?_)
      · exact hQ h ((k : Nat) : Int) fl1 V FI f1 (fun z => absurd z (by omega))
      · refine wp_s (pc' := 40) ji_308_39 rfl rfl rfl ?_
        refine rv_gFY FI ji_308_40 jf_308_59 ?_
        refine wp_s (pc' := 45) ji_308_43 rfl rfl rfl ?_
        refine wp_s (pc' := 46) ji_308_45 rfl rfl rfl ?_
        refine rv_gR V ji_308_46 jf_308_50 ?_
        refine wp_s (pc' := 51) ji_308_49 rfl rfl rfl ?_
        refine rv_lr V (x := (k : Int)) (y := q.getD k 0) ji_308_51 (by omega) (by omega) (hr.2 k (by omega)) (fun l3 u4 => ?_)
        refine rv_sfY hMF V FI (x := (k : Int)) (y := q.getD k 0) tF ji_308_52 (by omega) (by omega) (by omega) (fun h V FI => ?_)
        refine wp_iinc (x := (k : Int)) (z := ((k + 1 : Nat) : Int)) (lv' := [some (.ref a), some (wp_i o1), some (wp_i o2), some (wp_i c), some (wp_i all), some (wp_i 1), some (wp_i (((k + 1 : Nat) : Int)))]) ji_308_53 rfl (Nat.le_of_ble_eq_true rfl) (by omega) rfl ?_
        refine wp_goto (t := 27) ji_308_56 rfl ?_
        refine ih (k + 1) h _ V FI (by omega) (by omega) (fun z => absurd (show all = 0 by omega) z) (fun z i hi => ?_)
        by_cases c : i = k
        · subst c
          rw [show ((i : Nat) : Int).toNat = i from rfl, List.getElem?_set_self (by have := FI0.2.2; omega)]
        · rw [show ((k : Nat) : Int).toNat = k from rfl, List.getElem?_set_ne (by omega)]
          exact f2 z i (by omega)
/-- a row that counts -/
def fR_ (n : Nat) (o e : Nat → Nat) (o1 o2 : Int) (q : List Int) : Bool := asT n o e q && (decide (o1 = -1) || decide (wx_ (rN_ q) o1.toNat < wx_ (rN_ q) o2.toNat))
theorem fR_1 {n : Nat} {o e : Nat → Nat} {o1 o2 : Int} {q : List Int} (h : asT n o e q = true) (h1 : o1 = -1 ∨ wx_ (rN_ q) o1.toNat < wx_ (rN_ q) o2.toNat) : fR_ n o e o1 o2 q = true := by
  unfold fR_
  rw [h, Bool.true_and, Bool.or_eq_true, decide_eq_true_iff, decide_eq_true_iff]
  exact h1
theorem fR_0 {n : Nat} {o e : Nat → Nat} {o1 o2 : Int} {q : List Int} (h : ¬ asT n o e q = true) : fR_ n o e o1 o2 q = false := by
  unfold fR_
  rw [Bool.eq_false_iff.mpr h]
  rfl
theorem fR_2 {n : Nat} {o e : Nat → Nat} {o1 o2 : Int} {q : List Int} (h1 : ¬ o1 = -1) (h2 : ¬ wx_ (rN_ q) o1.toNat < wx_ (rN_ q) o2.toNat) : fR_ n o e o1 o2 q = false := by
  unfold fR_
  rw [decide_eq_false h1, decide_eq_false h2]
  exact Bool.and_false _
theorem ox12 {d : Nat} {M : List Nat} (hM : 10069 ∈ M) (hMF : 10072 ∈ M) (hA : 10021 ∉ M) (h6 : 20006 ∉ M) {h0 : mj_H} {a R X A PN F : Nat} (tF : sx_tau[F]? = some 72) {as : List Value} (HA : h0[A]? = some (1000, as)) {n : Nat} {o e : Nat → Nat} (CA : CLA as n PN o e) {o1 o2 : Int} (ho : (o1 = -1 ∧ o2 = -1) ∨ ((0 ≤ o1 ∧ o1 ≤ 5) ∧ 0 ≤ o2 ∧ o2 ≤ 5)) : ∀ (m : Nat) (q : List Int) (rl tl fl : List Value) (h : mj_H) (c all : Int) (x6 : Option Value), nr_ok PN m q = true → (∀ x ∈ rqL PN m q, rgq x = true) → rv M h0 h a R X A (PN : Int) rl tl → rr rl q → FI_ h a F fl → (0 ≤ c ∧ c ≤ all) → all + m ≤ 720 → wp_R (d + 1 + 1) 308 12 [some (.ref a), some (wp_i o1), some (wp_i o2), some (wp_i c), some (wp_i all), some (wp_i 1), x6] [] h (fun v h1 => v = some (wp_i (c + (((rqL PN m q).countP (fR_ n o e o1 o2) : Nat) : Int))) ∧ ∃ rl' tl' fl', rv M h0 h1 a R X A (PN : Int) rl' tl' ∧ FI_ h1 a F fl' ∧ (¬ all = 0 → fl' = fl) ∧ (all = 0 → ∀ x, (rqL PN m q).find? (asT n o e) = some x → ∀ i, i < 6 → fl'[i]? = some (wp_i (x.getD i 0)))) := by
  intro m
  induction m with
  | zero =>
    intro q rl tl fl h c all x6 hok
    unfold nr_ok at hok
    cases hok
  | succ m ih =>
    intro q rl tl fl h c all x6 hok hgq V hr FI ha0 ha1
    unfold nr_ok at hok
    rw [Bool.and_eq_true] at hok
    obtain ⟨-, hok2⟩ := hok
    have hq : rgq q = true := hgq q (by show q ∈ q :: _; exact List.mem_cons_self)
    refine wp_s (pc' := 14) ji_308_12 rfl rfl rfl ?_
    refine wp_if (t := 97) ji_308_14 rfl (by omega) (fun (hb8 : (1 : Int) = 0) => (by exfalso; omega)) (fun (hb8 : ¬ ((1 : Int) = 0)) => ?_)
    refine wp_s (pc' := 18) ji_308_17 rfl rfl rfl ?_
    refine rv_vc V ji_308_18 jc_308_464 jk_309 (rest := []) rfl (Nat.le_of_ble_eq_true rfl) rfl (by rw [jn_309]; rfl) (ws_toldX V hr hq hA h6 HA CA) (fun v h R => ?_)
    obtain ⟨rfl, yt, rfl, yt0, yt1⟩ := R
    show wp_R (d + 1 + 1) 308 21 [some (.ref a), some (wp_i o1), some (wp_i o2), some (wp_i c), some (wp_i all), some (wp_i 1), x6] [wp_i yt] h _
    refine wp_if (t := 88) ji_308_21 rfl (by omega) (fun (hb9 : (yt : Int) = 0) => ?_) (fun (hb9 : ¬ ((yt : Int) = 0)) => ?_)
    · refine wp_s (pc' := 89) ji_308_88 rfl rfl rfl ?_
      refine rv_vc V ji_308_89 jc_308_443 jk_296 (rest := []) rfl (Nat.le_of_ble_eq_true rfl) rfl (by rw [jn_296]; rfl) (ws_nextRow (M := [10069]) (by decide) (rv_rb V) hr) (fun v h9 R => ?_)
      rcases R with ⟨hno, rfl, rfl⟩ | ⟨q1, hq1, rfl, rl1, V9, hr1⟩
      · show wp_R (d + 1 + 1) 308 92 [some (.ref a), some (wp_i o1), some (wp_i o2), some (wp_i c), some (wp_i all), some (wp_i 1), x6] [wp_i 0] _ _
        refine wp_s (pc' := 94) (lv' := [some (.ref a), some (wp_i o1), some (wp_i o2), some (wp_i c), some (wp_i all), some (wp_i 0), x6]) ji_308_92 rfl rfl rfl ?_
        refine wp_goto (t := 12) ji_308_94 rfl ?_
        refine wp_s (pc' := 14) ji_308_12 rfl rfl rfl ?_
        refine wp_if (t := 97) ji_308_14 rfl (by omega) (fun (hb10 : (0 : Int) = 0) => ?_) (fun (hb10 : ¬ ((0 : Int) = 0)) => (by exfalso; omega))
        refine wp_s (pc' := 98) ji_308_97 rfl rfl rfl ?_
        have ef : fR_ n o e o1 o2 q = false := fR_0 (fun z => by have := yt1.mpr z; omega)
        have et : ¬ asT n o e q = true := fun z => by have := yt1.mpr z; omega
        have eq9 : rqL PN (m + 1) q = [q] := by show q :: (match nr PN q with | none => [] | some q' => rqL PN m q') = _; rw [hno]
        refine wp_ri ji_308_98 jr_308 rfl ⟨?_, _, _, fl, V, FI, fun _ => rfl, ?_⟩
        · rw [eq9, List.countP_cons, ef]
          exact congrArg (fun z => some (wp_i z)) (by show _ = c + ((0 + 0 : Nat) : Int); omega)
        · intro z x hx
          rw [eq9] at hx
          rw [List.find?_cons_of_neg et] at hx
          cases hx
      · have V := rv_tr V V9 (fun k hk => by rw [List.mem_singleton.mp hk]; exact hM)
        have FI := FI_ef V9.2.1 (by decide) (by decide) tF FI
        show wp_R (d + 1 + 1) 308 92 [some (.ref a), some (wp_i o1), some (wp_i o2), some (wp_i c), some (wp_i all), some (wp_i 1), x6] [wp_i 1] _ _
        refine wp_s (pc' := 94) (lv' := [some (.ref a), some (wp_i o1), some (wp_i o2), some (wp_i c), some (wp_i all), some (wp_i 1), x6]) ji_308_92 rfl rfl rfl ?_
        refine wp_goto (t := 12) ji_308_94 rfl ?_
        have ef : fR_ n o e o1 o2 q = false := fR_0 (fun z => by have := yt1.mpr z; omega)
        have et : ¬ asT n o e q = true := fun z => by have := yt1.mpr z; omega
        have eq9 : rqL PN (m + 1) q = q :: rqL PN m q1 := by show q :: (match nr PN q with | none => [] | some q' => rqL PN m q') = _; rw [hq1]
        refine wp_mono (ih q1 rl1 tl fl h9 c all _ (by rw [hq1] at hok2; exact hok2) (fun x hx => hgq x (by rw [eq9]; exact List.mem_cons_of_mem _ hx)) V hr1 FI (by omega) (by omega)) ?_
        rintro v h1 ⟨rfl, rl2, tl2, fl2, V2, F2, k1, k2⟩
        rw [eq9, List.countP_cons, ef]
        refine ⟨congrArg (fun z => some (wp_i z)) (by show _ = c + ((_ + 0 : Nat) : Int); omega), rl2, tl2, fl2, V2, F2, k1, ?_⟩
        intro z x hx
        rw [List.find?_cons_of_neg et] at hx
        exact k2 z x hx
    · refine wp_s (pc' := 25) ji_308_24 rfl rfl rfl ?_
      refine wp_s (pc' := 27) (lv' := [some (.ref a), some (wp_i o1), some (wp_i o2), some (wp_i c), some (wp_i all), some (wp_i 1), some (wp_i 0)]) ji_308_25 rfl rfl rfl ?_
      refine ox27 hMF tF (by omega) hr (fun h k fl1 V FI g1 g2 => ?_) 7 0 h fl V FI rfl (by omega) (fun _ => rfl) (fun _ i hi => absurd hi (Nat.not_lt_zero _))
      refine wp_iinc (x := all) (z := all + 1) (lv' := [some (.ref a), some (wp_i o1), some (wp_i o2), some (wp_i c), some (wp_i (all + 1)), some (wp_i 1), some (wp_i k)]) ji_308_59 rfl (Nat.le_of_ble_eq_true rfl) (by omega) rfl ?_
      refine wp_s (pc' := 63) ji_308_62 rfl rfl rfl ?_
      refine wp_s (pc' := 64) ji_308_63 rfl rfl rfl ?_
      refine wp_s (pc' := 65) ji_308_64 rfl rfl rfl ?_
      refine wp_icmp (t := 81) ji_308_65 rfl (by omega) (by omega) (fun (hb1 : (o1 : Int) = (-1)) => ?_) (fun (hb1 : ¬ ((o1 : Int) = (-1))) => ?_)
      · refine wp_s (pc' := 82) ji_308_81 rfl rfl rfl ?_
        refine wp_goto (t := 86) ji_308_82 rfl ?_
        refine wp_iadd (x := c) (y := 1) (z := c + 1) ji_308_86 (by omega) ?_
        refine wp_s (pc' := 88) (lv' := [some (.ref a), some (wp_i o1), some (wp_i o2), some (wp_i (c + 1)), some (wp_i (all + 1)), some (wp_i 1), some (wp_i k)]) ji_308_87 rfl rfl rfl ?_
        refine wp_s (pc' := 89) ji_308_88 rfl rfl rfl ?_
        refine rv_vc V ji_308_89 jc_308_443 jk_296 (rest := []) rfl (Nat.le_of_ble_eq_true rfl) rfl (by rw [jn_296]; rfl) (ws_nextRow (M := [10069]) (by decide) (rv_rb V) hr) (fun v h9 R => ?_)
        rcases R with ⟨hno, rfl, rfl⟩ | ⟨q1, hq1, rfl, rl1, V9, hr1⟩
        · show wp_R (d + 1 + 1) 308 92 [some (.ref a), some (wp_i o1), some (wp_i o2), some (wp_i (c + 1)), some (wp_i (all + 1)), some (wp_i 1), some (wp_i k)] [wp_i 0] _ _
          refine wp_s (pc' := 94) (lv' := [some (.ref a), some (wp_i o1), some (wp_i o2), some (wp_i (c + 1)), some (wp_i (all + 1)), some (wp_i 0), some (wp_i k)]) ji_308_92 rfl rfl rfl ?_
          refine wp_goto (t := 12) ji_308_94 rfl ?_
          refine wp_s (pc' := 14) ji_308_12 rfl rfl rfl ?_
          refine wp_if (t := 97) ji_308_14 rfl (by omega) (fun (hb2 : (0 : Int) = 0) => ?_) (fun (hb2 : ¬ ((0 : Int) = 0)) => (by exfalso; omega))
          refine wp_s (pc' := 98) ji_308_97 rfl rfl rfl ?_
          have ef : fR_ n o e o1 o2 q = true := fR_1 (yt1.mp (by omega)) (Or.inl (by omega))
          have et : asT n o e q = true := yt1.mp (by omega)
          have eq9 : rqL PN (m + 1) q = [q] := by show q :: (match nr PN q with | none => [] | some q' => rqL PN m q') = _; rw [hno]
          refine wp_ri ji_308_98 jr_308 rfl ⟨?_, _, _, fl1, V, FI, g1, ?_⟩
          · rw [eq9, List.countP_cons, ef]
            exact congrArg (fun z => some (wp_i z)) (by show _ = c + ((0 + 1 : Nat) : Int); omega)
          · intro z x hx
            rw [eq9] at hx
            rw [List.find?_cons_of_pos et] at hx
            cases hx
            exact g2 z
        · have V := rv_tr V V9 (fun k hk => by rw [List.mem_singleton.mp hk]; exact hM)
          have FI := FI_ef V9.2.1 (by decide) (by decide) tF FI
          show wp_R (d + 1 + 1) 308 92 [some (.ref a), some (wp_i o1), some (wp_i o2), some (wp_i (c + 1)), some (wp_i (all + 1)), some (wp_i 1), some (wp_i k)] [wp_i 1] _ _
          refine wp_s (pc' := 94) (lv' := [some (.ref a), some (wp_i o1), some (wp_i o2), some (wp_i (c + 1)), some (wp_i (all + 1)), some (wp_i 1), some (wp_i k)]) ji_308_92 rfl rfl rfl ?_
          refine wp_goto (t := 12) ji_308_94 rfl ?_
          have ef : fR_ n o e o1 o2 q = true := fR_1 (yt1.mp (by omega)) (Or.inl (by omega))
          have et : asT n o e q = true := yt1.mp (by omega)
          have eq9 : rqL PN (m + 1) q = q :: rqL PN m q1 := by show q :: (match nr PN q with | none => [] | some q' => rqL PN m q') = _; rw [hq1]
          refine wp_mono (ih q1 rl1 tl fl1 h9 (c + 1) (all + 1) _ (by rw [hq1] at hok2; exact hok2) (fun x hx => hgq x (by rw [eq9]; exact List.mem_cons_of_mem _ hx)) V hr1 FI (by omega) (by omega)) ?_
          rintro v h1 ⟨rfl, rl2, tl2, fl2, V2, F2, k1, k2⟩
          rw [eq9, List.countP_cons, ef]
          refine ⟨congrArg (fun z => some (wp_i z)) (by show _ = c + ((_ + 1 : Nat) : Int); omega), rl2, tl2, fl2, V2, F2, fun z => (k1 (by omega)).trans (g1 z), ?_⟩
          intro z x hx
          rw [List.find?_cons_of_pos et] at hx
          cases hx
          rw [k1 (by omega)]
          exact g2 z
      · refine wp_s (pc' := 69) ji_308_68 rfl rfl rfl ?_
        refine wp_s (pc' := 70) ji_308_69 rfl rfl rfl ?_
        refine rv_vc V ji_308_70 jc_308_461 jk_310 (rest := [wp_i c]) rfl (Nat.le_of_ble_eq_true rfl) rfl (by rw [jn_310]; rfl) (by have k := ws_whereX (d := d + 1) V hr hq (w := o1.toNat) (by omega); rw [show ((o1.toNat : Nat) : Int) = o1 by omega] at k; exact k) (fun v h R => ?_)
        obtain ⟨rfl, rfl, wb3⟩ := R
        show wp_R (d + 1 + 1) 308 73 [some (.ref a), some (wp_i o1), some (wp_i o2), some (wp_i c), some (wp_i (all + 1)), some (wp_i 1), some (wp_i k)] [wp_i (((wx_ (rN_ q) o1.toNat : Nat) : Int)), wp_i c] h _
        refine wp_s (pc' := 74) ji_308_73 rfl rfl rfl ?_
        refine wp_s (pc' := 75) ji_308_74 rfl rfl rfl ?_
        refine rv_vc V ji_308_75 jc_308_461 jk_310 (rest := [wp_i (((wx_ (rN_ q) o1.toNat : Nat) : Int)), wp_i c]) rfl (Nat.le_of_ble_eq_true rfl) rfl (by rw [jn_310]; rfl) (by have k := ws_whereX (d := d + 1) V hr hq (w := o2.toNat) (by omega); rw [show ((o2.toNat : Nat) : Int) = o2 by omega] at k; exact k) (fun v h R => ?_)
        obtain ⟨rfl, rfl, wb4⟩ := R
        show wp_R (d + 1 + 1) 308 78 [some (.ref a), some (wp_i o1), some (wp_i o2), some (wp_i c), some (wp_i (all + 1)), some (wp_i 1), some (wp_i k)] [wp_i (((wx_ (rN_ q) o2.toNat : Nat) : Int)), wp_i (((wx_ (rN_ q) o1.toNat : Nat) : Int)), wp_i c] h _
        refine wp_icmp (t := 85) ji_308_78 rfl (by omega) (by omega) (fun (hb5 : (((wx_ (rN_ q) o2.toNat : Nat) : Int) : Int) ≤ (((wx_ (rN_ q) o1.toNat : Nat) : Int))) => ?_) (fun (hb5 : ¬ ((((wx_ (rN_ q) o2.toNat : Nat) : Int) : Int) ≤ (((wx_ (rN_ q) o1.toNat : Nat) : Int)))) => ?_)
        · refine wp_s (pc' := 86) ji_308_85 rfl rfl rfl ?_
          refine wp_iadd (x := c) (y := 0) (z := c) ji_308_86 (by omega) ?_
          refine wp_s (pc' := 88) (lv' := [some (.ref a), some (wp_i o1), some (wp_i o2), some (wp_i c), some (wp_i (all + 1)), some (wp_i 1), some (wp_i k)]) ji_308_87 rfl rfl rfl ?_
          refine wp_s (pc' := 89) ji_308_88 rfl rfl rfl ?_
          refine rv_vc V ji_308_89 jc_308_443 jk_296 (rest := []) rfl (Nat.le_of_ble_eq_true rfl) rfl (by rw [jn_296]; rfl) (ws_nextRow (M := [10069]) (by decide) (rv_rb V) hr) (fun v h9 R => ?_)
          rcases R with ⟨hno, rfl, rfl⟩ | ⟨q1, hq1, rfl, rl1, V9, hr1⟩
          · show wp_R (d + 1 + 1) 308 92 [some (.ref a), some (wp_i o1), some (wp_i o2), some (wp_i c), some (wp_i (all + 1)), some (wp_i 1), some (wp_i k)] [wp_i 0] _ _
            refine wp_s (pc' := 94) (lv' := [some (.ref a), some (wp_i o1), some (wp_i o2), some (wp_i c), some (wp_i (all + 1)), some (wp_i 0), some (wp_i k)]) ji_308_92 rfl rfl rfl ?_
            refine wp_goto (t := 12) ji_308_94 rfl ?_
            refine wp_s (pc' := 14) ji_308_12 rfl rfl rfl ?_
            refine wp_if (t := 97) ji_308_14 rfl (by omega) (fun (hb6 : (0 : Int) = 0) => ?_) (fun (hb6 : ¬ ((0 : Int) = 0)) => (by exfalso; omega))
            refine wp_s (pc' := 98) ji_308_97 rfl rfl rfl ?_
            have ef : fR_ n o e o1 o2 q = false := fR_2 (by omega) (by omega)
            have et : asT n o e q = true := yt1.mp (by omega)
            have eq9 : rqL PN (m + 1) q = [q] := by show q :: (match nr PN q with | none => [] | some q' => rqL PN m q') = _; rw [hno]
            refine wp_ri ji_308_98 jr_308 rfl ⟨?_, _, _, fl1, V, FI, g1, ?_⟩
            · rw [eq9, List.countP_cons, ef]
              exact congrArg (fun z => some (wp_i z)) (by show _ = c + ((0 + 0 : Nat) : Int); omega)
            · intro z x hx
              rw [eq9] at hx
              rw [List.find?_cons_of_pos et] at hx
              cases hx
              exact g2 z
          · have V := rv_tr V V9 (fun k hk => by rw [List.mem_singleton.mp hk]; exact hM)
            have FI := FI_ef V9.2.1 (by decide) (by decide) tF FI
            show wp_R (d + 1 + 1) 308 92 [some (.ref a), some (wp_i o1), some (wp_i o2), some (wp_i c), some (wp_i (all + 1)), some (wp_i 1), some (wp_i k)] [wp_i 1] _ _
            refine wp_s (pc' := 94) (lv' := [some (.ref a), some (wp_i o1), some (wp_i o2), some (wp_i c), some (wp_i (all + 1)), some (wp_i 1), some (wp_i k)]) ji_308_92 rfl rfl rfl ?_
            refine wp_goto (t := 12) ji_308_94 rfl ?_
            have ef : fR_ n o e o1 o2 q = false := fR_2 (by omega) (by omega)
            have et : asT n o e q = true := yt1.mp (by omega)
            have eq9 : rqL PN (m + 1) q = q :: rqL PN m q1 := by show q :: (match nr PN q with | none => [] | some q' => rqL PN m q') = _; rw [hq1]
            refine wp_mono (ih q1 rl1 tl fl1 h9 c (all + 1) _ (by rw [hq1] at hok2; exact hok2) (fun x hx => hgq x (by rw [eq9]; exact List.mem_cons_of_mem _ hx)) V hr1 FI (by omega) (by omega)) ?_
            rintro v h1 ⟨rfl, rl2, tl2, fl2, V2, F2, k1, k2⟩
            rw [eq9, List.countP_cons, ef]
            refine ⟨congrArg (fun z => some (wp_i z)) (by show _ = c + ((_ + 0 : Nat) : Int); omega), rl2, tl2, fl2, V2, F2, fun z => (k1 (by omega)).trans (g1 z), ?_⟩
            intro z x hx
            rw [List.find?_cons_of_pos et] at hx
            cases hx
            rw [k1 (by omega)]
            exact g2 z
        · refine wp_s (pc' := 82) ji_308_81 rfl rfl rfl ?_
          refine wp_goto (t := 86) ji_308_82 rfl ?_
          refine wp_iadd (x := c) (y := 1) (z := c + 1) ji_308_86 (by omega) ?_
          refine wp_s (pc' := 88) (lv' := [some (.ref a), some (wp_i o1), some (wp_i o2), some (wp_i (c + 1)), some (wp_i (all + 1)), some (wp_i 1), some (wp_i k)]) ji_308_87 rfl rfl rfl ?_
          refine wp_s (pc' := 89) ji_308_88 rfl rfl rfl ?_
          refine rv_vc V ji_308_89 jc_308_443 jk_296 (rest := []) rfl (Nat.le_of_ble_eq_true rfl) rfl (by rw [jn_296]; rfl) (ws_nextRow (M := [10069]) (by decide) (rv_rb V) hr) (fun v h9 R => ?_)
          rcases R with ⟨hno, rfl, rfl⟩ | ⟨q1, hq1, rfl, rl1, V9, hr1⟩
          · show wp_R (d + 1 + 1) 308 92 [some (.ref a), some (wp_i o1), some (wp_i o2), some (wp_i (c + 1)), some (wp_i (all + 1)), some (wp_i 1), some (wp_i k)] [wp_i 0] _ _
            refine wp_s (pc' := 94) (lv' := [some (.ref a), some (wp_i o1), some (wp_i o2), some (wp_i (c + 1)), some (wp_i (all + 1)), some (wp_i 0), some (wp_i k)]) ji_308_92 rfl rfl rfl ?_
            refine wp_goto (t := 12) ji_308_94 rfl ?_
            refine wp_s (pc' := 14) ji_308_12 rfl rfl rfl ?_
            refine wp_if (t := 97) ji_308_14 rfl (by omega) (fun (hb7 : (0 : Int) = 0) => ?_) (fun (hb7 : ¬ ((0 : Int) = 0)) => (by exfalso; omega))
            refine wp_s (pc' := 98) ji_308_97 rfl rfl rfl ?_
            have ef : fR_ n o e o1 o2 q = true := fR_1 (yt1.mp (by omega)) (Or.inr (by omega))
            have et : asT n o e q = true := yt1.mp (by omega)
            have eq9 : rqL PN (m + 1) q = [q] := by show q :: (match nr PN q with | none => [] | some q' => rqL PN m q') = _; rw [hno]
            refine wp_ri ji_308_98 jr_308 rfl ⟨?_, _, _, fl1, V, FI, g1, ?_⟩
            · rw [eq9, List.countP_cons, ef]
              exact congrArg (fun z => some (wp_i z)) (by show _ = c + ((0 + 1 : Nat) : Int); omega)
            · intro z x hx
              rw [eq9] at hx
              rw [List.find?_cons_of_pos et] at hx
              cases hx
              exact g2 z
          · have V := rv_tr V V9 (fun k hk => by rw [List.mem_singleton.mp hk]; exact hM)
            have FI := FI_ef V9.2.1 (by decide) (by decide) tF FI
            show wp_R (d + 1 + 1) 308 92 [some (.ref a), some (wp_i o1), some (wp_i o2), some (wp_i (c + 1)), some (wp_i (all + 1)), some (wp_i 1), some (wp_i k)] [wp_i 1] _ _
            refine wp_s (pc' := 94) (lv' := [some (.ref a), some (wp_i o1), some (wp_i o2), some (wp_i (c + 1)), some (wp_i (all + 1)), some (wp_i 1), some (wp_i k)]) ji_308_92 rfl rfl rfl ?_
            refine wp_goto (t := 12) ji_308_94 rfl ?_
            have ef : fR_ n o e o1 o2 q = true := fR_1 (yt1.mp (by omega)) (Or.inr (by omega))
            have et : asT n o e q = true := yt1.mp (by omega)
            have eq9 : rqL PN (m + 1) q = q :: rqL PN m q1 := by show q :: (match nr PN q with | none => [] | some q' => rqL PN m q') = _; rw [hq1]
            refine wp_mono (ih q1 rl1 tl fl1 h9 (c + 1) (all + 1) _ (by rw [hq1] at hok2; exact hok2) (fun x hx => hgq x (by rw [eq9]; exact List.mem_cons_of_mem _ hx)) V hr1 FI (by omega) (by omega)) ?_
            rintro v h1 ⟨rfl, rl2, tl2, fl2, V2, F2, k1, k2⟩
            rw [eq9, List.countP_cons, ef]
            refine ⟨congrArg (fun z => some (wp_i z)) (by show _ = c + ((_ + 1 : Nat) : Int); omega), rl2, tl2, fl2, V2, F2, fun z => (k1 (by omega)).trans (g1 z), ?_⟩
            intro z x hx
            rw [List.find?_cons_of_pos et] at hx
            cases hx
            rw [k1 (by omega)]
            exact g2 z
theorem ws_ordersX {d : Nat} {M : List Nat} (hM : 10069 ∈ M) (hMF : 10072 ∈ M) (hA : 10021 ∉ M) (h6 : 20006 ∉ M) {h0 : mj_H} {a R X A PN F : Nat} (tF : sx_tau[F]? = some 72) {as : List Value} (HA : h0[A]? = some (1000, as)) {n : Nat} {o e : Nat → Nat} (CA : CLA as n PN o e) {o1 o2 : Int} (ho : (o1 = -1 ∧ o2 = -1) ∨ ((0 ≤ o1 ∧ o1 ≤ 5) ∧ 0 ≤ o2 ∧ o2 ≤ 5)) {h : mj_H} {rl tl fl : List Value} (V : rv M h0 h a R X A (PN : Int) rl tl) (FI : FI_ h a F fl) : wp_R (d + 1 + 1) 308 0 [some (.ref a), some (wp_i o1), some (wp_i o2), none, none, none, none] [] h (fun v h1 => v = some (wp_i (((rqL PN 720 q05).countP (fR_ n o e o1 o2) : Nat) : Int)) ∧ ∃ rl' tl' fl', rv M h0 h1 a R X A (PN : Int) rl' tl' ∧ FI_ h1 a F fl' ∧ ∀ x, (rqL PN 720 q05).find? (asT n o e) = some x → ∀ i, i < 6 → fl'[i]? = some (wp_i (x.getD i 0))) := by
  have hP : (0 : Int) ≤ (PN : Int) ∧ (PN : Int) ≤ 6 := V.2.2.2.2.2.2.2.1
  refine wp_s (pc' := 1) ji_308_0 rfl rfl rfl ?_
  refine wp_s (pc' := 2) (lv' := [some (.ref a), some (wp_i o1), some (wp_i o2), some (wp_i 0), none, none, none]) ji_308_1 rfl rfl rfl ?_
  refine wp_s (pc' := 3) ji_308_2 rfl rfl rfl ?_
  refine wp_s (pc' := 5) (lv' := [some (.ref a), some (wp_i o1), some (wp_i o2), some (wp_i 0), some (wp_i 0), none, none]) ji_308_3 rfl rfl rfl ?_
  refine wp_s (pc' := 6) ji_308_5 rfl rfl rfl ?_
  refine rv_vc V ji_308_6 jc_308_440 jk_295 (rest := []) rfl (Nat.le_of_ble_eq_true rfl) rfl (by rw [jn_295]; rfl) (ws_firstRow (M := [10069]) (by decide) (rv_rb V)) (fun v h9 R => ?_)
  obtain ⟨rfl, rl1, V9, hr1⟩ := R
  have V := rv_tr V V9 (fun k hk => by rw [List.mem_singleton.mp hk]; exact hM)
  have FI := FI_ef V9.2.1 (by decide) (by decide) tF FI
  show wp_R (d + 1 + 1) 308 9 [some (.ref a), some (wp_i o1), some (wp_i o2), some (wp_i 0), some (wp_i 0), none, none] [] _ _
  refine wp_s (pc' := 10) ji_308_9 rfl rfl rfl ?_
  refine wp_s (pc' := 12) (lv' := [some (.ref a), some (wp_i o1), some (wp_i o2), some (wp_i 0), some (wp_i 0), some (wp_i 1), none]) ji_308_10 rfl rfl rfl ?_
  refine wp_mono (ox12 hM hMF hA h6 tF HA CA ho 720 q05 rl1 _ fl h9 0 0 none (List.all_eq_true.mp nr_all PN (List.mem_range.mpr (by omega))) (fun x hx => List.all_eq_true.mp (rq_ok ⟨PN, by omega⟩) x hx) V hr1 FI (by omega) (by omega)) ?_
  rintro v h1 ⟨rfl, rl2, tl2, fl2, V2, F2, -, k2⟩
  exact ⟨congrArg (fun z => some (wp_i z)) (Int.zero_add _), rl2, tl2, fl2, V2, F2, k2 rfl⟩
