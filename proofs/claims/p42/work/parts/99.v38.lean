/-! -/
set_option maxRecDepth 100000 in
theorem sq_151 : sh_T[151]? = some (1000, [], 6, 0) := by decide +kernel
set_option maxRecDepth 100000 in
theorem ji_307_0 : mj_ins 307 0 = some (.iload_n 1) := by decide +kernel
set_option maxRecDepth 100000 in
theorem ji_307_1 : mj_ins 307 1 = some (.iconst (-1)) := by decide +kernel
set_option maxRecDepth 100000 in
theorem ji_307_2 : mj_ins 307 2 = some (.if_icmp .lt 13) := by decide +kernel
set_option maxRecDepth 100000 in
theorem ji_307_15 : mj_ins 307 15 = some (.iconst (-1)) := by decide +kernel
set_option maxRecDepth 100000 in
theorem ji_307_16 : mj_ins 307 16 = some (.ireturn) := by decide +kernel
set_option maxRecDepth 100000 in
theorem jr_307 : mj_ret 307 = some .int := by decide +kernel
set_option maxRecDepth 100000 in
theorem ji_307_5 : mj_ins 307 5 = some (.iload_n 1) := by decide +kernel
set_option maxRecDepth 100000 in
theorem ji_307_6 : mj_ins 307 6 = some (.aload_n 0) := by decide +kernel
set_option maxRecDepth 100000 in
theorem ji_307_7 : mj_ins 307 7 = some (.getfield 7) := by decide +kernel
set_option maxRecDepth 100000 in
theorem jf_307_7 : mj_fld 307 7 = some (11, 0, (.array .int), false) := by decide +kernel
set_option maxRecDepth 100000 in
theorem ji_307_10 : mj_ins 307 10 = some (.iconst 1) := by decide +kernel
set_option maxRecDepth 100000 in
theorem ji_307_11 : mj_ins 307 11 = some (.iaload) := by decide +kernel
set_option maxRecDepth 100000 in
theorem ji_307_12 : mj_ins 307 12 = some (.if_icmp .lt 5) := by decide +kernel
set_option maxRecDepth 100000 in
theorem ji_307_17 : mj_ins 307 17 = some (.aload_n 0) := by decide +kernel
set_option maxRecDepth 100000 in
theorem ji_307_18 : mj_ins 307 18 = some (.iconst (-1)) := by decide +kernel
set_option maxRecDepth 100000 in
theorem ji_307_19 : mj_ins 307 19 = some (.iconst (-1)) := by decide +kernel
set_option maxRecDepth 100000 in
theorem ji_307_20 : mj_ins 307 20 = some (.invokevirtual 467) := by decide +kernel
set_option maxRecDepth 100000 in
theorem jc_307_467 : mj_cal 307 467 = some (2, 308, 2) := by decide +kernel
set_option maxRecDepth 100000 in
theorem ji_307_23 : mj_ins 307 23 = some (.istore_n 2) := by decide +kernel
set_option maxRecDepth 100000 in
theorem ji_307_24 : mj_ins 307 24 = some (.iload_n 1) := by decide +kernel
set_option maxRecDepth 100000 in
theorem ji_307_25 : mj_ins 307 25 = some (.iconst (-1)) := by decide +kernel
set_option maxRecDepth 100000 in
theorem ji_307_26 : mj_ins 307 26 = some (.if_icmp .ne 7) := by decide +kernel
set_option maxRecDepth 100000 in
theorem ji_307_33 : mj_ins 307 33 = some (.iload_n 2) := by decide +kernel
set_option maxRecDepth 100000 in
theorem ji_307_34 : mj_ins 307 34 = some (.ifCond .ne 7) := by decide +kernel
set_option maxRecDepth 100000 in
theorem ji_307_41 : mj_ins 307 41 = some (.aload_n 0) := by decide +kernel
set_option maxRecDepth 100000 in
theorem ji_307_42 : mj_ins 307 42 = some (.getfield 59) := by decide +kernel
set_option maxRecDepth 100000 in
theorem jf_307_59 : mj_fld 307 59 = some (11, 30, (.array .int), false) := by decide +kernel
set_option maxRecDepth 100000 in
theorem ji_307_45 : mj_ins 307 45 = some (.iload_n 1) := by decide +kernel
set_option maxRecDepth 100000 in
theorem ji_307_46 : mj_ins 307 46 = some (.iaload) := by decide +kernel
set_option maxRecDepth 100000 in
theorem ji_307_47 : mj_ins 307 47 = some (.ireturn) := by decide +kernel
set_option maxRecDepth 100000 in
theorem ji_307_37 : mj_ins 307 37 = some (.iconst (-1)) := by decide +kernel
set_option maxRecDepth 100000 in
theorem ji_307_38 : mj_ins 307 38 = some (.goto 9) := by decide +kernel
set_option maxRecDepth 100000 in
theorem ji_307_29 : mj_ins 307 29 = some (.iload_n 2) := by decide +kernel
set_option maxRecDepth 100000 in
theorem ji_307_30 : mj_ins 307 30 = some (.goto 17) := by decide +kernel
/-! orders and surely, at the law; laid by program (wp_v38.py) -/
theorem rq_len {P : Nat} : ∀ (m : Nat) (q : List Int), (rqL P m q).length ≤ m
  | 0, _ => Nat.le_refl _
  | m + 1, q => by
    show (q :: (match nr P q with
      | none => []
      | some q' => rqL P m q')).length ≤ m + 1
    rw [List.length_cons]
    cases h : nr P q with
    | none => exact Nat.succ_le_succ (Nat.zero_le _)
    | some q' => exact Nat.succ_le_succ (rq_len m q')
theorem rq_720 {P : Nat} {f : List Int → Bool} : (rqL P 720 q05).countP f ≤ 720 := Nat.le_trans List.countP_le_length (rq_len 720 q05)
theorem fR_m {n : Nat} {o e : Nat → Nat} {o2 : Int} : fR_ n o e (-1) o2 = asT n o e := funext fun q => by
  unfold fR_
  rw [decide_eq_true rfl, Bool.true_or, Bool.and_true]
theorem fR_p {n : Nat} {o e : Nat → Nat} {o1 o2 : Int} (h : 0 ≤ o1) : fR_ n o e o1 o2 = fun q => asT n o e q && decide (wx_ (rN_ q) o1.toNat < wx_ (rN_ q) o2.toNat) := funext fun q => by
  unfold fR_
  rw [decide_eq_false (show ¬ o1 = -1 by omega), Bool.false_or]
def CLR (s : sg_) (n P : Nat) (o e : Nat → Nat) : Prop := (s 139 6 = (n : Int) ∧ s 139 1 = (P : Int)) ∧ n ≤ 10 ∧ P ≤ 6 ∧ ∀ k : Nat, k < n → s 139 (164 + 2 * (k : Int)) = (o k : Int) ∧ s 139 (164 + 2 * (k : Int) + 1) = (e k : Int) ∧ o k < P ∧ e k < P ∧ ¬ o k = e k
theorem cs_elo {h : mj_H} {s : sg_} (C : CS h s) {a : Nat} {q : sh_Q} (ha : 0 < a) (h10 : ¬ scr a) (hq : sh_T[a]? = some q) : ∃ vs, h[a]? = some (q.1, vs) ∧ vs.length = q.2.1.length + q.2.2.1 ∧ ∀ k : Nat, k < vs.length → vs[k]? = some (sh_v (sh_k q k) (s a (k : Int))) ∧ (sh_k q k = 0 → wp_r (s a (k : Int))) := by
  obtain ⟨s1, C, f⟩ := C
  obtain ⟨vs, a1, a2, a3⟩ := C a q ha hq
  refine ⟨vs, a1, a2, fun k hk => ?_⟩
  have := a3 k hk
  rw [f a (k : Int) h10] at this
  exact this
theorem rv_CSo {sl : List Value} {h : mj_H} {B : Int} {s : sg_} (W : WS sl h B s) {n P : Nat} {o e : Nat → Nat} (CR : CLR s n P o e) (M : List Nat) : ∃ rl tl fl, rv M h h 138 148 149 139 (P : Int) rl tl ∧ FI_ h 138 151 fl ∧ ∃ as, h[139]? = some (1000, as) ∧ CLA as n P o e := by
  obtain ⟨I, -, -, C⟩ := W
  obtain ⟨⟨en, eP⟩, hn, hP, hk⟩ := CR
  obtain ⟨fs, f1, fl, f2⟩ := cs_elo C (by decide) (by decide) sq_138
  obtain ⟨as, a1, al, a2⟩ := cs_elo C (by decide) (by decide) sq_139
  obtain ⟨ws, w1, wl, -⟩ := cs_elo C (by decide) (by decide) sq_151
  have fl : fs.length = 31 := fl
  have al : as.length = 6044 := al
  have wl : ws.length = 6 := wl
  obtain ⟨R, X, A, P9, rl, tl, V⟩ := rv_init (M := M) I.1 (a := 138) rfl
  obtain ⟨v1, v2, v3, v4, v5, v6, v7, v8, fs', as', g1, g2, g3, g4, g5, g6, g7, g8, g9⟩ := V
  have f1 : h[138]? = some (11, fs) := f1
  have a1 : h[139]? = some (1000, as) := a1
  have w1 : h[151]? = some (1000, ws) := w1
  rw [f1] at g1
  cases g1
  have h27 : fs[27]? = some (.ref 148) := (f2 27 (by omega)).1
  have h28 : fs[28]? = some (.ref 149) := (f2 28 (by omega)).1
  have h30 : fs[30]? = some (.ref 151) := (f2 30 (by omega)).1
  have h0 : fs[0]? = some (.ref 139) := (f2 0 (by omega)).1
  rw [h27] at g2
  cases g2
  rw [h28] at g3
  cases g3
  rw [h0] at g4
  cases g4
  rw [a1] at g7
  cases g7
  have ea : ∀ k : Nat, k < 6044 → as[k]? = some (wp_i (s 139 (k : Int))) := fun k hk => by
    have e := (a2 k (by omega)).1
    have : sh_k (1000, [], 6044, 0) k = 0 := by
      unfold sh_k
      rw [List.getElem?_nil]
    rw [show sh_k _ _ = 0 from this] at e
    exact e
  have e1 : as[1]? = some (wp_i (s 139 1)) := ea 1 (by decide)
  have eP9 : P9 = s 139 1 := wp_inj (by omega) (by omega) (Option.some.inj (g9.symm.trans e1))
  rw [eP] at eP9
  subst eP9
  refine ⟨rl, tl, ws, ⟨v1, v2, v3, v4, v5, v6, v7, v8, fs, as, f1, h27, h28, h0, g5, g6, a1, g8, g9⟩, ⟨⟨fs, f1, h30⟩, w1, wl⟩, as, a1, (ea 6 (by decide)).trans (by rw [show ((6 : Nat) : Int) = 6 from rfl, en]), hn, hP, fun k hk9 => ?_⟩
  obtain ⟨k1, k2, k3⟩ := hk k hk9
  refine ⟨(ea (164 + 2 * k) (by omega)).trans ?_, (ea (164 + 2 * k + 1) (by omega)).trans ?_, k3⟩
  · rw [show ((164 + 2 * k : Nat) : Int) = 164 + 2 * (k : Int) by omega, k1]
  · rw [show ((164 + 2 * k + 1 : Nat) : Int) = 164 + 2 * (k : Int) + 1 by omega, k2]
def q_153 (s : sg_) (i : Int) : Int := orV (s 65 3).toNat (s 48 1).toNat (fun k => (s 66 (k : Int)).toNat) (fun k => (s 67 (k : Int)).toNat) i
def q_158 (s : sg_) (a b : Int) : Int := suV (s 65 3).toNat (s 48 1).toNat (fun k => (s 66 (k : Int)).toNat) (fun k => (s 67 (k : Int)).toNat) a b
theorem q15_f {s s1 : sg_} (f : FQ s s1) : q_153 s1 = q_153 s ∧ q_158 s1 = q_158 s := by
  have e1 : s1 65 3 = s 65 3 := f _ _ (by decide)
  have e2 : s1 48 1 = s 48 1 := f _ _ (by decide)
  have e3 : (fun k : Nat => (s1 66 (k : Int)).toNat) = fun k : Nat => (s 66 (k : Int)).toNat := funext fun k => by rw [f 66 _ (by decide)]
  have e4 : (fun k : Nat => (s1 67 (k : Int)).toNat) = fun k : Nat => (s 67 (k : Int)).toNat := funext fun k => by rw [f 67 _ (by decide)]
  refine ⟨funext fun i => ?_, funext fun a => funext fun b => ?_⟩
  · unfold q_153
    rw [e1, e2, e3, e4]
  · unfold q_158
    rw [e1, e2, e3, e4]
theorem CLM_of {tc : tcs} {tr : Int → crs} {s : sg_} {M : Int} (L : LAWS tc tr s M) (H : HT s) : CLM s (s 65 3).toNat (s 48 1).toNat (fun k => (s 66 (k : Int)).toNat) (fun k => (s 67 (k : Int)).toNat) := by
  have b := (INV_EXn L.1).2.1
  have i1 := (INV_NV L.1).g.1.2.1
  refine ⟨⟨by omega, by omega⟩, by omega, by omega, fun k hk => ?_⟩
  obtain ⟨⟨a1, a2⟩, ⟨b1, b2⟩, c⟩ := H.1 (k : Int) (by omega) (by show (k : Int) < s 65 3; omega)
  have a1 : 0 ≤ s 66 (k : Int) := a1
  have a2 : s 66 (k : Int) < s 48 1 := a2
  have b1 : 0 ≤ s 67 (k : Int) := b1
  have b2 : s 67 (k : Int) < s 48 1 := b2
  have c : ¬ s 66 (k : Int) = s 67 (k : Int) := c
  (try dsimp only)
  omega
theorem CLR_of {tc : tcs} {tr : Int → crs} {s : sg_} {M : Int} (L : LAWS tc tr s M) (H : HT s) : CLR s (s 65 3).toNat (s 48 1).toNat (fun k => (s 66 (k : Int)).toNat) (fun k => (s 67 (k : Int)).toNat) := by
  obtain ⟨⟨en, eP⟩, hn, hP, hk⟩ := CLM_of L H
  have X := L.1.1.2.2.2.1
  have x1 : s 139 6 = s 65 3 := X.2.2.1
  have x2 : s 139 1 = s 48 1 := L.1.1.2.1.1.2
  refine ⟨⟨x1.trans en, x2.trans eP⟩, hn, hP, fun k hk9 => ?_⟩
  obtain ⟨k1, k2, k3⟩ := hk k hk9
  obtain ⟨y1, y2⟩ := X.2.2.2 (k : Int) (by omega) (by show (k : Int) < s 65 3; omega)
  have y1 : s 139 (164 + 2 * (k : Int)) = s 66 (k : Int) := y1
  have y2 : s 139 (164 + 2 * (k : Int) + 1) = s 67 (k : Int) := y2
  exact ⟨y1.trans k1, y2.trans k2, k3⟩
theorem uc_307 {nn d : Nat} {sl : List Value} {h : mj_H} {B : Int} {s : sg_} (W : WS sl h B s) {n P : Nat} {o e : Nat → Nat} (CR : CLR s n P o e) {i : Int} (hi : wp_r i) : wl_R nn (d + 3) 307 0 [some (.ref 138), some (wp_i i), none] [] h (fun v1 h1 => v1 = some (wp_i (orV n P o e i))) := by
  have C := W.2.2.2
  obtain ⟨⟨en, eP⟩, hn, hP, hk⟩ := id CR
  have hk2 : ∀ k, k < n → o k < P ∧ e k < P ∧ ¬ o k = e k := fun k h9 => (hk k h9).2.2
  have w720 := wy_720 (T := tT n o e) hP (show 2 ^ P - 1 < 64 by have := p2_64 hP; omega)
  refine wl_s (pc' := 1) ji_307_0 rfl rfl rfl ?_
  refine wl_s (pc' := 2) ji_307_1 rfl rfl rfl ?_
  refine wl_icmp (t := 15) ji_307_2 rfl (by omega) (by omega) (fun (hb1 : (i : Int) < (-1)) => ?_) (fun (hb1 : ¬ ((i : Int) < (-1))) => ?_)
  · refine wl_s (pc' := 16) ji_307_15 rfl rfl rfl ?_
    exact wl_ri ji_307_16 jr_307 rfl (congrArg (fun z => some (wp_i z)) ((if_neg (by omega)).trans (if_neg (by omega))).symm)
  · refine wl_s (pc' := 6) ji_307_5 rfl rfl rfl ?_
    refine wl_s (pc' := 7) ji_307_6 rfl rfl rfl ?_
    refine cs_gr (r := 139) (k := 0) C (by decide) sq_138 rfl ji_307_7 jf_307_7 ?_
    refine wl_s (pc' := 11) ji_307_10 rfl rfl rfl ?_
    refine cs_l (x := 1) C (by decide) (by decide) sq_139 (by omega) ji_307_11 (fun ld20 ld21 ld22 => ?_)
    rw [eP] at ld22 ⊢
    refine wl_icmp (t := 17) ji_307_12 rfl (by omega) (by omega) (fun (hb3 : (i : Int) < ((P : Int))) => ?_) (fun (hb3 : ¬ ((i : Int) < ((P : Int)))) => ?_)
    · refine wl_s (pc' := 18) ji_307_17 rfl rfl rfl ?_
      refine wl_s (pc' := 19) ji_307_18 rfl rfl rfl ?_
      refine wl_s (pc' := 20) ji_307_19 rfl rfl rfl ?_
      obtain ⟨rl, tl, fl, V, FI, as, HA, CA⟩ := rv_CSo W CR [10069, 10072]
      obtain ⟨qf, hqf⟩ := cs_c C (by decide) sq_138
      refine wl_vc (d := d + 2) (as := [.ref 138, wp_i (-1), wp_i (-1)]) (rest := []) ji_307_20 jc_307_467 rfl hqf jk_308.symm (Nat.le_of_ble_eq_true rfl) rfl (by rw [jn_308]; rfl) (wp_wl (ws_ordersX (d := d) (by decide) (by decide) (by decide) (by decide) (F := 151) (by decide) HA CA (o1 := -1) (o2 := -1) (by omega) V FI)) (fun v1 h1 R => ?_)
      obtain ⟨rfl, rl, tl, fl, V, FI, fst⟩ := R
      rw [fR_m, rq_cnt hP hk2]
      show wl_R _ _ 307 23 [some (.ref 138), some (wp_i i), none] [wp_i (((wy (tT n o e) P 64 (2 ^ P - 1) : Nat) : Int))] h1 _
      refine wl_s (pc' := 24) (lv' := [some (.ref 138), some (wp_i i), some (wp_i (((wy (tT n o e) P 64 (2 ^ P - 1) : Nat) : Int)))]) ji_307_23 rfl rfl rfl ?_
      refine wl_s (pc' := 25) ji_307_24 rfl rfl rfl ?_
      refine wl_s (pc' := 26) ji_307_25 rfl rfl rfl ?_
      refine wl_icmp (t := 33) ji_307_26 rfl (by omega) (by omega) (fun (hb4 : ¬ (i : Int) = (-1)) => ?_) (fun (hb4 : ¬ (¬ (i : Int) = (-1))) => ?_)
      · refine wl_s (pc' := 34) ji_307_33 rfl rfl rfl ?_
        refine wl_if (t := 41) ji_307_34 rfl (by omega) (fun (hb5 : ¬ (((wy (tT n o e) P 64 (2 ^ P - 1) : Nat) : Int) : Int) = 0) => ?_) (fun (hb5 : ¬ (¬ (((wy (tT n o e) P 64 (2 ^ P - 1) : Nat) : Int) : Int) = 0)) => ?_)
        · refine wl_s (pc' := 42) ji_307_41 rfl rfl rfl ?_
          obtain ⟨⟨fs9, f91, f92⟩, f93, f94⟩ := FI
          refine wl_gf ji_307_42 jf_307_59 f91 f92 ?_
          refine wl_s (pc' := 46) ji_307_45 rfl rfl rfl ?_
          obtain ⟨q9, q91, q92⟩ := rq_fst hP hk2 (by omega)
          have e9 : fl[i.toNat]? = some (wp_i (((lo_ (tT n o e) (gk (tT n o e) P i.toNat) P).getD 0 : Nat) : Int)) := (fst q9 q91 i.toNat (by omega)).trans (by rw [q92 i.toNat (by omega)])
          have l6 := lo_6 (T := tT n o e) (c := gk (tT n o e) P i.toNat) hP
          refine wl_ial (x := i) ji_307_46 f93 (by omega) (by omega) (by omega) e9 ?_
          exact wl_ri ji_307_47 jr_307 rfl (congrArg (fun z => some (wp_i z)) ((if_neg (by omega)).trans (if_pos (by omega))).symm)
        · refine wl_s (pc' := 38) ji_307_37 rfl rfl rfl ?_
          refine wl_goto (t := 47) ji_307_38 rfl ?_
          exact wl_ri ji_307_47 jr_307 rfl (congrArg (fun z => some (wp_i z)) ((if_neg (by omega)).trans (if_neg (by omega))).symm)
      · refine wl_s (pc' := 30) ji_307_29 rfl rfl rfl ?_
        refine wl_goto (t := 47) ji_307_30 rfl ?_
        exact wl_ri ji_307_47 jr_307 rfl (congrArg (fun z => some (wp_i z)) (if_pos (by omega)).symm)
    · refine wl_s (pc' := 16) ji_307_15 rfl rfl rfl ?_
      exact wl_ri ji_307_16 jr_307 rfl (congrArg (fun z => some (wp_i z)) ((if_neg (by omega)).trans (if_neg (by omega))).symm)
theorem su_m {n P : Nat} {o e : Nat → Nat} (hP : P ≤ 6) (hk : ∀ k, k < n → o k < P ∧ e k < P ∧ ¬ o k = e k) {a b : Nat} (ha : a < P) (hb : b < P) (hab : ¬ a = b) (h0 : ¬ wy (tT n o e) P 64 (2 ^ P - 1) = 0) : (rqL P 720 q05).countP (fun q => asT n o e q && decide (wx_ (rN_ q) a < wx_ (rN_ q) b)) = wy (tT n o e) P 64 (2 ^ P - 1) ↔ bt_ (tnm (fun k => tk_ o e k n) (tk_ o e b n) 6) a = 1 := by
  have ho : ∀ k, k < n → o k < 6 := fun k h9 => by have := (hk k h9).1; omega
  rw [rq_hb hP hk ha hb, ← lx_cnt hP]
  rw [← lx_cnt hP] at h0
  have k := sur_m (T := tT n o e) (tm := (fun k => tk_ o e k n)) (fun k x _ => tkx_t n) (fun k _ => tk_64 n ho) hP ha hb hab h0
  refine k.trans ⟨fun z => ?_, fun z => bt_1 z⟩
  unfold bt_
  exact if_pos z
theorem uc_311 {nn d : Nat} {sl : List Value} {h : mj_H} {B : Int} {s : sg_} (W : WS sl h B s) {n P : Nat} {o e : Nat → Nat} (CR : CLR s n P o e) {a b : Int} (ha : wp_r a) (hb : wp_r b) : wl_R nn (d + 3) 311 0 [some (.ref 138), some (wp_i a), some (wp_i b), none] [] h (fun v1 h1 => v1 = some (wp_i (suV n P o e a b))) := by
  have C := W.2.2.2
  obtain ⟨⟨en, eP⟩, hn, hP, hk⟩ := id CR
  have hk2 : ∀ k, k < n → o k < P ∧ e k < P ∧ ¬ o k = e k := fun k h9 => (hk k h9).2.2
  have w720 := wy_720 (T := tT n o e) hP (show 2 ^ P - 1 < 64 by have := p2_64 hP; omega)
  refine wl_s (pc' := 1) ji_311_0 rfl rfl rfl ?_
  refine wl_s (pc' := 2) ji_311_1 rfl rfl rfl ?_
  obtain ⟨q2, hq2⟩ := cs_c C (by decide) sq_138
  refine wl_vc (d := d + 2) (as := [.ref 138, wp_i a]) (rest := []) ji_311_2 jc_311_345 rfl hq2 jk_247.symm (Nat.le_of_ble_eq_true rfl) rfl (by rw [jn_247]; rfl) (uc_247 (d := d + 1) C (by omega) (w := a) ha) (fun v1 h1 R => ?_)
  obtain ⟨ee, y3, rfl, hy3a, hy3b⟩ := R
  rw [ee]
  clear ee
  show wl_R _ _ 311 5 [some (.ref 138), some (wp_i a), some (wp_i b), none] [wp_i y3] _ _
  refine wl_if (t := 21) ji_311_5 rfl (by omega) (fun (hb4 : (y3 : Int) = 0) => ?_) (fun (hb4 : ¬ ((y3 : Int) = 0)) => ?_)
  · refine wl_s (pc' := 22) ji_311_21 rfl rfl rfl ?_
    exact wl_ri ji_311_22 jr_311 rfl (congrArg (fun z => some (wp_i z)) (if_neg (by omega)).symm)
  · refine wl_s (pc' := 9) ji_311_8 rfl rfl rfl ?_
    refine wl_s (pc' := 10) ji_311_9 rfl rfl rfl ?_
    obtain ⟨q6, hq6⟩ := cs_c C (by decide) sq_138
    refine wl_vc (d := d + 2) (as := [.ref 138, wp_i b]) (rest := []) ji_311_10 jc_311_345 rfl hq6 jk_247.symm (Nat.le_of_ble_eq_true rfl) rfl (by rw [jn_247]; rfl) (uc_247 (d := d + 1) C (by omega) (w := b) hb) (fun v1 h5 R => ?_)
    obtain ⟨ee, y7, rfl, hy7a, hy7b⟩ := R
    rw [ee]
    clear ee
    show wl_R _ _ 311 13 [some (.ref 138), some (wp_i a), some (wp_i b), none] [wp_i y7] _ _
    refine wl_if (t := 21) ji_311_13 rfl (by omega) (fun (hb8 : (y7 : Int) = 0) => ?_) (fun (hb8 : ¬ ((y7 : Int) = 0)) => ?_)
    · refine wl_s (pc' := 22) ji_311_21 rfl rfl rfl ?_
      exact wl_ri ji_311_22 jr_311 rfl (congrArg (fun z => some (wp_i z)) (if_neg (by omega)).symm)
    · refine wl_s (pc' := 17) ji_311_16 rfl rfl rfl ?_
      refine wl_s (pc' := 18) ji_311_17 rfl rfl rfl ?_
      refine wl_icmp (t := 23) ji_311_18 rfl (by omega) (by omega) (fun (hb9 : ¬ (a : Int) = b) => ?_) (fun (hb9 : ¬ (¬ (a : Int) = b)) => ?_)
      · refine wl_s (pc' := 24) ji_311_23 rfl rfl rfl ?_
        refine wl_s (pc' := 25) ji_311_24 rfl rfl rfl ?_
        refine wl_s (pc' := 26) ji_311_25 rfl rfl rfl ?_
        obtain ⟨rl, tl, fl, V, FI, as, HA, CA⟩ := rv_CSo W CR [10069, 10072]
        obtain ⟨qf, hqf⟩ := cs_c C (by decide) sq_138
        refine wl_vc (d := d + 2) (as := [.ref 138, wp_i (-1), wp_i (-1)]) (rest := []) ji_311_26 jc_311_467 rfl hqf jk_308.symm (Nat.le_of_ble_eq_true rfl) rfl (by rw [jn_308]; rfl) (wp_wl (ws_ordersX (d := d) (by decide) (by decide) (by decide) (by decide) (F := 151) (by decide) HA CA (o1 := -1) (o2 := -1) (by omega) V FI)) (fun v1 h1 R => ?_)
        obtain ⟨rfl, rl, tl, fl, V, FI, fst⟩ := R
        rw [fR_m, rq_cnt hP hk2]
        show wl_R _ _ 311 29 [some (.ref 138), some (wp_i a), some (wp_i b), none] [wp_i (((wy (tT n o e) P 64 (2 ^ P - 1) : Nat) : Int))] h1 _
        refine wl_s (pc' := 30) (lv' := [some (.ref 138), some (wp_i a), some (wp_i b), some (wp_i (((wy (tT n o e) P 64 (2 ^ P - 1) : Nat) : Int)))]) ji_311_29 rfl rfl rfl ?_
        refine wl_s (pc' := 31) ji_311_30 rfl rfl rfl ?_
        refine wl_if (t := 38) ji_311_31 rfl (by omega) (fun (hb10 : ¬ (((wy (tT n o e) P 64 (2 ^ P - 1) : Nat) : Int) : Int) = 0) => ?_) (fun (hb10 : ¬ (¬ (((wy (tT n o e) P 64 (2 ^ P - 1) : Nat) : Int) : Int) = 0)) => ?_)
        · refine wl_s (pc' := 39) ji_311_38 rfl rfl rfl ?_
          refine wl_s (pc' := 40) ji_311_39 rfl rfl rfl ?_
          refine wl_s (pc' := 41) ji_311_40 rfl rfl rfl ?_
          obtain ⟨⟨qf, hqf, -⟩, -⟩ := id FI
          refine wl_vc (d := d + 2) (as := [.ref 138, wp_i a, wp_i b]) (rest := []) ji_311_41 jc_311_467 rfl hqf jk_308.symm (Nat.le_of_ble_eq_true rfl) rfl (by rw [jn_308]; rfl) (wp_wl (ws_ordersX (d := d) (by decide) (by decide) (by decide) (by decide) (F := 151) (by decide) HA CA (o1 := a) (o2 := b) (by omega) V FI)) (fun v1 h2 R => ?_)
          obtain ⟨rfl, rl, tl, fl, V, FI, fst⟩ := R
          rw [fR_p (by omega)]
          have c720 := rq_720 (P := P) (f := fun q => asT n o e q && decide (wx_ (rN_ q) a.toNat < wx_ (rN_ q) b.toNat))
          show wl_R _ _ 311 44 [some (.ref 138), some (wp_i a), some (wp_i b), some (wp_i (((wy (tT n o e) P 64 (2 ^ P - 1) : Nat) : Int)))] [wp_i ((((rqL P 720 q05).countP (fun q => asT n o e q && decide (wx_ (rN_ q) a.toNat < wx_ (rN_ q) b.toNat)) : Nat) : Int))] h2 _
          refine wl_s (pc' := 45) ji_311_44 rfl rfl rfl ?_
          refine wl_icmp (t := 52) ji_311_45 rfl (by omega) (by omega) (fun (hb11 : ¬ ((((rqL P 720 q05).countP (fun q => asT n o e q && decide (wx_ (rN_ q) a.toNat < wx_ (rN_ q) b.toNat)) : Nat) : Int) : Int) = (((wy (tT n o e) P 64 (2 ^ P - 1) : Nat) : Int))) => ?_) (fun (hb11 : ¬ (¬ ((((rqL P 720 q05).countP (fun q => asT n o e q && decide (wx_ (rN_ q) a.toNat < wx_ (rN_ q) b.toNat)) : Nat) : Int) : Int) = (((wy (tT n o e) P 64 (2 ^ P - 1) : Nat) : Int)))) => ?_)
          · refine wl_s (pc' := 53) ji_311_52 rfl rfl rfl ?_
            exact wl_ri ji_311_53 jr_311 rfl (congrArg (fun z => some (wp_i z)) ((if_pos (by omega)).trans (by have hs := su_m hP hk2 (a := a.toNat) (b := b.toNat) (by omega) (by omega) (by omega) (by omega); have hb9 := btx_b (tnm (fun k => tk_ o e k n) (tk_ o e b.toNat n) 6) a.toNat; have hz : ¬ bt_ (tnm (fun k => tk_ o e k n) (tk_ o e b.toNat n) 6) a.toNat = 1 := fun z => (by have := hs.mpr z; omega); omega)).symm)
          · refine wl_s (pc' := 49) ji_311_48 rfl rfl rfl ?_
            refine wl_goto (t := 53) ji_311_49 rfl ?_
            exact wl_ri ji_311_53 jr_311 rfl (congrArg (fun z => some (wp_i z)) ((if_pos (by omega)).trans (by have hs := su_m hP hk2 (a := a.toNat) (b := b.toNat) (by omega) (by omega) (by omega) (by omega); have hb9 := btx_b (tnm (fun k => tk_ o e k n) (tk_ o e b.toNat n) 6) a.toNat; have hz := hs.mp (by omega); omega)).symm)
        · refine wl_s (pc' := 35) ji_311_34 rfl rfl rfl ?_
          refine wl_goto (t := 53) ji_311_35 rfl ?_
          exact wl_ri ji_311_53 jr_311 rfl (congrArg (fun z => some (wp_i z)) (if_neg (by omega)).symm)
      · refine wl_s (pc' := 22) ji_311_21 rfl rfl rfl ?_
        exact wl_ri ji_311_22 jr_311 rfl (congrArg (fun z => some (wp_i z)) (if_neg (by omega)).symm)
theorem tq_153 (AM : lw_AM) {sl : List Value} {h : mj_H} {B : Int} {s : sg_} {tc : tcs} {tr : Int → crs} {M : Int} (L : LAWS tc tr s M) {a : Int} (ra : wp_r a) (hMM : M ≤ 900000000) (H : HT s) (W : WS sl h B s) (hB : 0 ≤ B ∧ B ≤ 130000000) : wp_R 1199 153 0 [some (.ref 9), some (wp_i a), none, none] [] h (fun v h1 => ∃ s1, v = some (wp_i (q_153 s1 a)) ∧ WS sl h1 (B + (0 : Nat)) s1 ∧ LAWS tc tr s1 M ∧ FQ s s1) := by
  refine wp_mono (ws_qv (n := 0) W (AM 1199 153 sx_K153 rfl) (vs := [.ref 9, wp_i a]) ⟨⟨9, rfl, rfl⟩, ⟨_, rfl, (sx_r32 _).1, (sx_r32 _).2⟩, trivial⟩ (show (3 : Int) + 0 ≤ ((1199 : Nat) : Int) by decide) (by decide) (by omega) (by rw [jn_153]; rfl) (by decide +kernel) (by decide) (fun nn => uc_153 (d := 1196) W.2.2.2 (CLM_of L H) ra)) ?_
  rintro v h1 ⟨e, s1, W1, f⟩
  exact ⟨s1, by rw [(q15_f (FQ_q f)).1]; exact e, W1, LAWS_q L f, FQ_q f⟩
theorem tq_158 (AM : lw_AM) {sl : List Value} {h : mj_H} {B : Int} {s : sg_} {tc : tcs} {tr : Int → crs} {M : Int} (L : LAWS tc tr s M) {a b : Int} (ra : wp_r a) (rb : wp_r b) (hMM : M ≤ 900000000) (H : HT s) (W : WS sl h B s) (hB : 0 ≤ B ∧ B ≤ 130000000) : wp_R 1199 158 0 [some (.ref 9), some (wp_i a), some (wp_i b), none] [] h (fun v h1 => ∃ s1, v = some (wp_i (q_158 s1 a b)) ∧ WS sl h1 (B + (0 : Nat)) s1 ∧ LAWS tc tr s1 M ∧ FQ s s1) := by
  refine wp_mono (ws_qv (n := 0) W (AM 1199 158 sx_K158 rfl) (vs := [.ref 9, wp_i a, wp_i b]) ⟨⟨9, rfl, rfl⟩, ⟨_, rfl, (sx_r32 _).1, (sx_r32 _).2⟩, ⟨_, rfl, (sx_r32 _).1, (sx_r32 _).2⟩, trivial⟩ (show (2 : Int) + 0 ≤ ((1199 : Nat) : Int) by decide) (by decide) (by omega) (by rw [jn_158]; rfl) (by decide +kernel) (by decide) (fun nn => uc_158 (d := 1196) W.2.2.2 (CLM_of L H) ra rb)) ?_
  rintro v h1 ⟨e, s1, W1, f⟩
  exact ⟨s1, by rw [(q15_f (FQ_q f)).2]; exact e, W1, LAWS_q L f, FQ_q f⟩
theorem tq_307 (AM : lw_AM) {sl : List Value} {h : mj_H} {B : Int} {s : sg_} {tc : tcs} {tr : Int → crs} {M : Int} (L : LAWS tc tr s M) {a : Int} (ra : wp_r a) (hMM : M ≤ 900000000) (H : HT s) (W : WS sl h B s) (hB : 0 ≤ B ∧ B ≤ 130000000) : wp_R 1199 307 0 [some (.ref 138), some (wp_i a), none] [] h (fun v h1 => v = some (wp_i (q_153 s a)) ∧ ∃ s1, WS sl h1 (B + (0 : Nat)) s1 ∧ LAWS tc tr s1 M ∧ FQ s s1) := by
  refine wp_mono (ws_qv (n := 0) W (AM 1199 307 sx_K307 rfl) (vs := [.ref 138, wp_i a]) ⟨⟨138, rfl, rfl⟩, ⟨_, rfl, (sx_r32 _).1, (sx_r32 _).2⟩, trivial⟩ (show (10 : Int) + 0 ≤ ((1199 : Nat) : Int) by decide) (by decide) (by omega) (by rw [jn_307]; rfl) (by decide +kernel) (by decide) (fun nn => uc_307 (d := 1196) W (CLR_of L H) ra)) ?_
  rintro v h1 ⟨e, s1, W1, f⟩
  exact ⟨e, s1, W1, LAWS_q L f, FQ_q f⟩
theorem tq_311 (AM : lw_AM) {sl : List Value} {h : mj_H} {B : Int} {s : sg_} {tc : tcs} {tr : Int → crs} {M : Int} (L : LAWS tc tr s M) {a b : Int} (ra : wp_r a) (rb : wp_r b) (hMM : M ≤ 900000000) (H : HT s) (W : WS sl h B s) (hB : 0 ≤ B ∧ B ≤ 130000000) : wp_R 1199 311 0 [some (.ref 138), some (wp_i a), some (wp_i b), none] [] h (fun v h1 => v = some (wp_i (q_158 s a b)) ∧ ∃ s1, WS sl h1 (B + (0 : Nat)) s1 ∧ LAWS tc tr s1 M ∧ FQ s s1) := by
  refine wp_mono (ws_qv (n := 0) W (AM 1199 311 sx_K311 rfl) (vs := [.ref 138, wp_i a, wp_i b]) ⟨⟨138, rfl, rfl⟩, ⟨_, rfl, (sx_r32 _).1, (sx_r32 _).2⟩, ⟨_, rfl, (sx_r32 _).1, (sx_r32 _).2⟩, trivial⟩ (show (9 : Int) + 0 ≤ ((1199 : Nat) : Int) by decide) (by decide) (by omega) (by rw [jn_311]; rfl) (by decide +kernel) (by decide) (fun nn => uc_311 (d := 1196) W (CLR_of L H) ra rb)) ?_
  rintro v h1 ⟨e, s1, W1, f⟩
  exact ⟨e, s1, W1, LAWS_q L f, FQ_q f⟩
