/-! the reference's reader: a law; laid by program (wp_cl.py) -/
set_option maxRecDepth 100000 in
theorem ji_194_20 : mj_ins 194 20 = some (.aload_n 0) := by decide +kernel
set_option maxRecDepth 100000 in
theorem ji_194_21 : mj_ins 194 21 = some (.getfield 180) := by decide +kernel
set_option maxRecDepth 100000 in
theorem jf_194_180 : mj_fld 194 180 = some (11, 19, .boolean, true) := by decide +kernel
set_option maxRecDepth 100000 in
theorem ji_194_24 : mj_ins 194 24 = some (.ifCond .eq 10) := by decide +kernel
set_option maxRecDepth 100000 in
theorem ji_194_34 : mj_ins 194 34 = some (.aload_n 0) := by decide +kernel
set_option maxRecDepth 100000 in
theorem ji_194_35 : mj_ins 194 35 = some (.invokevirtual 220) := by decide +kernel
set_option maxRecDepth 100000 in
theorem jc_194_220 : mj_cal 194 220 = some (2, 208, 0) := by decide +kernel
set_option maxRecDepth 100000 in
theorem jk_208 : mj_cls 208 = 11 := by decide +kernel
set_option maxRecDepth 100000 in
theorem jn_208 : mj_nl 208 = 2 := by decide +kernel
set_option maxRecDepth 100000 in
theorem ji_194_38 : mj_ins 194 38 = some (.istore_n 2) := by decide +kernel
set_option maxRecDepth 100000 in
theorem ji_194_39 : mj_ins 194 39 = some (.iload_n 2) := by decide +kernel
set_option maxRecDepth 100000 in
theorem ji_194_40 : mj_ins 194 40 = some (.ifCond .le 5) := by decide +kernel
set_option maxRecDepth 100000 in
theorem ji_194_43 : mj_ins 194 43 = some (.iload_n 2) := by decide +kernel
set_option maxRecDepth 100000 in
theorem ji_194_44 : mj_ins 194 44 = some (.ireturn) := by decide +kernel
set_option maxRecDepth 100000 in
theorem jr_194 : mj_ret 194 = some .int := by decide +kernel
set_option maxRecDepth 100000 in
theorem ji_194_45 : mj_ins 194 45 = some (.iload_n 2) := by decide +kernel
set_option maxRecDepth 100000 in
theorem ji_194_46 : mj_ins 194 46 = some (.ifCond .ne 6) := by decide +kernel
set_option maxRecDepth 100000 in
theorem ji_194_49 : mj_ins 194 49 = some (.goto (-29)) := by decide +kernel
set_option maxRecDepth 100000 in
theorem ji_194_27 : mj_ins 194 27 = some (.aload_n 0) := by decide +kernel
set_option maxRecDepth 100000 in
theorem ji_194_28 : mj_ins 194 28 = some (.invokevirtual 217) := by decide +kernel
set_option maxRecDepth 100000 in
theorem jc_194_217 : mj_cal 194 217 = some (2, 195, 0) := by decide +kernel
set_option maxRecDepth 100000 in
theorem jk_195 : mj_cls 195 = 11 := by decide +kernel
set_option maxRecDepth 100000 in
theorem jn_195 : mj_nl 195 = 3 := by decide +kernel
set_option maxRecDepth 100000 in
theorem ji_194_31 : mj_ins 194 31 = some (.goto 7) := by decide +kernel
set_option maxRecDepth 100000 in
theorem ji_194_52 : mj_ins 194 52 = some (.aload_n 0) := by decide +kernel
set_option maxRecDepth 100000 in
theorem ji_194_53 : mj_ins 194 53 = some (.invokevirtual 163) := by decide +kernel
set_option maxRecDepth 100000 in
theorem jc_194_163 : mj_cal 194 163 = some (2, 198, 0) := by decide +kernel
set_option maxRecDepth 100000 in
theorem ji_194_56 : mj_ins 194 56 = some (.ifCond .ge 14) := by decide +kernel
set_option maxRecDepth 100000 in
theorem ji_194_70 : mj_ins 194 70 = some (.iconst 1) := by decide +kernel
set_option maxRecDepth 100000 in
theorem ji_194_71 : mj_ins 194 71 = some (.ireturn) := by decide +kernel
set_option maxRecDepth 100000 in
theorem ji_194_59 : mj_ins 194 59 = some (.iload_n 1) := by decide +kernel
set_option maxRecDepth 100000 in
theorem ji_194_60 : mj_ins 194 60 = some (.ifCond .eq 12) := by decide +kernel
set_option maxRecDepth 100000 in
theorem ji_194_72 : mj_ins 194 72 = some (.aload_n 0) := by decide +kernel
set_option maxRecDepth 100000 in
theorem ji_194_73 : mj_ins 194 73 = some (.iconst 1) := by decide +kernel
set_option maxRecDepth 100000 in
theorem ji_194_74 : mj_ins 194 74 = some (.invokevirtual 183) := by decide +kernel
set_option maxRecDepth 100000 in
theorem jc_194_183 : mj_cal 194 183 = some (2, 202, 1) := by decide +kernel
set_option maxRecDepth 100000 in
theorem ji_194_77 : mj_ins 194 77 = some (.iconst 0) := by decide +kernel
set_option maxRecDepth 100000 in
theorem ji_194_78 : mj_ins 194 78 = some (.ireturn) := by decide +kernel
set_option maxRecDepth 100000 in
theorem ji_194_63 : mj_ins 194 63 = some (.aload_n 0) := by decide +kernel
set_option maxRecDepth 100000 in
theorem ji_194_64 : mj_ins 194 64 = some (.invokevirtual 196) := by decide +kernel
set_option maxRecDepth 100000 in
theorem jc_194_196 : mj_cal 194 196 = some (2, 199, 0) := by decide +kernel
set_option maxRecDepth 100000 in
theorem ji_194_67 : mj_ins 194 67 = some (.ifCond .ne 5) := by decide +kernel
set_option maxRecDepth 100000 in
theorem ji_194_0 : mj_ins 194 0 = some (.aload_n 0) := by decide +kernel
set_option maxRecDepth 100000 in
theorem ji_194_1 : mj_ins 194 1 = some (.iconst 0) := by decide +kernel
set_option maxRecDepth 100000 in
theorem ji_194_2 : mj_ins 194 2 = some (.putfield 147) := by decide +kernel
set_option maxRecDepth 100000 in
theorem jf_194_147 : mj_fld 194 147 = some (11, 16, .int, true) := by decide +kernel
set_option maxRecDepth 100000 in
theorem ji_194_5 : mj_ins 194 5 = some (.aload_n 0) := by decide +kernel
set_option maxRecDepth 100000 in
theorem ji_194_6 : mj_ins 194 6 = some (.iconst 0) := by decide +kernel
set_option maxRecDepth 100000 in
theorem ji_194_7 : mj_ins 194 7 = some (.putfield 157) := by decide +kernel
set_option maxRecDepth 100000 in
theorem jf_194_157 : mj_fld 194 157 = some (11, 17, .int, true) := by decide +kernel
set_option maxRecDepth 100000 in
theorem ji_194_10 : mj_ins 194 10 = some (.aload_n 0) := by decide +kernel
set_option maxRecDepth 100000 in
theorem ji_194_11 : mj_ins 194 11 = some (.iconst 0) := by decide +kernel
set_option maxRecDepth 100000 in
theorem ji_194_12 : mj_ins 194 12 = some (.putfield 180) := by decide +kernel
set_option maxRecDepth 100000 in
theorem ji_194_15 : mj_ins 194 15 = some (.aload_n 0) := by decide +kernel
set_option maxRecDepth 100000 in
theorem ji_194_16 : mj_ins 194 16 = some (.iload_n 1) := by decide +kernel
set_option maxRecDepth 100000 in
theorem ji_194_17 : mj_ins 194 17 = some (.putfield 160) := by decide +kernel
set_option maxRecDepth 100000 in
theorem jf_194_160 : mj_fld 194 160 = some (11, 20, .boolean, true) := by decide +kernel
/-- behind a law's parsing -/
def pD (h0 : mj_H) (a P T : Nat) (t0 : List Value) (s c0 : Nat) (φ : Nat → Int) (y : Int) (h1 : mj_H) : Prop := ∃ φ' pl' ts', pv h0 h1 a P T φ' pl' ts' ∧ φ' 4 = φ 4 ∧ φ' 12 = φ 12 ∧ φ' 14 = φ 14 ∧ φ' 21 = φ 21 ∧ φ 7 ≤ φ' 7 ∧ φ' 13 ≤ φ' 7 ∧ (¬ φ' 9 = 0 → φ' 13 + 1 ≤ φ' 7) ∧ ∃ w' : Nat, φ' 13 = (w' : Int) ∧ c0 ≤ w' ∧ jw ts' s w' ∧ (∀ j, (j < 705 * s + 97 ∨ 705 * s + 705 ≤ j) → sx_el ts' j = sx_el t0 j) ∧ (y = 0 → ∃ q, we ts' (705 * s + 97) c0 (w' - c0) (0, 0) = some q)
theorem se_A {am : Nat} : ∀ {l : List Int}, po_A l → (∀ x ∈ l, x < 10) → ∃ q, se 1 l (po_n am l + 1, po_t l) = some ([], q)
  | [], _, _ => ⟨_, rfl⟩
  | x :: l, hA, h => by
    have hx := h x List.mem_cons_self
    rcases hA with ⟨h1, h2⟩ | ⟨h1, h2⟩
    · have h3 : 3 ≤ x ∧ x ≤ 7 := by omega
      have hr := rk_3 h3
      obtain ⟨q, e⟩ := se_A (am := am) h2 (fun y hy => h y (List.mem_cons_of_mem _ hy))
      refine ⟨q, ?_⟩
      unfold se
      rw [if_pos (by omega), if_neg (by omega), we_1_V h3]
      exact e
    · omega
theorem fin_se {φ : Nat → Int} {l : List Int} {n t : Nat} (hm : pm φ l n t) (h19 : φ 19 = 1) (hon : on l = -1) (he : φ 20 = 0 ∨ ic l = 1) : ∃ l1 n1 t1, se 1 l (n, t) = some (l1, (n1, t1)) := by
  obtain ⟨hE, hm⟩ := hm
  have h40 := on_n hon
  rcases hm with ⟨q, -⟩ | ⟨-, q1, rfl, rfl⟩ | ⟨-, q20, r, rfl, q1, rfl, rfl⟩
  · omega
  · rcases he with e | e
    · obtain ⟨q, hq⟩ := se_A (am := (φ 18).toNat) q1 (fun x hx => by have := hE e x hx; have := h40 x hx; omega)
      exact ⟨_, q.1, q.2, hq⟩
    · obtain ⟨l1, e1, -⟩ := se_C (least := 1) (by omega) (by omega) (am := (φ 18).toNat) q1 h40 (ic_1 q1 h40 e)
      exact ⟨l1, _, _, e1⟩
  · obtain ⟨l1, e1, -⟩ := se_T (least := 1) q1
    exact ⟨l1, _, _, by rw [se_16 (by omega)]; exact e1⟩
theorem pE_D {h0 h1 : mj_H} {a P T s c0 : Nat} {t0 : List Value} {φ φ0 : Nat → Int} {y : Int} (hE : pE h0 a P T t0 s c0 φ h1) (hq : fq φ0 φ) (h7 : φ0 7 ≤ φ 7) (hy : ¬ y = 0) : pD h0 a P T t0 s c0 φ0 y h1 := by
  obtain ⟨φ', pl', ts', l', n', t', V, hp, hf, hb, hb2, hb3⟩ := hE
  obtain ⟨w, p, q1, q2, q3, q4, q5, q6, q7, q8, q9, q10⟩ := hp
  obtain ⟨g1, g2, g3, g4, g5⟩ := hf
  obtain ⟨k1, k2, k3, k4, k5⟩ := hq
  exact ⟨φ', pl', ts', V, by omega, by omega, by omega, by omega, by omega, by omega, hb2, w, q1, q5, q6, q10, fun e => absurd e hy⟩
theorem ws_ploop {d : Nat} {h0 : mj_H} {a P T : Nat} {t0 : List Value} {s c0 : Nat} {φ0 : Nat → Int} {e : Int} (IH : sx_IH sx_PP (d + 1 + 1 + 1 + 1)) (hd : 2 ≤ d) (he : e = 0 ∨ e = 1) : ∀ (N : Nat) (lx : Option Value) (h : mj_H) (φ : Nat → Int) (pl ts : List Value) (l : List Int) (n t : Nat), pv h0 h a P T φ pl ts → ps t0 φ pl ts s c0 l n t → pm φ l n t → tkb φ → φ 20 = e → fq φ0 φ → φ0 7 ≤ φ 7 → (2 * (300 - φ 7) < N ∧ (¬ φ 9 = 0 → 2 * (300 - φ 7) + 1 < N)) → wp_R (d + 1 + 1 + 1 + 1 + 1) 194 20 [some (.ref a), some (wp_i e), lx] [] h (fun v h1 => ∃ y : Int, v = some (wp_i y) ∧ 0 ≤ y ∧ y ≤ 7 ∧ pD h0 a P T t0 s c0 φ0 y h1) := by
  intro N
  induction N with
  | zero =>
    intro lx h φ pl ts l n t V _ _ _ _ _ _ hN
    have b7 := pv_b V (k := 7) (lo := 0) (hi := 300) (by decide) (by decide)
    omega
  | succ N ih =>
    intro lx h φ pl ts l n t V hp hm hb h20 hq h07 hN
    have hq9 := hq
    obtain ⟨k01, k02, k03, k04, k05⟩ := hq9
    have b19 := pv_b V (k := 19) (lo := 0) (hi := 1) (by decide) (by decide)
    have b7 := pv_b V (k := 7) (lo := 0) (hi := 300) (by decide) (by decide)
    have b13 := pv_b V (k := 13) (lo := 0) (hi := 303) (by decide) (by decide)
    have b16 := pv_b V (k := 16) (lo := 0) (hi := 160) (by decide) (by decide)
    have b17 := pv_b V (k := 17) (lo := 0) (hi := 8) (by decide) (by decide)
    have b18 := pv_b V (k := 18) (lo := 0) (hi := 6) (by decide) (by decide)
    have hlen := ps_len hp
    have hbq1 : φ 13 + φ 16 ≤ φ 7 := hb.1
    have hbq2 : ¬ φ 9 = 0 → φ 13 + φ 16 + 1 ≤ φ 7 := hb.2
    have hp2 := hp
    obtain ⟨w, p, hw, h16, h12, hs, hc, hj, hwe, hpp, h17, hfr⟩ := hp2
    subst hpp
    have hpb := pp_b V (p := p) (by omega)
    have hob := on_b (pp pl p) (fun x hx => (hpb x hx).2)
    have hib := ic_b (pp pl p)
    refine wp_s (pc' := 21) ji_194_20 rfl rfl rfl ?_
    refine pv_gi V ji_194_21 jf_194_180 (by decide) pf_19 (y := φ 19) rfl (fun l1 u2 => ?_)
    refine wp_if (t := 34) ji_194_24 rfl (by omega) (fun (hb3 : (φ 19 : Int) = 0) => ?_) (fun (hb3 : ¬ ((φ 19 : Int) = 0)) => ?_)
    · refine wp_s (pc' := 35) ji_194_34 rfl rfl rfl ?_
      refine pv_vc V ji_194_35 jc_194_220 jk_208 (rest := []) rfl (Nat.le_of_ble_eq_true rfl) rfl (by rw [jn_208]; rfl) (ws_begin (d := d) IH hd V hp hm (by omega) hb) (fun v h R => ?_)
      obtain ⟨y, rfl, hr⟩ := R
      rcases hr with ⟨y0, y7, hE⟩ | ⟨rfl, h9, hG⟩
      · show wp_R (d + 1 + 1 + 1 + 1 + 1) 194 38 [some (.ref a), some (wp_i e), lx] [wp_i y] h _
        refine wp_s (pc' := 39) (lv' := [some (.ref a), some (wp_i e), some (wp_i y)]) ji_194_38 rfl rfl rfl ?_
        refine wp_s (pc' := 40) ji_194_39 rfl rfl rfl ?_
        refine wp_if (t := 45) ji_194_40 rfl (by omega) (fun (hb4 : (y : Int) ≤ 0) => (by exfalso; omega)) (fun (hb4 : ¬ ((y : Int) ≤ 0)) => ?_)
        refine wp_s (pc' := 44) ji_194_43 rfl rfl rfl ?_
        exact wp_ri ji_194_44 jr_194 rfl ⟨y, rfl, by omega, by omega, pE_D hE hq h07 (by omega)⟩
      · show wp_R (d + 1 + 1 + 1 + 1 + 1) 194 38 [some (.ref a), some (wp_i e), lx] [wp_i 0] h _
        obtain ⟨φ1, pl1, ts1, l1, n1, t1, V, hp1, hf1, hb1, ha1, hm1⟩ := hG
        refine wp_s (pc' := 39) (lv' := [some (.ref a), some (wp_i e), some (wp_i 0)]) ji_194_38 rfl rfl rfl ?_
        refine wp_s (pc' := 40) ji_194_39 rfl rfl rfl ?_
        refine wp_if (t := 45) ji_194_40 rfl (by omega) (fun (hb5 : (0 : Int) ≤ 0) => ?_) (fun (hb5 : ¬ ((0 : Int) ≤ 0)) => (by exfalso; omega))
        refine wp_s (pc' := 46) ji_194_45 rfl rfl rfl ?_
        refine wp_if (t := 52) ji_194_46 rfl (by omega) (fun (hb6 : ¬ (0 : Int) = 0) => (by exfalso; omega)) (fun (hb6 : ¬ (¬ (0 : Int) = 0)) => ?_)
        refine wp_goto (t := 20) ji_194_49 rfl ?_
        obtain ⟨k1, k2, k3, k4, k5⟩ := hf1
        have ha11 : φ 7 ≤ φ1 7 := ha1.1
        have ha12 : ¬ φ1 9 = 0 → φ 7 + 1 ≤ φ1 7 := ha1.2
        exact ih _ h φ1 pl1 ts1 l1 n1 t1 V hp1 hm1 hb1 (by omega) ⟨by omega, by omega, by omega, by omega, by omega⟩ (by omega) ⟨by omega, fun q => by have := ha12 q; omega⟩
    · refine wp_s (pc' := 28) ji_194_27 rfl rfl rfl ?_
      refine pv_vc V ji_194_28 jc_194_217 jk_195 (rest := []) rfl (Nat.le_of_ble_eq_true rfl) rfl (by rw [jn_195]; rfl) (ws_behind (d := d) V hp hm (by omega) hb) (fun v h R => ?_)
      obtain ⟨y, rfl, hr⟩ := R
      rcases hr with ⟨y0, y7, hE⟩ | ⟨rfl, h9, hG⟩ | ⟨rfl, rfl⟩
      · show wp_R (d + 1 + 1 + 1 + 1 + 1) 194 31 [some (.ref a), some (wp_i e), lx] [wp_i y] h _
        refine wp_goto (t := 38) ji_194_31 rfl ?_
        refine wp_s (pc' := 39) (lv' := [some (.ref a), some (wp_i e), some (wp_i y)]) ji_194_38 rfl rfl rfl ?_
        refine wp_s (pc' := 40) ji_194_39 rfl rfl rfl ?_
        refine wp_if (t := 45) ji_194_40 rfl (by omega) (fun (hb7 : (y : Int) ≤ 0) => (by exfalso; omega)) (fun (hb7 : ¬ ((y : Int) ≤ 0)) => ?_)
        refine wp_s (pc' := 44) ji_194_43 rfl rfl rfl ?_
        exact wp_ri ji_194_44 jr_194 rfl ⟨y, rfl, by omega, by omega, pE_D hE hq h07 (by omega)⟩
      · show wp_R (d + 1 + 1 + 1 + 1 + 1) 194 31 [some (.ref a), some (wp_i e), lx] [wp_i 0] h _
        obtain ⟨φ1, pl1, ts1, l1, n1, t1, V, hp1, hf1, hb1, ha1, hm1⟩ := hG
        refine wp_goto (t := 38) ji_194_31 rfl ?_
        refine wp_s (pc' := 39) (lv' := [some (.ref a), some (wp_i e), some (wp_i 0)]) ji_194_38 rfl rfl rfl ?_
        refine wp_s (pc' := 40) ji_194_39 rfl rfl rfl ?_
        refine wp_if (t := 45) ji_194_40 rfl (by omega) (fun (hb8 : (0 : Int) ≤ 0) => ?_) (fun (hb8 : ¬ ((0 : Int) ≤ 0)) => (by exfalso; omega))
        refine wp_s (pc' := 46) ji_194_45 rfl rfl rfl ?_
        refine wp_if (t := 52) ji_194_46 rfl (by omega) (fun (hb9 : ¬ (0 : Int) = 0) => (by exfalso; omega)) (fun (hb9 : ¬ (¬ (0 : Int) = 0)) => ?_)
        refine wp_goto (t := 20) ji_194_49 rfl ?_
        obtain ⟨k1, k2, k3, k4, k5⟩ := hf1
        have ha11 : φ 7 ≤ φ1 7 := ha1.1
        have ha12 : ¬ φ1 9 = 0 → φ 7 + 1 ≤ φ1 7 := ha1.2
        exact ih _ h φ1 pl1 ts1 l1 n1 t1 V hp1 hm1 hb1 (by omega) ⟨by omega, by omega, by omega, by omega, by omega⟩ (by omega) ⟨by omega, fun q => by have := ha12 q; omega⟩
      · show wp_R (d + 1 + 1 + 1 + 1 + 1) 194 31 [some (.ref a), some (wp_i e), lx] [wp_i (-1)] h _
        refine wp_goto (t := 38) ji_194_31 rfl ?_
        refine wp_s (pc' := 39) (lv' := [some (.ref a), some (wp_i e), some (wp_i (-1))]) ji_194_38 rfl rfl rfl ?_
        refine wp_s (pc' := 40) ji_194_39 rfl rfl rfl ?_
        refine wp_if (t := 45) ji_194_40 rfl (by omega) (fun (hb10 : (-1 : Int) ≤ 0) => ?_) (fun (hb10 : ¬ ((-1 : Int) ≤ 0)) => (by exfalso; omega))
        refine wp_s (pc' := 46) ji_194_45 rfl rfl rfl ?_
        refine wp_if (t := 52) ji_194_46 rfl (by omega) (fun (hb11 : ¬ (-1 : Int) = 0) => ?_) (fun (hb11 : ¬ (¬ (-1 : Int) = 0)) => (by exfalso; omega))
        refine wp_s (pc' := 53) ji_194_52 rfl rfl rfl ?_
        refine pv_vc V ji_194_53 jc_194_163 jk_198 (rest := []) rfl (Nat.le_of_ble_eq_true rfl) rfl (by rw [jn_198]; rfl) (ws_open V h16) (fun v h R => ?_)
        obtain ⟨rfl, rfl⟩ := R
        show wp_R (d + 1 + 1 + 1 + 1 + 1) 194 56 [some (.ref a), some (wp_i e), some (wp_i (-1))] [wp_i (on (pp pl p))] h _
        refine wp_if (t := 70) ji_194_56 rfl (by omega) (fun (hb12 : (0 : Int) ≤ (on (pp pl p))) => ?_) (fun (hb12 : ¬ ((0 : Int) ≤ (on (pp pl p)))) => ?_)
        · refine wp_s (pc' := 71) ji_194_70 rfl rfl rfl ?_
          exact wp_ri ji_194_71 jr_194 rfl ⟨1, rfl, by omega, by omega, φ, pl, ts, V, by omega, by omega, by omega, by omega, by omega, by omega, fun q => by have := hb.2 q; omega, w, hw, hc, hj, hfr, fun e => by omega⟩
        · refine wp_s (pc' := 60) ji_194_59 rfl rfl rfl ?_
          refine wp_if (t := 72) ji_194_60 rfl (by omega) (fun (hb13 : (e : Int) = 0) => ?_) (fun (hb13 : ¬ ((e : Int) = 0)) => ?_)
          · refine wp_s (pc' := 73) ji_194_72 rfl rfl rfl ?_
            refine wp_s (pc' := 74) ji_194_73 rfl rfl rfl ?_
            obtain ⟨l2, n2, t2, hse⟩ := fin_se hm (by omega) (by omega) (by omega)
            refine pv_vc V ji_194_74 jc_194_183 jk_202 (rest := []) rfl (Nat.le_of_ble_eq_true rfl) rfl (by rw [jn_202]; rfl) (ws_settle (least := 1) (by omega) _ _ _ _ _ _ V hp (show φ 13 + (φ 16) ≤ 300 by omega) hse) (fun v h R => ?_)
            obtain ⟨rfl, φ14, ts14, V, hp14, hf14, hs14⟩ := R
            have e14_4 : φ14 4 = φ 4 := hf14 4 (by decide) (by decide) (by decide)
            have e14_7 : φ14 7 = φ 7 := hf14 7 (by decide) (by decide) (by decide)
            have e14_9 : φ14 9 = φ 9 := hf14 9 (by decide) (by decide) (by decide)
            have e14_10 : φ14 10 = φ 10 := hf14 10 (by decide) (by decide) (by decide)
            have e14_12 : φ14 12 = φ 12 := hf14 12 (by decide) (by decide) (by decide)
            have e14_14 : φ14 14 = φ 14 := hf14 14 (by decide) (by decide) (by decide)
            have e14_18 : φ14 18 = φ 18 := hf14 18 (by decide) (by decide) (by decide)
            have e14_19 : φ14 19 = φ 19 := hf14 19 (by decide) (by decide) (by decide)
            have e14_20 : φ14 20 = φ 20 := hf14 20 (by decide) (by decide) (by decide)
            have e14_21 : φ14 21 = φ 21 := hf14 21 (by decide) (by decide) (by decide)
            have s14 : φ14 13 + φ14 16 ≤ φ 13 + (φ 16) := hs14
            have hlen14 := ps_len hp14
            show wp_R (d + 1 + 1 + 1 + 1 + 1) 194 77 [some (.ref a), some (wp_i e), some (wp_i (-1))] [] h _
            refine wp_s (pc' := 78) ji_194_77 rfl rfl rfl ?_
            obtain ⟨w9, p9, g1, g2, g3, g4, g5, g6, g7, g8, g9, g10⟩ := hp14
            exact wp_ri ji_194_78 jr_194 rfl ⟨0, rfl, by omega, by omega, φ14, pl, ts14, V, by omega, by omega, by omega, by omega, by omega, by omega, fun q => by have := hb.2 (by omega); omega, w9, g1, g5, g6, g10, fun _ => ⟨_, g7⟩⟩
          · refine wp_s (pc' := 64) ji_194_63 rfl rfl rfl ?_
            refine pv_vc V ji_194_64 jc_194_196 jk_199 (rest := []) rfl (Nat.le_of_ble_eq_true rfl) rfl (by rw [jn_199]; rfl) (ws_comp V h16) (fun v h R => ?_)
            obtain ⟨rfl, rfl⟩ := R
            show wp_R (d + 1 + 1 + 1 + 1 + 1) 194 67 [some (.ref a), some (wp_i e), some (wp_i (-1))] [wp_i (ic (pp pl p))] h _
            refine wp_if (t := 72) ji_194_67 rfl (by omega) (fun (hb15 : ¬ (ic (pp pl p) : Int) = 0) => ?_) (fun (hb15 : ¬ (¬ (ic (pp pl p) : Int) = 0)) => ?_)
            · refine wp_s (pc' := 73) ji_194_72 rfl rfl rfl ?_
              refine wp_s (pc' := 74) ji_194_73 rfl rfl rfl ?_
              obtain ⟨l2, n2, t2, hse⟩ := fin_se hm (by omega) (by omega) (by omega)
              refine pv_vc V ji_194_74 jc_194_183 jk_202 (rest := []) rfl (Nat.le_of_ble_eq_true rfl) rfl (by rw [jn_202]; rfl) (ws_settle (least := 1) (by omega) _ _ _ _ _ _ V hp (show φ 13 + (φ 16) ≤ 300 by omega) hse) (fun v h R => ?_)
              obtain ⟨rfl, φ16, ts16, V, hp16, hf16, hs16⟩ := R
              have e16_4 : φ16 4 = φ 4 := hf16 4 (by decide) (by decide) (by decide)
              have e16_7 : φ16 7 = φ 7 := hf16 7 (by decide) (by decide) (by decide)
              have e16_9 : φ16 9 = φ 9 := hf16 9 (by decide) (by decide) (by decide)
              have e16_10 : φ16 10 = φ 10 := hf16 10 (by decide) (by decide) (by decide)
              have e16_12 : φ16 12 = φ 12 := hf16 12 (by decide) (by decide) (by decide)
              have e16_14 : φ16 14 = φ 14 := hf16 14 (by decide) (by decide) (by decide)
              have e16_18 : φ16 18 = φ 18 := hf16 18 (by decide) (by decide) (by decide)
              have e16_19 : φ16 19 = φ 19 := hf16 19 (by decide) (by decide) (by decide)
              have e16_20 : φ16 20 = φ 20 := hf16 20 (by decide) (by decide) (by decide)
              have e16_21 : φ16 21 = φ 21 := hf16 21 (by decide) (by decide) (by decide)
              have s16 : φ16 13 + φ16 16 ≤ φ 13 + (φ 16) := hs16
              have hlen16 := ps_len hp16
              show wp_R (d + 1 + 1 + 1 + 1 + 1) 194 77 [some (.ref a), some (wp_i e), some (wp_i (-1))] [] h _
              refine wp_s (pc' := 78) ji_194_77 rfl rfl rfl ?_
              obtain ⟨w9, p9, g1, g2, g3, g4, g5, g6, g7, g8, g9, g10⟩ := hp16
              exact wp_ri ji_194_78 jr_194 rfl ⟨0, rfl, by omega, by omega, φ16, pl, ts16, V, by omega, by omega, by omega, by omega, by omega, by omega, fun q => by have := hb.2 (by omega); omega, w9, g1, g5, g6, g10, fun _ => ⟨_, g7⟩⟩
            · refine wp_s (pc' := 71) ji_194_70 rfl rfl rfl ?_
              exact wp_ri ji_194_71 jr_194 rfl ⟨1, rfl, by omega, by omega, φ, pl, ts, V, by omega, by omega, by omega, by omega, by omega, by omega, fun q => by have := hb.2 q; omega, w, hw, hc, hj, hfr, fun e => by omega⟩
/-- only these fields matter to it -/
theorem pD_fr {h0 h1 : mj_H} {a P T s c0 : Nat} {t0 : List Value} {φ φ2 : Nat → Int} {y : Int} (h : pD h0 a P T t0 s c0 φ2 y h1) (h4 : φ2 4 = φ 4) (h12 : φ2 12 = φ 12) (h14 : φ2 14 = φ 14) (h21 : φ2 21 = φ 21) (h7 : φ2 7 = φ 7) : pD h0 a P T t0 s c0 φ y h1 := by
  obtain ⟨φ', pl', ts', q1, q2, q3, q4, q5, q6, q7⟩ := h
  exact ⟨φ', pl', ts', q1, by omega, by omega, by omega, by omega, by omega, q7⟩
theorem ws_parsed {d : Nat} {h0 h : mj_H} {a P T : Nat} {φ : Nat → Int} {pl ts : List Value} {s w : Nat} {e : Int} (IH : sx_IH sx_PP (d + 1 + 1 + 1 + 1)) (hd : 2 ≤ d) (he : e = 0 ∨ e = 1) (V : pv h0 h a P T φ pl ts) (hw : φ 13 = (w : Int)) (h12 : φ 12 = ((705 * s : Nat) : Int)) (hs : s < 4) (hj : jw ts s w) (hb1 : φ 13 ≤ φ 7) (hb2 : ¬ φ 9 = 0 → φ 13 + 1 ≤ φ 7) : wp_R (d + 1 + 1 + 1 + 1 + 1) 194 0 [some (.ref a), some (wp_i e), none] [] h (fun v h1 => ∃ y : Int, v = some (wp_i y) ∧ 0 ≤ y ∧ y ≤ 7 ∧ pD h0 a P T ts s w φ y h1) := by
  have b7 := pv_b V (k := 7) (lo := 0) (hi := 300) (by decide) (by decide)
  have b13 := pv_b V (k := 13) (lo := 0) (hi := 303) (by decide) (by decide)
  have b16 := pv_b V (k := 16) (lo := 0) (hi := 160) (by decide) (by decide)
  have b17 := pv_b V (k := 17) (lo := 0) (hi := 8) (by decide) (by decide)
  have b18 := pv_b V (k := 18) (lo := 0) (hi := 6) (by decide) (by decide)
  refine wp_s (pc' := 1) ji_194_0 rfl rfl rfl ?_
  refine wp_s (pc' := 2) ji_194_1 rfl rfl rfl ?_
  refine pv_pi V ji_194_2 jf_194_147 (by decide) pf_16 (by decide) (by decide) (by decide) (by omega) (by omega) (by omega) rfl rfl (fun h V => ?_)
  refine wp_s (pc' := 6) ji_194_5 rfl rfl rfl ?_
  refine wp_s (pc' := 7) ji_194_6 rfl rfl rfl ?_
  refine pv_pi V ji_194_7 jf_194_157 (by decide) pf_17 (by decide) (by decide) (by decide) (by omega) (by omega) (by omega) rfl rfl (fun h V => ?_)
  refine wp_s (pc' := 11) ji_194_10 rfl rfl rfl ?_
  refine wp_s (pc' := 12) ji_194_11 rfl rfl rfl ?_
  refine pv_pi V ji_194_12 jf_194_180 (by decide) pf_19 (by decide) (by decide) (by decide) (by omega) (by omega) (by omega) rfl rfl (fun h V => ?_)
  refine wp_s (pc' := 16) ji_194_15 rfl rfl rfl ?_
  refine wp_s (pc' := 17) ji_194_16 rfl rfl rfl ?_
  refine pv_pi V ji_194_17 jf_194_160 (by decide) pf_20 (by decide) (by decide) (by decide) (by omega) (by omega) (by omega) (pv_nb he) (pv_fb he) (fun h V => ?_)
  refine wp_mono (ws_ploop (φ0 := pv_u (pv_u (pv_u (pv_u φ 16 0) 17 0) 19 0) 20 e) (t0 := ts) (c0 := w) IH hd he 602 none h _ pl ts [] 0 0 V ⟨w, 0, hw, rfl, h12, hs, Nat.le_refl _, hj, ?_, rfl, rfl, fun _ _ => rfl⟩ ⟨fun q x hx => (by cases hx), Or.inl ⟨rfl, trivial, rfl, rfl⟩⟩ ⟨show φ 13 + 0 ≤ φ 7 by omega, fun q => (show φ 13 + 0 + 1 ≤ φ 7 by have := hb2 q; omega)⟩ rfl ?_ (Int.le_refl _) ⟨show 2 * (300 - φ 7) < ((602 : Nat) : Int) by omega, fun _ => (show 2 * (300 - φ 7) + 1 < ((602 : Nat) : Int) by omega)⟩) ?_
  · rw [Nat.sub_self]; rfl
  · exact ⟨rfl, rfl, rfl, rfl, rfl⟩
  · rintro v h1 ⟨y, e1, e2, e3, e4⟩
    exact ⟨y, e1, e2, e3, pD_fr e4 rfl rfl rfl rfl rfl⟩
