/-! -/
set_option maxRecDepth 100000 in
theorem ji_176_53 : mj_ins 176 53 = some (.aload_n 0) := by decide +kernel
set_option maxRecDepth 100000 in
theorem ji_176_54 : mj_ins 176 54 = some (.getfield 7) := by decide +kernel
set_option maxRecDepth 100000 in
theorem ji_176_57 : mj_ins 176 57 = some (.iconst 2) := by decide +kernel
set_option maxRecDepth 100000 in
theorem ji_176_58 : mj_ins 176 58 = some (.dup2) := by decide +kernel
set_option maxRecDepth 100000 in
theorem ji_176_59 : mj_ins 176 59 = some (.iaload) := by decide +kernel
set_option maxRecDepth 100000 in
theorem ji_176_60 : mj_ins 176 60 = some (.iconst 1) := by decide +kernel
set_option maxRecDepth 100000 in
theorem ji_176_61 : mj_ins 176 61 = some (.iadd) := by decide +kernel
set_option maxRecDepth 100000 in
theorem ji_176_62 : mj_ins 176 62 = some (.iastore) := by decide +kernel
set_option maxRecDepth 100000 in
theorem ji_176_63 : mj_ins 176 63 = some (.aload_n 0) := by decide +kernel
set_option maxRecDepth 100000 in
theorem ji_176_64 : mj_ins 176 64 = some (.getfield 7) := by decide +kernel
set_option maxRecDepth 100000 in
theorem ji_176_67 : mj_ins 176 67 = some (.iconst 2) := by decide +kernel
set_option maxRecDepth 100000 in
theorem ji_176_68 : mj_ins 176 68 = some (.iaload) := by decide +kernel
set_option maxRecDepth 100000 in
theorem ji_176_69 : mj_ins 176 69 = some (.iconst 1) := by decide +kernel
set_option maxRecDepth 100000 in
theorem ji_176_70 : mj_ins 176 70 = some (.isub) := by decide +kernel
set_option maxRecDepth 100000 in
theorem ji_176_71 : mj_ins 176 71 = some (.ireturn) := by decide +kernel
set_option maxRecDepth 100000 in
theorem jf_176_7 : mj_fld 176 7 = some (11, 0, (.array .int), false) := by decide +kernel
set_option maxRecDepth 100000 in
theorem jr_176 : mj_ret 176 = some .int := by decide +kernel
set_option maxRecDepth 100000 in
theorem jn_176 : mj_nl 176 = 1 := by decide +kernel
set_option maxRecDepth 100000 in
theorem ji_176_0 : mj_ins 176 0 = some (.aload_n 0) := by decide +kernel
set_option maxRecDepth 100000 in
theorem ji_176_1 : mj_ins 176 1 = some (.getfield 7) := by decide +kernel
set_option maxRecDepth 100000 in
theorem ji_176_4 : mj_ins 176 4 = some (.iconst 2) := by decide +kernel
set_option maxRecDepth 100000 in
theorem ji_176_5 : mj_ins 176 5 = some (.iaload) := by decide +kernel
set_option maxRecDepth 100000 in
theorem ji_176_6 : mj_ins 176 6 = some (.iconst 4) := by decide +kernel
set_option maxRecDepth 100000 in
theorem ji_176_7 : mj_ins 176 7 = some (.if_icmp .ne 5) := by decide +kernel
set_option maxRecDepth 100000 in
theorem ji_176_12 : mj_ins 176 12 = some (.aload_n 0) := by decide +kernel
set_option maxRecDepth 100000 in
theorem ji_176_13 : mj_ins 176 13 = some (.aload_n 0) := by decide +kernel
set_option maxRecDepth 100000 in
theorem ji_176_14 : mj_ins 176 14 = some (.invokevirtual 254) := by decide +kernel
set_option maxRecDepth 100000 in
theorem jc_176_254 : mj_cal 176 254 = some (2, 177, 0) := by decide +kernel
set_option maxRecDepth 100000 in
theorem jk_177 : mj_cls 177 = 11 := by decide +kernel
set_option maxRecDepth 100000 in
theorem jn_177 : mj_nl 177 = 2 := by decide +kernel
set_option maxRecDepth 100000 in
theorem ji_176_17 : mj_ins 176 17 = some (.putfield 22) := by decide +kernel
set_option maxRecDepth 100000 in
theorem jf_176_22 : mj_fld 176 22 = some (11, 5, .int, true) := by decide +kernel
set_option maxRecDepth 100000 in
theorem pf_5 : sx_fd sx_y63.2.2 5 = some (0, -1, 7) := by decide +kernel
set_option maxRecDepth 100000 in
theorem ji_176_20 : mj_ins 176 20 = some (.aload_n 0) := by decide +kernel
set_option maxRecDepth 100000 in
theorem ji_176_21 : mj_ins 176 21 = some (.aload_n 0) := by decide +kernel
set_option maxRecDepth 100000 in
theorem ji_176_22 : mj_ins 176 22 = some (.getfield 22) := by decide +kernel
set_option maxRecDepth 100000 in
theorem ji_176_25 : mj_ins 176 25 = some (.ifCond .ne 7) := by decide +kernel
set_option maxRecDepth 100000 in
theorem ji_176_32 : mj_ins 176 32 = some (.aload_n 0) := by decide +kernel
set_option maxRecDepth 100000 in
theorem ji_176_33 : mj_ins 176 33 = some (.getfield 92) := by decide +kernel
set_option maxRecDepth 100000 in
theorem jf_176_92 : mj_fld 176 92 = some (11, 8, .int, true) := by decide +kernel
set_option maxRecDepth 100000 in
theorem ji_176_36 : mj_ins 176 36 = some (.putfield 26) := by decide +kernel
set_option maxRecDepth 100000 in
theorem jf_176_26 : mj_fld 176 26 = some (11, 6, .int, true) := by decide +kernel
set_option maxRecDepth 100000 in
theorem pf_6 : sx_fd sx_y63.2.2 6 = some (0, -1, 300) := by decide +kernel
set_option maxRecDepth 100000 in
theorem ji_176_39 : mj_ins 176 39 = some (.aload_n 0) := by decide +kernel
set_option maxRecDepth 100000 in
theorem ji_176_40 : mj_ins 176 40 = some (.iconst 0) := by decide +kernel
set_option maxRecDepth 100000 in
theorem ji_176_41 : mj_ins 176 41 = some (.putfield 78) := by decide +kernel
set_option maxRecDepth 100000 in
theorem jf_176_78 : mj_fld 176 78 = some (11, 4, .int, true) := by decide +kernel
set_option maxRecDepth 100000 in
theorem ji_176_44 : mj_ins 176 44 = some (.aload_n 0) := by decide +kernel
set_option maxRecDepth 100000 in
theorem ji_176_45 : mj_ins 176 45 = some (.getfield 22) := by decide +kernel
set_option maxRecDepth 100000 in
theorem ji_176_48 : mj_ins 176 48 = some (.ifCond .eq 5) := by decide +kernel
set_option maxRecDepth 100000 in
theorem ji_176_51 : mj_ins 176 51 = some (.iconst (-1)) := by decide +kernel
set_option maxRecDepth 100000 in
theorem ji_176_52 : mj_ins 176 52 = some (.ireturn) := by decide +kernel
set_option maxRecDepth 100000 in
theorem ji_176_28 : mj_ins 176 28 = some (.iconst (-1)) := by decide +kernel
set_option maxRecDepth 100000 in
theorem ji_176_29 : mj_ins 176 29 = some (.goto 7) := by decide +kernel
set_option maxRecDepth 100000 in
theorem ji_176_10 : mj_ins 176 10 = some (.iconst (-1)) := by decide +kernel
set_option maxRecDepth 100000 in
theorem ji_176_11 : mj_ins 176 11 = some (.ireturn) := by decide +kernel
/-! the reference's text: its contract -/
theorem pv_init {h : mj_H} (hH : sx_H sx_TT 20 sx_tau h) {a : Nat} (ta : sx_tau[a]? = some 63) : ∃ P T φ pl ts, pv h h a P T φ pl ts := by
  obtain ⟨fs, v, g1, g2, g3, T, rfl, tT⟩ := sx_rf hH ta (k := 2) (d := (2, 20, 0)) (by decide) (by decide)
  obtain ⟨fs', v, k1, k2, k3, P, rfl, tP⟩ := sx_rf hH ta (k := 15) (d := (2, 65, 0)) (by decide) (by decide)
  rw [g1] at k1
  cases k1
  obtain ⟨-, pl, c1, -⟩ := hH P 65 sx_y65 tP rfl
  obtain ⟨-, ts, e1, -⟩ := hH T 20 sx_y20 tT rfl
  exact ⟨P, T, fun k => sx_el fs k, pl, ts, hH, sx_ef_rf, rfl, ta, tP, tT, fs, g1, g3, k3, fun _ => rfl, c1, e1⟩
theorem tx_sub : ∀ k ∈ pv_mods, k ∈ sx_K176.2.2.2 := by decide
def tx_Q (h : mj_H) (B : Int) : Option Value → mj_H → Prop := fun v h' => sx_H sx_TT 20 sx_tau h' ∧ sx_an sx_tau sx_K176.2.1 v ∧ sx_ef sx_tau sx_K176.2.2.2 h h' ∧ h'.length = h.length ∧ sx_W sx_tau h' (B + sx_cost sx_K176.2.2.2)
theorem tx_c : sx_cost sx_K176.2.2.2 = 0 := by decide
theorem tx_fin {h h1 : mj_H} {a P T : Nat} {φ : Nat → Int} {pl ts : List Value} {B : Int} (V : pv h h1 a P T φ pl ts) (hW : sx_W sx_tau h B) {y : Int} (hy : -1 ≤ y ∧ y ≤ 3) : tx_Q h B (some (wp_i y)) h1 := by
  obtain ⟨hH, hef, hln, -⟩ := V
  refine ⟨hH, ⟨_, rfl, _, rfl, by rw [wp_ti (by omega)]; exact hy.1, by rw [wp_ti (by omega)]; exact hy.2⟩, sx_ef_sub hef tx_sub, hln, ?_⟩
  rw [tx_c, Int.natCast_zero, Int.add_zero]
  exact hef.2.2 (by decide) B hW
theorem tx_end {d : Nat} {h h1 : mj_H} {a P T : Nat} {φ : Nat → Int} {pl ts : List Value} {B : Int} (V : pv h h1 a P T φ pl ts) (hW : sx_W sx_tau h B) (h4 : ¬ a2v h a = 4) : wp_R d 176 53 [some (.ref a)] [] h1 (tx_Q h B) := by
  obtain ⟨A, fsA, asA, tA, g1, g2, g3, g4, g5, g6, g7⟩ := pv_a2 V
  obtain ⟨hH, hef, hln, ta, -⟩ := V
  have hAa : A ≠ a := fun e => by
    rw [e, ta] at tA
    cases tA
  have lA := sx_lt_of g3
  obtain ⟨n0, us, c1, c2, c3, -⟩ := hH A 21 sx_y21 tA rfl
  have c1 : h1[A]? = some (1000, us) := c1
  rw [g3] at c1
  cases c1
  refine wp_s (pc' := 54) ji_176_53 rfl rfl rfl ?_
  refine wp_gf ji_176_54 jf_176_7 g1 g2 ?_
  refine wp_s (pc' := 58) ji_176_57 rfl rfl rfl ?_
  refine wp_s (pc' := 59) ji_176_58 rfl rfl rfl ?_
  refine wp_ial (x := 2) ji_176_59 g3 (by omega) (by omega) (by omega) g5 ?_
  refine wp_s (pc' := 61) ji_176_60 rfl rfl rfl ?_
  refine wp_iadd (x := a2v h a) (y := 1) (z := a2v h a + 1) ji_176_61 rfl ?_
  refine wp_ias (x := 2) (y := a2v h a + 1) ji_176_62 g3 (n0 (by decide)) (by omega) (by omega) (by omega) ?_
  refine wp_s (pc' := 64) ji_176_63 rfl rfl rfl ?_
  refine wp_gf ji_176_64 jf_176_7 (fs := fsA) (by rw [List.getElem?_set_ne hAa]; exact g1) g2 ?_
  refine wp_s (pc' := 68) ji_176_67 rfl rfl rfl ?_
  refine wp_ial (x := 2) ji_176_68 (List.getElem?_set_self lA) (by omega) (by rw [List.length_set]; omega) (by rw [List.length_set]; omega) (List.getElem?_set_self (by show 2 < asA.length; omega)) ?_
  refine wp_s (pc' := 70) ji_176_69 rfl rfl rfl ?_
  refine wp_isub (x := a2v h a + 1) (y := 1) (z := a2v h a) ji_176_70 (by omega) ?_
  have hset : ∀ k, k ≠ 2 → (asA.set 2 (wp_i (a2v h a + 1)))[k]? = asA[k]? := fun k hk => List.getElem?_set_ne (Ne.symm hk)
  have hefA : sx_ef sx_tau sx_K176.2.2.2 h1 (h1.set A (1000, asA.set 2 (wp_i (a2v h a + 1)))) := by
    refine sx_ef_ax (t := 21) g3 tA (fun key hkey => sx_at_as (by decide) (fun _ _ e => hkey (by rw [e]; decide))) (fun _ _ j hj => hset j (by have := hj rfl; omega)) (fun _ B hW => sx_W_set hW tA g3 (fun k hk => hset k (fun e => by rw [e] at hk; exact absurd hk (by decide))))
  refine wp_ri ji_176_71 jr_176 rfl ⟨?_, ⟨_, rfl, _, rfl, by rw [wp_ti (by omega)]; omega, by rw [wp_ti (by omega)]; omega⟩, sx_ef_tr (sx_ef_sub hef tx_sub) hefA, by rw [List.length_set]; exact hln, ?_⟩
  · refine sx_H_set (P := sx_PP) hH tA (t := 21) (kd := sx_y21.1) (len := sx_y21.2.1) (l := sx_y21.2.2) rfl (by rw [List.length_set]; exact c2) lA (fun j w hw2 => ?_) (fun e => by cases e)
    by_cases e : 2 = j
    · subst e
      have hw2 : (asA.set 2 (wp_i (a2v h a + 1)))[2]? = some w := hw2
      rw [List.getElem?_set_self (by omega)] at hw2
      cases hw2
      exact ⟨(0, 0, 4), by decide, _, rfl, by rw [wp_ti (by omega)]; omega, by rw [wp_ti (by omega)]; omega⟩
    · have hw2 : (asA.set 2 (wp_i (a2v h a + 1)))[j]? = some w := hw2
      rw [hset j (Ne.symm e)] at hw2
      exact c3 j w hw2
  · rw [tx_c, Int.natCast_zero, Int.add_zero]
    exact (sx_ef_tr (sx_ef_sub hef tx_sub) hefA).2.2 (by decide) B hW
theorem ws_text {d : Nat} {hh h : mj_H} {a P T : Nat} {φ : Nat → Int} {pl ts : List Value} {B : Int} (IH : sx_IH sx_PP (d + 1 + 1 + 1 + 1 + 1 + 1 + 1 + 1 + 1 + 1)) (hd : 2 ≤ d) (V : pv hh h a P T φ pl ts) (hW : sx_W sx_tau hh B) : wp_R (d + 1 + 1 + 1 + 1 + 1 + 1 + 1 + 1 + 1 + 1) 176 0 [some (.ref a)] [] h (tx_Q hh B) := by
  refine wp_s (pc' := 1) ji_176_0 rfl rfl rfl ?_
  obtain ⟨A1, fsA1, asA1, tA1, g1A1, g2A1, g3A1, g4A1, g5A1, g6A1, g7A1⟩ := pv_a2 V
  refine wp_gf ji_176_1 jf_176_7 g1A1 g2A1 ?_
  refine wp_s (pc' := 5) ji_176_4 rfl rfl rfl ?_
  refine wp_ial (x := 2) ji_176_5 g3A1 (by omega) (by omega) (by omega) g5A1 ?_
  refine wp_s (pc' := 7) ji_176_6 rfl rfl rfl ?_
  refine wp_icmp (t := 12) ji_176_7 rfl (by omega) (by omega) (fun (hb4 : ¬ (a2v hh a : Int) = 4) => ?_) (fun (hb4 : ¬ (¬ (a2v hh a : Int) = 4)) => ?_)
  · refine wp_s (pc' := 13) ji_176_12 rfl rfl rfl ?_
    refine wp_s (pc' := 14) ji_176_13 rfl rfl rfl ?_
    obtain ⟨s, hs2⟩ : ∃ s : Nat, a2v hh a = (s : Int) := ⟨(a2v hh a).toNat, by omega⟩
    refine pv_vc V ji_176_14 jc_176_254 jk_177 (rest := [.ref a]) rfl (Nat.le_of_ble_eq_true rfl) rfl (by rw [jn_177]; rfl) (ws_readText (d := d) (s := s) (fun d1 hd1 => IH d1 (by omega)) (fun d1 hd1 => IH d1 (by omega)) (by omega) V (by omega) hs2) (fun v h R => ?_)
    obtain ⟨y, rfl, y0, y7, φ1, pl1, ts1, V⟩ := R
    show wp_R (d + 1 + 1 + 1 + 1 + 1 + 1 + 1 + 1 + 1 + 1) 176 17 [some (.ref a)] [wp_i y, .ref a] h _
    refine pv_pi V ji_176_17 jf_176_22 (by decide) pf_5 (by decide) (by decide) (by decide) (by omega) (by omega) (by omega) rfl rfl (fun h V => ?_)
    refine wp_s (pc' := 21) ji_176_20 rfl rfl rfl ?_
    refine wp_s (pc' := 22) ji_176_21 rfl rfl rfl ?_
    refine pv_gi V ji_176_22 jf_176_22 (by decide) pf_5 (y := y) rfl (fun l5 u6 => ?_)
    refine wp_if (t := 32) ji_176_25 rfl (by omega) (fun (hb7 : ¬ (y : Int) = 0) => ?_) (fun (hb7 : ¬ (¬ (y : Int) = 0)) => ?_)
    · refine wp_s (pc' := 33) ji_176_32 rfl rfl rfl ?_
      refine pv_gi V ji_176_33 jf_176_92 (by decide) pf_8 (y := φ1 8) rfl (fun l8 u9 => ?_)
      refine pv_pi V ji_176_36 jf_176_26 (by decide) pf_6 (by decide) (by decide) (by decide) (by omega) (by omega) (by omega) rfl rfl (fun h V => ?_)
      refine wp_s (pc' := 40) ji_176_39 rfl rfl rfl ?_
      refine wp_s (pc' := 41) ji_176_40 rfl rfl rfl ?_
      refine pv_pi V ji_176_41 jf_176_78 (by decide) pf_4 (by decide) (by decide) (by decide) (by omega) (by omega) (by omega) rfl rfl (fun h V => ?_)
      refine wp_s (pc' := 45) ji_176_44 rfl rfl rfl ?_
      refine pv_gi V ji_176_45 jf_176_22 (by decide) pf_5 (y := y) rfl (fun l10 u11 => ?_)
      refine wp_if (t := 53) ji_176_48 rfl (by omega) (fun (hb12 : (y : Int) = 0) => ?_) (fun (hb12 : ¬ ((y : Int) = 0)) => ?_)
      · exact tx_end V hW (by omega)
      · refine wp_s (pc' := 52) ji_176_51 rfl rfl rfl ?_
        exact wp_ri ji_176_52 jr_176 rfl (tx_fin V hW (by omega))
    · refine wp_s (pc' := 29) ji_176_28 rfl rfl rfl ?_
      refine wp_goto (t := 36) ji_176_29 rfl ?_
      refine pv_pi V ji_176_36 jf_176_26 (by decide) pf_6 (by decide) (by decide) (by decide) (by omega) (by omega) (by omega) rfl rfl (fun h V => ?_)
      refine wp_s (pc' := 40) ji_176_39 rfl rfl rfl ?_
      refine wp_s (pc' := 41) ji_176_40 rfl rfl rfl ?_
      refine pv_pi V ji_176_41 jf_176_78 (by decide) pf_4 (by decide) (by decide) (by decide) (by omega) (by omega) (by omega) rfl rfl (fun h V => ?_)
      refine wp_s (pc' := 45) ji_176_44 rfl rfl rfl ?_
      refine pv_gi V ji_176_45 jf_176_22 (by decide) pf_5 (y := y) rfl (fun l13 u14 => ?_)
      refine wp_if (t := 53) ji_176_48 rfl (by omega) (fun (hb15 : (y : Int) = 0) => ?_) (fun (hb15 : ¬ ((y : Int) = 0)) => ?_)
      · exact tx_end V hW (by omega)
      · refine wp_s (pc' := 52) ji_176_51 rfl rfl rfl ?_
        exact wp_ri ji_176_52 jr_176 rfl (tx_fin V hW (by omega))
  · refine wp_s (pc' := 11) ji_176_10 rfl rfl rfl ?_
    exact wp_ri ji_176_11 jr_176 rfl (tx_fin V hW (by omega))
theorem sx_M176 {d : Nat} (IH : sx_IH sx_PP d) : sx_M sx_PP d 176 sx_K176 := by
  intro vs h hH ha hd B hW hB
  match vs, ha with
  | [v0], ⟨⟨a, e0, ta⟩, _⟩ =>
  subst e0
  have hd20 : (20 : Int) + 0 ≤ d := hd
  obtain ⟨e, rfl⟩ : ∃ e, d = e + 1 + 1 + 1 + 1 + 1 + 1 + 1 + 1 + 1 + 1 := ⟨d - 10, by omega⟩
  obtain ⟨P, T, φ, pl, ts, V⟩ := pv_init hH ta
  exact ⟨[some (.ref a)], by unfold mj_ent; rw [jn_176]; rfl, ws_text IH (by omega) V hW⟩
