/-! -/
set_option maxRecDepth 100000 in
theorem ji_232_2 : mj_ins 232 2 = some (.aload_n 0) := by decide +kernel
set_option maxRecDepth 100000 in
theorem ji_232_3 : mj_ins 232 3 = some (.getfield 7) := by decide +kernel
set_option maxRecDepth 100000 in
theorem jf_232_7 : mj_fld 232 7 = some (11, 0, (.array .int), false) := by decide +kernel
set_option maxRecDepth 100000 in
theorem ji_232_6 : mj_ins 232 6 = some (.iconst 3) := by decide +kernel
set_option maxRecDepth 100000 in
theorem ji_232_7 : mj_ins 232 7 = some (.iaload) := by decide +kernel
set_option maxRecDepth 100000 in
theorem ji_232_8 : mj_ins 232 8 = some (.ifCond .lt 55) := by decide +kernel
set_option maxRecDepth 100000 in
theorem ji_232_11 : mj_ins 232 11 = some (.iload_n 2) := by decide +kernel
set_option maxRecDepth 100000 in
theorem ji_232_12 : mj_ins 232 12 = some (.aload_n 0) := by decide +kernel
set_option maxRecDepth 100000 in
theorem ji_232_13 : mj_ins 232 13 = some (.getfield 16) := by decide +kernel
set_option maxRecDepth 100000 in
theorem jf_232_16 : mj_fld 232 16 = some (11, 2, (.array .int), false) := by decide +kernel
set_option maxRecDepth 100000 in
theorem ji_232_16 : mj_ins 232 16 = some (.sipush 705) := by decide +kernel
set_option maxRecDepth 100000 in
theorem ji_232_19 : mj_ins 232 19 = some (.aload_n 0) := by decide +kernel
set_option maxRecDepth 100000 in
theorem ji_232_20 : mj_ins 232 20 = some (.getfield 7) := by decide +kernel
set_option maxRecDepth 100000 in
theorem ji_232_23 : mj_ins 232 23 = some (.iconst 3) := by decide +kernel
set_option maxRecDepth 100000 in
theorem ji_232_24 : mj_ins 232 24 = some (.iaload) := by decide +kernel
set_option maxRecDepth 100000 in
theorem ji_232_25 : mj_ins 232 25 = some (.imul) := by decide +kernel
set_option maxRecDepth 100000 in
theorem ji_232_26 : mj_ins 232 26 = some (.iaload) := by decide +kernel
set_option maxRecDepth 100000 in
theorem ji_232_27 : mj_ins 232 27 = some (.if_icmp .ge 36) := by decide +kernel
set_option maxRecDepth 100000 in
theorem ji_232_63 : mj_ins 232 63 = some (.iconst (-1)) := by decide +kernel
set_option maxRecDepth 100000 in
theorem ji_232_64 : mj_ins 232 64 = some (.ireturn) := by decide +kernel
set_option maxRecDepth 100000 in
theorem jr_232 : mj_ret 232 = some .int := by decide +kernel
set_option maxRecDepth 100000 in
theorem ji_232_30 : mj_ins 232 30 = some (.aload_n 0) := by decide +kernel
set_option maxRecDepth 100000 in
theorem ji_232_31 : mj_ins 232 31 = some (.getfield 16) := by decide +kernel
set_option maxRecDepth 100000 in
theorem ji_232_34 : mj_ins 232 34 = some (.sipush 705) := by decide +kernel
set_option maxRecDepth 100000 in
theorem ji_232_37 : mj_ins 232 37 = some (.aload_n 0) := by decide +kernel
set_option maxRecDepth 100000 in
theorem ji_232_38 : mj_ins 232 38 = some (.getfield 7) := by decide +kernel
set_option maxRecDepth 100000 in
theorem ji_232_41 : mj_ins 232 41 = some (.iconst 3) := by decide +kernel
set_option maxRecDepth 100000 in
theorem ji_232_42 : mj_ins 232 42 = some (.iaload) := by decide +kernel
set_option maxRecDepth 100000 in
theorem ji_232_43 : mj_ins 232 43 = some (.imul) := by decide +kernel
set_option maxRecDepth 100000 in
theorem ji_232_44 : mj_ins 232 44 = some (.iconst 1) := by decide +kernel
set_option maxRecDepth 100000 in
theorem ji_232_45 : mj_ins 232 45 = some (.iadd) := by decide +kernel
set_option maxRecDepth 100000 in
theorem ji_232_46 : mj_ins 232 46 = some (.iconst 4) := by decide +kernel
set_option maxRecDepth 100000 in
theorem ji_232_47 : mj_ins 232 47 = some (.iload_n 2) := by decide +kernel
set_option maxRecDepth 100000 in
theorem ji_232_48 : mj_ins 232 48 = some (.imul) := by decide +kernel
set_option maxRecDepth 100000 in
theorem ji_232_49 : mj_ins 232 49 = some (.iadd) := by decide +kernel
set_option maxRecDepth 100000 in
theorem ji_232_50 : mj_ins 232 50 = some (.iaload) := by decide +kernel
set_option maxRecDepth 100000 in
theorem ji_232_51 : mj_ins 232 51 = some (.iload_n 1) := by decide +kernel
set_option maxRecDepth 100000 in
theorem ji_232_52 : mj_ins 232 52 = some (.if_icmp .ne 5) := by decide +kernel
set_option maxRecDepth 100000 in
theorem ji_232_57 : mj_ins 232 57 = some (.iinc 2 1) := by decide +kernel
set_option maxRecDepth 100000 in
theorem ji_232_60 : mj_ins 232 60 = some (.goto (-58)) := by decide +kernel
set_option maxRecDepth 100000 in
theorem ji_232_55 : mj_ins 232 55 = some (.iload_n 2) := by decide +kernel
set_option maxRecDepth 100000 in
theorem ji_232_56 : mj_ins 232 56 = some (.ireturn) := by decide +kernel
set_option maxRecDepth 100000 in
theorem ji_232_0 : mj_ins 232 0 = some (.iconst 0) := by decide +kernel
set_option maxRecDepth 100000 in
theorem ji_232_1 : mj_ins 232 1 = some (.istore_n 2) := by decide +kernel
set_option maxRecDepth 100000 in
theorem ji_238_0 : mj_ins 238 0 = some (.lload_n 0) := by decide +kernel
set_option maxRecDepth 100000 in
theorem ji_238_1 : mj_ins 238 1 = some (.iload_n 2) := by decide +kernel
set_option maxRecDepth 100000 in
theorem ji_238_2 : mj_ins 238 2 = some (.i2l) := by decide +kernel
set_option maxRecDepth 100000 in
theorem ji_238_3 : mj_ins 238 3 = some (.lcmp) := by decide +kernel
set_option maxRecDepth 100000 in
theorem ji_238_4 : mj_ins 238 4 = some (.ifCond .ge 7) := by decide +kernel
set_option maxRecDepth 100000 in
theorem ji_238_11 : mj_ins 238 11 = some (.lload_n 0) := by decide +kernel
set_option maxRecDepth 100000 in
theorem ji_238_12 : mj_ins 238 12 = some (.iload_n 3) := by decide +kernel
set_option maxRecDepth 100000 in
theorem ji_238_13 : mj_ins 238 13 = some (.i2l) := by decide +kernel
set_option maxRecDepth 100000 in
theorem ji_238_14 : mj_ins 238 14 = some (.lcmp) := by decide +kernel
set_option maxRecDepth 100000 in
theorem ji_238_15 : mj_ins 238 15 = some (.ifCond .le 7) := by decide +kernel
set_option maxRecDepth 100000 in
theorem ji_238_22 : mj_ins 238 22 = some (.lload_n 0) := by decide +kernel
set_option maxRecDepth 100000 in
theorem ji_238_23 : mj_ins 238 23 = some (.l2i) := by decide +kernel
set_option maxRecDepth 100000 in
theorem ji_238_24 : mj_ins 238 24 = some (.ireturn) := by decide +kernel
set_option maxRecDepth 100000 in
theorem jr_238 : mj_ret 238 = some .int := by decide +kernel
set_option maxRecDepth 100000 in
theorem ji_238_18 : mj_ins 238 18 = some (.iload_n 3) := by decide +kernel
set_option maxRecDepth 100000 in
theorem ji_238_19 : mj_ins 238 19 = some (.goto 5) := by decide +kernel
set_option maxRecDepth 100000 in
theorem ji_238_7 : mj_ins 238 7 = some (.iload_n 2) := by decide +kernel
set_option maxRecDepth 100000 in
theorem ji_238_8 : mj_ins 238 8 = some (.goto 16) := by decide +kernel
set_option maxRecDepth 100000 in
theorem ji_231_0 : mj_ins 231 0 = some (.aload_n 0) := by decide +kernel
set_option maxRecDepth 100000 in
theorem ji_231_1 : mj_ins 231 1 = some (.iload_n 1) := by decide +kernel
set_option maxRecDepth 100000 in
theorem ji_231_2 : mj_ins 231 2 = some (.invokevirtual 276) := by decide +kernel
set_option maxRecDepth 100000 in
theorem ji_231_5 : mj_ins 231 5 = some (.istore 5) := by decide +kernel
set_option maxRecDepth 100000 in
theorem ji_231_7 : mj_ins 231 7 = some (.iload 5) := by decide +kernel
set_option maxRecDepth 100000 in
theorem ji_231_9 : mj_ins 231 9 = some (.ifCond .ge 5) := by decide +kernel
set_option maxRecDepth 100000 in
theorem ji_231_12 : mj_ins 231 12 = some (.iload_n 2) := by decide +kernel
set_option maxRecDepth 100000 in
theorem ji_231_13 : mj_ins 231 13 = some (.ireturn) := by decide +kernel
set_option maxRecDepth 100000 in
theorem ji_231_14 : mj_ins 231 14 = some (.aload_n 0) := by decide +kernel
set_option maxRecDepth 100000 in
theorem ji_231_15 : mj_ins 231 15 = some (.iload 5) := by decide +kernel
set_option maxRecDepth 100000 in
theorem ji_231_17 : mj_ins 231 17 = some (.invokevirtual 279) := by decide +kernel
set_option maxRecDepth 100000 in
theorem ji_231_20 : mj_ins 231 20 = some (.aload_n 0) := by decide +kernel
set_option maxRecDepth 100000 in
theorem ji_231_21 : mj_ins 231 21 = some (.getfield 35) := by decide +kernel
set_option maxRecDepth 100000 in
theorem ji_231_24 : mj_ins 231 24 = some (.iconst 0) := by decide +kernel
set_option maxRecDepth 100000 in
theorem ji_231_25 : mj_ins 231 25 = some (.laload) := by decide +kernel
set_option maxRecDepth 100000 in
theorem ji_231_26 : mj_ins 231 26 = some (.iload_n 3) := by decide +kernel
set_option maxRecDepth 100000 in
theorem ji_231_27 : mj_ins 231 27 = some (.iload 4) := by decide +kernel
set_option maxRecDepth 100000 in
theorem ji_231_29 : mj_ins 231 29 = some (.invokestatic 282) := by decide +kernel
set_option maxRecDepth 100000 in
theorem ji_231_32 : mj_ins 231 32 = some (.ireturn) := by decide +kernel
set_option maxRecDepth 100000 in
theorem jr_231 : mj_ret 231 = some .int := by decide +kernel
set_option maxRecDepth 100000 in
theorem jn_231 : mj_nl 231 = 6 := by decide +kernel
set_option maxRecDepth 100000 in
theorem jn_232 : mj_nl 232 = 3 := by decide +kernel
set_option maxRecDepth 100000 in
theorem jn_233 : mj_nl 233 = 9 := by decide +kernel
set_option maxRecDepth 100000 in
theorem jn_238 : mj_nl 238 = 4 := by decide +kernel
set_option maxRecDepth 100000 in
theorem jk_232 : mj_cls 232 = 11 := by decide +kernel
set_option maxRecDepth 100000 in
theorem jk_233 : mj_cls 233 = 11 := by decide +kernel
set_option maxRecDepth 100000 in
theorem jc_231_276 : mj_cal 231 276 = some (2, 232, 1) := by decide +kernel
set_option maxRecDepth 100000 in
theorem jc_231_279 : mj_cal 231 279 = some (2, 233, 1) := by decide +kernel
set_option maxRecDepth 100000 in
theorem jc_231_282 : mj_cal 231 282 = some (1, 238, 3) := by decide +kernel
set_option maxRecDepth 100000 in
theorem jf_231_35 : mj_fld 231 35 = some (11, 23, (.array .long), false) := by decide +kernel
/-! the reference's says and isCounting -/
theorem el_r (vs : List Value) (i : Nat) : wp_r (sx_el vs i) := by
  unfold sx_el
  split
  · exact sx_r32 _
  · omega
/-- the state's cell and one of its places -/
theorem pv_ak {h0 h : mj_H} {a P T : Nat} {φ : Nat → Int} {pl ts : List Value} (V : pv h0 h a P T φ pl ts) {k : Nat} {lo hi : Int} (hk : k < 6044) (hd : sx_fd sx_y21.2.2 k = some (0, lo, hi)) : ∃ A fs as S, sx_tau[A]? = some 21 ∧ h[a]? = some (11, fs) ∧ fs[0]? = some (.ref A) ∧ h[A]? = some (1000, as) ∧ as.length = 6044 ∧ as[k]? = some (wp_i S) ∧ lo ≤ S ∧ S ≤ hi := by
  obtain ⟨hH, hef, hln, ta, -, -, fs, f1, -⟩ := V
  obtain ⟨vs, v, g1, g2, g3, X, rfl, tX⟩ := sx_rf hH ta (k := 0) (d := (2, 21, 0)) (by decide) (by decide)
  obtain ⟨-, as, v, a1, a2, a3, z, rfl, z1, z2⟩ := sx_ra hH tX hk hd
  exact ⟨X, vs, as, z.toInt, tX, g1, g3, a1, a2, by rw [a3, wp_iz], z1, z2⟩
theorem ws_cloop {d : Nat} {h0 h : mj_H} {a P T : Nat} {φ : Nat → Int} {pl ts : List Value} (V : pv h0 h a P T φ pl ts) {A : Nat} {fsA asA : List Value} (g1 : h[a]? = some (11, fsA)) (g2 : fsA[0]? = some (.ref A)) (g3 : h[A]? = some (1000, asA)) (g4 : asA.length = 6044) {s : Nat} (g5 : asA[3]? = some (wp_i (s : Int))) (hs : s < 4) {so : Int} (hso : wp_r so) : ∀ (m k : Nat), k + m = 25 → k ≤ 24 → (k = 0 ∨ True) → wp_R d 232 2 [some (.ref a), some (wp_i so), some (wp_i (k : Int))] [] h (fun v h1 => h1 = h ∧ ∃ y : Int, v = some (wp_i y) ∧ (y = -1 ∨ ∃ k : Nat, y = (k : Int) ∧ k < 24 ∧ (k : Int) < sx_el ts (705 * s) ∧ sx_el ts (705 * s + 1 + 4 * k) = so)) := by
  intro m
  induction m with
  | zero => intro k h1 h2; omega
  | succ m ih =>
    intro k hm hk24 _
    have ih : ∀ k', k' + m = 25 → k' ≤ 24 → True → wp_R d 232 2 [some (.ref a), some (wp_i so), some (wp_i (k' : Int))] [] h (fun v h1 => h1 = h ∧ ∃ y : Int, v = some (wp_i y) ∧ (y = -1 ∨ ∃ k : Nat, y = (k : Int) ∧ k < 24 ∧ (k : Int) < sx_el ts (705 * s) ∧ sx_el ts (705 * s + 1 + 4 * k) = so)) := fun k' q1 q2 _ => ih k' q1 q2 (Or.inr trivial)
    have hn24 := pv_tb V (j := 705 * s) (by omega) hd_0
    obtain ⟨N, hN⟩ : ∃ N, sx_el ts (705 * s) = N := ⟨_, rfl⟩
    rw [hN] at hn24
    obtain ⟨Z, hZ⟩ : ∃ Z, sx_el ts (705 * s + 1 + 4 * k) = Z := ⟨_, rfl⟩
    have hZr := el_r ts (705 * s + 1 + 4 * k)
    rw [hZ] at hZr
    refine wp_s (pc' := 3) ji_232_2 rfl rfl rfl ?_
    refine wp_gf ji_232_3 jf_232_7 g1 g2 ?_
    refine wp_s (pc' := 7) ji_232_6 rfl rfl rfl ?_
    refine wp_ial (x := 3) ji_232_7 g3 (by omega) (by omega) (by omega) g5 ?_
    refine wp_if (t := 63) ji_232_8 rfl (by omega) (fun (hb1 : ((s : Int) : Int) < 0) => (by exfalso; omega)) (fun (hb1 : ¬ (((s : Int) : Int) < 0)) => ?_)
    refine wp_s (pc' := 12) ji_232_11 rfl rfl rfl ?_
    refine wp_s (pc' := 13) ji_232_12 rfl rfl rfl ?_
    refine pv_gt V ji_232_13 jf_232_16 ?_
    refine wp_sp ji_232_16 rfl ?_
    refine wp_s (pc' := 20) ji_232_19 rfl rfl rfl ?_
    refine wp_gf ji_232_20 jf_232_7 g1 g2 ?_
    refine wp_s (pc' := 24) ji_232_23 rfl rfl rfl ?_
    refine wp_ial (x := 3) ji_232_24 g3 (by omega) (by omega) (by omega) g5 ?_
    refine wp_imul (x := 705) (y := (s : Int)) (z := ((705 * s : Nat) : Int)) ji_232_25 (by omega) ?_
    refine pv_lt V (x := ((705 * s : Nat) : Int)) (y := N) ji_232_26 (by omega) (by omega) hN (fun l2 => ?_)
    refine wp_icmp (t := 63) ji_232_27 rfl (by omega) (by omega) (fun (hb4 : (N : Int) ≤ ((k : Int))) => ?_) (fun (hb4 : ¬ ((N : Int) ≤ ((k : Int)))) => ?_)
    · refine wp_s (pc' := 64) ji_232_63 rfl rfl rfl ?_
      exact wp_ri ji_232_64 jr_232 rfl ⟨rfl, -1, rfl, Or.inl rfl⟩
    · refine wp_s (pc' := 31) ji_232_30 rfl rfl rfl ?_
      refine pv_gt V ji_232_31 jf_232_16 ?_
      refine wp_sp ji_232_34 rfl ?_
      refine wp_s (pc' := 38) ji_232_37 rfl rfl rfl ?_
      refine wp_gf ji_232_38 jf_232_7 g1 g2 ?_
      refine wp_s (pc' := 42) ji_232_41 rfl rfl rfl ?_
      refine wp_ial (x := 3) ji_232_42 g3 (by omega) (by omega) (by omega) g5 ?_
      refine wp_imul (x := 705) (y := (s : Int)) (z := ((705 * s : Nat) : Int)) ji_232_43 (by omega) ?_
      refine wp_s (pc' := 45) ji_232_44 rfl rfl rfl ?_
      refine wp_iadd (x := ((705 * s : Nat) : Int)) (y := 1) (z := ((705 * s : Nat) : Int) + 1) ji_232_45 (by omega) ?_
      refine wp_s (pc' := 47) ji_232_46 rfl rfl rfl ?_
      refine wp_s (pc' := 48) ji_232_47 rfl rfl rfl ?_
      refine wp_imul (x := 4) (y := (k : Int)) (z := 4 * ((k : Int))) ji_232_48 (by omega) ?_
      refine wp_iadd (x := ((705 * s : Nat) : Int) + 1) (y := 4 * ((k : Int))) (z := ((705 * s + 1 + 4 * k : Nat) : Int)) ji_232_49 (by omega) ?_
      refine pv_lt V (x := ((705 * s + 1 + 4 * k : Nat) : Int)) (y := Z) ji_232_50 (by omega) (by omega) hZ (fun l5 => ?_)
      refine wp_s (pc' := 52) ji_232_51 rfl rfl rfl ?_
      refine wp_icmp (t := 57) ji_232_52 rfl (by omega) (by omega) (fun (hb7 : ¬ (Z : Int) = so) => ?_) (fun (hb7 : ¬ (¬ (Z : Int) = so)) => ?_)
      · refine wp_iinc (x := (k : Int)) (z := (k : Int) + 1) (lv' := [some (.ref a), some (wp_i so), some (wp_i ((k : Int) + 1))]) ji_232_57 rfl (Nat.le_of_ble_eq_true rfl) (by omega) rfl ?_
        refine wp_goto (t := 2) ji_232_60 rfl ?_
        exact ih (k + 1) (by omega) (by omega) trivial
      · refine wp_s (pc' := 56) ji_232_55 rfl rfl rfl ?_
        exact wp_ri ji_232_56 jr_232 rfl ⟨rfl, _, rfl, Or.inr ⟨k, rfl, by omega, by omega, by omega⟩⟩
theorem ws_clauseOf {d : Nat} {h0 h : mj_H} {a P T : Nat} {φ : Nat → Int} {pl ts : List Value} (V : pv h0 h a P T φ pl ts) {A : Nat} {fsA asA : List Value} (g1 : h[a]? = some (11, fsA)) (g2 : fsA[0]? = some (.ref A)) (g3 : h[A]? = some (1000, asA)) (g4 : asA.length = 6044) {s : Nat} (g5 : asA[3]? = some (wp_i (s : Int))) (hs : s < 4) {so : Int} (hso : wp_r so) : wp_R d 232 0 [some (.ref a), some (wp_i so), none] [] h (fun v h1 => h1 = h ∧ ∃ y : Int, v = some (wp_i y) ∧ (y = -1 ∨ ∃ k : Nat, y = (k : Int) ∧ k < 24 ∧ (k : Int) < sx_el ts (705 * s) ∧ sx_el ts (705 * s + 1 + 4 * k) = so)) := by
  refine wp_s (pc' := 1) ji_232_0 rfl rfl rfl ?_
  refine wp_s (pc' := 2) (lv' := [some (.ref a), some (wp_i so), some (wp_i 0)]) ji_232_1 rfl rfl rfl ?_
  exact ws_cloop V g1 g2 g3 g4 g5 hs hso 25 0 rfl (by omega) (Or.inl rfl)
theorem ws_clauseNo {d : Nat} {h : mj_H} {a : Nat} {so : Int} {A : Nat} {fsA asA : List Value} (g1 : h[a]? = some (11, fsA)) (g2 : fsA[0]? = some (.ref A)) (g3 : h[A]? = some (1000, asA)) (g4 : asA.length = 6044) (g5 : asA[3]? = some (wp_i (-1))) : wp_R d 232 0 [some (.ref a), some (wp_i so), none] [] h (fun v h1 => h1 = h ∧ v = some (wp_i (-1))) := by
  refine wp_s (pc' := 1) ji_232_0 rfl rfl rfl ?_
  refine wp_s (pc' := 2) (lv' := [some (.ref a), some (wp_i so), some (wp_i 0)]) ji_232_1 rfl rfl rfl ?_
  refine wp_s (pc' := 3) ji_232_2 rfl rfl rfl ?_
  refine wp_gf ji_232_3 jf_232_7 g1 g2 ?_
  refine wp_s (pc' := 7) ji_232_6 rfl rfl rfl ?_
  refine wp_ial (x := 3) ji_232_7 g3 (by omega) (by omega) (by omega) g5 ?_
  refine wp_if (t := 63) ji_232_8 rfl (by omega) (fun _ => ?_) (fun (hb : ¬ ((-1 : Int) < 0)) => (by exfalso; omega))
  refine wp_s (pc' := 64) ji_232_63 rfl rfl rfl ?_
  exact wp_ri ji_232_64 jr_232 rfl ⟨rfl, rfl⟩
/-- clauseOf, and work where there is a law -/
theorem ws_clauseAny {d : Nat} {h0 h : mj_H} {a P T : Nat} {φ : Nat → Int} {pl ts : List Value} (V : pv h0 h a P T φ pl ts) {so : Int} (hso : 0 ≤ so ∧ so ≤ 2) : ∃ A fs as S, sx_tau[A]? = some 21 ∧ h[a]? = some (11, fs) ∧ fs[0]? = some (.ref A) ∧ h[A]? = some (1000, as) ∧ as.length = 6044 ∧ as[3]? = some (wp_i S) ∧ wp_R d 232 0 [some (.ref a), some (wp_i so), none] [] h (fun v h1 => h1 = h ∧ ∃ y : Int, v = some (wp_i y) ∧ (y = -1 ∨ ∃ s k : Nat, S = (s : Int) ∧ s < 4 ∧ y = (k : Int) ∧ k < 24 ∧ (k : Int) < sx_el ts (705 * s) ∧ sx_el ts (705 * s + 1 + 4 * k) = so)) := by
  obtain ⟨A, fs, as, S, tA, g1, g2, g3, g4, g5, s1, s2⟩ := pv_ak V (k := 3) (lo := -1) (hi := 3) (by decide) (by decide)
  refine ⟨A, fs, as, S, tA, g1, g2, g3, g4, g5, ?_⟩
  by_cases hS : S = -1
  · subst hS
    refine wp_mono (ws_clauseNo g1 g2 g3 g4 g5) ?_
    rintro v h1 ⟨e1, e2⟩
    exact ⟨e1, -1, e2, Or.inl rfl⟩
  · obtain ⟨s, rfl⟩ : ∃ s : Nat, S = (s : Int) := ⟨S.toNat, by omega⟩
    refine wp_mono (ws_clauseOf V g1 g2 g3 g4 g5 (by omega) (by omega)) ?_
    rintro v h1 ⟨e1, y, e2, e3⟩
    refine ⟨e1, y, e2, e3.imp id (fun q => ?_)⟩
    obtain ⟨k, q⟩ := q
    exact ⟨s, k, rfl, by omega, q⟩
/-- work, by a clause that clauseOf has found -/
theorem ws_work {d : Nat} (IH : sx_IH sx_PP d) (hd : 3 ≤ d) {h0 h : mj_H} {a P T : Nat} {φ : Nat → Int} {pl ts : List Value} (V : pv h0 h a P T φ pl ts) {A : Nat} {fs as : List Value} {s k : Nat} {so : Int} (hso : so ≤ 2) (g1 : h[a]? = some (11, fs)) (g2 : fs[0]? = some (.ref A)) (g3 : h[A]? = some (1000, as)) (g4 : as.length = 6044) (g5 : as[3]? = some (wp_i (s : Int))) (hs : s < 4) (hk : k < 24) (hn : (k : Int) < sx_el ts (705 * s)) (hl : sx_el ts (705 * s + 1 + 4 * k) = so) {B : Int} (hB : B ≤ sx_mx) (hW : sx_W sx_tau h B) : wp_R d 233 0 [some (.ref a), some (wp_i (k : Int)), none, none, none, none, none, none, none] [] h (fun v h1 => v = none ∧ sx_H sx_TT 20 sx_tau h1 ∧ sx_ef sx_tau [10067, 10068] h h1 ∧ h1.length = h.length ∧ sx_W sx_tau h1 B) := by
  obtain ⟨hH, -, -, ta, -, tT, fs2, f1, f2, -, -, -, g6⟩ := V
  rw [g1] at f1
  cases f1
  obtain ⟨f, h', r1, r2, r3, r4, r5⟩ := sx_work IH hd hB hH hW ta g1 g2 f2 g3 g4 tT g6 (S := Int32.ofInt (s : Int)) (K := Int32.ofInt (k : Int)) g5 (wp_ti (by omega)) hs (wp_ti (by omega)) hk hn (by rw [hl]; exact hso)
  exact ⟨f, none, h', r1, rfl, r2, r3, r4, r5⟩
theorem ws_cut {d : Nat} {h : mj_H} {z : Int64} {lo hi : Int} : wp_R d 238 0 [some (.long z), none, some (wp_i lo), some (wp_i hi)] [] h (fun v h1 => h1 = h ∧ ∃ y : Int, v = some (wp_i y)) := by
  refine wp_s (pc' := 1) ji_238_0 rfl rfl rfl ?_
  refine wp_s (pc' := 2) ji_238_1 rfl rfl rfl ?_
  refine wp_s (pc' := 3) ji_238_2 rfl rfl rfl (wp_gl (fun z1 => ?_))
  refine wp_s (pc' := 4) ji_238_3 rfl rfl rfl ?_
  refine wp_ifz (t := 11) ji_238_4 rfl ?_ ?_
  · refine wp_s (pc' := 12) ji_238_11 rfl rfl rfl ?_
    refine wp_s (pc' := 13) ji_238_12 rfl rfl rfl ?_
    refine wp_s (pc' := 14) ji_238_13 rfl rfl rfl (wp_gl (fun z2 => ?_))
    refine wp_s (pc' := 15) ji_238_14 rfl rfl rfl ?_
    refine wp_ifz (t := 22) ji_238_15 rfl ?_ ?_
    · refine wp_s (pc' := 23) ji_238_22 rfl rfl rfl ?_
      refine wp_s (pc' := 24) ji_238_23 rfl rfl rfl ?_
      rw [wp_iz]
      exact wp_ri ji_238_24 jr_238 rfl ⟨rfl, _, rfl⟩
    · refine wp_s (pc' := 19) ji_238_18 rfl rfl rfl ?_
      refine wp_goto (t := 24) ji_238_19 rfl ?_
      exact wp_ri ji_238_24 jr_238 rfl ⟨rfl, _, rfl⟩
  · refine wp_s (pc' := 8) ji_238_7 rfl rfl rfl ?_
    refine wp_goto (t := 24) ji_238_8 rfl ?_
    exact wp_ri ji_238_24 jr_238 rfl ⟨rfl, _, rfl⟩
theorem wp_lal {d m pc : Nat} {lv : mj_L} {st : List Value} {h : mj_H} {Q : Option Value → mj_H → Prop} {a : Nat} {x : Int} {vs : List Value} {v : Value} (hi : mj_ins m pc = some .laload) (ha : h[a]? = some (1005, vs)) (hx : 0 ≤ x) (hl : x < vs.length) (hn : vs.length ≤ 2147483647) (hv : vs[x.toNat]? = some v) (hr : wp_R d m (pc + 1) lv (v :: st) h Q) : wp_R d m pc lv (wp_i x :: .ref a :: st) h Q := by
  refine wp_s (pc' := pc + 1) (lv' := lv) (st' := v :: st) (h' := h) hi rfl rfl ?_ hr
  have e : mj_el h a 1005 (Int32.ofInt x) = some v := by
    unfold mj_el
    rw [ha]
    dsimp only
    rw [if_pos rfl, wp_ix hx hl hn]
    exact hv
  simp only [mj_st, e, Option.map_some]
theorem wp_bal {d m pc : Nat} {lv : mj_L} {st : List Value} {h : mj_H} {Q : Option Value → mj_H → Prop} {a : Nat} {x : Int} {vs : List Value} {v : Value} (hi : mj_ins m pc = some .baload) (ha : h[a]? = some (1001, vs)) (hx : 0 ≤ x) (hl : x < vs.length) (hn : vs.length ≤ 2147483647) (hv : vs[x.toNat]? = some v) (hr : wp_R d m (pc + 1) lv (v :: st) h Q) : wp_R d m pc lv (wp_i x :: .ref a :: st) h Q := by
  refine wp_s (pc' := pc + 1) (lv' := lv) (st' := v :: st) (h' := h) hi rfl rfl ?_ hr
  have e : mj_el h a 1001 (Int32.ofInt x) = some v := by
    unfold mj_el
    rw [ha]
    dsimp only
    rw [if_pos rfl, wp_ix hx hl hn]
    exact hv
  simp only [mj_st, e, Option.map_some]
theorem sx_M231 {d : Nat} (IH : sx_IH sx_PP d) : sx_M sx_PP d 231 sx_K231 := by
  intro vs h hH ha hd B hW hB
  match vs, ha with
  | [v0, v1, v2, v3, v4], ⟨⟨a, e0, ta⟩, ⟨z1, e1, p1, p2⟩, ⟨z2, e2, p3, p4⟩, ⟨z3, e3, p5, p6⟩, ⟨z4, e4, p7, p8⟩, _⟩ =>
  subst e0 e1 e2 e3 e4
  have p1 : (0 : Int) ≤ z1.toInt := p1
  have p2 : z1.toInt ≤ 1 := p2
  have hd9 : (9 : Int) + 0 ≤ d := hd
  have hc : sx_cost sx_K231.2.2.2 = 0 := by decide
  rw [hc, Int.natCast_zero, Int.add_zero] at hB
  obtain ⟨e, rfl⟩ : ∃ e, d = e + 1 := ⟨d - 1, by omega⟩
  obtain ⟨P, T, φ, pl, ts, V⟩ := pv_init hH ta
  obtain ⟨A, fs, as, S, tA, g1, g2, g3, g4, g5, hcl⟩ := ws_clauseAny (d := e) V (so := z1.toInt) (by omega)
  refine ⟨[some (.ref a), some (.int z1), some (.int z2), some (.int z3), some (.int z4), none], by unfold mj_ent; rw [jn_231]; rfl, ?_⟩
  show wp_R (e + 1) 231 0 _ [] h (fun v h' => sx_H sx_TT 20 sx_tau h' ∧ sx_an sx_tau sx_K231.2.1 v ∧ sx_ef sx_tau sx_K231.2.2.2 h h' ∧ h'.length = h.length ∧ sx_W sx_tau h' (B + sx_cost sx_K231.2.2.2))
  rw [hc, Int.natCast_zero, Int.add_zero]
  refine wp_s (pc' := 1) ji_231_0 rfl rfl rfl ?_
  refine wp_s (pc' := 2) ji_231_1 rfl rfl rfl ?_
  refine pv_vc V ji_231_2 jc_231_276 jk_232 (rest := []) rfl (Nat.le_of_ble_eq_true rfl) rfl (by rw [jn_232]; rfl) (by rw [wp_iz]; exact hcl) (fun v h1 R => ?_)
  obtain ⟨rfl, y, rfl, hy⟩ := R
  show wp_R (e + 1) 231 5 _ [wp_i y] h1 _
  refine wp_s (pc' := 7) (lv' := [some (.ref a), some (.int z1), some (.int z2), some (.int z3), some (.int z4), some (wp_i y)]) ji_231_5 rfl rfl rfl ?_
  refine wp_s (pc' := 9) ji_231_7 rfl rfl rfl ?_
  refine wp_if (t := 14) ji_231_9 rfl (by rcases hy with q | ⟨s, k, q⟩ <;> omega) (fun (hb : 0 ≤ y) => ?_) (fun hb => ?_)
  · obtain ⟨s, k, rfl, hs, rfl, hk, hn, hl⟩ := hy.resolve_left (by omega)
    refine wp_s (pc' := 15) ji_231_14 rfl rfl rfl ?_
    refine wp_s (pc' := 17) ji_231_15 rfl rfl rfl ?_
    refine pv_vc V ji_231_17 jc_231_279 jk_233 (rest := []) rfl (Nat.le_of_ble_eq_true rfl) rfl (by rw [jn_233]; rfl) (ws_work (fun d1 hd1 => IH d1 (by omega)) (by omega) V (so := z1.toInt) (by omega) g1 g2 g3 g4 g5 hs hk hn hl hB hW) (fun v h2 R => ?_)
    obtain ⟨rfl, k1, k2, k3, k4⟩ := R
    show wp_R (e + 1) 231 20 _ [] h2 _
    obtain ⟨us, v, u1, u2, u3, X, rfl, tX⟩ := sx_rf k1 ta (k := 23) (d := (2, 67, 0)) (by decide) (by decide)
    have tX : sx_tau[X]? = some 67 := tX
    obtain ⟨-, ws, w1, w2, w3, -⟩ := k1 X 67 sx_y67 tX rfl
    have w1 : h2[X]? = some (1005, ws) := w1
    have w2 : ws.length = 330 := w2
    have hv : ws[0]? = some ws[0] := List.getElem?_eq_getElem (by omega)
    obtain ⟨dd, d1, d2⟩ := w3 _ _ hv
    have d1 : some ((1, -9223372036854775808, 9223372036854775807) : sx_D) = some dd := d1
    cases d1
    obtain ⟨zz, ez, -⟩ := d2
    rw [ez] at hv
    refine wp_s (pc' := 21) ji_231_20 rfl rfl rfl ?_
    refine wp_gf ji_231_21 jf_231_35 u1 u3 ?_
    refine wp_s (pc' := 25) ji_231_24 rfl rfl rfl ?_
    refine wp_lal (x := 0) ji_231_25 w1 (by omega) (by omega) (by omega) hv ?_
    refine wp_s (pc' := 27) ji_231_26 rfl rfl rfl ?_
    refine wp_s (pc' := 29) ji_231_27 rfl rfl rfl ?_
    refine wp_sc (as := [.long zz, .int z3, .int z4]) (rest := []) ji_231_29 jc_231_282 (Nat.le_of_ble_eq_true rfl) rfl (Nat.le_of_ble_eq_true rfl) rfl (by rw [jn_238]; rfl) (by rw [wp_iz (z := z3), wp_iz (z := z4)]; exact ws_cut) (fun v h3 R => ?_)
    obtain ⟨rfl, y2, rfl⟩ := R
    show wp_R (e + 1) 231 32 _ [wp_i y2] h3 _
    exact wp_ri ji_231_32 jr_231 rfl ⟨k1, ⟨_, rfl, _, rfl, (sx_r32 _).1, (sx_r32 _).2⟩, k2, k3, k4⟩
  · refine wp_s (pc' := 13) ji_231_12 rfl rfl rfl ?_
    rw [wp_iz (z := z2)]
    exact wp_ri ji_231_13 jr_231 rfl ⟨hH, ⟨_, rfl, _, rfl, (sx_r32 _).1, (sx_r32 _).2⟩, sx_ef_rf, rfl, hW⟩
