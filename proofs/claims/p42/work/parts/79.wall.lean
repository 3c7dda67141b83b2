/-! the reference's work: its loop ends well -/
theorem sx_ia {X : Int32} {x : Nat} {c : Int} (hX : X.toInt = (x : Int)) (hx : x ≤ 100000) (hc : 0 ≤ c ∧ c ≤ 100000) : (X + Int32.ofInt c).toInt = x + c := by
  have e := sx_oi (n := c) ⟨by have : sx_mn = -2147483648 := rfl; omega, by have : sx_mx = 2147483647 := rfl; omega⟩
  rw [sx_iadd (by rw [e, hX]; have h1 : sx_mn = -2147483648 := rfl; have h2 : sx_mx = 2147483647 := rfl; omega), e, hX]
theorem sx_wloop {d : Nat} (IH : sx_IH sx_PP d) (hd : 3 ≤ d) {B : Int} (hB : B ≤ sx_mx) {a Tx s : Nat} (ta : sx_tau[a]? = some 63) (tT : sx_tau[Tx]? = some 20) (hs : s < 4) {x to : Nat} (hx : 1 ≤ x ∧ x ≤ 2208) {ts : List Value} (hto : sx_el ts (x + 2) = (to : Int)) (h303 : to ≤ 303) : ∀ (len n t i : Nat) (lv : mj_L) (h : mj_H) (fs : List Value) (X Q N T I : Int32), lv.length = 9 → mj_ld lv 0 = some (.ref a) → mj_ld lv 2 = some (.int X) → mj_ld lv 3 = some (.int Q) → mj_ld lv 4 = some (.int N) → mj_ld lv 5 = some (.int T) → mj_ld lv 6 = some (.int I) → X.toInt = (x : Int) → Q.toInt = ((705 * s + 97 : Nat) : Int) → N.toInt = (n : Int) → T.toInt = (t : Int) → I.toInt = (i : Int) → sx_H sx_TT 20 sx_tau h → sx_W sx_tau h B → h[a]? = some (11, fs) → fs[2]? = some (.ref Tx) → h[Tx]? = some (1000, ts) → len = to - i → n ≤ i → t ≤ i → sx_wf ts (705 * s + 97) i len n t = true → ∃ f h', mj_run f d 233 47 lv [] h = some (none, h') ∧ sx_H sx_TT 20 sx_tau h' ∧ sx_ef sx_tau [10067, 10068] h h' ∧ h'.length = h.length ∧ sx_W sx_tau h' B := by
  intro len
  induction len with
  | zero =>
    intro n t i lv h fs X Q N T I hlen l0 l2 l3 l4 l5 l6 eX eQ eN eT eI hH hW h1 h2 h3 hl hn ht hw
    obtain ⟨-, E, z1, z2, -⟩ := sx_txt hH tT h3 (J := X + Int32.ofInt 2) (j := x + 2) (by rw [sx_ia eX (by omega) (by decide)]; omega) (by omega)
    rw [hto] at z2
    refine ⟨9, h, (sx_whead (ts := ts) l0 l2 l6 h1 h2 z1).1 (Int32.le_iff_toInt_le.mpr (by omega)), hH, sx_ef_rf, rfl, hW⟩
  | succ len ih =>
    intro n t i lv h fs X Q N T I hlen l0 l2 l3 l4 l5 l6 eX eQ eN eT eI hH hW h1 h2 h3 hl hn ht hw
    have hi : i < to := by omega
    obtain ⟨-, E, z1, z2, -⟩ := sx_txt hH tT h3 (J := X + Int32.ofInt 2) (j := x + 2) (by rw [sx_ia eX (by omega) (by decide)]; omega) (by omega)
    rw [hto] at z2
    have hmn : sx_mn = -2147483648 := rfl
    have hmx : sx_mx = 2147483647 := rfl
    have e2 : (Int32.ofInt 2).toInt = 2 := by decide
    have e2I : (Int32.ofInt 2 * I).toInt = 2 * (i : Int) := by rw [sx_imul (by rw [e2, eI]; omega), e2, eI]
    have eJ : (Q + Int32.ofInt 2 * I).toInt = ((705 * s + 97 + 2 * i : Nat) : Int) := by rw [sx_iadd (by rw [e2I, eQ]; omega), e2I, eQ]; omega
    obtain ⟨-, O, o1, o2, o3⟩ := sx_txt hH tT h3 eJ (by omega)
    obtain ⟨-, V, v1, v2, v3⟩ := sx_txt hH tT h3 (J := Q + Int32.ofInt 2 * I + Int32.ofInt 1) (j := 705 * s + 97 + 2 * i + 1) (by rw [sx_ia eJ (by omega) (by decide)]; omega) (by omega)
    have hp := List.all_eq_true.mp sx_p20_k.2 i (List.mem_range.mpr (by omega))
    rw [Bool.and_eq_true, decide_eq_true_eq, decide_eq_true_eq] at hp
    have ob := o3 0 41 (by rw [show (705 * s + 97 + 2 * i) % 705 = 97 + 2 * i by omega]; exact hp.1)
    have vb := v3 (-2147483648) 9999 (by rw [show (705 * s + 97 + 2 * i + 1) % 705 = 98 + 2 * i by omega]; exact hp.2)
    let r : Nat → Int := fun j => if j = 0 then (x : Int) else if j = 1 then ((705 * s + 97 : Nat) : Int) else if j = 2 then (n : Int) else if j = 3 then (t : Int) else if j = 4 then (i : Int) else if j = 5 then O.toInt else V.toInt
    let g : Nat → Nat := fun _ => a
    have hl0 : sx_lr r g sx_tau [some (2, (63, [(0, 0)])), none, some (0, sx_v 0), some (0, sx_v 1), some (0, sx_v 2), some (0, sx_v 3), some (0, sx_v 4), none, none] lv := by
      refine ⟨by rw [hlen]; rfl, fun j q hq => ?_⟩
      match j, hq with
      | 0, hq => cases hq; exact ⟨_, l0, rfl, ta⟩
      | 1, hq => cases hq
      | 2, hq => cases hq; exact ⟨_, l2, X, rfl, by rw [sx_v_ev]; exact eX⟩
      | 3, hq => cases hq; exact ⟨_, l3, Q, rfl, by rw [sx_v_ev]; exact eQ⟩
      | 4, hq => cases hq; exact ⟨_, l4, N, rfl, by rw [sx_v_ev]; exact eN⟩
      | 5, hq => cases hq; exact ⟨_, l5, T, rfl, by rw [sx_v_ev]; exact eT⟩
      | 6, hq => cases hq; exact ⟨_, l6, I, rfl, by rw [sx_v_ev]; exact eI⟩
      | 7, hq => cases hq
      | 8, hq => cases hq
      | j + 9, hq => simp at hq
    have hvO : sx_vr r g sx_tau (0, sx_v 5) (.int O) := ⟨O, rfl, by rw [sx_v_ev]; rfl⟩
    have hvV : sx_vr r g sx_tau (0, sx_v 6) (.int V) := ⟨V, rfl, by rw [sx_v_ev]; rfl⟩
    have hl1 := sx_s1_ok hl0 (i := 7) hvO (by decide)
    have hl2 := sx_s1_ok hl1 (i := 8) hvV (by decide)
    have gi : ∀ {ls : List (Option sx_A)} {lw : mj_L} {k : Nat} {y : sx_X} {Z : Int32}, sx_lr r g sx_tau ls lw → ls[k]? = some (some (0, y)) → Z.toInt = sx_ev r y → mj_ld lw k = some (.int Z) := by
      intro ls lw k y Z q1 q2 q3
      obtain ⟨w, w1, z, w2, w3⟩ := q1.2 k _ q2
      rw [w1, w2, Int32.toInt_inj.mp (w3.trans q3.symm)]
    obtain ⟨w, m0, rfl, -⟩ := hl1.2 0 (2, (63, [(0, 0)])) rfl
    have m3 := gi hl1 (k := 3) (y := sx_v 1) (Z := Q) rfl (by rw [sx_v_ev]; exact eQ)
    have m6 := gi hl1 (k := 6) (y := sx_v 4) (Z := I) rfl (by rw [sx_v_ev]; exact eI)
    have hlen1 : (mj_s1 lv 7 (.int O)).length = 9 := hl1.1.symm
    obtain ⟨s1, s2, n', t', s3, s4, s5, s6, s7⟩ := sx_wf_step (r := r) o2.symm v2.symm ob vb hn ht (by omega) hw (show (1 : Int) ≤ x ∧ (x : Int) ≤ 2208 by omega) (show (97 : Int) ≤ ((705 * s + 97 : Nat) : Int) ∧ ((705 * s + 97 : Nat) : Int) ≤ 2212 by omega) rfl rfl rfl rfl rfl
    obtain ⟨r', g', lv', h', k1, k2, k3, k4, k5, k6, k7, k8⟩ := sx_wk (c := sx_wcs O.toInt) IH hd (sx_wc_all _) hB (r := r) (g := g) (lv := mj_s1 (mj_s1 lv 7 (.int O)) 8 (.int V)) (h := h) ⟨hl2, trivial, s1, (fun q hq => by cases hq), hH⟩ hW s2
    obtain ⟨fs', b1, b2⟩ := k6.1 a 11 fs h1
    have b3 : fs'[2]? = some (.ref Tx) := by
      have := b2 (100 * 11 + 2) (by decide)
      rw [sx_at_f (by decide) (by decide), sx_at_f (by decide) (by decide), h2] at this
      exact this
    obtain ⟨ts', c1, c2⟩ := k6.2.1 Tx 20 1000 ts tT (by decide) h3 (by decide)
    have ets : ts' = ts := List.ext_getElem? (fun j => c2 j (fun e => by cases e))
    subst ets
    obtain ⟨w0, q0, e0, -⟩ := k2.2 0 (2, (63, [(0, 0)])) rfl
    obtain ⟨w2, q2, X', e2', e2''⟩ := k2.2 2 (0, sx_v 0) rfl
    obtain ⟨w3, q3, Q', e3', e3''⟩ := k2.2 3 (0, sx_v 1) rfl
    obtain ⟨w4, q4, N', e4', e4''⟩ := k2.2 4 (0, sx_wn (sx_wcs O.toInt)) rfl
    obtain ⟨w5, q5, T', e5', e5''⟩ := k2.2 5 (0, sx_wt (sx_wcs O.toInt)) rfl
    obtain ⟨w6, q6, I', e6', e6''⟩ := k2.2 6 (0, (1, [(1, 4)])) rfl
    subst e0 e2' e3' e4' e5' e6'
    have k4 : g' 0 = a := k4
    rw [k4] at q0
    have lw : sx_lt 7 (sx_wn (sx_wcs O.toInt)) = true := by unfold sx_wn; split <;> rfl
    have lt : sx_lt 7 (sx_wt (sx_wcs O.toInt)) = true := by unfold sx_wt; split <;> rfl
    have x1 : X'.toInt = (x : Int) := by rw [e2'', sx_v_ev, k3 0 (by decide)]; rfl
    have x2 : Q'.toInt = ((705 * s + 97 : Nat) : Int) := by rw [e3'', sx_v_ev, k3 1 (by decide)]; rfl
    have x3 : N'.toInt = (n' : Int) := by rw [e4'', sx_ev_eq k3 lw]; exact s3
    have x4 : T'.toInt = (t' : Int) := by rw [e5'', sx_ev_eq k3 lt]; exact s4
    have x5 : I'.toInt = ((i + 1 : Nat) : Int) := by
      rw [e6'']
      show (1 : Int) + (1 * r' 4 + 0) = _
      rw [k3 4 (by decide)]
      show (1 : Int) + (1 * (i : Int) + 0) = _
      omega
    have hlen' : lv'.length = 9 := k2.1.symm
    obtain ⟨f, h2', R1, R2, R3, R4, R5⟩ := ih n' t' (i + 1) lv' h' fs' X' Q' N' T' I' hlen' q0 q2 q3 q4 q5 q6 x1 x2 x3 x4 x5 k5 k8 b1 b3 c1 (by omega) s5 s6 s7
    obtain ⟨f', R6⟩ := k1 f none h2' R1
    exact ⟨f' + 20 + 8, h2', (sx_whead (ts := ts') l0 l2 l6 h1 h2 z1).2 (fun q => by have := Int32.le_iff_toInt_le.mp q; omega) _ _ (sx_wread hlen l0 l3 l6 m0 m3 m6 hlen1 h1 h2 o1 v1 _ _ R6), R2, sx_ef_tr k6 R3, R4.trans k7, R5⟩
