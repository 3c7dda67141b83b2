/-! -/
/-! a text in both: what stays, and the law's state -/
theorem TRl_fb {s s1 : sg_} {r l : Int} (e : ∀ j, 705 * r ≤ j → j < 705 * r + 705 → s1 141 j = s 141 j) (h24 : s 141 (705 * r) ≤ 24) {o : Option (List (Int × Int))} (T : TRl s r l o) : TRl s1 r l o := by
  have e0 : s1 141 (705 * r) = s 141 (705 * r) := e _ (by omega) (by omega)
  cases o with
  | none =>
    rcases T with T | T
    · exact Or.inl T
    · refine Or.inr (fun j j0 j1 => ?_)
      rw [e0] at j1
      rw [e _ (by omega) (by omega)]
      exact T j j0 j1
  | some L =>
    obtain ⟨r0, k, hk, hf, hl, ⟨a0, a1, a2⟩, hcd, ho⟩ := T
    have ek : s1 141 (705 * r + 1 + 4 * k) = s 141 (705 * r + 1 + 4 * k) := e _ (by omega) (by omega)
    have eA : s1 141 (705 * r + 1 + 4 * k + 1) = s 141 (705 * r + 1 + 4 * k + 1) := e _ (by omega) (by omega)
    have eB : s1 141 (705 * r + 1 + 4 * k + 2) = s 141 (705 * r + 1 + 4 * k + 2) := e _ (by omega) (by omega)
    refine ⟨r0, k, by rw [e0]; exact hk, fun j j0 j1 => ?_, ek.trans hl, by rw [eA, eB]; exact ⟨a0, a1, a2⟩, fun j hj => ?_, ho⟩
    · rw [e _ (by omega) (by omega)]
      exact hf j j0 j1
    · rw [eA, e (705 * r + 97 + 2 * (s 141 (705 * r + 1 + 4 * k + 1) + (j : Int))) (by omega) (by omega), e (705 * r + 97 + 2 * (s 141 (705 * r + 1 + 4 * k + 1) + (j : Int)) + 1) (by omega) (by omega)]
      exact hcd j hj
theorem TEX1_fb {tc tc1 : tcs} {tr tr1 : Int → crs} {s s1 : sg_} {k : Nat} (T : TEX1 tc tr s s k) (e : ∀ (b : Nat) (j : Int), 12 + 7 * k ≤ b → b ≤ 12 + 7 * k + 6 → s1 b j = s b j) (er : ∀ j, 705 * (k : Int) ≤ j → j < 705 * (k : Int) + 705 → s1 141 j = s 141 j) (et : tc1 (12 + 7 * k) = tc (12 + 7 * k)) (eu : tr1 (k : Int) = tr (k : Int)) : TEX1 tc1 tr1 s1 s1 k := by
  obtain ⟨t0, t1, t2, t3, t4, t5, t6⟩ := T
  have e0 : s1 141 (705 * (k : Int)) = s 141 (705 * (k : Int)) := er _ (by omega) (by omega)
  have ec : ∀ i : Nat, i < 24 → clsR s1 (k : Int) i = clsR s (k : Int) i := fun i hi => by
    unfold clsR
    rw [er _ (by omega) (by omega), er (705 * (k : Int) + 1 + 4 * (i : Int) + 1) (by omega) (by omega), er (705 * (k : Int) + 1 + 4 * (i : Int) + 2) (by omega) (by omega)]
  have ed : ∀ i : Nat, clsC s1 (12 + 7 * k) i = clsC s (12 + 7 * k) i := fun i => by
    unfold clsC
    rw [e _ _ (by omega) (by omega), e (12 + 7 * k + 5) _ (by omega) (by omega), e (12 + 7 * k + 6) _ (by omega) (by omega)]
  refine ⟨by rw [e0]; exact t0, by rw [e0, e _ _ (by omega) (by omega)]; exact t1, fun i hi => ?_, fun i hi => ?_, fun l hl => ?_, ?_, ?_⟩
  · rw [e0] at hi
    rw [ec i (by omega), ed i]
    exact t2 i hi
  · rw [e0] at hi
    rw [ec i (by omega)]
    exact t3 i hi
  · rw [eu]
    exact TRl_fb er t0.2 (t4 l hl)
  · rw [eu]
    exact t5
  · rw [et, eu]
    exact t6
theorem lw_v {Cs : List KC} (K : KOK nof Cs) {l : Int} (hl : 0 ≤ l ∧ l < 3) (h2 : ¬ l = 2) : valR ((lwK Cs l).map (List.map cvt)) ∧ oeq sameV (lwK Cs l) ((lwK Cs l).map (List.map cvt)) := by
  cases o : lwK Cs l with
  | none => exact ⟨fun L z => (by cases z), trivial⟩
  | some E =>
    obtain ⟨i, C, c1, c2, c3, -⟩ := lwK_s o
    have k := ((KOK_m K i C c1).2.1 (by omega)).2.2.2 (by omega)
    rw [c3] at k
    exact k
theorem lw_a {Cs : List KC} (K : KOK nof Cs) : askR ((lwK Cs 2).map (List.map cvt)) ∧ oeq sameT (lwK Cs 2) ((lwK Cs 2).map (List.map cvt)) := by
  cases o : lwK Cs 2 with
  | none => exact ⟨fun L z => (by cases z), trivial⟩
  | some E =>
    obtain ⟨i, C, c1, c2, c3, -⟩ := lwK_s o
    have k := ((KOK_m K i C c1).2.1 (by omega)).2.2.1 c2
    rw [c3] at k
    exact k
theorem TEX1_new {tc1 : tcs} {tr1 : Int → crs} {s1 : sg_} {n : Nat} (n3 : n ≤ 3) {Cs : List KC} (K : KOK nof Cs) (h24 : Cs.length ≤ 24) (e7 : s1 (12 + 7 * n) 7 = (Cs.length : Int)) (rx0 : s1 141 (705 * (n : Int)) = (Cs.length : Int)) (rx : ∀ (i : Nat) (C : KC), Cs[i]? = some C → clE C.1 (clsR s1 (n : Int) i) ∧ (C.1.1 < 3 → ∃ a : Int, 0 ≤ a ∧ a + (C.2.length : Int) ≤ 300 ∧ s1 141 (705 * (n : Int) + 1 + 4 * (i : Int) + 1) = a ∧ s1 141 (705 * (n : Int) + 1 + 4 * (i : Int) + 2) = a + (C.2.length : Int) ∧ ∀ (m : Nat) (o v : Int), (C.2.map cvt)[m]? = some (o, v) → s1 141 (705 * (n : Int) + 97 + 2 * (a + (m : Int))) = o ∧ s1 141 (705 * (n : Int) + 97 + 2 * (a + (m : Int)) + 1) = v)) (ty : ∀ (i : Nat) (C : KC), Cs[i]? = some C → clsC s1 (12 + 7 * n) i = C.1) (et : ∀ l, tc1 (12 + 7 * n) l = lwK Cs l) (eu : ∀ l, tr1 (n : Int) l = (lwK Cs l).map (List.map cvt)) : TEX1 tc1 tr1 s1 s1 n := by
  refine ⟨by rw [rx0]; omega, by rw [e7, rx0], fun i hi => ?_, fun i hi => ?_, fun l hl => ?_, ⟨?_, ?_, ?_⟩, ?_, ?_, ?_⟩
  · rw [rx0] at hi
    have hi' : i < Cs.length := by omega
    have g := List.getElem?_eq_getElem hi'
    rw [ty i _ g]
    exact (rx i _ g).1
  · rw [rx0] at hi
    have hi' : i < Cs.length := by omega
    have g := List.getElem?_eq_getElem hi'
    have e := (rx i _ g).1
    have k1 := KOK_m K i _ g
    rw [← e.1]
    refine ⟨k1.1, fun h9 => ?_⟩
    rw [← e.2.1 (by omega)]
    have k3 := k1.2.2 (by omega)
    exact ⟨k3.2.1.1, k3.2.2.2 h9⟩
  · rw [eu]
    exact TRl_n ⟨by omega, by omega⟩ K rx0 rx hl
  · rw [eu]
    exact (lw_v K (by decide) (by decide)).1
  · rw [eu]
    exact (lw_v K (by decide) (by decide)).1
  · rw [eu]
    exact (lw_a K).1
  · rw [et, eu]
    exact (lw_v K (by decide) (by decide)).2
  · rw [et, eu]
    exact (lw_v K (by decide) (by decide)).2
  · rw [et, eu]
    exact (lw_a K).2
theorem ST2_6 {s s1 : sg_} {M : Int} (S : ST2 s s 47 139 M) (h4 : 0 ≤ s1 47 6 ∧ s1 47 6 ≤ 4) (h6 : s 47 6 ≤ s1 47 6) (e2 : s1 139 2 = s1 47 6) (e : ∀ (b : Nat) (j : Int), 47 ≤ b → b ≤ 68 → ¬ (b = 47 ∧ j = 6) → s1 b j = s b j) (er : ∀ j : Int, ¬ j = 2 → s1 139 j = s 139 j) : ST2 s1 s1 47 139 M := by
  obtain ⟨⟨N, h, b, d, z, t, x⟩, H, L, X, Y, W, w⟩ := S
  have xk := x
  refine ⟨⟨IG_f (fun b j h1 h2 => e b j (by omega) (by omega) (by omega)) N, by rw [e _ _ (by omega) (by omega) (by omega)]; exact h, by rw [e _ _ (by omega) (by omega) (by omega)]; exact b, by rw [e _ _ (by omega) (by omega) (by omega)]; exact d, by rw [e _ _ (by omega) (by omega) (by omega)]; exact z, h4, ?_⟩, relF_f H (fun b j h1 h2 => e b j (by omega) (by omega) (by omega)) (fun j _ _ j2 _ _ _ => er j j2), relK_f L (er _ (by decide)) (e _ _ (by omega) (by omega) (by omega)) (e _ _ (by omega) (by omega) (by omega)) (fun j => e _ j (by omega) (by omega) (by omega)) (fun j a b => er j (by omega)) z.2, ⟨⟨e2, ?_⟩, ⟨?_, fun k k0 k1 => ?_⟩, ?_, fun k k0 k1 => ?_⟩, RX_f Y (Int.le_refl _) (fun j a b => er j (by omega)), fun w p hw hp => by rw [er _ (by omega)]; exact W w p hw hp, by rw [er _ (by decide)]; exact w⟩
  · unfold EX rwOK at *
    rw [e 47 7 (by omega) (by omega) (by omega), e (47 + 14) 3 (by omega) (by omega) (by omega), e (47 + 18) 3 (by omega) (by omega) (by omega)]
    refine ⟨fun p hp => by rw [e (47 + 2) p (by omega) (by omega) (by omega), e (47 + 4) p (by omega) (by omega) (by omega)]; exact x.1 p hp, fun w hw => by rw [e (47 + 6) w (by omega) (by omega) (by omega)]; exact x.2.1 w hw, fun i hi => ?_, ⟨x.2.2.2.1.1, fun j a b => by rw [e (47 + 16) j (by omega) (by omega) (by omega)]; exact x.2.2.2.1.2 j a b⟩, x.2.2.2.2.1, x.2.2.2.2.2.1, by have := x.2.2.2.2.2.2; omega⟩
    have q := x.2.2.1 i hi
    have f : ∀ j, s1 (47 + 13) j = s (47 + 13) j := fun j => e _ j (by omega) (by omega) (by omega)
    simp only [f]
    exact q
  · rw [er 3 (by decide), e 47 7 (by omega) (by omega) (by omega)]
    exact X.1.2
  · rw [er 5 (by decide), e (47 + 14) 3 (by omega) (by omega) (by omega)]
    exact X.2.1.1
  · rw [e (47 + 14) 3 (by omega) (by omega) (by omega)] at k1
    rw [er _ (by omega), er (148 + 2 * k + 1) (by omega), e (47 + 15) _ (by omega) (by omega) (by omega), e (47 + 16) _ (by omega) (by omega) (by omega)]
    exact X.2.1.2 k k0 k1
  · rw [er 6 (by decide), e (47 + 18) 3 (by omega) (by omega) (by omega)]
    exact X.2.2.1
  · rw [e (47 + 18) 3 (by omega) (by omega) (by omega)] at k1
    rw [er _ (by omega), er (164 + 2 * k + 1) (by omega), e (47 + 19) _ (by omega) (by omega) (by omega), e (47 + 20) _ (by omega) (by omega) (by omega)]
    exact X.2.2.2 k k0 k1
theorem tapB_e {s c1 : sg_} (T : TAP s s) (e : ∀ j : Int, c1 142 j = s 142 j) (e4 : c1 138 4 = s 138 4) : tapB (c1 142) (c1 138 4) = tapB (s 92) (s 91 1) := by
  obtain ⟨⟨h0, h1⟩, h2, h3⟩ := T
  funext k
  unfold tapB
  rw [e4, h2]
  by_cases q : k < s 91 1
  · rw [if_pos q, if_pos q, e]
    exact (h3 _ (by omega) (by omega)).2
  · rw [if_neg q, if_neg q]
theorem lw_Text {tc : tcs} {tr : Int → crs} {s : sg_} {M : Int} (L : LAWS tc tr s M) {f q f2 q2 : Int} {Cs : List KC} {c1 s1 : sg_} (c4 : ¬ s 47 6 = 4) (A : cTx s c1 (s 47 6) f q Cs) (R : rTx c1 s1 (s 47 6) f2 q2) : f2 = f ∧ ∃ (tc1 : tcs) (tr1 : Int → crs), LAWS tc1 tr1 s1 M := by
  obtain ⟨I, T, F⟩ := L
  obtain ⟨S1, S2, h6, sc, tx, TX⟩ := I
  have h4 : 0 ≤ s 47 6 ∧ s 47 6 ≤ 4 := S1.1.2.2.2.2.2.1
  have e2 : s 139 2 = s 47 6 := S1.2.2.2.1.1.1
  obtain ⟨⟨k, v, p, r, m, ls, hls, tk, TR⟩, fa, ⟨v1, v2, v3, v4, v5⟩, fz⟩ := A
  obtain ⟨⟨k', v', p', r', m', tk', TR'⟩, fb, f141, ⟨w1, w2, w3, w4, w5⟩, w25, gz⟩ := R
  replace fz := fun _ : Unit => fz
  replace gz := fun _ : Unit => gz
  obtain ⟨n, hn⟩ : ∃ n : Nat, (n : Int) = s 47 6 := ⟨(s 47 6).toNat, by omega⟩
  rw [tapB_e T (fun j => fa 142 j (by omega) (by omega) (by omega) (by omega) (by omega)) (fa 138 4 (by omega) (by omega) (by omega) (by omega) (by omega))] at tk' TR' gz
  obtain ⟨z1, z2, z3, z4⟩ := tok_u tk tk'
  subst z1 z2 z3 z4
  obtain ⟨z1, z2⟩ := tr_u (tre_t TR) TR'
  subst z1 z2
  have g : ∀ (b : Nat) (j : Int), ¬ (12 + 7 * s 47 6 ≤ (b : Int) ∧ (b : Int) ≤ 12 + 7 * s 47 6 + 6) → ¬ b = 91 → ¬ b = 93 → ¬ b = 94 → ¬ (b = 47 ∧ j = 6) → ¬ b = 141 → ¬ b = 143 → ¬ (b = 139 ∧ j = 2) → ¬ b = 138 → s1 b j = s b j := fun b j a1 a2 a3 a4 a5 a6 a7 a8 a9 => (fb b j a6 a7 a8 a9).trans (fa b j a1 a2 a3 a4 a5)
  have g141 : ∀ j : Int, j < 705 * s 47 6 → s1 141 j = s 141 j := fun j hj => (f141 j hj).trans (fa 141 j (by omega) (by omega) (by omega) (by omega) (by omega))
  have u6 : s1 47 6 = if f = 0 then s 47 6 + 1 else s 47 6 := (fb 47 6 (by decide) (by decide) (by decide) (by decide)).trans v5
  have u2 : s1 139 2 = s1 47 6 := w5.trans u6.symm
  have u6a : s 47 6 ≤ s1 47 6 ∧ s1 47 6 ≤ 4 := by
    rw [u6]
    by_cases q : f = 0
    · rw [if_pos q]; omega
    · rw [if_neg q]; omega
  have S1' : ST2 s1 s1 47 139 M := ST2_6 S1 ⟨by omega, u6a.2⟩ u6a.1 u2 (fun b j b1 b2 b3 => g b j (by omega) (by omega) (by omega) (by omega) b3 (by omega) (by omega) (by omega) (by omega)) (fun j hj => g 139 j (by omega) (by omega) (by omega) (by omega) (by omega) (by omega) (by omega) (by omega) (by omega))
  have S2' : ST2 s1 s1 69 140 M := ST2_f S2 (Int.le_refl _) (fun b j b1 b2 => g b j (by omega) (by omega) (by omega) (by omega) (by omega) (by omega) (by omega) (by omega) (by omega)) (fun j _ _ => g 140 j (by omega) (by omega) (by omega) (by omega) (by omega) (by omega) (by omega) (by omega) (by omega))
  have h6' : s1 69 6 ≤ s1 47 6 := by
    rw [g 69 6 (by omega) (by omega) (by omega) (by omega) (by omega) (by omega) (by omega) (by omega) (by omega)]
    omega
  have sc' : SC s1 := SC_f (fun j => g 6 j (by omega) (by omega) (by omega) (by omega) (by omega) (by omega) (by omega) (by omega) (by omega)) (fun j => g 7 j (by omega) (by omega) (by omega) (by omega) (by omega) (by omega) (by omega) (by omega) (by omega)) sc
  have T' : TAP s1 s1 := by
    have q1 : s1 91 1 = 0 := (fb 91 1 (by decide) (by decide) (by decide) (by decide)).trans v1
    refine ⟨by rw [q1]; decide, by rw [q1, w1], fun j j0 j1 => ?_⟩
    rw [g 92 j (by omega) (by omega) (by omega) (by omega) (by omega) (by omega) (by omega) (by omega) (by omega), g 142 j (by omega) (by omega) (by omega) (by omega) (by omega) (by omega) (by omega) (by omega) (by omega)]
    exact T.2.2 j j0 j1
  have F' : FLT s1 s1 := by
    have q2 : s1 93 2 = 1 := (fb 93 2 (by decide) (by decide) (by decide) (by decide)).trans v2
    have q3 := (fb 93 3 (by decide) (by decide) (by decide) (by decide)).trans v3
    have q4 := (fb 93 4 (by decide) (by decide) (by decide) (by decide)).trans v4
    exact ⟨w4, Or.inr ⟨q2, w2.trans q3.symm, w3.trans q4.symm⟩⟩
  have tx' : ∀ k : Nat, k ≤ 4 → ((k : Int) < s 47 6 ∨ k = 4) → TXC s1 (12 + 7 * k) (tc (12 + 7 * k)) := fun k k4 hk => TXC_f (fun b j b1 b2 => g b j (by omega) (by omega) (by omega) (by omega) (by omega) (by omega) (by omega) (by omega) (by omega)) (tx k k4 hk)
  have m1 : s1 141 (-705) ≤ 24 := by
    rw [g141 _ (by omega)]
    exact TX.2.2.2
  have old : ∀ {tc1 : tcs} {tr1 : Int → crs} (k : Nat), (k : Int) < s 47 6 → tc1 (12 + 7 * k) = tc (12 + 7 * k) → tr1 (k : Int) = tr (k : Int) → TEX1 tc1 tr1 s1 s1 k := fun k hk et eu => TEX1_fb (TX.1 k hk) (fun b j b1 b2 => g b j (by omega) (by omega) (by omega) (by omega) (by omega) (by omega) (by omega) (by omega) (by omega)) (fun j _ j1 => g141 j (by omega)) et eu
  refine ⟨rfl, ?_⟩
  by_cases f0 : f = 0
  · subst f0
    obtain ⟨t, D, et, d1, d2, d3, d4, d5⟩ := fz () rfl
    obtain ⟨k2, v2', p2, r2, m2, Cs2, U, tk2, TE, y1, y2, y3⟩ := gz () rfl
    obtain ⟨z1, z2, z3, z4⟩ := tok_u tk tk2
    subst z1 z2 z3 z4
    have ec := tre_u TR TE
    subst ec
    obtain ⟨K, kl⟩ := tre_ok TR (by decide)
    have n3 : n ≤ 3 := by omega
    have tt : t = 12 + 7 * n := by omega
    subst tt
    have hd : cdl Cs ≤ 300 := by
      obtain ⟨bl, eb⟩ : ∃ bl : List Value, bt bl (s 91 1) = tapB (s 92) (s 91 1) := ⟨(List.range 300).map (fun j : Nat => wp_i (s 92 (j : Int))), by
        have t1 := T.1
        funext k
        unfold bt tapB
        by_cases q : k < s 91 1
        · rw [if_pos q, if_pos q]
          refine el_v ?_ ?_
          · rw [List.getElem?_map, List.getElem?_range (by omega)]
            rfl
          · have := (T.2.2 (k.toNat : Int) (by omega) (by omega)).1
            constructor <;> omega
        · rw [if_neg q, if_neg q]⟩
      rw [← eb] at tk TR
      have t1 := T.1
      have h1 := tok_adv tk
      have h2 := tok_L t1.1 tk
      have h3 := tre_len h2 TR
      omega
    obtain ⟨x1, x2⟩ := cls_n (s1 := s1) (t := 12 + 7 * n) d1 d2 d3 K (by omega) hd (fun k => by
      obtain ⟨b1, b2, b3, b4, b5, b6⟩ := d5 k
      exact ⟨(fb _ _ (by omega) (by omega) (by omega) (by omega)).trans b1, (fb _ _ (by omega) (by omega) (by omega) (by omega)).trans b2, (fb _ _ (by omega) (by omega) (by omega) (by omega)).trans b3, (fb _ _ (by omega) (by omega) (by omega) (by omega)).trans b4, (fb _ _ (by omega) (by omega) (by omega) (by omega)).trans b5, (fb _ _ (by omega) (by omega) (by omega) (by omega)).trans b6⟩)
    rw [← hn] at y2 y3
    obtain ⟨rx0, rx⟩ := clr_n (s1 := s1) (c := (n : Int)) ⟨by omega, by omega⟩ K y1 y2 (by omega) hd y3
    have e7 : s1 (12 + 7 * n) 7 = (Cs.length : Int) := (fb _ _ (by omega) (by omega) (by omega) (by omega)).trans d4
    have u6 : s1 47 6 = s 47 6 + 1 := u6
    refine ⟨fun T l => if T = 12 + 7 * n then lwK Cs l else tc T l, fun k l => if k = (n : Int) then (lwK Cs l).map (List.map cvt) else tr k l, ⟨S1', S2', h6', sc', fun k k4 hk => ?_, fun k hk => ?_, fun l => ?_, fun l => ?_, m1⟩, T', F'⟩
    · by_cases q : k = n
      · subst q
        have : (fun l => if 12 + 7 * k = 12 + 7 * k then lwK Cs l else tc (12 + 7 * k) l) = lwK Cs := by
          funext l
          exact if_pos rfl
        show TXC s1 (12 + 7 * k) (fun l => if 12 + 7 * k = 12 + 7 * k then lwK Cs l else tc (12 + 7 * k) l)
        rw [this]
        exact x1
      · have : (fun l => if 12 + 7 * k = 12 + 7 * n then lwK Cs l else tc (12 + 7 * k) l) = tc (12 + 7 * k) := by
          funext l
          exact if_neg (by omega)
        show TXC s1 (12 + 7 * k) (fun l => if 12 + 7 * k = 12 + 7 * n then lwK Cs l else tc (12 + 7 * k) l)
        rw [this]
        exact tx' k k4 (by omega)
    · by_cases q : k = n
      · subst q
        exact TEX1_new n3 K (by omega) e7 rx0 rx x2 (fun l => if_pos rfl) (fun l => if_pos rfl)
      · exact old k (by omega) (by
          funext l
          exact if_neg (by omega)) (by
          funext l
          exact if_neg (by omega))
    · exact (if_neg (by omega)).trans (TX.2.1 l)
    · exact (if_neg (by omega)).trans (TX.2.2.1 l)
  · rw [if_neg f0] at u6
    exact ⟨tc, tr, ⟨S1', S2', h6', sc', fun k k4 hk => tx' k k4 (by rw [u6] at hk; exact hk), fun k hk => old k (by rw [u6] at hk; exact hk) rfl rfl, TX.2.1, TX.2.2.1, m1⟩, T', F'⟩
