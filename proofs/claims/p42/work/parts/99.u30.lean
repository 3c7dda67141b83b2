/-! -/
/-! -/
/-! the reference's says; laid by program (wp_u30.py) -/
abbrev crs : Type := Int → Option (List (Int × Int))
/-- the reference's ruler (text r) has this law -/
def TRl (s : sg_) (r l : Int) : Option (List (Int × Int)) → Prop
  | none => r < 0 ∨ ∀ j, 0 ≤ j → j < s 141 (705 * r) → ¬ s 141 (705 * r + 1 + 4 * j) = l
  | some L => 0 ≤ r ∧ ∃ k, (0 ≤ k ∧ k < s 141 (705 * r)) ∧ (∀ j, 0 ≤ j → j < k → ¬ s 141 (705 * r + 1 + 4 * j) = l) ∧ s 141 (705 * r + 1 + 4 * k) = l ∧ (0 ≤ s 141 (705 * r + 1 + 4 * k + 1) ∧ s 141 (705 * r + 1 + 4 * k + 1) + (L.length : Int) = s 141 (705 * r + 1 + 4 * k + 2) ∧ s 141 (705 * r + 1 + 4 * k + 2) ≤ 304) ∧ (∀ j : Nat, j < L.length → L[j]? = some (s 141 (705 * r + 97 + 2 * (s 141 (705 * r + 1 + 4 * k + 1) + j)), s 141 (705 * r + 97 + 2 * (s 141 (705 * r + 1 + 4 * k + 1) + j) + 1))) ∧ ∀ p ∈ L, otm p.1 p.2
def vaR (N : Int → Int) (L : List (Int × Int)) : Int := ((evR N L [] []).getD ([], [])).1.headD 0
def sayR (N : Int → Int) (o : Option (List (Int × Int))) (z lo hi : Int) : Int := match o with
  | none => z
  | some L => max lo (min hi (vaR N L))
theorem uc_231r {nn d : Nat} {h : mj_H} {s : sg_} (C : CS0 h s) {r l z lo hi : Int} (hr : s 139 3 = r) (hrr : -1 ≤ r ∧ r ≤ 3) (hl : wp_r l) (hz : wp_r z) (hlo : wp_r lo) (hhi : wp_r hi) (hlh : lo ≤ hi) (hcn : s 141 (705 * r) ≤ 24) {N : Int → Int} (hN0 : ∀ k, 0 ≤ k ∧ k < 10 → s 144 k = N k) (hN : ∀ k, 0 ≤ k ∧ k < 10 → B6 (N k)) {o : Option (List (Int × Int))} (T : TRl s r l o) (he : ∀ L, o = some L → ∃ x ts, evR N L [] [] = some ([x], ts) ∧ B6 x) : wl_R nn (d + 3) 231 0 [some (.ref 138), some (wp_i l), some (wp_i z), some (wp_i lo), some (wp_i hi), none] [] h (fun v1 h1 => v1 = some (wp_i (sayR N o z lo hi)) ∧ CS h1 s) := by
  cases o with
  | none =>
    have T : r < 0 ∨ ∀ j, 0 ≤ j → j < s 141 (705 * r) → ¬ s 141 (705 * r + 1 + 4 * j) = l := T
    have hyn : ∀ y : Int, ((y = -1 ∧ (r < 0 ∨ ∀ j, 0 ≤ j → j < s 141 (705 * r) → ¬ s 141 (705 * r + 1 + 4 * j) = l)) ∨ (0 ≤ r ∧ 0 ≤ y ∧ y < s 141 (705 * r) ∧ (∀ j, 0 ≤ j → j < y → ¬ s 141 (705 * r + 1 + 4 * j) = l) ∧ s 141 (705 * r + 1 + 4 * y) = l)) → y = -1 := fun y hy => by
      rcases hy with q | q
      · exact q.1
      · rcases T with t | t
        · exact absurd q.1 (by omega)
        · exact absurd q.2.2.2.2 (t y q.2.1 q.2.2.1)
    refine wl_s (pc' := 1) ji_231_0 rfl rfl rfl ?_
    refine wl_s (pc' := 2) ji_231_1 rfl rfl rfl ?_
    obtain ⟨q2, hq2⟩ := c0_c C (by decide) sq_138
    refine wl_vc (d := d + 2) (as := [.ref 138, wp_i l]) (rest := []) ji_231_2 jc_231_276 rfl hq2 jk_232.symm (Nat.le_of_ble_eq_true rfl) rfl (by rw [jn_232]; rfl) (uc_232 (d := d + 2) (cs_of C) hr hrr (by omega) hcn) (fun v1 h1 R => ?_)
    obtain ⟨rfl, y, rfl, hy⟩ := R
    have hy0 : y = -1 := hyn y hy
    show wl_R _ _ 231 5 [some (.ref 138), some (wp_i l), some (wp_i z), some (wp_i lo), some (wp_i hi), none] [wp_i y] _ _
    refine wl_s (pc' := 7) (lv' := [some (.ref 138), some (wp_i l), some (wp_i z), some (wp_i lo), some (wp_i hi), some (wp_i y)]) ji_231_5 rfl rfl rfl ?_
    refine wl_s (pc' := 9) ji_231_7 rfl rfl rfl ?_
    refine wl_if (t := 14) ji_231_9 rfl (by omega) (fun (hb3 : (0 : Int) ≤ y) => (by exfalso; omega)) (fun (hb3 : ¬ ((0 : Int) ≤ y)) => ?_)
    refine wl_s (pc' := 13) ji_231_12 rfl rfl rfl ?_
    exact wl_ri ji_231_13 jr_231 rfl (⟨rfl, cs_of C⟩)
  | some L =>
    obtain ⟨r0, k, k1, k2, k3, k4, k5, k6⟩ : 0 ≤ r ∧ ∃ k, (0 ≤ k ∧ k < s 141 (705 * r)) ∧ (∀ j, 0 ≤ j → j < k → ¬ s 141 (705 * r + 1 + 4 * j) = l) ∧ s 141 (705 * r + 1 + 4 * k) = l ∧ (0 ≤ s 141 (705 * r + 1 + 4 * k + 1) ∧ s 141 (705 * r + 1 + 4 * k + 1) + (L.length : Int) = s 141 (705 * r + 1 + 4 * k + 2) ∧ s 141 (705 * r + 1 + 4 * k + 2) ≤ 304) ∧ (∀ j : Nat, j < L.length → L[j]? = some (s 141 (705 * r + 97 + 2 * (s 141 (705 * r + 1 + 4 * k + 1) + j)), s 141 (705 * r + 97 + 2 * (s 141 (705 * r + 1 + 4 * k + 1) + j) + 1))) ∧ ∀ p ∈ L, otm p.1 p.2 := T
    obtain ⟨x, ts, e9, hx⟩ := he L rfl
    have hva : vaR N L = x := by
      unfold vaR
      rw [e9]
      rfl
    have hyn : ∀ y : Int, ((y = -1 ∧ (r < 0 ∨ ∀ j, 0 ≤ j → j < s 141 (705 * r) → ¬ s 141 (705 * r + 1 + 4 * j) = l)) ∨ (0 ≤ r ∧ 0 ≤ y ∧ y < s 141 (705 * r) ∧ (∀ j, 0 ≤ j → j < y → ¬ s 141 (705 * r + 1 + 4 * j) = l) ∧ s 141 (705 * r + 1 + 4 * y) = l)) → y = k := fun y hy => by
      rcases hy with q | q
      · rcases q.2 with t | t
        · exact absurd r0 (by omega)
        · exact absurd k3 (t k k1.1 k1.2)
      · rcases Int.lt_trichotomy y k with c | c | c
        · exact absurd q.2.2.2.2 (k2 y q.2.1 c)
        · exact c
        · exact absurd k3 (q.2.2.2.1 k k1.1 c)
    refine wl_s (pc' := 1) ji_231_0 rfl rfl rfl ?_
    refine wl_s (pc' := 2) ji_231_1 rfl rfl rfl ?_
    obtain ⟨q2, hq2⟩ := c0_c C (by decide) sq_138
    refine wl_vc (d := d + 2) (as := [.ref 138, wp_i l]) (rest := []) ji_231_2 jc_231_276 rfl hq2 jk_232.symm (Nat.le_of_ble_eq_true rfl) rfl (by rw [jn_232]; rfl) (uc_232 (d := d + 2) (cs_of C) hr hrr (by omega) hcn) (fun v1 h1 R => ?_)
    obtain ⟨rfl, y, rfl, hy⟩ := R
    have hy0 : y = k := hyn y hy
    subst hy0
    show wl_R _ _ 231 5 [some (.ref 138), some (wp_i l), some (wp_i z), some (wp_i lo), some (wp_i hi), none] [wp_i y] _ _
    refine wl_s (pc' := 7) (lv' := [some (.ref 138), some (wp_i l), some (wp_i z), some (wp_i lo), some (wp_i hi), some (wp_i y)]) ji_231_5 rfl rfl rfl ?_
    refine wl_s (pc' := 9) ji_231_7 rfl rfl rfl ?_
    refine wl_if (t := 14) ji_231_9 rfl (by omega) (fun (hb3 : (0 : Int) ≤ y) => ?_) (fun (hb3 : ¬ ((0 : Int) ≤ y)) => (by exfalso; omega))
    refine wl_s (pc' := 15) ji_231_14 rfl rfl rfl ?_
    refine wl_s (pc' := 17) ji_231_15 rfl rfl rfl ?_
    obtain ⟨q5, hq5⟩ := c0_c C (by decide) sq_138
    refine wl_vc (d := d + 2) (as := [.ref 138, wp_i y]) (rest := []) ji_231_17 jc_231_279 rfl hq5 jk_233.symm (Nat.le_of_ble_eq_true rfl) rfl (by rw [jn_233]; rfl) (uc_233 (d := d) C hr (by omega) (ci := y) (by omega) rfl rfl hN0 hN k5 k6 e9 (by omega)) (fun v1 h4 R => ?_)
    obtain ⟨rfl, s1, C, f1, a1, a2⟩ := R
    have a0 : s1 145 0 = x := a1.1
    show wl_R _ _ 231 20 [some (.ref 138), some (wp_i l), some (wp_i z), some (wp_i lo), some (wp_i hi), some (wp_i y)] [] h4 _
    refine wl_s (pc' := 21) ji_231_20 rfl rfl rfl ?_
    refine c0_gr (r := 145) (k := 23) C (by decide) sq_138 rfl ji_231_21 jf_231_35 ?_
    refine wl_s (pc' := 25) ji_231_24 rfl rfl rfl ?_
    refine c0_ll (x := 0) C (by decide) sq_145 (by omega) ji_231_25 (fun ld60 ld61 => ?_)
    rw [a0]
    refine wl_s (pc' := 27) ji_231_26 rfl rfl rfl ?_
    refine wl_s (pc' := 29) ji_231_27 rfl rfl rfl ?_
    refine wl_sc (d := d + 2) (as := [wl_L x, wp_i lo, wp_i hi]) (rest := []) ji_231_29 jc_231_282 (Nat.le_of_ble_eq_true rfl) rfl (Nat.le_of_ble_eq_true rfl) rfl (by rw [jn_238]; rfl) (uc_238 (d := d + 2) (x := x) (a := lo) (b := hi) (by unfold wl_q; omega) (by omega) (by omega) hlh) (fun v1 h7 R => ?_)
    obtain ⟨ee, rfl⟩ := R
    rw [ee]
    clear ee
    show wl_R _ _ 231 32 [some (.ref 138), some (wp_i l), some (wp_i z), some (wp_i lo), some (wp_i hi), some (wp_i y)] [wp_i (max lo (min hi x))] _ _
    exact wl_ri ji_231_32 jr_231 rfl (⟨by show _ = some (wp_i (max lo (min hi (vaR N L)))); rw [hva], cs_off C (fun b j q => f1 b j (fun e => q (Or.inr (by omega))) (fun e => q (Or.inr (by omega))))⟩)
