/-! -/
/-! -/
/-! whether a flag counts, in the reference; laid by program (wp_u32.py) -/
def vtR (N : Int → Int) (L : List (Int × Int)) : Int := ((evR N L [] []).getD ([], [])).2.headD 0
def cnR (s : sg_) (w p : Int) (o : Option (List (Int × Int))) : Int := match o with
  | none => if 0 < s 139 (52 + 2 * (8 * w + p) + 0) then 1 else 0
  | some L => vtR (nmR s w p) L
theorem uc_244 {nn d : Nat} {h : mj_H} {s : sg_} (C : CS h s) (hpw : 0 ≤ s 139 1 ∧ s 139 1 ≤ 6) (hr : -1 ≤ s 139 3 ∧ s 139 3 ≤ 3) (hcn : s 141 (705 * s 139 3) ≤ 24) {w p : Int} (hw : 0 ≤ w ∧ w < 6) (hp : 0 ≤ p ∧ p < 8) (hN : ∀ k, 0 ≤ k ∧ k < 10 → B6 (nmR s w p k)) {o : Option (List (Int × Int))} (T : TRl s (s 139 3) 2 o) (hv : askR o) : wl_R nn (d + 4) 244 0 [some (.ref 138), some (wp_i w), some (wp_i p), none] [] h (fun v1 h1 => v1 = some (wp_i (cnR s w p o)) ∧ CS h1 s) := by
  obtain ⟨s1, C, f⟩ := C
  have f139 : ∀ j, s1 139 j = s 139 j := fun j => f 139 j (by decide)
  have f141 : ∀ j, s1 141 j = s 141 j := fun j => f 141 j (by decide)
  cases o with
  | none =>
    have T : s 139 3 < 0 ∨ ∀ j, 0 ≤ j → j < s 141 (705 * s 139 3) → ¬ s 141 (705 * s 139 3 + 1 + 4 * j) = 2 := T
    have hyn : ∀ y : Int, ((y = -1 ∧ (s 139 3 < 0 ∨ ∀ j, 0 ≤ j → j < s1 141 (705 * s 139 3) → ¬ s1 141 (705 * s 139 3 + 1 + 4 * j) = 2)) ∨ (0 ≤ s 139 3 ∧ 0 ≤ y ∧ y < s1 141 (705 * s 139 3) ∧ (∀ j, 0 ≤ j → j < y → ¬ s1 141 (705 * s 139 3 + 1 + 4 * j) = 2) ∧ s1 141 (705 * s 139 3 + 1 + 4 * y) = 2)) → y = -1 := fun y hy => by
      simp only [f141] at hy
      rcases hy with q | q
      · exact q.1
      · rcases T with t | t
        · exact absurd q.1 (by omega)
        · exact absurd q.2.2.2.2 (t y q.2.1 q.2.2.1)
    refine wl_s (pc' := 1) ji_244_0 rfl rfl rfl ?_
    refine wl_s (pc' := 2) ji_244_1 rfl rfl rfl ?_
    obtain ⟨q2, hq2⟩ := c0_c C (by decide) sq_138
    refine wl_vc (d := d + 3) (as := [.ref 138, wp_i 2]) (rest := []) ji_244_2 jc_244_276 rfl hq2 jk_232.symm (Nat.le_of_ble_eq_true rfl) rfl (by rw [jn_232]; rfl) (uc_232 (d := d + 3) (cs_of C) (f139 3) hr (by omega) (by rw [f141]; exact hcn)) (fun v1 h1 R => ?_)
    obtain ⟨rfl, y, rfl, hy⟩ := R
    have hy0 : y = -1 := hyn y hy
    show wl_R _ _ 244 5 [some (.ref 138), some (wp_i w), some (wp_i p), none] [wp_i y] _ _
    refine wl_s (pc' := 6) (lv' := [some (.ref 138), some (wp_i w), some (wp_i p), some (wp_i y)]) ji_244_5 rfl rfl rfl ?_
    refine wl_s (pc' := 7) ji_244_6 rfl rfl rfl ?_
    refine wl_if (t := 26) ji_244_7 rfl (by omega) (fun (hb3 : (0 : Int) ≤ y) => (by exfalso; omega)) (fun (hb3 : ¬ ((0 : Int) ≤ y)) => ?_)
    refine wl_s (pc' := 11) ji_244_10 rfl rfl rfl ?_
    refine wl_s (pc' := 12) ji_244_11 rfl rfl rfl ?_
    refine wl_s (pc' := 13) ji_244_12 rfl rfl rfl ?_
    refine wl_s (pc' := 14) ji_244_13 rfl rfl rfl ?_
    obtain ⟨q5, hq5⟩ := c0_c C (by decide) sq_138
    refine wl_vc (d := d + 3) (as := [.ref 138, wp_i w, wp_i p, wp_i 0]) (rest := []) ji_244_14 jc_244_70 rfl hq5 jk_224.symm (Nat.le_of_ble_eq_true rfl) rfl (by rw [jn_224]; rfl) (uc_224 (d := d + 3) (cs_of C) (w := w) (p := p) (k := 0) hw hp (by omega)) (fun v1 h4 R => ?_)
    obtain ⟨ee, rfl⟩ := R
    rw [ee]
    clear ee
    show wl_R _ _ 244 17 [some (.ref 138), some (wp_i w), some (wp_i p), some (wp_i y)] [wp_i (s1 139 (52 + 2 * (8 * w + p) + 0))] _ _
    have gr0 : wp_r (s1 139 (52 + 2 * (8 * w + p) + 0)) := cs_ri (k := (52 + 2 * (8 * w + p) + 0).toNat) (cs_of C) (by decide) (by decide) sq_139 (by omega) rfl (by show _ < 0 + 6044; omega)
    refine wl_if (t := 24) ji_244_17 rfl (by omega) (fun (hb6 : (s1 139 (52 + 2 * (8 * w + p) + 0) : Int) ≤ 0) => ?_) (fun (hb6 : ¬ ((s1 139 (52 + 2 * (8 * w + p) + 0) : Int) ≤ 0)) => ?_)
    · refine wl_s (pc' := 25) ji_244_24 rfl rfl rfl ?_
      exact wl_ri ji_244_25 jr_244 (pv_nb (by omega)) (⟨by show _ = some (wp_i (if 0 < s 139 (52 + 2 * (8 * w + p) + 0) then 1 else 0)); rw [← f139, if_neg (by omega)], s1, C, f⟩)
    · refine wl_s (pc' := 21) ji_244_20 rfl rfl rfl ?_
      refine wl_goto (t := 25) ji_244_21 rfl ?_
      exact wl_ri ji_244_25 jr_244 (pv_nb (by omega)) (⟨by show _ = some (wp_i (if 0 < s 139 (52 + 2 * (8 * w + p) + 0) then 1 else 0)); rw [← f139, if_pos (by omega)], s1, C, f⟩)
  | some L =>
    obtain ⟨r0, k, k1, k2, k3, k4, k5, k6⟩ : 0 ≤ s 139 3 ∧ ∃ k, (0 ≤ k ∧ k < s 141 (705 * s 139 3)) ∧ (∀ j, 0 ≤ j → j < k → ¬ s 141 (705 * s 139 3 + 1 + 4 * j) = 2) ∧ s 141 (705 * s 139 3 + 1 + 4 * k) = 2 ∧ (0 ≤ s 141 (705 * s 139 3 + 1 + 4 * k + 1) ∧ s 141 (705 * s 139 3 + 1 + 4 * k + 1) + (L.length : Int) = s 141 (705 * s 139 3 + 1 + 4 * k + 2) ∧ s 141 (705 * s 139 3 + 1 + 4 * k + 2) ≤ 304) ∧ (∀ j : Nat, j < L.length → L[j]? = some (s 141 (705 * s 139 3 + 97 + 2 * (s 141 (705 * s 139 3 + 1 + 4 * k + 1) + j)), s 141 (705 * s 139 3 + 97 + 2 * (s 141 (705 * s 139 3 + 1 + 4 * k + 1) + j) + 1))) ∧ ∀ p ∈ L, otm p.1 p.2 := T
    obtain ⟨x, e9, hx⟩ := hv L rfl _ hN
    have hva : vtR (nmR s w p) L = x := by
      unfold vtR
      rw [e9]
      rfl
    have hyn : ∀ y : Int, ((y = -1 ∧ (s 139 3 < 0 ∨ ∀ j, 0 ≤ j → j < s1 141 (705 * s 139 3) → ¬ s1 141 (705 * s 139 3 + 1 + 4 * j) = 2)) ∨ (0 ≤ s 139 3 ∧ 0 ≤ y ∧ y < s1 141 (705 * s 139 3) ∧ (∀ j, 0 ≤ j → j < y → ¬ s1 141 (705 * s 139 3 + 1 + 4 * j) = 2) ∧ s1 141 (705 * s 139 3 + 1 + 4 * y) = 2)) → y = k := fun y hy => by
      simp only [f141] at hy
      rcases hy with q | q
      · rcases q.2 with t | t
        · exact absurd r0 (by omega)
        · exact absurd k3 (t k k1.1 k1.2)
      · rcases Int.lt_trichotomy y k with c | c | c
        · exact absurd q.2.2.2.2 (k2 y q.2.1 c)
        · exact c
        · exact absurd k3 (q.2.2.2.1 k k1.1 c)
    refine wl_s (pc' := 1) ji_244_0 rfl rfl rfl ?_
    refine wl_s (pc' := 2) ji_244_1 rfl rfl rfl ?_
    obtain ⟨q2, hq2⟩ := c0_c C (by decide) sq_138
    refine wl_vc (d := d + 3) (as := [.ref 138, wp_i 2]) (rest := []) ji_244_2 jc_244_276 rfl hq2 jk_232.symm (Nat.le_of_ble_eq_true rfl) rfl (by rw [jn_232]; rfl) (uc_232 (d := d + 3) (cs_of C) (f139 3) hr (by omega) (by rw [f141]; exact hcn)) (fun v1 h1 R => ?_)
    obtain ⟨rfl, y, rfl, hy⟩ := R
    have hy0 : y = k := hyn y hy
    subst hy0
    show wl_R _ _ 244 5 [some (.ref 138), some (wp_i w), some (wp_i p), none] [wp_i y] _ _
    refine wl_s (pc' := 6) (lv' := [some (.ref 138), some (wp_i w), some (wp_i p), some (wp_i y)]) ji_244_5 rfl rfl rfl ?_
    refine wl_s (pc' := 7) ji_244_6 rfl rfl rfl ?_
    refine wl_if (t := 26) ji_244_7 rfl (by omega) (fun (hb3 : (0 : Int) ≤ y) => ?_) (fun (hb3 : ¬ ((0 : Int) ≤ y)) => (by exfalso; omega))
    refine wl_s (pc' := 27) ji_244_26 rfl rfl rfl ?_
    refine wl_s (pc' := 28) ji_244_27 rfl rfl rfl ?_
    refine wl_s (pc' := 29) ji_244_28 rfl rfl rfl ?_
    obtain ⟨q5, hq5⟩ := c0_c C (by decide) sq_138
    refine wl_vc (d := d + 3) (as := [.ref 138, wp_i w, wp_i p]) (rest := []) ji_244_29 jc_244_301 rfl hq5 jk_226.symm (Nat.le_of_ble_eq_true rfl) rfl (by rw [jn_226]; rfl) (uc_226 (d := d) C (by rw [f 139 1 (by decide)]; exact hpw) hw hp) (fun v1 h4 R => ?_)
    obtain ⟨rfl, s2, C, f2, n2⟩ := R
    have e139 : ∀ j, s2 139 j = s 139 j := fun j => (f2 139 j (by decide)).trans (f 139 j (by decide))
    have e141 : ∀ j, s2 141 j = s 141 j := fun j => (f2 141 j (by decide)).trans (f 141 j (by decide))
    have o2 : off s2 s := fun b j q => (f2 b j (fun e => q (Or.inr (by omega)))).trans (f b j q)
    have n3 : ∀ k, 0 ≤ k ∧ k < 10 → s2 144 k = nmR s w p k := fun k hk => (n2 k hk).trans (nmR_f (fun j => f 139 j (by decide)) w p k)
    show wl_R _ _ 244 32 [some (.ref 138), some (wp_i w), some (wp_i p), some (wp_i y)] [] h4 _
    refine wl_s (pc' := 33) ji_244_32 rfl rfl rfl ?_
    refine wl_s (pc' := 34) ji_244_33 rfl rfl rfl ?_
    obtain ⟨q7, hq7⟩ := c0_c C (by decide) sq_138
    refine wl_vc (d := d + 3) (as := [.ref 138, wp_i y]) (rest := []) ji_244_34 jc_244_279 rfl hq7 jk_233.symm (Nat.le_of_ble_eq_true rfl) rfl (by rw [jn_233]; rfl) (uc_233 (d := d + 1) C (e139 3) (by omega) (ci := y) (by omega) rfl rfl n3 hN (by simp only [e141]; exact k5) k6 e9 (by simp only [e141]; omega)) (fun v1 h6 R => ?_)
    obtain ⟨rfl, s3, C, f3, a1, a2⟩ := R
    have a0 : s3 146 0 = x := a2.1
    show wl_R _ _ 244 37 [some (.ref 138), some (wp_i w), some (wp_i p), some (wp_i y)] [] h6 _
    refine wl_s (pc' := 38) ji_244_37 rfl rfl rfl ?_
    refine c0_gr (r := 146) (k := 24) C (by decide) sq_138 rfl ji_244_38 jf_244_39 ?_
    refine wl_s (pc' := 42) ji_244_41 rfl rfl rfl ?_
    refine c0_lb (x := 0) C (by decide) sq_146 (by omega) ji_244_42 (fun ld80 ld81 ld82 => ?_)
    rw [a0] at ld82 ⊢
    exact wl_ri ji_244_43 jr_244 (pv_nb (by omega)) (⟨by show _ = some (wp_i (vtR (nmR s w p) L)); rw [hva], cs_tr (cs_off C (fun b j q => f3 b j (fun e => q (Or.inr (by omega))) (fun e => q (Or.inr (by omega))))) o2⟩)
