/-! -/
/-! -/
set_option maxRecDepth 100000 in
theorem ji_233_0 : mj_ins 233 0 = some (.sipush 705) := by decide +kernel
set_option maxRecDepth 100000 in
theorem ji_233_3 : mj_ins 233 3 = some (.aload_n 0) := by decide +kernel
set_option maxRecDepth 100000 in
theorem ji_233_4 : mj_ins 233 4 = some (.getfield 7) := by decide +kernel
set_option maxRecDepth 100000 in
theorem jf_233_7 : mj_fld 233 7 = some (11, 0, (.array .int), false) := by decide +kernel
set_option maxRecDepth 100000 in
theorem ji_233_7 : mj_ins 233 7 = some (.iconst 3) := by decide +kernel
set_option maxRecDepth 100000 in
theorem ji_233_8 : mj_ins 233 8 = some (.iaload) := by decide +kernel
set_option maxRecDepth 100000 in
theorem ji_233_9 : mj_ins 233 9 = some (.imul) := by decide +kernel
set_option maxRecDepth 100000 in
theorem ji_233_10 : mj_ins 233 10 = some (.iconst 1) := by decide +kernel
set_option maxRecDepth 100000 in
theorem ji_233_11 : mj_ins 233 11 = some (.iadd) := by decide +kernel
set_option maxRecDepth 100000 in
theorem ji_233_12 : mj_ins 233 12 = some (.iconst 4) := by decide +kernel
set_option maxRecDepth 100000 in
theorem ji_233_13 : mj_ins 233 13 = some (.iload_n 1) := by decide +kernel
set_option maxRecDepth 100000 in
theorem ji_233_14 : mj_ins 233 14 = some (.imul) := by decide +kernel
set_option maxRecDepth 100000 in
theorem ji_233_15 : mj_ins 233 15 = some (.iadd) := by decide +kernel
set_option maxRecDepth 100000 in
theorem ji_233_16 : mj_ins 233 16 = some (.istore_n 2) := by decide +kernel
set_option maxRecDepth 100000 in
theorem ji_233_17 : mj_ins 233 17 = some (.sipush 705) := by decide +kernel
set_option maxRecDepth 100000 in
theorem ji_233_20 : mj_ins 233 20 = some (.aload_n 0) := by decide +kernel
set_option maxRecDepth 100000 in
theorem ji_233_21 : mj_ins 233 21 = some (.getfield 7) := by decide +kernel
set_option maxRecDepth 100000 in
theorem ji_233_24 : mj_ins 233 24 = some (.iconst 3) := by decide +kernel
set_option maxRecDepth 100000 in
theorem ji_233_25 : mj_ins 233 25 = some (.iaload) := by decide +kernel
set_option maxRecDepth 100000 in
theorem ji_233_26 : mj_ins 233 26 = some (.imul) := by decide +kernel
set_option maxRecDepth 100000 in
theorem ji_233_27 : mj_ins 233 27 = some (.bipush 97) := by decide +kernel
set_option maxRecDepth 100000 in
theorem ji_233_29 : mj_ins 233 29 = some (.iadd) := by decide +kernel
set_option maxRecDepth 100000 in
theorem ji_233_30 : mj_ins 233 30 = some (.istore_n 3) := by decide +kernel
set_option maxRecDepth 100000 in
theorem ji_233_31 : mj_ins 233 31 = some (.iconst 0) := by decide +kernel
set_option maxRecDepth 100000 in
theorem ji_233_32 : mj_ins 233 32 = some (.istore 4) := by decide +kernel
set_option maxRecDepth 100000 in
theorem ji_233_34 : mj_ins 233 34 = some (.iconst 0) := by decide +kernel
set_option maxRecDepth 100000 in
theorem ji_233_35 : mj_ins 233 35 = some (.istore 5) := by decide +kernel
set_option maxRecDepth 100000 in
theorem ji_233_37 : mj_ins 233 37 = some (.aload_n 0) := by decide +kernel
set_option maxRecDepth 100000 in
theorem ji_233_38 : mj_ins 233 38 = some (.getfield 16) := by decide +kernel
set_option maxRecDepth 100000 in
theorem ji_233_41 : mj_ins 233 41 = some (.iload_n 2) := by decide +kernel
set_option maxRecDepth 100000 in
theorem ji_233_42 : mj_ins 233 42 = some (.iconst 1) := by decide +kernel
set_option maxRecDepth 100000 in
theorem ji_233_43 : mj_ins 233 43 = some (.iadd) := by decide +kernel
set_option maxRecDepth 100000 in
theorem ji_233_44 : mj_ins 233 44 = some (.iaload) := by decide +kernel
set_option maxRecDepth 100000 in
theorem ji_233_45 : mj_ins 233 45 = some (.istore 6) := by decide +kernel
/-! the reference's clauseOf, work; laid by program (wp_u29.py) -/
theorem uc_232l {d : Nat} {h : mj_H} {s : sg_} (C : CS h s) {r l : Int} (hr : s 139 3 = r) (hrr : -1 ≤ r ∧ r ≤ 3) (hl : wp_r l) (hcn : s 141 (705 * r) ≤ 24) : ∀ (nn : Nat) (k : Int), (0 ≤ k ∧ k ≤ 24) → (∀ j, 0 ≤ j → j < k → ¬ s 141 (705 * r + 1 + 4 * j) = l) → wl_R nn d 232 2 [some (.ref 138), some (wp_i l), some (wp_i k)] [] h (fun v1 h1 => h1 = h ∧ ∃ y : Int, v1 = some (wp_i y) ∧ ((y = -1 ∧ (r < 0 ∨ ∀ j, 0 ≤ j → j < s 141 (705 * r) → ¬ s 141 (705 * r + 1 + 4 * j) = l)) ∨ (0 ≤ r ∧ 0 ≤ y ∧ y < s 141 (705 * r) ∧ (∀ j, 0 ≤ j → j < y → ¬ s 141 (705 * r + 1 + 4 * j) = l) ∧ s 141 (705 * r + 1 + 4 * y) = l))) := by
  intro nn
  induction nn with
  | zero => intros; exact wl_0
  | succ nn ih =>
    intro k hk hk2
    refine wl_s1 (pc' := 3) ji_232_2 rfl rfl rfl ?_
    refine cs_gr (r := 139) (k := 0) C (by decide) sq_138 rfl ji_232_3 jf_232_7 ?_
    refine wl_s (pc' := 7) ji_232_6 rfl rfl rfl ?_
    refine cs_l (x := 3) C (by decide) (by decide) sq_139 (by omega) ji_232_7 (fun ld10 ld11 ld12 => ?_)
    rw [hr] at ld12 ⊢
    refine wl_if (t := 63) ji_232_8 rfl (by omega) (fun (hb2 : (r : Int) < 0) => ?_) (fun (hb2 : ¬ ((r : Int) < 0)) => ?_)
    · refine wl_s (pc' := 64) ji_232_63 rfl rfl rfl ?_
      exact wl_ri ji_232_64 jr_232 rfl (⟨rfl, -1, rfl, Or.inl ⟨rfl, Or.inl (by omega)⟩⟩)
    · refine wl_s (pc' := 12) ji_232_11 rfl rfl rfl ?_
      refine wl_s (pc' := 13) ji_232_12 rfl rfl rfl ?_
      refine cs_gr (r := 141) (k := 2) C (by decide) sq_138 rfl ji_232_13 jf_232_16 ?_
      refine wl_sp ji_232_16 rfl ?_
      refine wl_s (pc' := 20) ji_232_19 rfl rfl rfl ?_
      refine cs_gr (r := 139) (k := 0) C (by decide) sq_138 rfl ji_232_20 jf_232_7 ?_
      refine wl_s (pc' := 24) ji_232_23 rfl rfl rfl ?_
      refine cs_l (x := 3) C (by decide) (by decide) sq_139 (by omega) ji_232_24 (fun ld30 ld31 ld32 => ?_)
      rw [hr] at ld32 ⊢
      refine wl_imul (x := 705) (y := r) (z := 705 * r) ji_232_25 (by omega) ?_
      refine cs_l (x := 705 * r) C (by decide) (by decide) sq_141 (by omega) ji_232_26 (fun ld40 ld41 ld42 => ?_)
      refine wl_icmp (t := 63) ji_232_27 rfl (by omega) (by omega) (fun (hb5 : (s 141 (705 * r) : Int) ≤ k) => ?_) (fun (hb5 : ¬ ((s 141 (705 * r) : Int) ≤ k)) => ?_)
      · refine wl_s (pc' := 64) ji_232_63 rfl rfl rfl ?_
        exact wl_ri ji_232_64 jr_232 rfl (⟨rfl, -1, rfl, Or.inl ⟨rfl, Or.inr (fun j j0 j1 => hk2 j j0 (by omega))⟩⟩)
      · refine wl_s (pc' := 31) ji_232_30 rfl rfl rfl ?_
        refine cs_gr (r := 141) (k := 2) C (by decide) sq_138 rfl ji_232_31 jf_232_16 ?_
        refine wl_sp ji_232_34 rfl ?_
        refine wl_s (pc' := 38) ji_232_37 rfl rfl rfl ?_
        refine cs_gr (r := 139) (k := 0) C (by decide) sq_138 rfl ji_232_38 jf_232_7 ?_
        refine wl_s (pc' := 42) ji_232_41 rfl rfl rfl ?_
        refine cs_l (x := 3) C (by decide) (by decide) sq_139 (by omega) ji_232_42 (fun ld60 ld61 ld62 => ?_)
        rw [hr] at ld62 ⊢
        refine wl_imul (x := 705) (y := r) (z := 705 * r) ji_232_43 (by omega) ?_
        refine wl_s (pc' := 45) ji_232_44 rfl rfl rfl ?_
        refine wl_iadd (x := 705 * r) (y := 1) (z := 705 * r + 1) ji_232_45 (by omega) ?_
        refine wl_s (pc' := 47) ji_232_46 rfl rfl rfl ?_
        refine wl_s (pc' := 48) ji_232_47 rfl rfl rfl ?_
        refine wl_imul (x := 4) (y := k) (z := 4 * k) ji_232_48 (by omega) ?_
        refine wl_iadd (x := 705 * r + 1) (y := 4 * k) (z := 705 * r + 1 + (4 * k)) ji_232_49 (by omega) ?_
        refine cs_l (x := 705 * r + 1 + (4 * k)) C (by decide) (by decide) sq_141 (by omega) ji_232_50 (fun ld70 ld71 ld72 => ?_)
        refine wl_s (pc' := 52) ji_232_51 rfl rfl rfl ?_
        refine wl_icmp (t := 57) ji_232_52 rfl (by omega) (by omega) (fun (hb8 : ¬ (s 141 (705 * r + 1 + (4 * k)) : Int) = l) => ?_) (fun (hb8 : ¬ (¬ (s 141 (705 * r + 1 + (4 * k)) : Int) = l)) => ?_)
        · refine wl_iinc (x := k) (z := k + 1) (lv' := [some (.ref 138), some (wp_i l), some (wp_i (k + 1))]) ji_232_57 rfl (Nat.le_of_ble_eq_true rfl) (by omega) rfl ?_
          refine wl_goto (t := 2) ji_232_60 rfl ?_
          exact ih (k + 1) (by omega) (fun j j0 j1 => by by_cases e : j = k; (rw [e]; omega); exact hk2 j j0 (by omega))
        · refine wl_s (pc' := 56) ji_232_55 rfl rfl rfl ?_
          exact wl_ri ji_232_56 jr_232 rfl (⟨rfl, k, rfl, Or.inr ⟨by omega, by omega, by omega, hk2, by omega⟩⟩)
theorem uc_232 {nn d : Nat} {h : mj_H} {s : sg_} (C : CS h s) {r l : Int} (hr : s 139 3 = r) (hrr : -1 ≤ r ∧ r ≤ 3) (hl : wp_r l) (hcn : s 141 (705 * r) ≤ 24) : wl_R nn d 232 0 [some (.ref 138), some (wp_i l), none] [] h (fun v1 h1 => h1 = h ∧ ∃ y : Int, v1 = some (wp_i y) ∧ ((y = -1 ∧ (r < 0 ∨ ∀ j, 0 ≤ j → j < s 141 (705 * r) → ¬ s 141 (705 * r + 1 + 4 * j) = l)) ∨ (0 ≤ r ∧ 0 ≤ y ∧ y < s 141 (705 * r) ∧ (∀ j, 0 ≤ j → j < y → ¬ s 141 (705 * r + 1 + 4 * j) = l) ∧ s 141 (705 * r + 1 + 4 * y) = l))) := by
  refine wl_s (pc' := 1) ji_232_0 rfl rfl rfl ?_
  refine wl_s (pc' := 2) (lv' := [some (.ref 138), some (wp_i l), some (wp_i 0)]) ji_232_1 rfl rfl rfl ?_
  exact uc_232l C hr hrr hl hcn nn 0 (by omega) (fun j j0 j1 => by omega)
theorem uc_233 {nn d : Nat} {h : mj_H} {s : sg_} (C : CS0 h s) {r ci c b : Int} (hr : s 139 3 = r) (hrr : 0 ≤ r ∧ r ≤ 3) (hci : 0 ≤ ci ∧ ci < 24) (hcd : c = 705 * r + 1 + 4 * ci) (hbd : b = 705 * r + 97) {N : Int → Int} (hN0 : ∀ k, 0 ≤ k ∧ k < 10 → s 144 k = N k) (hN : ∀ k, 0 ≤ k ∧ k < 10 → B6 (N k)) {L : List (Int × Int)} (hL : ∀ k : Nat, k < L.length → L[k]? = some (s 141 (b + 2 * (s 141 (c + 1) + k)), s 141 (b + 2 * (s 141 (c + 1) + k) + 1))) (hI : ∀ p ∈ L, otm p.1 p.2) {vs3 ts3 : List Int} (e : evR N L [] [] = some (vs3, ts3)) (hf : 0 ≤ s 141 (c + 1) ∧ s 141 (c + 1) + (L.length : Int) = s 141 (c + 2) ∧ s 141 (c + 2) ≤ 1000) : wl_R nn (d + 2) 233 0 [some (.ref 138), some (wp_i ci), none, none, none, none, none, none, none] [] h (fun v1 h1 => v1 = none ∧ ∃ s1, CS0 h1 s1 ∧ (∀ (b : Nat) (j : Int), ¬ b = 145 → ¬ b = 146 → s1 b j = s b j) ∧ stA 145 s1 vs3 ∧ stA 146 s1 ts3) := by
  refine wl_sp ji_233_0 rfl ?_
  refine wl_s (pc' := 4) ji_233_3 rfl rfl rfl ?_
  refine c0_gr (r := 139) (k := 0) C (by decide) sq_138 rfl ji_233_4 jf_233_7 ?_
  refine wl_s (pc' := 8) ji_233_7 rfl rfl rfl ?_
  refine c0_l (x := 3) C (by decide) sq_139 (by omega) ji_233_8 (fun ld10 ld11 ld12 => ?_)
  rw [hr] at ld12 ⊢
  refine wl_imul (x := 705) (y := r) (z := 705 * r) ji_233_9 (by omega) ?_
  refine wl_s (pc' := 11) ji_233_10 rfl rfl rfl ?_
  refine wl_iadd (x := 705 * r) (y := 1) (z := 705 * r + 1) ji_233_11 (by omega) ?_
  refine wl_s (pc' := 13) ji_233_12 rfl rfl rfl ?_
  refine wl_s (pc' := 14) ji_233_13 rfl rfl rfl ?_
  refine wl_imul (x := 4) (y := ci) (z := 4 * ci) ji_233_14 (by omega) ?_
  refine wl_iadd (x := 705 * r + 1) (y := 4 * ci) (z := c) ji_233_15 (by omega) ?_
  refine wl_s (pc' := 17) (lv' := [some (.ref 138), some (wp_i ci), some (wp_i c), none, none, none, none, none, none]) ji_233_16 rfl rfl rfl ?_
  refine wl_sp ji_233_17 rfl ?_
  refine wl_s (pc' := 21) ji_233_20 rfl rfl rfl ?_
  refine c0_gr (r := 139) (k := 0) C (by decide) sq_138 rfl ji_233_21 jf_233_7 ?_
  refine wl_s (pc' := 25) ji_233_24 rfl rfl rfl ?_
  refine c0_l (x := 3) C (by decide) sq_139 (by omega) ji_233_25 (fun ld20 ld21 ld22 => ?_)
  rw [hr] at ld22 ⊢
  refine wl_imul (x := 705) (y := r) (z := 705 * r) ji_233_26 (by omega) ?_
  refine wl_bp ji_233_27 rfl ?_
  refine wl_iadd (x := 705 * r) (y := 97) (z := b) ji_233_29 (by omega) ?_
  refine wl_s (pc' := 31) (lv' := [some (.ref 138), some (wp_i ci), some (wp_i c), some (wp_i b), none, none, none, none, none]) ji_233_30 rfl rfl rfl ?_
  refine wl_s (pc' := 32) ji_233_31 rfl rfl rfl ?_
  refine wl_s (pc' := 34) (lv' := [some (.ref 138), some (wp_i ci), some (wp_i c), some (wp_i b), some (wp_i 0), none, none, none, none]) ji_233_32 rfl rfl rfl ?_
  refine wl_s (pc' := 35) ji_233_34 rfl rfl rfl ?_
  refine wl_s (pc' := 37) (lv' := [some (.ref 138), some (wp_i ci), some (wp_i c), some (wp_i b), some (wp_i 0), some (wp_i 0), none, none, none]) ji_233_35 rfl rfl rfl ?_
  refine wl_s (pc' := 38) ji_233_37 rfl rfl rfl ?_
  refine c0_gr (r := 141) (k := 2) C (by decide) sq_138 rfl ji_233_38 jf_233_16 ?_
  refine wl_s (pc' := 42) ji_233_41 rfl rfl rfl ?_
  refine wl_s (pc' := 43) ji_233_42 rfl rfl rfl ?_
  refine wl_iadd (x := c) (y := 1) (z := c + 1) ji_233_43 (by omega) ?_
  refine c0_l (x := c + 1) C (by decide) sq_141 (by omega) ji_233_44 (fun ld30 ld31 ld32 => ?_)
  refine wl_s (pc' := 47) (lv' := [some (.ref 138), some (wp_i ci), some (wp_i c), some (wp_i b), some (wp_i 0), some (wp_i 0), some (wp_i (s 141 (c + 1))), none, none]) ji_233_45 rfl rfl rfl ?_
  exact uc_233l hN0 hN (by omega) (by omega) rfl (by omega) nn L [] [] s _ _ none none C (fun _ _ _ _ => rfl) trivial trivial (fun _ z => by cases z) (by decide) hL hI e (by omega)
