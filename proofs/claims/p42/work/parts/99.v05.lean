/-! -/
set_option maxRecDepth 100000 in
theorem ji_119_32 : mj_ins 119 32 = some (.iload 4) := by decide +kernel
set_option maxRecDepth 100000 in
theorem ji_119_34 : mj_ins 119 34 = some (.iload_n 3) := by decide +kernel
set_option maxRecDepth 100000 in
theorem ji_119_35 : mj_ins 119 35 = some (.if_icmp .gt 28) := by decide +kernel
set_option maxRecDepth 100000 in
theorem ji_119_63 : mj_ins 119 63 = some (.iconst (-1)) := by decide +kernel
set_option maxRecDepth 100000 in
theorem ji_119_64 : mj_ins 119 64 = some (.ireturn) := by decide +kernel
set_option maxRecDepth 100000 in
theorem jr_119 : mj_ret 119 = some .int := by decide +kernel
set_option maxRecDepth 100000 in
theorem ji_119_38 : mj_ins 119 38 = some (.aload_n 0) := by decide +kernel
set_option maxRecDepth 100000 in
theorem ji_119_39 : mj_ins 119 39 = some (.aload_n 1) := by decide +kernel
set_option maxRecDepth 100000 in
theorem ji_119_40 : mj_ins 119 40 = some (.invokevirtual 36) := by decide +kernel
set_option maxRecDepth 100000 in
theorem jc_119_36 : mj_cal 119 36 = some (2, 62, 0) := by decide +kernel
set_option maxRecDepth 100000 in
theorem ji_119_43 : mj_ins 119 43 = some (.iload_n 2) := by decide +kernel
set_option maxRecDepth 100000 in
theorem ji_119_44 : mj_ins 119 44 = some (.iload_n 3) := by decide +kernel
set_option maxRecDepth 100000 in
theorem ji_119_45 : mj_ins 119 45 = some (.iconst 0) := by decide +kernel
set_option maxRecDepth 100000 in
theorem ji_119_46 : mj_ins 119 46 = some (.iload 4) := by decide +kernel
set_option maxRecDepth 100000 in
theorem ji_119_48 : mj_ins 119 48 = some (.invokevirtual 60) := by decide +kernel
set_option maxRecDepth 100000 in
theorem jc_119_60 : mj_cal 119 60 = some (2, 120, 5) := by decide +kernel
set_option maxRecDepth 100000 in
theorem ji_119_51 : mj_ins 119 51 = some (.ifCond .eq 6) := by decide +kernel
set_option maxRecDepth 100000 in
theorem ji_119_57 : mj_ins 119 57 = some (.iinc 4 1) := by decide +kernel
set_option maxRecDepth 100000 in
theorem ji_119_60 : mj_ins 119 60 = some (.goto (-28)) := by decide +kernel
set_option maxRecDepth 100000 in
theorem ji_119_54 : mj_ins 119 54 = some (.iload 4) := by decide +kernel
set_option maxRecDepth 100000 in
theorem ji_119_56 : mj_ins 119 56 = some (.ireturn) := by decide +kernel
set_option maxRecDepth 100000 in
theorem ji_119_0 : mj_ins 119 0 = some (.iconst 0) := by decide +kernel
set_option maxRecDepth 100000 in
theorem ji_119_1 : mj_ins 119 1 = some (.istore 4) := by decide +kernel
set_option maxRecDepth 100000 in
theorem ji_119_3 : mj_ins 119 3 = some (.iload 4) := by decide +kernel
set_option maxRecDepth 100000 in
theorem ji_119_5 : mj_ins 119 5 = some (.iload_n 3) := by decide +kernel
set_option maxRecDepth 100000 in
theorem ji_119_6 : mj_ins 119 6 = some (.if_icmp .gt 23) := by decide +kernel
set_option maxRecDepth 100000 in
theorem ji_119_9 : mj_ins 119 9 = some (.aload_n 0) := by decide +kernel
set_option maxRecDepth 100000 in
theorem ji_119_10 : mj_ins 119 10 = some (.getfield 13) := by decide +kernel
set_option maxRecDepth 100000 in
theorem jf_119_13 : mj_fld 119 13 = some (10, 0, (.array (.object "ForestOfPoles$Forest")), false) := by decide +kernel
set_option maxRecDepth 100000 in
theorem ji_119_13 : mj_ins 119 13 = some (.iload 4) := by decide +kernel
set_option maxRecDepth 100000 in
theorem ji_119_15 : mj_ins 119 15 = some (.aaload) := by decide +kernel
set_option maxRecDepth 100000 in
theorem ji_119_16 : mj_ins 119 16 = some (.aload_n 1) := by decide +kernel
set_option maxRecDepth 100000 in
theorem ji_119_17 : mj_ins 119 17 = some (.getfield 26) := by decide +kernel
set_option maxRecDepth 100000 in
theorem jf_119_26 : mj_fld 119 26 = some (2, 0, (.object "ForestOfPoles$Forest"), false) := by decide +kernel
set_option maxRecDepth 100000 in
theorem ji_119_20 : mj_ins 119 20 = some (.invokevirtual 32) := by decide +kernel
set_option maxRecDepth 100000 in
theorem jc_119_32 : mj_cal 119 32 = some (2, 106, 1) := by decide +kernel
set_option maxRecDepth 100000 in
theorem ji_119_23 : mj_ins 119 23 = some (.iinc 4 1) := by decide +kernel
set_option maxRecDepth 100000 in
theorem ji_119_26 : mj_ins 119 26 = some (.goto (-23)) := by decide +kernel
set_option maxRecDepth 100000 in
theorem ji_119_29 : mj_ins 119 29 = some (.iconst 0) := by decide +kernel
set_option maxRecDepth 100000 in
theorem ji_119_30 : mj_ins 119 30 = some (.istore 4) := by decide +kernel
set_option maxRecDepth 100000 in
theorem ji_118_0 : mj_ins 118 0 = some (.aload_n 0) := by decide +kernel
set_option maxRecDepth 100000 in
theorem ji_118_1 : mj_ins 118 1 = some (.getfield 19) := by decide +kernel
set_option maxRecDepth 100000 in
theorem jf_118_19 : mj_fld 118 19 = some (0, 0, (.object "ForestOfPoles$State"), false) := by decide +kernel
set_option maxRecDepth 100000 in
theorem ji_118_4 : mj_ins 118 4 = some (.getfield 49) := by decide +kernel
set_option maxRecDepth 100000 in
theorem jf_118_49 : mj_fld 118 49 = some (2, 0, (.object "ForestOfPoles$Forest"), false) := by decide +kernel
set_option maxRecDepth 100000 in
theorem ji_118_7 : mj_ins 118 7 = some (.iload_n 1) := by decide +kernel
set_option maxRecDepth 100000 in
theorem ji_118_8 : mj_ins 118 8 = some (.invokevirtual 177) := by decide +kernel
set_option maxRecDepth 100000 in
theorem jc_118_177 : mj_cal 118 177 = some (2, 80, 1) := by decide +kernel
set_option maxRecDepth 100000 in
theorem ji_118_11 : mj_ins 118 11 = some (.ifCond .eq 23) := by decide +kernel
set_option maxRecDepth 100000 in
theorem ji_118_34 : mj_ins 118 34 = some (.iconst (-1)) := by decide +kernel
set_option maxRecDepth 100000 in
theorem ji_118_35 : mj_ins 118 35 = some (.ireturn) := by decide +kernel
set_option maxRecDepth 100000 in
theorem jr_118 : mj_ret 118 = some .int := by decide +kernel
set_option maxRecDepth 100000 in
theorem ji_118_14 : mj_ins 118 14 = some (.iload_n 2) := by decide +kernel
set_option maxRecDepth 100000 in
theorem ji_118_15 : mj_ins 118 15 = some (.iconst 1) := by decide +kernel
set_option maxRecDepth 100000 in
theorem ji_118_16 : mj_ins 118 16 = some (.if_icmp .lt 18) := by decide +kernel
set_option maxRecDepth 100000 in
theorem ji_118_19 : mj_ins 118 19 = some (.iload_n 2) := by decide +kernel
set_option maxRecDepth 100000 in
theorem ji_118_20 : mj_ins 118 20 = some (.iconst 4) := by decide +kernel
set_option maxRecDepth 100000 in
theorem ji_118_21 : mj_ins 118 21 = some (.if_icmp .gt 13) := by decide +kernel
set_option maxRecDepth 100000 in
theorem ji_118_24 : mj_ins 118 24 = some (.iload_n 3) := by decide +kernel
set_option maxRecDepth 100000 in
theorem ji_118_25 : mj_ins 118 25 = some (.iconst (-1)) := by decide +kernel
set_option maxRecDepth 100000 in
theorem ji_118_26 : mj_ins 118 26 = some (.if_icmp .lt 8) := by decide +kernel
set_option maxRecDepth 100000 in
theorem ji_118_29 : mj_ins 118 29 = some (.iload_n 3) := by decide +kernel
set_option maxRecDepth 100000 in
theorem ji_118_30 : mj_ins 118 30 = some (.iload_n 2) := by decide +kernel
set_option maxRecDepth 100000 in
theorem ji_118_31 : mj_ins 118 31 = some (.if_icmp .lt 5) := by decide +kernel
set_option maxRecDepth 100000 in
theorem ji_118_36 : mj_ins 118 36 = some (.aload_n 0) := by decide +kernel
set_option maxRecDepth 100000 in
theorem ji_118_37 : mj_ins 118 37 = some (.getfield 45) := by decide +kernel
set_option maxRecDepth 100000 in
theorem jf_118_45 : mj_fld 118 45 = some (0, 4, (.object "ForestOfPoles$Lookout"), false) := by decide +kernel
set_option maxRecDepth 100000 in
theorem ji_118_40 : mj_ins 118 40 = some (.aload_n 0) := by decide +kernel
set_option maxRecDepth 100000 in
theorem ji_118_41 : mj_ins 118 41 = some (.getfield 19) := by decide +kernel
set_option maxRecDepth 100000 in
theorem ji_118_44 : mj_ins 118 44 = some (.iload_n 1) := by decide +kernel
set_option maxRecDepth 100000 in
theorem ji_118_45 : mj_ins 118 45 = some (.iload_n 2) := by decide +kernel
set_option maxRecDepth 100000 in
theorem ji_118_46 : mj_ins 118 46 = some (.invokevirtual 241) := by decide +kernel
set_option maxRecDepth 100000 in
theorem jc_118_241 : mj_cal 118 241 = some (2, 119, 3) := by decide +kernel
set_option maxRecDepth 100000 in
theorem jn_119 : mj_nl 119 = 5 := by decide +kernel
set_option maxRecDepth 100000 in
theorem jk_119 : mj_cls 119 = 10 := by decide +kernel
set_option maxRecDepth 100000 in
theorem ji_118_49 : mj_ins 118 49 = some (.istore 4) := by decide +kernel
set_option maxRecDepth 100000 in
theorem ji_118_51 : mj_ins 118 51 = some (.iload 4) := by decide +kernel
set_option maxRecDepth 100000 in
theorem ji_118_53 : mj_ins 118 53 = some (.iconst (-1)) := by decide +kernel
set_option maxRecDepth 100000 in
theorem ji_118_54 : mj_ins 118 54 = some (.if_icmp .eq 8) := by decide +kernel
set_option maxRecDepth 100000 in
theorem ji_118_62 : mj_ins 118 62 = some (.iload 4) := by decide +kernel
set_option maxRecDepth 100000 in
theorem ji_118_64 : mj_ins 118 64 = some (.goto 12) := by decide +kernel
set_option maxRecDepth 100000 in
theorem ji_118_76 : mj_ins 118 76 = some (.ireturn) := by decide +kernel
set_option maxRecDepth 100000 in
theorem ji_118_57 : mj_ins 118 57 = some (.iload_n 3) := by decide +kernel
set_option maxRecDepth 100000 in
theorem ji_118_58 : mj_ins 118 58 = some (.iconst (-1)) := by decide +kernel
set_option maxRecDepth 100000 in
theorem ji_118_59 : mj_ins 118 59 = some (.if_icmp .ne 8) := by decide +kernel
set_option maxRecDepth 100000 in
theorem ji_118_67 : mj_ins 118 67 = some (.aload_n 0) := by decide +kernel
set_option maxRecDepth 100000 in
theorem ji_118_68 : mj_ins 118 68 = some (.getfield 45) := by decide +kernel
set_option maxRecDepth 100000 in
theorem ji_118_71 : mj_ins 118 71 = some (.getfield 245) := by decide +kernel
set_option maxRecDepth 100000 in
theorem jf_118_245 : mj_fld 118 245 = some (10, 1, (.array .int), false) := by decide +kernel
set_option maxRecDepth 100000 in
theorem ji_118_74 : mj_ins 118 74 = some (.iload_n 3) := by decide +kernel
set_option maxRecDepth 100000 in
theorem ji_118_75 : mj_ins 118 75 = some (.iaload) := by decide +kernel
/-! the class's hoists: what they leave alone; laid by program (wp_v05.py) -/
theorem uc_119l {d : Nat} {s : sg_} {tc : tcs} (N : NV s tc) {T : Nat} (hT : isT T) (hR0 : rulT s = T) {n w : Int} (hw : 0 ≤ w ∧ w < 6) (hn : 1 ≤ n ∧ n ≤ 4) (G : IG s 98) (h10 : s 98 10 ≤ 19000) (Q0 : 1 < n + 1 → SQF s 106 98) (Q1 : 2 < n + 1 → SQF s 114 106) (Q2 : 3 < n + 1 → SQF s 122 114) (Q3 : 4 < n + 1 → SQF s 130 122) : ∀ (nn k : Nat) (h : mj_H) (t : sg_), CS h t → (k : Int) ≤ n + 1 → (∀ (b : Nat) (j : Int), ¬ ((b = 106 ∧ 9 ≤ j ∧ j ≤ 12) ∨ b = 112 ∨ b = 113 ∨ (b = 114 ∧ 9 ≤ j ∧ j ≤ 12) ∨ b = 120 ∨ b = 121 ∨ (b = 122 ∧ 9 ≤ j ∧ j ≤ 12) ∨ b = 128 ∨ b = 129 ∨ (b = 130 ∧ 9 ≤ j ∧ j ≤ 12) ∨ b = 136 ∨ b = 137 ∨ b = 97) → t b j = s b j) → wl_R nn (d + 9) 119 32 [some (.ref 95), some (.ref 47), some (wp_i w), some (wp_i n), some (wp_i ((k : Int)))] [] h (fun v1 h1 => ∃ yy : Int, v1 = some (wp_i yy) ∧ (-1 ≤ yy ∧ yy ≤ 4) ∧ ∃ t, CS h1 t ∧ (∀ (b : Nat) (j : Int), ¬ ((b = 106 ∧ 9 ≤ j ∧ j ≤ 12) ∨ b = 112 ∨ b = 113 ∨ (b = 114 ∧ 9 ≤ j ∧ j ≤ 12) ∨ b = 120 ∨ b = 121 ∨ (b = 122 ∧ 9 ≤ j ∧ j ≤ 12) ∨ b = 128 ∨ b = 129 ∨ (b = 130 ∧ 9 ≤ j ∧ j ≤ 12) ∨ b = 136 ∨ b = 137 ∨ b = 97) → t b j = s b j)) := by
  intro nn
  induction nn with
  | zero => intros; exact wl_0
  | succ nn ih =>
    intro k h t C hk ft
    obtain ⟨N1, hRu⟩ := NV_l N (t := t) (fun b j hb => ft b j (by omega))
    rw [hR0] at hRu
    have H1 := NV_tx N1
    rw [hRu] at H1
    refine wl_s1 (pc' := 34) ji_119_32 rfl rfl rfl ?_
    refine wl_s (pc' := 35) ji_119_34 rfl rfl rfl ?_
    refine wl_icmp (t := 63) ji_119_35 rfl (by omega) (by omega) (fun (hb1 : (n : Int) < ((k : Int))) => ?_) (fun (hb1 : ¬ ((n : Int) < ((k : Int)))) => ?_)
    · refine wl_s (pc' := 64) ji_119_63 rfl rfl rfl ?_
      exact wl_ri ji_119_64 jr_119 rfl (⟨-1, rfl, by omega, t, C, ft⟩)
    · refine wl_s (pc' := 39) ji_119_38 rfl rfl rfl ?_
      refine wl_s (pc' := 40) ji_119_39 rfl rfl rfl ?_
      obtain ⟨q3, hq3⟩ := cs_c C (by decide) sq_47
      refine wl_vc (d := d + 8) (as := [.ref 47]) (rest := [.ref 95]) ji_119_40 jc_119_36 rfl hq3 jk_62.symm (Nat.le_of_ble_eq_true rfl) rfl (by rw [jn_62]; rfl) (uc_62 (d := d + 7) C N1.t.2) (fun v1 h2 R => ?_)
      obtain ⟨ee, rfl⟩ := R
      rw [ee]
      clear ee
      rw [hRu]
      show wl_R _ _ 119 43 [some (.ref 95), some (.ref 47), some (wp_i w), some (wp_i n), some (wp_i ((k : Int)))] [.ref T, .ref 95] _ _
      refine wl_s (pc' := 44) ji_119_43 rfl rfl rfl ?_
      refine wl_s (pc' := 45) ji_119_44 rfl rfl rfl ?_
      refine wl_s (pc' := 46) ji_119_45 rfl rfl rfl ?_
      refine wl_s (pc' := 48) ji_119_46 rfl rfl rfl ?_
      obtain ⟨q5, hq5⟩ := cs_c C (by decide) sq_95
      refine wl_vc (d := d + 8) (as := [.ref 95, .ref T, wp_i w, wp_i n, wp_i 0, wp_i ((k : Int))]) (rest := []) ji_119_48 jc_119_60 rfl hq5 jk_120.symm (Nat.le_of_ble_eq_true rfl) rfl (by rw [jn_120]; rfl) (uc_120_0 (d := d) C hT hw (n := n) (by omega) (left := (k : Int)) (by omega) H1 N1.sc (IG_f (fun b j a1 a2 => ft b j (by omega)) G) (by rw [ft _ _ (by omega)]; exact h10) (fun z => SQF_f (Q0 z) (fun b j hb => ft b j (by omega))) (fun z => SQF_f (Q1 z) (fun b j hb => ft b j (by omega))) (fun z => SQF_f (Q2 z) (fun b j hb => ft b j (by omega))) (fun z => SQF_f (Q3 z) (fun b j hb => ft b j (by omega)))) (fun v1 h4 R => ?_)
      obtain ⟨yy, rfl, hy01, t7, C, f7⟩ := R
      have f8 : ∀ (b : Nat) (j : Int), ¬ ((b = 106 ∧ 9 ≤ j ∧ j ≤ 12) ∨ b = 112 ∨ b = 113 ∨ (b = 114 ∧ 9 ≤ j ∧ j ≤ 12) ∨ b = 120 ∨ b = 121 ∨ (b = 122 ∧ 9 ≤ j ∧ j ≤ 12) ∨ b = 128 ∨ b = 129 ∨ (b = 130 ∧ 9 ≤ j ∧ j ≤ 12) ∨ b = 136 ∨ b = 137 ∨ b = 97) → t7 b j = s b j := fun b j a1 => (f7 b j a1).trans (ft b j a1)
      show wl_R _ _ 119 51 [some (.ref 95), some (.ref 47), some (wp_i w), some (wp_i n), some (wp_i ((k : Int)))] [wp_i yy] h4 _
      refine wl_if (t := 57) ji_119_51 rfl (by omega) (fun (hb6 : (yy : Int) = 0) => ?_) (fun (hb6 : ¬ ((yy : Int) = 0)) => ?_)
      · refine wl_iinc (x := (k : Int)) (z := (k : Int) + 1) (lv' := [some (.ref 95), some (.ref 47), some (wp_i w), some (wp_i n), some (wp_i ((k : Int) + 1))]) ji_119_57 rfl (Nat.le_of_ble_eq_true rfl) (by omega) rfl ?_
        refine wl_goto (t := 32) ji_119_60 rfl ?_
        rw [show (k : Int) + 1 = ((k + 1 : Nat) : Int) by omega]
        exact ih (k + 1) _ t7 C (by omega) f8
      · refine wl_s (pc' := 56) ji_119_54 rfl rfl rfl ?_
        exact wl_ri ji_119_56 jr_119 rfl (⟨(k : Int), rfl, by omega, t7, C, f8⟩)
theorem uc_119 {nn d : Nat} {h : mj_H} {s : sg_} (C : CS h s) {tc : tcs} (N : NV s tc) {n w : Int} (hw : 0 ≤ w ∧ w < 6) (hn : 1 ≤ n ∧ n ≤ 4) : wl_R nn (d + 9) 119 0 [some (.ref 95), some (.ref 47), some (wp_i w), some (wp_i n), none] [] h (fun v1 h1 => ∃ yy : Int, v1 = some (wp_i yy) ∧ (-1 ≤ yy ∧ yy ≤ 4) ∧ ∃ t, CS h1 t ∧ ∀ (b : Nat) (j : Int), ¬ (97 ≤ b ∧ b ≤ 137) → t b j = s b j) := by
  refine wl_s (pc' := 1) ji_119_0 rfl rfl rfl ?_
  refine wl_s (pc' := 3) (lv' := [some (.ref 95), some (.ref 47), some (wp_i w), some (wp_i n), some (wp_i 0)]) ji_119_1 rfl rfl rfl ?_
  refine wl_s (pc' := 5) ji_119_3 rfl rfl rfl ?_
  refine wl_s (pc' := 6) ji_119_5 rfl rfl rfl ?_
  refine wl_icmp (t := 29) ji_119_6 rfl (by omega) (by omega) (fun (hb1 : (n : Int) < 0) => (by exfalso; omega)) (fun (hb1 : ¬ ((n : Int) < 0)) => ?_)
  refine wl_s (pc' := 10) ji_119_9 rfl rfl rfl ?_
  refine cs_gr (r := 96) (k := 0) C (by decide) sq_95 rfl ji_119_10 jf_119_13 ?_
  refine wl_s (pc' := 15) ji_119_13 rfl rfl rfl ?_
  refine cs_aa (r := 98) (x := 0) C (by decide) sq_96 (by decide) (by decide) (by decide) (by decide) rfl ji_119_15 ?_
  refine wl_s (pc' := 17) ji_119_16 rfl rfl rfl ?_
  refine cs_gr (r := 48) (k := 0) C (by decide) sq_47 rfl ji_119_17 jf_119_26 ?_
  obtain ⟨q3, hq3⟩ := cs_c C (by decide) sq_98
  refine wl_vc (d := d + 8) (as := [.ref 98, .ref 48]) (rest := []) ji_119_20 jc_119_32 rfl hq3 jk_106.symm (Nat.le_of_ble_eq_true rfl) rfl (by rw [jn_106]; rfl) (uc_106 (d := d + 7) C isF_98 isF_48 (by decide)) (fun v1 h2 R => ?_)
  obtain ⟨rfl, t1, C, a00, a02, a04, a06, a09, mf0⟩ := R
  have FC0 : FCP s t1 48 98 := ⟨a00, a02, a04, a06, a09⟩
  show wl_R _ _ 119 23 [some (.ref 95), some (.ref 47), some (wp_i w), some (wp_i n), some (wp_i 0)] [] h2 _
  refine wl_iinc (x := 0) (z := 1) (lv' := [some (.ref 95), some (.ref 47), some (wp_i w), some (wp_i n), some (wp_i 1)]) ji_119_23 rfl (Nat.le_of_ble_eq_true rfl) (by omega) rfl ?_
  refine wl_goto (t := 3) ji_119_26 rfl ?_
  refine wl_s (pc' := 5) ji_119_3 rfl rfl rfl ?_
  refine wl_s (pc' := 6) ji_119_5 rfl rfl rfl ?_
  refine wl_icmp (t := 29) ji_119_6 rfl (by omega) (by omega) (fun (hb4 : (n : Int) < 1) => (by exfalso; omega)) (fun (hb4 : ¬ ((n : Int) < 1)) => ?_)
  refine wl_s (pc' := 10) ji_119_9 rfl rfl rfl ?_
  refine cs_gr (r := 96) (k := 0) C (by decide) sq_95 rfl ji_119_10 jf_119_13 ?_
  refine wl_s (pc' := 15) ji_119_13 rfl rfl rfl ?_
  refine cs_aa (r := 106) (x := 1) C (by decide) sq_96 (by decide) (by decide) (by decide) (by decide) rfl ji_119_15 ?_
  refine wl_s (pc' := 17) ji_119_16 rfl rfl rfl ?_
  refine cs_gr (r := 48) (k := 0) C (by decide) sq_47 rfl ji_119_17 jf_119_26 ?_
  obtain ⟨q6, hq6⟩ := cs_c C (by decide) sq_106
  refine wl_vc (d := d + 8) (as := [.ref 106, .ref 48]) (rest := []) ji_119_20 jc_119_32 rfl hq6 jk_106.symm (Nat.le_of_ble_eq_true rfl) rfl (by rw [jn_106]; rfl) (uc_106 (d := d + 7) C isF_106 isF_48 (by decide)) (fun v1 h5 R => ?_)
  obtain ⟨rfl, t2, C, a10, a12, a14, a16, a19, mf1⟩ := R
  have FC1 : FCP t1 t2 48 106 := ⟨a10, a12, a14, a16, a19⟩
  show wl_R _ _ 119 23 [some (.ref 95), some (.ref 47), some (wp_i w), some (wp_i n), some (wp_i 1)] [] h5 _
  refine wl_iinc (x := 1) (z := 2) (lv' := [some (.ref 95), some (.ref 47), some (wp_i w), some (wp_i n), some (wp_i 2)]) ji_119_23 rfl (Nat.le_of_ble_eq_true rfl) (by omega) rfl ?_
  refine wl_goto (t := 3) ji_119_26 rfl ?_
  refine wl_s (pc' := 5) ji_119_3 rfl rfl rfl ?_
  refine wl_s (pc' := 6) ji_119_5 rfl rfl rfl ?_
  refine wl_icmp (t := 29) ji_119_6 rfl (by omega) (by omega) (fun (hb7 : (n : Int) < 2) => ?_) (fun (hb7 : ¬ ((n : Int) < 2)) => ?_)
  · refine wl_s (pc' := 30) ji_119_29 rfl rfl rfl ?_
    refine wl_s (pc' := 32) (lv' := [some (.ref 95), some (.ref 47), some (wp_i w), some (wp_i n), some (wp_i 0)]) ji_119_30 rfl rfl rfl ?_
    have fr : ∀ (b : Nat) (j : Int), ¬ (98 ≤ b ∧ b ≤ 137) → t2 b j = s b j := fun b j z => (((mf1 b j (by omega)).trans (mf0 b j (by omega))))
    have fF0 : ∀ (b : Nat) (j : Int), 98 ≤ b → b ≤ 98 + 7 → t2 b j = t1 b j := fun b j h1 h2 => ((mf1 b j (by omega)))
    have G98 : IG t2 98 := IG_f fF0 (IG_t N.g FC0)
    obtain ⟨NT, hRu⟩ := NV_l N (t := t2) (fun b j hb => fr b j (by omega))
    have fF1 : ∀ (b : Nat) (j : Int), 106 ≤ b → b ≤ 106 + 7 → t2 b j = t2 b j := fun b j h1 h2 => rfl
    have cm0 : ∀ (b : Nat) (j : Int), 48 ≤ b → b ≤ 55 → t1 b j = s b j := fun b j h1 h2 => mf0 b j (by omega)
    have SQ0 : SQF t2 106 98 := by
      refine ⟨⟨?_, ?_⟩, fun j j0 j1 => ?_, fun j j0 j1 => ?_⟩
      · exact (fF1 106 0 (by omega) (by omega)).trans (FC1.1.1.trans ((cm0 48 0 (by omega) (by omega)).trans (FC0.1.1.symm.trans (fF0 98 0 (by omega) (by omega)).symm)))
      · exact (fF1 106 1 (by omega) (by omega)).trans (FC1.1.2.trans ((cm0 48 1 (by omega) (by omega)).trans (FC0.1.2.symm.trans (fF0 98 1 (by omega) (by omega)).symm)))
      · exact ⟨(fF1 (106 + 1) j (by omega) (by omega)).trans ((FC1.2.1 j j0 j1).1.trans ((cm0 (48 + 1) j (by omega) (by omega)).trans ((FC0.2.1 j j0 j1).1.symm.trans (fF0 (98 + 1) j (by omega) (by omega)).symm))), (fF1 (106 + 2) j (by omega) (by omega)).trans ((FC1.2.1 j j0 j1).2.1.trans ((cm0 (48 + 2) j (by omega) (by omega)).trans ((FC0.2.1 j j0 j1).2.1.symm.trans (fF0 (98 + 2) j (by omega) (by omega)).symm))), (fF1 (106 + 3) j (by omega) (by omega)).trans ((FC1.2.1 j j0 j1).2.2.trans ((cm0 (48 + 3) j (by omega) (by omega)).trans ((FC0.2.1 j j0 j1).2.2.symm.trans (fF0 (98 + 3) j (by omega) (by omega)).symm)))⟩
      · exact ⟨(fF1 (106 + 4) j (by omega) (by omega)).trans ((FC1.2.2.1 j j0 j1).1.trans ((cm0 (48 + 4) j (by omega) (by omega)).trans ((FC0.2.2.1 j j0 j1).1.symm.trans (fF0 (98 + 4) j (by omega) (by omega)).symm))), (fF1 (106 + 5) j (by omega) (by omega)).trans ((FC1.2.2.1 j j0 j1).2.trans ((cm0 (48 + 5) j (by omega) (by omega)).trans ((FC0.2.2.1 j j0 j1).2.symm.trans (fF0 (98 + 5) j (by omega) (by omega)).symm)))⟩
    rw [show (0 : Int) = ((0 : Nat) : Int) from rfl]
    refine wl_mono (uc_119l NT (hRu ▸ rulT_i NT.t.2) hRu hw hn G98 (by rw [fF0 98 10 (by omega) (by omega), FC0.2.2.2.2.2.1]; have := N.h; omega) (fun _ => SQ0) (fun z => by exfalso; omega) (fun z => by exfalso; omega) (fun z => by exfalso; omega) nn 0 _ t2 C (by omega) (fun _ _ _ => rfl)) (fun v1 h1 R => ?_)
    obtain ⟨yy, e1, e2, t, C, f⟩ := R
    exact ⟨yy, e1, e2, t, C, fun b j z => (f b j (by omega)).trans (fr b j (by omega))⟩
  · refine wl_s (pc' := 10) ji_119_9 rfl rfl rfl ?_
    refine cs_gr (r := 96) (k := 0) C (by decide) sq_95 rfl ji_119_10 jf_119_13 ?_
    refine wl_s (pc' := 15) ji_119_13 rfl rfl rfl ?_
    refine cs_aa (r := 114) (x := 2) C (by decide) sq_96 (by decide) (by decide) (by decide) (by decide) rfl ji_119_15 ?_
    refine wl_s (pc' := 17) ji_119_16 rfl rfl rfl ?_
    refine cs_gr (r := 48) (k := 0) C (by decide) sq_47 rfl ji_119_17 jf_119_26 ?_
    obtain ⟨q9, hq9⟩ := cs_c C (by decide) sq_114
    refine wl_vc (d := d + 8) (as := [.ref 114, .ref 48]) (rest := []) ji_119_20 jc_119_32 rfl hq9 jk_106.symm (Nat.le_of_ble_eq_true rfl) rfl (by rw [jn_106]; rfl) (uc_106 (d := d + 7) C isF_114 isF_48 (by decide)) (fun v1 h8 R => ?_)
    obtain ⟨rfl, t3, C, a20, a22, a24, a26, a29, mf2⟩ := R
    have FC2 : FCP t2 t3 48 114 := ⟨a20, a22, a24, a26, a29⟩
    show wl_R _ _ 119 23 [some (.ref 95), some (.ref 47), some (wp_i w), some (wp_i n), some (wp_i 2)] [] h8 _
    refine wl_iinc (x := 2) (z := 3) (lv' := [some (.ref 95), some (.ref 47), some (wp_i w), some (wp_i n), some (wp_i 3)]) ji_119_23 rfl (Nat.le_of_ble_eq_true rfl) (by omega) rfl ?_
    refine wl_goto (t := 3) ji_119_26 rfl ?_
    refine wl_s (pc' := 5) ji_119_3 rfl rfl rfl ?_
    refine wl_s (pc' := 6) ji_119_5 rfl rfl rfl ?_
    refine wl_icmp (t := 29) ji_119_6 rfl (by omega) (by omega) (fun (hb10 : (n : Int) < 3) => ?_) (fun (hb10 : ¬ ((n : Int) < 3)) => ?_)
    · refine wl_s (pc' := 30) ji_119_29 rfl rfl rfl ?_
      refine wl_s (pc' := 32) (lv' := [some (.ref 95), some (.ref 47), some (wp_i w), some (wp_i n), some (wp_i 0)]) ji_119_30 rfl rfl rfl ?_
      have fr : ∀ (b : Nat) (j : Int), ¬ (98 ≤ b ∧ b ≤ 137) → t3 b j = s b j := fun b j z => (((mf2 b j (by omega)).trans ((mf1 b j (by omega)).trans (mf0 b j (by omega)))))
      have fF0 : ∀ (b : Nat) (j : Int), 98 ≤ b → b ≤ 98 + 7 → t3 b j = t1 b j := fun b j h1 h2 => (((mf2 b j (by omega)).trans (mf1 b j (by omega))))
      have G98 : IG t3 98 := IG_f fF0 (IG_t N.g FC0)
      obtain ⟨NT, hRu⟩ := NV_l N (t := t3) (fun b j hb => fr b j (by omega))
      have fF1 : ∀ (b : Nat) (j : Int), 106 ≤ b → b ≤ 106 + 7 → t3 b j = t2 b j := fun b j h1 h2 => ((mf2 b j (by omega)))
      have cm0 : ∀ (b : Nat) (j : Int), 48 ≤ b → b ≤ 55 → t1 b j = s b j := fun b j h1 h2 => mf0 b j (by omega)
      have SQ0 : SQF t3 106 98 := by
        refine ⟨⟨?_, ?_⟩, fun j j0 j1 => ?_, fun j j0 j1 => ?_⟩
        · exact (fF1 106 0 (by omega) (by omega)).trans (FC1.1.1.trans ((cm0 48 0 (by omega) (by omega)).trans (FC0.1.1.symm.trans (fF0 98 0 (by omega) (by omega)).symm)))
        · exact (fF1 106 1 (by omega) (by omega)).trans (FC1.1.2.trans ((cm0 48 1 (by omega) (by omega)).trans (FC0.1.2.symm.trans (fF0 98 1 (by omega) (by omega)).symm)))
        · exact ⟨(fF1 (106 + 1) j (by omega) (by omega)).trans ((FC1.2.1 j j0 j1).1.trans ((cm0 (48 + 1) j (by omega) (by omega)).trans ((FC0.2.1 j j0 j1).1.symm.trans (fF0 (98 + 1) j (by omega) (by omega)).symm))), (fF1 (106 + 2) j (by omega) (by omega)).trans ((FC1.2.1 j j0 j1).2.1.trans ((cm0 (48 + 2) j (by omega) (by omega)).trans ((FC0.2.1 j j0 j1).2.1.symm.trans (fF0 (98 + 2) j (by omega) (by omega)).symm))), (fF1 (106 + 3) j (by omega) (by omega)).trans ((FC1.2.1 j j0 j1).2.2.trans ((cm0 (48 + 3) j (by omega) (by omega)).trans ((FC0.2.1 j j0 j1).2.2.symm.trans (fF0 (98 + 3) j (by omega) (by omega)).symm)))⟩
        · exact ⟨(fF1 (106 + 4) j (by omega) (by omega)).trans ((FC1.2.2.1 j j0 j1).1.trans ((cm0 (48 + 4) j (by omega) (by omega)).trans ((FC0.2.2.1 j j0 j1).1.symm.trans (fF0 (98 + 4) j (by omega) (by omega)).symm))), (fF1 (106 + 5) j (by omega) (by omega)).trans ((FC1.2.2.1 j j0 j1).2.trans ((cm0 (48 + 5) j (by omega) (by omega)).trans ((FC0.2.2.1 j j0 j1).2.symm.trans (fF0 (98 + 5) j (by omega) (by omega)).symm)))⟩
      have fF2 : ∀ (b : Nat) (j : Int), 114 ≤ b → b ≤ 114 + 7 → t3 b j = t3 b j := fun b j h1 h2 => rfl
      have cm1 : ∀ (b : Nat) (j : Int), 48 ≤ b → b ≤ 55 → t2 b j = t1 b j := fun b j h1 h2 => mf1 b j (by omega)
      have SQ1 : SQF t3 114 106 := by
        refine ⟨⟨?_, ?_⟩, fun j j0 j1 => ?_, fun j j0 j1 => ?_⟩
        · exact (fF2 114 0 (by omega) (by omega)).trans (FC2.1.1.trans ((cm1 48 0 (by omega) (by omega)).trans (FC1.1.1.symm.trans (fF1 106 0 (by omega) (by omega)).symm)))
        · exact (fF2 114 1 (by omega) (by omega)).trans (FC2.1.2.trans ((cm1 48 1 (by omega) (by omega)).trans (FC1.1.2.symm.trans (fF1 106 1 (by omega) (by omega)).symm)))
        · exact ⟨(fF2 (114 + 1) j (by omega) (by omega)).trans ((FC2.2.1 j j0 j1).1.trans ((cm1 (48 + 1) j (by omega) (by omega)).trans ((FC1.2.1 j j0 j1).1.symm.trans (fF1 (106 + 1) j (by omega) (by omega)).symm))), (fF2 (114 + 2) j (by omega) (by omega)).trans ((FC2.2.1 j j0 j1).2.1.trans ((cm1 (48 + 2) j (by omega) (by omega)).trans ((FC1.2.1 j j0 j1).2.1.symm.trans (fF1 (106 + 2) j (by omega) (by omega)).symm))), (fF2 (114 + 3) j (by omega) (by omega)).trans ((FC2.2.1 j j0 j1).2.2.trans ((cm1 (48 + 3) j (by omega) (by omega)).trans ((FC1.2.1 j j0 j1).2.2.symm.trans (fF1 (106 + 3) j (by omega) (by omega)).symm)))⟩
        · exact ⟨(fF2 (114 + 4) j (by omega) (by omega)).trans ((FC2.2.2.1 j j0 j1).1.trans ((cm1 (48 + 4) j (by omega) (by omega)).trans ((FC1.2.2.1 j j0 j1).1.symm.trans (fF1 (106 + 4) j (by omega) (by omega)).symm))), (fF2 (114 + 5) j (by omega) (by omega)).trans ((FC2.2.2.1 j j0 j1).2.trans ((cm1 (48 + 5) j (by omega) (by omega)).trans ((FC1.2.2.1 j j0 j1).2.symm.trans (fF1 (106 + 5) j (by omega) (by omega)).symm)))⟩
      rw [show (0 : Int) = ((0 : Nat) : Int) from rfl]
      refine wl_mono (uc_119l NT (hRu ▸ rulT_i NT.t.2) hRu hw hn G98 (by rw [fF0 98 10 (by omega) (by omega), FC0.2.2.2.2.2.1]; have := N.h; omega) (fun _ => SQ0) (fun _ => SQ1) (fun z => by exfalso; omega) (fun z => by exfalso; omega) nn 0 _ t3 C (by omega) (fun _ _ _ => rfl)) (fun v1 h1 R => ?_)
      obtain ⟨yy, e1, e2, t, C, f⟩ := R
      exact ⟨yy, e1, e2, t, C, fun b j z => (f b j (by omega)).trans (fr b j (by omega))⟩
    · refine wl_s (pc' := 10) ji_119_9 rfl rfl rfl ?_
      refine cs_gr (r := 96) (k := 0) C (by decide) sq_95 rfl ji_119_10 jf_119_13 ?_
      refine wl_s (pc' := 15) ji_119_13 rfl rfl rfl ?_
      refine cs_aa (r := 122) (x := 3) C (by decide) sq_96 (by decide) (by decide) (by decide) (by decide) rfl ji_119_15 ?_
      refine wl_s (pc' := 17) ji_119_16 rfl rfl rfl ?_
      refine cs_gr (r := 48) (k := 0) C (by decide) sq_47 rfl ji_119_17 jf_119_26 ?_
      obtain ⟨q12, hq12⟩ := cs_c C (by decide) sq_122
      refine wl_vc (d := d + 8) (as := [.ref 122, .ref 48]) (rest := []) ji_119_20 jc_119_32 rfl hq12 jk_106.symm (Nat.le_of_ble_eq_true rfl) rfl (by rw [jn_106]; rfl) (uc_106 (d := d + 7) C isF_122 isF_48 (by decide)) (fun v1 h11 R => ?_)
      obtain ⟨rfl, t4, C, a30, a32, a34, a36, a39, mf3⟩ := R
      have FC3 : FCP t3 t4 48 122 := ⟨a30, a32, a34, a36, a39⟩
      show wl_R _ _ 119 23 [some (.ref 95), some (.ref 47), some (wp_i w), some (wp_i n), some (wp_i 3)] [] h11 _
      refine wl_iinc (x := 3) (z := 4) (lv' := [some (.ref 95), some (.ref 47), some (wp_i w), some (wp_i n), some (wp_i 4)]) ji_119_23 rfl (Nat.le_of_ble_eq_true rfl) (by omega) rfl ?_
      refine wl_goto (t := 3) ji_119_26 rfl ?_
      refine wl_s (pc' := 5) ji_119_3 rfl rfl rfl ?_
      refine wl_s (pc' := 6) ji_119_5 rfl rfl rfl ?_
      refine wl_icmp (t := 29) ji_119_6 rfl (by omega) (by omega) (fun (hb13 : (n : Int) < 4) => ?_) (fun (hb13 : ¬ ((n : Int) < 4)) => ?_)
      · refine wl_s (pc' := 30) ji_119_29 rfl rfl rfl ?_
        refine wl_s (pc' := 32) (lv' := [some (.ref 95), some (.ref 47), some (wp_i w), some (wp_i n), some (wp_i 0)]) ji_119_30 rfl rfl rfl ?_
        have fr : ∀ (b : Nat) (j : Int), ¬ (98 ≤ b ∧ b ≤ 137) → t4 b j = s b j := fun b j z => (((mf3 b j (by omega)).trans ((mf2 b j (by omega)).trans ((mf1 b j (by omega)).trans (mf0 b j (by omega))))))
        have fF0 : ∀ (b : Nat) (j : Int), 98 ≤ b → b ≤ 98 + 7 → t4 b j = t1 b j := fun b j h1 h2 => (((mf3 b j (by omega)).trans ((mf2 b j (by omega)).trans (mf1 b j (by omega)))))
        have G98 : IG t4 98 := IG_f fF0 (IG_t N.g FC0)
        obtain ⟨NT, hRu⟩ := NV_l N (t := t4) (fun b j hb => fr b j (by omega))
        have fF1 : ∀ (b : Nat) (j : Int), 106 ≤ b → b ≤ 106 + 7 → t4 b j = t2 b j := fun b j h1 h2 => (((mf3 b j (by omega)).trans (mf2 b j (by omega))))
        have cm0 : ∀ (b : Nat) (j : Int), 48 ≤ b → b ≤ 55 → t1 b j = s b j := fun b j h1 h2 => mf0 b j (by omega)
        have SQ0 : SQF t4 106 98 := by
          refine ⟨⟨?_, ?_⟩, fun j j0 j1 => ?_, fun j j0 j1 => ?_⟩
          · exact (fF1 106 0 (by omega) (by omega)).trans (FC1.1.1.trans ((cm0 48 0 (by omega) (by omega)).trans (FC0.1.1.symm.trans (fF0 98 0 (by omega) (by omega)).symm)))
          · exact (fF1 106 1 (by omega) (by omega)).trans (FC1.1.2.trans ((cm0 48 1 (by omega) (by omega)).trans (FC0.1.2.symm.trans (fF0 98 1 (by omega) (by omega)).symm)))
          · exact ⟨(fF1 (106 + 1) j (by omega) (by omega)).trans ((FC1.2.1 j j0 j1).1.trans ((cm0 (48 + 1) j (by omega) (by omega)).trans ((FC0.2.1 j j0 j1).1.symm.trans (fF0 (98 + 1) j (by omega) (by omega)).symm))), (fF1 (106 + 2) j (by omega) (by omega)).trans ((FC1.2.1 j j0 j1).2.1.trans ((cm0 (48 + 2) j (by omega) (by omega)).trans ((FC0.2.1 j j0 j1).2.1.symm.trans (fF0 (98 + 2) j (by omega) (by omega)).symm))), (fF1 (106 + 3) j (by omega) (by omega)).trans ((FC1.2.1 j j0 j1).2.2.trans ((cm0 (48 + 3) j (by omega) (by omega)).trans ((FC0.2.1 j j0 j1).2.2.symm.trans (fF0 (98 + 3) j (by omega) (by omega)).symm)))⟩
          · exact ⟨(fF1 (106 + 4) j (by omega) (by omega)).trans ((FC1.2.2.1 j j0 j1).1.trans ((cm0 (48 + 4) j (by omega) (by omega)).trans ((FC0.2.2.1 j j0 j1).1.symm.trans (fF0 (98 + 4) j (by omega) (by omega)).symm))), (fF1 (106 + 5) j (by omega) (by omega)).trans ((FC1.2.2.1 j j0 j1).2.trans ((cm0 (48 + 5) j (by omega) (by omega)).trans ((FC0.2.2.1 j j0 j1).2.symm.trans (fF0 (98 + 5) j (by omega) (by omega)).symm)))⟩
        have fF2 : ∀ (b : Nat) (j : Int), 114 ≤ b → b ≤ 114 + 7 → t4 b j = t3 b j := fun b j h1 h2 => ((mf3 b j (by omega)))
        have cm1 : ∀ (b : Nat) (j : Int), 48 ≤ b → b ≤ 55 → t2 b j = t1 b j := fun b j h1 h2 => mf1 b j (by omega)
        have SQ1 : SQF t4 114 106 := by
          refine ⟨⟨?_, ?_⟩, fun j j0 j1 => ?_, fun j j0 j1 => ?_⟩
          · exact (fF2 114 0 (by omega) (by omega)).trans (FC2.1.1.trans ((cm1 48 0 (by omega) (by omega)).trans (FC1.1.1.symm.trans (fF1 106 0 (by omega) (by omega)).symm)))
          · exact (fF2 114 1 (by omega) (by omega)).trans (FC2.1.2.trans ((cm1 48 1 (by omega) (by omega)).trans (FC1.1.2.symm.trans (fF1 106 1 (by omega) (by omega)).symm)))
          · exact ⟨(fF2 (114 + 1) j (by omega) (by omega)).trans ((FC2.2.1 j j0 j1).1.trans ((cm1 (48 + 1) j (by omega) (by omega)).trans ((FC1.2.1 j j0 j1).1.symm.trans (fF1 (106 + 1) j (by omega) (by omega)).symm))), (fF2 (114 + 2) j (by omega) (by omega)).trans ((FC2.2.1 j j0 j1).2.1.trans ((cm1 (48 + 2) j (by omega) (by omega)).trans ((FC1.2.1 j j0 j1).2.1.symm.trans (fF1 (106 + 2) j (by omega) (by omega)).symm))), (fF2 (114 + 3) j (by omega) (by omega)).trans ((FC2.2.1 j j0 j1).2.2.trans ((cm1 (48 + 3) j (by omega) (by omega)).trans ((FC1.2.1 j j0 j1).2.2.symm.trans (fF1 (106 + 3) j (by omega) (by omega)).symm)))⟩
          · exact ⟨(fF2 (114 + 4) j (by omega) (by omega)).trans ((FC2.2.2.1 j j0 j1).1.trans ((cm1 (48 + 4) j (by omega) (by omega)).trans ((FC1.2.2.1 j j0 j1).1.symm.trans (fF1 (106 + 4) j (by omega) (by omega)).symm))), (fF2 (114 + 5) j (by omega) (by omega)).trans ((FC2.2.2.1 j j0 j1).2.trans ((cm1 (48 + 5) j (by omega) (by omega)).trans ((FC1.2.2.1 j j0 j1).2.symm.trans (fF1 (106 + 5) j (by omega) (by omega)).symm)))⟩
        have fF3 : ∀ (b : Nat) (j : Int), 122 ≤ b → b ≤ 122 + 7 → t4 b j = t4 b j := fun b j h1 h2 => rfl
        have cm2 : ∀ (b : Nat) (j : Int), 48 ≤ b → b ≤ 55 → t3 b j = t2 b j := fun b j h1 h2 => mf2 b j (by omega)
        have SQ2 : SQF t4 122 114 := by
          refine ⟨⟨?_, ?_⟩, fun j j0 j1 => ?_, fun j j0 j1 => ?_⟩
          · exact (fF3 122 0 (by omega) (by omega)).trans (FC3.1.1.trans ((cm2 48 0 (by omega) (by omega)).trans (FC2.1.1.symm.trans (fF2 114 0 (by omega) (by omega)).symm)))
          · exact (fF3 122 1 (by omega) (by omega)).trans (FC3.1.2.trans ((cm2 48 1 (by omega) (by omega)).trans (FC2.1.2.symm.trans (fF2 114 1 (by omega) (by omega)).symm)))
          · exact ⟨(fF3 (122 + 1) j (by omega) (by omega)).trans ((FC3.2.1 j j0 j1).1.trans ((cm2 (48 + 1) j (by omega) (by omega)).trans ((FC2.2.1 j j0 j1).1.symm.trans (fF2 (114 + 1) j (by omega) (by omega)).symm))), (fF3 (122 + 2) j (by omega) (by omega)).trans ((FC3.2.1 j j0 j1).2.1.trans ((cm2 (48 + 2) j (by omega) (by omega)).trans ((FC2.2.1 j j0 j1).2.1.symm.trans (fF2 (114 + 2) j (by omega) (by omega)).symm))), (fF3 (122 + 3) j (by omega) (by omega)).trans ((FC3.2.1 j j0 j1).2.2.trans ((cm2 (48 + 3) j (by omega) (by omega)).trans ((FC2.2.1 j j0 j1).2.2.symm.trans (fF2 (114 + 3) j (by omega) (by omega)).symm)))⟩
          · exact ⟨(fF3 (122 + 4) j (by omega) (by omega)).trans ((FC3.2.2.1 j j0 j1).1.trans ((cm2 (48 + 4) j (by omega) (by omega)).trans ((FC2.2.2.1 j j0 j1).1.symm.trans (fF2 (114 + 4) j (by omega) (by omega)).symm))), (fF3 (122 + 5) j (by omega) (by omega)).trans ((FC3.2.2.1 j j0 j1).2.trans ((cm2 (48 + 5) j (by omega) (by omega)).trans ((FC2.2.2.1 j j0 j1).2.symm.trans (fF2 (114 + 5) j (by omega) (by omega)).symm)))⟩
        rw [show (0 : Int) = ((0 : Nat) : Int) from rfl]
        refine wl_mono (uc_119l NT (hRu ▸ rulT_i NT.t.2) hRu hw hn G98 (by rw [fF0 98 10 (by omega) (by omega), FC0.2.2.2.2.2.1]; have := N.h; omega) (fun _ => SQ0) (fun _ => SQ1) (fun _ => SQ2) (fun z => by exfalso; omega) nn 0 _ t4 C (by omega) (fun _ _ _ => rfl)) (fun v1 h1 R => ?_)
        obtain ⟨yy, e1, e2, t, C, f⟩ := R
        exact ⟨yy, e1, e2, t, C, fun b j z => (f b j (by omega)).trans (fr b j (by omega))⟩
      · refine wl_s (pc' := 10) ji_119_9 rfl rfl rfl ?_
        refine cs_gr (r := 96) (k := 0) C (by decide) sq_95 rfl ji_119_10 jf_119_13 ?_
        refine wl_s (pc' := 15) ji_119_13 rfl rfl rfl ?_
        refine cs_aa (r := 130) (x := 4) C (by decide) sq_96 (by decide) (by decide) (by decide) (by decide) rfl ji_119_15 ?_
        refine wl_s (pc' := 17) ji_119_16 rfl rfl rfl ?_
        refine cs_gr (r := 48) (k := 0) C (by decide) sq_47 rfl ji_119_17 jf_119_26 ?_
        obtain ⟨q15, hq15⟩ := cs_c C (by decide) sq_130
        refine wl_vc (d := d + 8) (as := [.ref 130, .ref 48]) (rest := []) ji_119_20 jc_119_32 rfl hq15 jk_106.symm (Nat.le_of_ble_eq_true rfl) rfl (by rw [jn_106]; rfl) (uc_106 (d := d + 7) C isF_130 isF_48 (by decide)) (fun v1 h14 R => ?_)
        obtain ⟨rfl, t5, C, a40, a42, a44, a46, a49, mf4⟩ := R
        have FC4 : FCP t4 t5 48 130 := ⟨a40, a42, a44, a46, a49⟩
        show wl_R _ _ 119 23 [some (.ref 95), some (.ref 47), some (wp_i w), some (wp_i n), some (wp_i 4)] [] h14 _
        refine wl_iinc (x := 4) (z := 5) (lv' := [some (.ref 95), some (.ref 47), some (wp_i w), some (wp_i n), some (wp_i 5)]) ji_119_23 rfl (Nat.le_of_ble_eq_true rfl) (by omega) rfl ?_
        refine wl_goto (t := 3) ji_119_26 rfl ?_
        refine wl_s (pc' := 5) ji_119_3 rfl rfl rfl ?_
        refine wl_s (pc' := 6) ji_119_5 rfl rfl rfl ?_
        refine wl_icmp (t := 29) ji_119_6 rfl (by omega) (by omega) (fun (hb16 : (n : Int) < 5) => ?_) (fun (hb16 : ¬ ((n : Int) < 5)) => (by exfalso; omega))
        refine wl_s (pc' := 30) ji_119_29 rfl rfl rfl ?_
        refine wl_s (pc' := 32) (lv' := [some (.ref 95), some (.ref 47), some (wp_i w), some (wp_i n), some (wp_i 0)]) ji_119_30 rfl rfl rfl ?_
        have fr : ∀ (b : Nat) (j : Int), ¬ (98 ≤ b ∧ b ≤ 137) → t5 b j = s b j := fun b j z => (((mf4 b j (by omega)).trans ((mf3 b j (by omega)).trans ((mf2 b j (by omega)).trans ((mf1 b j (by omega)).trans (mf0 b j (by omega)))))))
        have fF0 : ∀ (b : Nat) (j : Int), 98 ≤ b → b ≤ 98 + 7 → t5 b j = t1 b j := fun b j h1 h2 => (((mf4 b j (by omega)).trans ((mf3 b j (by omega)).trans ((mf2 b j (by omega)).trans (mf1 b j (by omega))))))
        have G98 : IG t5 98 := IG_f fF0 (IG_t N.g FC0)
        obtain ⟨NT, hRu⟩ := NV_l N (t := t5) (fun b j hb => fr b j (by omega))
        have fF1 : ∀ (b : Nat) (j : Int), 106 ≤ b → b ≤ 106 + 7 → t5 b j = t2 b j := fun b j h1 h2 => (((mf4 b j (by omega)).trans ((mf3 b j (by omega)).trans (mf2 b j (by omega)))))
        have cm0 : ∀ (b : Nat) (j : Int), 48 ≤ b → b ≤ 55 → t1 b j = s b j := fun b j h1 h2 => mf0 b j (by omega)
        have SQ0 : SQF t5 106 98 := by
          refine ⟨⟨?_, ?_⟩, fun j j0 j1 => ?_, fun j j0 j1 => ?_⟩
          · exact (fF1 106 0 (by omega) (by omega)).trans (FC1.1.1.trans ((cm0 48 0 (by omega) (by omega)).trans (FC0.1.1.symm.trans (fF0 98 0 (by omega) (by omega)).symm)))
          · exact (fF1 106 1 (by omega) (by omega)).trans (FC1.1.2.trans ((cm0 48 1 (by omega) (by omega)).trans (FC0.1.2.symm.trans (fF0 98 1 (by omega) (by omega)).symm)))
          · exact ⟨(fF1 (106 + 1) j (by omega) (by omega)).trans ((FC1.2.1 j j0 j1).1.trans ((cm0 (48 + 1) j (by omega) (by omega)).trans ((FC0.2.1 j j0 j1).1.symm.trans (fF0 (98 + 1) j (by omega) (by omega)).symm))), (fF1 (106 + 2) j (by omega) (by omega)).trans ((FC1.2.1 j j0 j1).2.1.trans ((cm0 (48 + 2) j (by omega) (by omega)).trans ((FC0.2.1 j j0 j1).2.1.symm.trans (fF0 (98 + 2) j (by omega) (by omega)).symm))), (fF1 (106 + 3) j (by omega) (by omega)).trans ((FC1.2.1 j j0 j1).2.2.trans ((cm0 (48 + 3) j (by omega) (by omega)).trans ((FC0.2.1 j j0 j1).2.2.symm.trans (fF0 (98 + 3) j (by omega) (by omega)).symm)))⟩
          · exact ⟨(fF1 (106 + 4) j (by omega) (by omega)).trans ((FC1.2.2.1 j j0 j1).1.trans ((cm0 (48 + 4) j (by omega) (by omega)).trans ((FC0.2.2.1 j j0 j1).1.symm.trans (fF0 (98 + 4) j (by omega) (by omega)).symm))), (fF1 (106 + 5) j (by omega) (by omega)).trans ((FC1.2.2.1 j j0 j1).2.trans ((cm0 (48 + 5) j (by omega) (by omega)).trans ((FC0.2.2.1 j j0 j1).2.symm.trans (fF0 (98 + 5) j (by omega) (by omega)).symm)))⟩
        have fF2 : ∀ (b : Nat) (j : Int), 114 ≤ b → b ≤ 114 + 7 → t5 b j = t3 b j := fun b j h1 h2 => (((mf4 b j (by omega)).trans (mf3 b j (by omega))))
        have cm1 : ∀ (b : Nat) (j : Int), 48 ≤ b → b ≤ 55 → t2 b j = t1 b j := fun b j h1 h2 => mf1 b j (by omega)
        have SQ1 : SQF t5 114 106 := by
          refine ⟨⟨?_, ?_⟩, fun j j0 j1 => ?_, fun j j0 j1 => ?_⟩
          · exact (fF2 114 0 (by omega) (by omega)).trans (FC2.1.1.trans ((cm1 48 0 (by omega) (by omega)).trans (FC1.1.1.symm.trans (fF1 106 0 (by omega) (by omega)).symm)))
          · exact (fF2 114 1 (by omega) (by omega)).trans (FC2.1.2.trans ((cm1 48 1 (by omega) (by omega)).trans (FC1.1.2.symm.trans (fF1 106 1 (by omega) (by omega)).symm)))
          · exact ⟨(fF2 (114 + 1) j (by omega) (by omega)).trans ((FC2.2.1 j j0 j1).1.trans ((cm1 (48 + 1) j (by omega) (by omega)).trans ((FC1.2.1 j j0 j1).1.symm.trans (fF1 (106 + 1) j (by omega) (by omega)).symm))), (fF2 (114 + 2) j (by omega) (by omega)).trans ((FC2.2.1 j j0 j1).2.1.trans ((cm1 (48 + 2) j (by omega) (by omega)).trans ((FC1.2.1 j j0 j1).2.1.symm.trans (fF1 (106 + 2) j (by omega) (by omega)).symm))), (fF2 (114 + 3) j (by omega) (by omega)).trans ((FC2.2.1 j j0 j1).2.2.trans ((cm1 (48 + 3) j (by omega) (by omega)).trans ((FC1.2.1 j j0 j1).2.2.symm.trans (fF1 (106 + 3) j (by omega) (by omega)).symm)))⟩
          · exact ⟨(fF2 (114 + 4) j (by omega) (by omega)).trans ((FC2.2.2.1 j j0 j1).1.trans ((cm1 (48 + 4) j (by omega) (by omega)).trans ((FC1.2.2.1 j j0 j1).1.symm.trans (fF1 (106 + 4) j (by omega) (by omega)).symm))), (fF2 (114 + 5) j (by omega) (by omega)).trans ((FC2.2.2.1 j j0 j1).2.trans ((cm1 (48 + 5) j (by omega) (by omega)).trans ((FC1.2.2.1 j j0 j1).2.symm.trans (fF1 (106 + 5) j (by omega) (by omega)).symm)))⟩
        have fF3 : ∀ (b : Nat) (j : Int), 122 ≤ b → b ≤ 122 + 7 → t5 b j = t4 b j := fun b j h1 h2 => ((mf4 b j (by omega)))
        have cm2 : ∀ (b : Nat) (j : Int), 48 ≤ b → b ≤ 55 → t3 b j = t2 b j := fun b j h1 h2 => mf2 b j (by omega)
        have SQ2 : SQF t5 122 114 := by
          refine ⟨⟨?_, ?_⟩, fun j j0 j1 => ?_, fun j j0 j1 => ?_⟩
          · exact (fF3 122 0 (by omega) (by omega)).trans (FC3.1.1.trans ((cm2 48 0 (by omega) (by omega)).trans (FC2.1.1.symm.trans (fF2 114 0 (by omega) (by omega)).symm)))
          · exact (fF3 122 1 (by omega) (by omega)).trans (FC3.1.2.trans ((cm2 48 1 (by omega) (by omega)).trans (FC2.1.2.symm.trans (fF2 114 1 (by omega) (by omega)).symm)))
          · exact ⟨(fF3 (122 + 1) j (by omega) (by omega)).trans ((FC3.2.1 j j0 j1).1.trans ((cm2 (48 + 1) j (by omega) (by omega)).trans ((FC2.2.1 j j0 j1).1.symm.trans (fF2 (114 + 1) j (by omega) (by omega)).symm))), (fF3 (122 + 2) j (by omega) (by omega)).trans ((FC3.2.1 j j0 j1).2.1.trans ((cm2 (48 + 2) j (by omega) (by omega)).trans ((FC2.2.1 j j0 j1).2.1.symm.trans (fF2 (114 + 2) j (by omega) (by omega)).symm))), (fF3 (122 + 3) j (by omega) (by omega)).trans ((FC3.2.1 j j0 j1).2.2.trans ((cm2 (48 + 3) j (by omega) (by omega)).trans ((FC2.2.1 j j0 j1).2.2.symm.trans (fF2 (114 + 3) j (by omega) (by omega)).symm)))⟩
          · exact ⟨(fF3 (122 + 4) j (by omega) (by omega)).trans ((FC3.2.2.1 j j0 j1).1.trans ((cm2 (48 + 4) j (by omega) (by omega)).trans ((FC2.2.2.1 j j0 j1).1.symm.trans (fF2 (114 + 4) j (by omega) (by omega)).symm))), (fF3 (122 + 5) j (by omega) (by omega)).trans ((FC3.2.2.1 j j0 j1).2.trans ((cm2 (48 + 5) j (by omega) (by omega)).trans ((FC2.2.2.1 j j0 j1).2.symm.trans (fF2 (114 + 5) j (by omega) (by omega)).symm)))⟩
        have fF4 : ∀ (b : Nat) (j : Int), 130 ≤ b → b ≤ 130 + 7 → t5 b j = t5 b j := fun b j h1 h2 => rfl
        have cm3 : ∀ (b : Nat) (j : Int), 48 ≤ b → b ≤ 55 → t4 b j = t3 b j := fun b j h1 h2 => mf3 b j (by omega)
        have SQ3 : SQF t5 130 122 := by
          refine ⟨⟨?_, ?_⟩, fun j j0 j1 => ?_, fun j j0 j1 => ?_⟩
          · exact (fF4 130 0 (by omega) (by omega)).trans (FC4.1.1.trans ((cm3 48 0 (by omega) (by omega)).trans (FC3.1.1.symm.trans (fF3 122 0 (by omega) (by omega)).symm)))
          · exact (fF4 130 1 (by omega) (by omega)).trans (FC4.1.2.trans ((cm3 48 1 (by omega) (by omega)).trans (FC3.1.2.symm.trans (fF3 122 1 (by omega) (by omega)).symm)))
          · exact ⟨(fF4 (130 + 1) j (by omega) (by omega)).trans ((FC4.2.1 j j0 j1).1.trans ((cm3 (48 + 1) j (by omega) (by omega)).trans ((FC3.2.1 j j0 j1).1.symm.trans (fF3 (122 + 1) j (by omega) (by omega)).symm))), (fF4 (130 + 2) j (by omega) (by omega)).trans ((FC4.2.1 j j0 j1).2.1.trans ((cm3 (48 + 2) j (by omega) (by omega)).trans ((FC3.2.1 j j0 j1).2.1.symm.trans (fF3 (122 + 2) j (by omega) (by omega)).symm))), (fF4 (130 + 3) j (by omega) (by omega)).trans ((FC4.2.1 j j0 j1).2.2.trans ((cm3 (48 + 3) j (by omega) (by omega)).trans ((FC3.2.1 j j0 j1).2.2.symm.trans (fF3 (122 + 3) j (by omega) (by omega)).symm)))⟩
          · exact ⟨(fF4 (130 + 4) j (by omega) (by omega)).trans ((FC4.2.2.1 j j0 j1).1.trans ((cm3 (48 + 4) j (by omega) (by omega)).trans ((FC3.2.2.1 j j0 j1).1.symm.trans (fF3 (122 + 4) j (by omega) (by omega)).symm))), (fF4 (130 + 5) j (by omega) (by omega)).trans ((FC4.2.2.1 j j0 j1).2.trans ((cm3 (48 + 5) j (by omega) (by omega)).trans ((FC3.2.2.1 j j0 j1).2.symm.trans (fF3 (122 + 5) j (by omega) (by omega)).symm)))⟩
        rw [show (0 : Int) = ((0 : Nat) : Int) from rfl]
        refine wl_mono (uc_119l NT (hRu ▸ rulT_i NT.t.2) hRu hw hn G98 (by rw [fF0 98 10 (by omega) (by omega), FC0.2.2.2.2.2.1]; have := N.h; omega) (fun _ => SQ0) (fun _ => SQ1) (fun _ => SQ2) (fun _ => SQ3) nn 0 _ t5 C (by omega) (fun _ _ _ => rfl)) (fun v1 h1 R => ?_)
        obtain ⟨yy, e1, e2, t, C, f⟩ := R
        exact ⟨yy, e1, e2, t, C, fun b j z => (f b j (by omega)).trans (fr b j (by omega))⟩
theorem uc_118 {nn d : Nat} {h : mj_H} {s : sg_} (C : CS h s) {tc : tcs} (N : NV s tc) {w n k : Int} (hw : wp_r w) (hn : wp_r n) (hk : wp_r k) : wl_R nn (d + 10) 118 0 [some (.ref 9), some (wp_i w), some (wp_i n), some (wp_i k), none] [] h (fun v1 h1 => ∃ yy : Int, v1 = some (wp_i yy) ∧ ∃ t, CS h1 t ∧ ∀ (b : Nat) (j : Int), ¬ (97 ≤ b ∧ b ≤ 137) → t b j = s b j) := by
  have i1 := N.g.1.2.1
  refine wl_s (pc' := 1) ji_118_0 rfl rfl rfl ?_
  refine cs_gr (r := 47) (k := 0) C (by decide) sq_9 rfl ji_118_1 jf_118_19 ?_
  refine cs_gr (r := 48) (k := 0) C (by decide) sq_47 rfl ji_118_4 jf_118_49 ?_
  refine wl_s (pc' := 8) ji_118_7 rfl rfl rfl ?_
  obtain ⟨q2, hq2⟩ := cs_c C (by decide) sq_48
  refine wl_vc (d := d + 9) (as := [.ref 48, wp_i w]) (rest := []) ji_118_8 jc_118_177 rfl hq2 jk_80.symm (Nat.le_of_ble_eq_true rfl) rfl (by rw [jn_80]; rfl) (uc_80 (d := d + 9) C isF_48 (p := w) (by omega)) (fun v1 h1 R => ?_)
  obtain ⟨ee, y3, rfl, hy3a, hy3b⟩ := R
  rw [ee]
  clear ee
  show wl_R _ _ 118 11 [some (.ref 9), some (wp_i w), some (wp_i n), some (wp_i k), none] [wp_i y3] _ _
  refine wl_if (t := 34) ji_118_11 rfl (by omega) (fun (hb4 : (y3 : Int) = 0) => ?_) (fun (hb4 : ¬ ((y3 : Int) = 0)) => ?_)
  · refine wl_s (pc' := 35) ji_118_34 rfl rfl rfl ?_
    exact wl_ri ji_118_35 jr_118 rfl (⟨-1, rfl, s, C, fun _ _ _ => rfl⟩)
  · refine wl_s (pc' := 15) ji_118_14 rfl rfl rfl ?_
    refine wl_s (pc' := 16) ji_118_15 rfl rfl rfl ?_
    refine wl_icmp (t := 34) ji_118_16 rfl (by omega) (by omega) (fun (hb5 : (n : Int) < 1) => ?_) (fun (hb5 : ¬ ((n : Int) < 1)) => ?_)
    · refine wl_s (pc' := 35) ji_118_34 rfl rfl rfl ?_
      exact wl_ri ji_118_35 jr_118 rfl (⟨-1, rfl, s, C, fun _ _ _ => rfl⟩)
    · refine wl_s (pc' := 20) ji_118_19 rfl rfl rfl ?_
      refine wl_s (pc' := 21) ji_118_20 rfl rfl rfl ?_
      refine wl_icmp (t := 34) ji_118_21 rfl (by omega) (by omega) (fun (hb6 : (4 : Int) < n) => ?_) (fun (hb6 : ¬ ((4 : Int) < n)) => ?_)
      · refine wl_s (pc' := 35) ji_118_34 rfl rfl rfl ?_
        exact wl_ri ji_118_35 jr_118 rfl (⟨-1, rfl, s, C, fun _ _ _ => rfl⟩)
      · refine wl_s (pc' := 25) ji_118_24 rfl rfl rfl ?_
        refine wl_s (pc' := 26) ji_118_25 rfl rfl rfl ?_
        refine wl_icmp (t := 34) ji_118_26 rfl (by omega) (by omega) (fun (hb7 : (k : Int) < (-1)) => ?_) (fun (hb7 : ¬ ((k : Int) < (-1))) => ?_)
        · refine wl_s (pc' := 35) ji_118_34 rfl rfl rfl ?_
          exact wl_ri ji_118_35 jr_118 rfl (⟨-1, rfl, s, C, fun _ _ _ => rfl⟩)
        · refine wl_s (pc' := 30) ji_118_29 rfl rfl rfl ?_
          refine wl_s (pc' := 31) ji_118_30 rfl rfl rfl ?_
          refine wl_icmp (t := 36) ji_118_31 rfl (by omega) (by omega) (fun (hb8 : (k : Int) < n) => ?_) (fun (hb8 : ¬ ((k : Int) < n)) => ?_)
          · refine wl_s (pc' := 37) ji_118_36 rfl rfl rfl ?_
            refine cs_gr (r := 95) (k := 4) C (by decide) sq_9 rfl ji_118_37 jf_118_45 ?_
            refine wl_s (pc' := 41) ji_118_40 rfl rfl rfl ?_
            refine cs_gr (r := 47) (k := 0) C (by decide) sq_9 rfl ji_118_41 jf_118_19 ?_
            refine wl_s (pc' := 45) ji_118_44 rfl rfl rfl ?_
            refine wl_s (pc' := 46) ji_118_45 rfl rfl rfl ?_
            obtain ⟨q10, hq10⟩ := cs_c C (by decide) sq_95
            refine wl_vc (d := d + 9) (as := [.ref 95, .ref 47, wp_i w, wp_i n]) (rest := []) ji_118_46 jc_118_241 rfl hq10 jk_119.symm (Nat.le_of_ble_eq_true rfl) rfl (by rw [jn_119]; rfl) (uc_119 (d := d) C N (n := n) (w := w) (by omega) (by omega)) (fun v1 h9 R => ?_)
            obtain ⟨yy, rfl, hyy, t, C, ft⟩ := R
            show wl_R _ _ 118 49 [some (.ref 9), some (wp_i w), some (wp_i n), some (wp_i k), none] [wp_i yy] h9 _
            refine wl_s (pc' := 51) (lv' := [some (.ref 9), some (wp_i w), some (wp_i n), some (wp_i k), some (wp_i yy)]) ji_118_49 rfl rfl rfl ?_
            refine wl_s (pc' := 53) ji_118_51 rfl rfl rfl ?_
            refine wl_s (pc' := 54) ji_118_53 rfl rfl rfl ?_
            refine wl_icmp (t := 62) ji_118_54 rfl (by omega) (by omega) (fun (hb11 : (yy : Int) = (-1)) => ?_) (fun (hb11 : ¬ ((yy : Int) = (-1))) => ?_)
            · refine wl_s (pc' := 64) ji_118_62 rfl rfl rfl ?_
              refine wl_goto (t := 76) ji_118_64 rfl ?_
              exact wl_ri ji_118_76 jr_118 rfl (⟨yy, rfl, t, C, ft⟩)
            · refine wl_s (pc' := 58) ji_118_57 rfl rfl rfl ?_
              refine wl_s (pc' := 59) ji_118_58 rfl rfl rfl ?_
              refine wl_icmp (t := 67) ji_118_59 rfl (by omega) (by omega) (fun (hb12 : ¬ (k : Int) = (-1)) => ?_) (fun (hb12 : ¬ (¬ (k : Int) = (-1))) => ?_)
              · refine wl_s (pc' := 68) ji_118_67 rfl rfl rfl ?_
                refine cs_gr (r := 95) (k := 4) C (by decide) sq_9 rfl ji_118_68 jf_118_45 ?_
                refine cs_gr (r := 97) (k := 1) C (by decide) sq_95 rfl ji_118_71 jf_118_245 ?_
                refine wl_s (pc' := 75) ji_118_74 rfl rfl rfl ?_
                refine cs_l (x := k) C (by decide) (by decide) sq_97 (by omega) ji_118_75 (fun ld130 ld131 ld132 => ?_)
                exact wl_ri ji_118_76 jr_118 rfl (⟨t 97 k, rfl, t, C, ft⟩)
              · refine wl_s (pc' := 64) ji_118_62 rfl rfl rfl ?_
                refine wl_goto (t := 76) ji_118_64 rfl ?_
                exact wl_ri ji_118_76 jr_118 rfl (⟨yy, rfl, t, C, ft⟩)
          · refine wl_s (pc' := 35) ji_118_34 rfl rfl rfl ?_
            exact wl_ri ji_118_35 jr_118 rfl (⟨-1, rfl, s, C, fun _ _ _ => rfl⟩)
