/-! -/
set_option maxRecDepth 100000 in
theorem ji_125_26 : mj_ins 125 26 = some (.iload 5) := by decide +kernel
set_option maxRecDepth 100000 in
theorem ji_125_28 : mj_ins 125 28 = some (.iload 4) := by decide +kernel
set_option maxRecDepth 100000 in
theorem ji_125_30 : mj_ins 125 30 = some (.if_icmp .ge 42) := by decide +kernel
set_option maxRecDepth 100000 in
theorem ji_125_72 : mj_ins 125 72 = some (.iconst (-1)) := by decide +kernel
set_option maxRecDepth 100000 in
theorem ji_125_73 : mj_ins 125 73 = some (.ireturn) := by decide +kernel
set_option maxRecDepth 100000 in
theorem jr_125 : mj_ret 125 = some .int := by decide +kernel
set_option maxRecDepth 100000 in
theorem ji_125_33 : mj_ins 125 33 = some (.aload_n 3) := by decide +kernel
set_option maxRecDepth 100000 in
theorem ji_125_34 : mj_ins 125 34 = some (.aload_n 1) := by decide +kernel
set_option maxRecDepth 100000 in
theorem ji_125_35 : mj_ins 125 35 = some (.invokevirtual 36) := by decide +kernel
set_option maxRecDepth 100000 in
theorem jc_125_36 : mj_cal 125 36 = some (2, 62, 0) := by decide +kernel
set_option maxRecDepth 100000 in
theorem ji_125_38 : mj_ins 125 38 = some (.invokevirtual 78) := by decide +kernel
set_option maxRecDepth 100000 in
theorem jc_125_78 : mj_cal 125 78 = some (2, 72, 1) := by decide +kernel
set_option maxRecDepth 100000 in
theorem ji_125_41 : mj_ins 125 41 = some (.aload_n 3) := by decide +kernel
set_option maxRecDepth 100000 in
theorem ji_125_42 : mj_ins 125 42 = some (.getfield 50) := by decide +kernel
set_option maxRecDepth 100000 in
theorem jf_125_50 : mj_fld 125 50 = some (3, 11, .int, true) := by decide +kernel
set_option maxRecDepth 100000 in
theorem ji_125_45 : mj_ins 125 45 = some (.if_icmp .eq 6) := by decide +kernel
set_option maxRecDepth 100000 in
theorem ji_125_51 : mj_ins 125 51 = some (.aload_n 3) := by decide +kernel
set_option maxRecDepth 100000 in
theorem ji_125_52 : mj_ins 125 52 = some (.iload_n 2) := by decide +kernel
set_option maxRecDepth 100000 in
theorem ji_125_53 : mj_ins 125 53 = some (.iconst 1) := by decide +kernel
set_option maxRecDepth 100000 in
theorem ji_125_54 : mj_ins 125 54 = some (.invokevirtual 82) := by decide +kernel
set_option maxRecDepth 100000 in
theorem jc_125_82 : mj_cal 125 82 = some (2, 88, 2) := by decide +kernel
set_option maxRecDepth 100000 in
theorem ji_125_57 : mj_ins 125 57 = some (.ifCond .eq 9) := by decide +kernel
set_option maxRecDepth 100000 in
theorem ji_125_66 : mj_ins 125 66 = some (.iinc 5 1) := by decide +kernel
set_option maxRecDepth 100000 in
theorem ji_125_69 : mj_ins 125 69 = some (.goto (-43)) := by decide +kernel
set_option maxRecDepth 100000 in
theorem ji_125_60 : mj_ins 125 60 = some (.aload_n 3) := by decide +kernel
set_option maxRecDepth 100000 in
theorem ji_125_61 : mj_ins 125 61 = some (.iload_n 2) := by decide +kernel
set_option maxRecDepth 100000 in
theorem ji_125_62 : mj_ins 125 62 = some (.iconst 1) := by decide +kernel
set_option maxRecDepth 100000 in
theorem ji_125_63 : mj_ins 125 63 = some (.invokevirtual 85) := by decide +kernel
set_option maxRecDepth 100000 in
theorem jc_125_85 : mj_cal 125 85 = some (2, 89, 2) := by decide +kernel
set_option maxRecDepth 100000 in
theorem ji_125_48 : mj_ins 125 48 = some (.iload 5) := by decide +kernel
set_option maxRecDepth 100000 in
theorem ji_125_50 : mj_ins 125 50 = some (.ireturn) := by decide +kernel
set_option maxRecDepth 100000 in
theorem ji_125_0 : mj_ins 125 0 = some (.aload_n 0) := by decide +kernel
set_option maxRecDepth 100000 in
theorem ji_125_1 : mj_ins 125 1 = some (.getfield 13) := by decide +kernel
set_option maxRecDepth 100000 in
theorem jf_125_13 : mj_fld 125 13 = some (10, 0, (.array (.object "ForestOfPoles$Forest")), false) := by decide +kernel
set_option maxRecDepth 100000 in
theorem ji_125_4 : mj_ins 125 4 = some (.iconst 0) := by decide +kernel
set_option maxRecDepth 100000 in
theorem ji_125_5 : mj_ins 125 5 = some (.aaload) := by decide +kernel
set_option maxRecDepth 100000 in
theorem ji_125_6 : mj_ins 125 6 = some (.astore_n 3) := by decide +kernel
set_option maxRecDepth 100000 in
theorem ji_125_7 : mj_ins 125 7 = some (.aload_n 3) := by decide +kernel
set_option maxRecDepth 100000 in
theorem ji_125_8 : mj_ins 125 8 = some (.aload_n 1) := by decide +kernel
set_option maxRecDepth 100000 in
theorem ji_125_9 : mj_ins 125 9 = some (.getfield 26) := by decide +kernel
set_option maxRecDepth 100000 in
theorem jf_125_26 : mj_fld 125 26 = some (2, 0, (.object "ForestOfPoles$Forest"), false) := by decide +kernel
set_option maxRecDepth 100000 in
theorem ji_125_12 : mj_ins 125 12 = some (.invokevirtual 32) := by decide +kernel
set_option maxRecDepth 100000 in
theorem jc_125_32 : mj_cal 125 32 = some (2, 106, 1) := by decide +kernel
set_option maxRecDepth 100000 in
theorem ji_125_15 : mj_ins 125 15 = some (.aload_n 3) := by decide +kernel
set_option maxRecDepth 100000 in
theorem ji_125_16 : mj_ins 125 16 = some (.getfield 75) := by decide +kernel
set_option maxRecDepth 100000 in
theorem jf_125_75 : mj_fld 125 75 = some (3, 3, (.array .int), false) := by decide +kernel
set_option maxRecDepth 100000 in
theorem ji_125_19 : mj_ins 125 19 = some (.iload_n 2) := by decide +kernel
set_option maxRecDepth 100000 in
theorem ji_125_20 : mj_ins 125 20 = some (.iaload) := by decide +kernel
set_option maxRecDepth 100000 in
theorem sq_100 : sh_T[100]? = some (1000, [], 8, 0) := by decide +kernel
set_option maxRecDepth 100000 in
theorem ji_125_21 : mj_ins 125 21 = some (.istore 4) := by decide +kernel
set_option maxRecDepth 100000 in
theorem ji_125_23 : mj_ins 125 23 = some (.iconst 0) := by decide +kernel
set_option maxRecDepth 100000 in
theorem ji_125_24 : mj_ins 125 24 = some (.istore 5) := by decide +kernel
set_option maxRecDepth 100000 in
theorem ji_124_0 : mj_ins 124 0 = some (.aload_n 0) := by decide +kernel
set_option maxRecDepth 100000 in
theorem ji_124_1 : mj_ins 124 1 = some (.getfield 19) := by decide +kernel
set_option maxRecDepth 100000 in
theorem jf_124_19 : mj_fld 124 19 = some (0, 0, (.object "ForestOfPoles$State"), false) := by decide +kernel
set_option maxRecDepth 100000 in
theorem ji_124_4 : mj_ins 124 4 = some (.getfield 49) := by decide +kernel
set_option maxRecDepth 100000 in
theorem jf_124_49 : mj_fld 124 49 = some (2, 0, (.object "ForestOfPoles$Forest"), false) := by decide +kernel
set_option maxRecDepth 100000 in
theorem ji_124_7 : mj_ins 124 7 = some (.iload_n 1) := by decide +kernel
set_option maxRecDepth 100000 in
theorem ji_124_8 : mj_ins 124 8 = some (.invokevirtual 168) := by decide +kernel
set_option maxRecDepth 100000 in
theorem jc_124_168 : mj_cal 124 168 = some (2, 81, 1) := by decide +kernel
set_option maxRecDepth 100000 in
theorem ji_124_11 : mj_ins 124 11 = some (.ifCond .eq 18) := by decide +kernel
set_option maxRecDepth 100000 in
theorem ji_124_29 : mj_ins 124 29 = some (.iconst (-1)) := by decide +kernel
set_option maxRecDepth 100000 in
theorem ji_124_30 : mj_ins 124 30 = some (.ireturn) := by decide +kernel
set_option maxRecDepth 100000 in
theorem jr_124 : mj_ret 124 = some .int := by decide +kernel
set_option maxRecDepth 100000 in
theorem ji_124_14 : mj_ins 124 14 = some (.aload_n 0) := by decide +kernel
set_option maxRecDepth 100000 in
theorem ji_124_15 : mj_ins 124 15 = some (.getfield 45) := by decide +kernel
set_option maxRecDepth 100000 in
theorem jf_124_45 : mj_fld 124 45 = some (0, 4, (.object "ForestOfPoles$Lookout"), false) := by decide +kernel
set_option maxRecDepth 100000 in
theorem ji_124_18 : mj_ins 124 18 = some (.aload_n 0) := by decide +kernel
set_option maxRecDepth 100000 in
theorem ji_124_19 : mj_ins 124 19 = some (.getfield 19) := by decide +kernel
set_option maxRecDepth 100000 in
theorem ji_124_22 : mj_ins 124 22 = some (.iload_n 1) := by decide +kernel
set_option maxRecDepth 100000 in
theorem ji_124_23 : mj_ins 124 23 = some (.invokevirtual 251) := by decide +kernel
set_option maxRecDepth 100000 in
theorem jc_124_251 : mj_cal 124 251 = some (2, 125, 2) := by decide +kernel
set_option maxRecDepth 100000 in
theorem jn_125 : mj_nl 125 = 6 := by decide +kernel
set_option maxRecDepth 100000 in
theorem jk_125 : mj_cls 125 = 10 := by decide +kernel
set_option maxRecDepth 100000 in
theorem ji_124_26 : mj_ins 124 26 = some (.goto 4) := by decide +kernel
/-! the class's least pull on a pole; laid by program (wp_v01.py) -/
/-- one off the pole, where it can be cut -/
def pulC (F : Nat) (p : Int) (s : sg_) : sg_ := if (0 ≤ p ∧ p < s F 0) ∧ (1 : Int) ≤ 1 ∧ 1 < s (F + 2) p then cutW s F p 1 (s F 1) else s
def pulN (F : Nat) (p : Int) (s : sg_) : Nat → sg_
  | 0 => s
  | n + 1 => pulC F p (pulN F p s n)
theorem pulC_IG {F : Nat} {p : Int} {s : sg_} (G : IG s F) (hp : 0 ≤ p ∧ p < 8) : IG (pulC F p s) F := by
  unfold pulC
  by_cases q : (0 ≤ p ∧ p < s F 0) ∧ (1 : Int) ≤ 1 ∧ 1 < s (F + 2) p
  · rw [if_pos q]
    exact IG_cut G hp (by omega)
  · rw [if_neg q]
    exact G
theorem pulC_fr {F : Nat} {p : Int} {s : sg_} {b : Nat} {j : Int} (h2 : ¬ b = F + 2) (h6 : ¬ b = F + 6) : pulC F p s b j = s b j := by
  unfold pulC
  by_cases q : (0 ≤ p ∧ p < s F 0) ∧ (1 : Int) ≤ 1 ∧ 1 < s (F + 2) p
  · rw [if_pos q]
    exact cutW_a h2 h6
  · rw [if_neg q]
theorem pulN_IG {F : Nat} {p : Int} {s : sg_} (G : IG s F) (hp : 0 ≤ p ∧ p < 8) : ∀ n : Nat, IG (pulN F p s n) F
  | 0 => G
  | n + 1 => pulC_IG (pulN_IG G hp n) hp
theorem pulN_fr {F : Nat} {p : Int} {s : sg_} {b : Nat} {j : Int} (h2 : ¬ b = F + 2) (h6 : ¬ b = F + 6) : ∀ n : Nat, pulN F p s n b j = s b j
  | 0 => rfl
  | n + 1 => (pulC_fr h2 h6).trans (pulN_fr h2 h6 n)
/-- the least pull, from i on, so many tries -/
def lpA (cd : cds) (F : Nat) (p : Int) (s : sg_) (n : Int) : Nat → Nat → Int
  | 0, _ => -1
  | k + 1, i => if (i : Int) < n then (if heirC cd (pulN F p s i) F = s F 11 then lpA cd F p s n k (i + 1) else (i : Int)) else -1
theorem uc_125l {d : Nat} {t : sg_} {tc : tcs} (N : NV t tc) (G : IG t 98) {T : Nat} (hT : isT T) (hR0 : rulT t = T) {p n : Int} (hp : 0 ≤ p ∧ p < 8) (hn : 0 ≤ n ∧ n ≤ 99) : ∀ (nn i : Nat) (h : mj_H), CS h (pulN 98 p t i) → (i : Int) ≤ n → wl_R nn (d + 4) 125 26 [some (.ref 95), some (.ref 47), some (wp_i p), some (.ref 98), some (wp_i n), some (wp_i ((i : Int)))] [] h (fun v1 h1 => v1 = some (wp_i (lpA (tc T) 98 p t n (n.toNat - i) i)) ∧ ∃ k : Nat, CS h1 (pulN 98 p t k)) := by
  intro nn
  induction nn with
  | zero => intros; exact wl_0
  | succ nn ih =>
    intro i h C hi
    have G1 := pulN_IG G hp i
    have e11 : pulN 98 p t i 98 11 = t 98 11 := pulN_fr (by decide) (by decide) i
    have g11 := G.1.2.2.2.2.2.2.2.2.1
    obtain ⟨N1, hRu⟩ := NV_l N (t := pulN 98 p t i) (fun b j hb => pulN_fr (by omega) (by omega) i)
    rw [hR0] at hRu
    have H1 := NV_tx N1
    rw [hRu] at H1
    refine wl_s1 (pc' := 28) ji_125_26 rfl rfl rfl ?_
    refine wl_s (pc' := 30) ji_125_28 rfl rfl rfl ?_
    refine wl_icmp (t := 72) ji_125_30 rfl (by omega) (by omega) (fun (hb1 : (n : Int) ≤ ((i : Int))) => ?_) (fun (hb1 : ¬ ((n : Int) ≤ ((i : Int)))) => ?_)
    · refine wl_s (pc' := 73) ji_125_72 rfl rfl rfl ?_
      exact wl_ri ji_125_73 jr_125 rfl (⟨congrArg (fun z => some (wp_i z)) (by rw [show n.toNat - i = 0 by omega]; rfl), i, C⟩)
    · refine wl_s (pc' := 34) ji_125_33 rfl rfl rfl ?_
      refine wl_s (pc' := 35) ji_125_34 rfl rfl rfl ?_
      obtain ⟨q3, hq3⟩ := cs_c C (by decide) sq_47
      refine wl_vc (d := d + 3) (as := [.ref 47]) (rest := [.ref 98]) ji_125_35 jc_125_36 rfl hq3 jk_62.symm (Nat.le_of_ble_eq_true rfl) rfl (by rw [jn_62]; rfl) (uc_62 (d := d + 2) C N1.t.2) (fun v1 h2 R => ?_)
      obtain ⟨ee, rfl⟩ := R
      rw [ee]
      clear ee
      rw [hRu]
      show wl_R _ _ 125 38 [some (.ref 95), some (.ref 47), some (wp_i p), some (.ref 98), some (wp_i n), some (wp_i ((i : Int)))] [.ref T, .ref 98] _ _
      obtain ⟨q5, hq5⟩ := cs_c C (by decide) sq_98
      refine wl_vc (d := d + 3) (as := [.ref 98, .ref T]) (rest := []) ji_125_38 jc_125_78 rfl hq5 jk_72.symm (Nat.le_of_ble_eq_true rfl) rfl (by rw [jn_72]; rfl) (uc_72 (d := d) C hT isF_98 H1 N1.sc G1.1) (fun v1 h4 R => ?_)
      obtain ⟨rfl, C⟩ := R
      obtain ⟨hh, ehh⟩ : ∃ z9_, heirC (tc T) (pulN 98 p t i) 98 = z9_ := ⟨_, rfl⟩
      have hhr := heirC_r (cd := tc T) G1.1
      rw [ehh] at hhr ⊢
      show wl_R _ _ 125 41 [some (.ref 95), some (.ref 47), some (wp_i p), some (.ref 98), some (wp_i n), some (wp_i ((i : Int)))] [wp_i hh] h4 _
      refine wl_s (pc' := 42) ji_125_41 rfl rfl rfl ?_
      refine cs_gi (k := 11) (kI := 11) C (by decide) (by decide) sq_98 rfl rfl ji_125_42 jf_125_50 ?_
      rw [e11]
      have bd6 : wp_r (t 98 11) := e11 ▸ cs_ri (k := 11) (kI := 11) C (by decide) (by decide) sq_98 rfl rfl (show 11 < 13 by decide)
      refine wl_icmp (t := 51) ji_125_45 rfl (by omega) (by omega) (fun (hb7 : (hh : Int) = (t 98 11)) => ?_) (fun (hb7 : ¬ ((hh : Int) = (t 98 11))) => ?_)
      · refine wl_s (pc' := 52) ji_125_51 rfl rfl rfl ?_
        refine wl_s (pc' := 53) ji_125_52 rfl rfl rfl ?_
        refine wl_s (pc' := 54) ji_125_53 rfl rfl rfl ?_
        obtain ⟨q9, hq9⟩ := cs_c C (by decide) sq_98
        refine wl_vc (d := d + 3) (as := [.ref 98, wp_i p, wp_i 1]) (rest := []) ji_125_54 jc_125_82 rfl hq9 jk_88.symm (Nat.le_of_ble_eq_true rfl) rfl (by rw [jn_88]; rfl) (uc_88 (d := d + 2) C isF_98 G1.1 (p := p) (n := 1) (by omega) (by decide)) (fun v1 h8 R => ?_)
        obtain ⟨ee, y10, rfl, hy10a, hy10b⟩ := R
        rw [ee]
        clear ee
        show wl_R _ _ 125 57 [some (.ref 95), some (.ref 47), some (wp_i p), some (.ref 98), some (wp_i n), some (wp_i ((i : Int)))] [wp_i y10] _ _
        refine wl_if (t := 66) ji_125_57 rfl (by omega) (fun (hb11 : (y10 : Int) = 0) => ?_) (fun (hb11 : ¬ ((y10 : Int) = 0)) => ?_)
        · refine wl_iinc (x := (i : Int)) (z := (i : Int) + 1) (lv' := [some (.ref 95), some (.ref 47), some (wp_i p), some (.ref 98), some (wp_i n), some (wp_i ((i : Int) + 1))]) ji_125_66 rfl (Nat.le_of_ble_eq_true rfl) (by omega) rfl ?_
          refine wl_goto (t := 26) ji_125_69 rfl ?_
          have eC : CS _ (pulN 98 p t (i + 1)) := cs_mono C (by show _ = pulC 98 p (pulN 98 p t i); unfold pulC; rw [if_neg (by omega)])
          have eA : lpA (tc T) 98 p t n (n.toNat - i) i = lpA (tc T) 98 p t n (n.toNat - (i + 1)) (i + 1) := by { rw [show n.toNat - i = (n.toNat - (i + 1)) + 1 by omega]; exact (if_pos (by omega)).trans (if_pos (by rw [ehh]; omega)) }
          rw [eA, show (i : Int) + 1 = ((i + 1 : Nat) : Int) by omega]
          exact ih (i + 1) _ eC (by omega)
        · refine wl_s (pc' := 61) ji_125_60 rfl rfl rfl ?_
          refine wl_s (pc' := 62) ji_125_61 rfl rfl rfl ?_
          refine wl_s (pc' := 63) ji_125_62 rfl rfl rfl ?_
          obtain ⟨q13, hq13⟩ := cs_c C (by decide) sq_98
          refine wl_vc (d := d + 3) (as := [.ref 98, wp_i p, wp_i 1]) (rest := []) ji_125_63 jc_125_85 rfl hq13 jk_89.symm (Nat.le_of_ble_eq_true rfl) rfl (by rw [jn_89]; rfl) (uc_89 (d := d + 3) C isF_98 G1.1 (p := p) (n := 1) hp (by omega)) (fun v1 h12 R => ?_)
          obtain ⟨rfl, C⟩ := R
          show wl_R _ _ 125 66 [some (.ref 95), some (.ref 47), some (wp_i p), some (.ref 98), some (wp_i n), some (wp_i ((i : Int)))] [] h12 _
          refine wl_iinc (x := (i : Int)) (z := (i : Int) + 1) (lv' := [some (.ref 95), some (.ref 47), some (wp_i p), some (.ref 98), some (wp_i n), some (wp_i ((i : Int) + 1))]) ji_125_66 rfl (Nat.le_of_ble_eq_true rfl) (by omega) rfl ?_
          refine wl_goto (t := 26) ji_125_69 rfl ?_
          have eC : CS _ (pulN 98 p t (i + 1)) := cs_mono C (by show _ = pulC 98 p (pulN 98 p t i); unfold pulC; rw [if_pos (by omega)])
          have eA : lpA (tc T) 98 p t n (n.toNat - i) i = lpA (tc T) 98 p t n (n.toNat - (i + 1)) (i + 1) := by { rw [show n.toNat - i = (n.toNat - (i + 1)) + 1 by omega]; exact (if_pos (by omega)).trans (if_pos (by rw [ehh]; omega)) }
          rw [eA, show (i : Int) + 1 = ((i + 1 : Nat) : Int) by omega]
          exact ih (i + 1) _ eC (by omega)
      · refine wl_s (pc' := 50) ji_125_48 rfl rfl rfl ?_
        exact wl_ri ji_125_50 jr_125 rfl (⟨congrArg (fun z => some (wp_i z)) (by rw [show n.toNat - i = (n.toNat - (i + 1)) + 1 by omega]; exact ((if_pos (by omega)).trans (if_neg (by rw [ehh]; omega))).symm), i, C⟩)
theorem uc_125 {nn d : Nat} {h : mj_H} {s : sg_} (C : CS h s) {tc : tcs} (N : NV s tc) {p : Int} (hp : 0 ≤ p ∧ p < 8) : wl_R nn (d + 4) 125 0 [some (.ref 95), some (.ref 47), some (wp_i p), none, none, none] [] h (fun v1 h1 => ∃ t, FCP s t 48 98 ∧ (∀ (b : Nat) (j : Int), ¬ (98 ≤ b ∧ b ≤ 105) → t b j = s b j) ∧ v1 = some (wp_i (lpA (tc (rulT s)) 98 p t (t 100 p) (t 100 p).toNat 0)) ∧ ∃ k : Nat, CS h1 (pulN 98 p t k)) := by
  refine wl_s (pc' := 1) ji_125_0 rfl rfl rfl ?_
  refine cs_gr (r := 96) (k := 0) C (by decide) sq_95 rfl ji_125_1 jf_125_13 ?_
  refine wl_s (pc' := 5) ji_125_4 rfl rfl rfl ?_
  refine cs_aa (r := 98) (x := 0) C (by decide) sq_96 (by decide) (by decide) (by decide) (by decide) rfl ji_125_5 ?_
  refine wl_s (pc' := 7) (lv' := [some (.ref 95), some (.ref 47), some (wp_i p), some (.ref 98), none, none]) ji_125_6 rfl rfl rfl ?_
  refine wl_s (pc' := 8) ji_125_7 rfl rfl rfl ?_
  refine wl_s (pc' := 9) ji_125_8 rfl rfl rfl ?_
  refine cs_gr (r := 48) (k := 0) C (by decide) sq_47 rfl ji_125_9 jf_125_26 ?_
  obtain ⟨q2, hq2⟩ := cs_c C (by decide) sq_98
  refine wl_vc (d := d + 3) (as := [.ref 98, .ref 48]) (rest := []) ji_125_12 jc_125_32 rfl hq2 jk_106.symm (Nat.le_of_ble_eq_true rfl) rfl (by rw [jn_106]; rfl) (uc_106 (d := d + 2) C isF_98 isF_48 (by decide)) (fun v1 h1 R => ?_)
  obtain ⟨rfl, t, C, m1, m2, m4, m6, m9, mf⟩ := R
  have G := IG_t N.g (F1 := 98) (c1 := t) ⟨m1, m2, m4, m6, m9⟩
  show wl_R _ _ 125 15 [some (.ref 95), some (.ref 47), some (wp_i p), some (.ref 98), none, none] [] h1 _
  refine wl_s (pc' := 16) ji_125_15 rfl rfl rfl ?_
  refine cs_gr (r := 100) (k := 3) C (by decide) sq_98 rfl ji_125_16 jf_125_75 ?_
  refine wl_s (pc' := 20) ji_125_19 rfl rfl rfl ?_
  refine cs_l (x := p) C (by decide) (by decide) sq_100 (by omega) ji_125_20 (fun ld30 ld31 ld32 => ?_)
  refine wl_s (pc' := 23) (lv' := [some (.ref 95), some (.ref 47), some (wp_i p), some (.ref 98), some (wp_i (t 100 p)), none]) ji_125_21 rfl rfl rfl ?_
  refine wl_s (pc' := 24) ji_125_23 rfl rfl rfl ?_
  refine wl_s (pc' := 26) (lv' := [some (.ref 95), some (.ref 47), some (wp_i p), some (.ref 98), some (wp_i (t 100 p)), some (wp_i 0)]) ji_125_24 rfl rfl rfl ?_
  obtain ⟨N1, hRu⟩ := NV_l N (t := t) (fun b j hb => mf b j (by omega))
  have hn99 : 0 ≤ t 100 p ∧ t 100 p ≤ 99 := G.1.2.2.1 p (by omega) (by omega)
  rw [show (0 : Int) = ((0 : Nat) : Int) from rfl]
  refine wl_mono (uc_125l N1 G (hRu ▸ rulT_i N1.t.2) hRu hp hn99 nn 0 _ C (by omega)) (fun v1 h1 R => ⟨t, ⟨m1, m2, m4, m6, m9⟩, fun b j hb => mf b j (by omega), R⟩)
theorem uc_124 {nn d : Nat} {h : mj_H} {s : sg_} (C : CS h s) {tc : tcs} (N : NV s tc) {p : Int} (hr : wp_r p) : wl_R nn (d + 5) 124 0 [some (.ref 9), some (wp_i p)] [] h (fun v1 h1 => (¬ (0 ≤ p ∧ p < s 48 0) ∧ v1 = some (wp_i (-1)) ∧ CS h1 s) ∨ ((0 ≤ p ∧ p < s 48 0) ∧ ∃ t, FCP s t 48 98 ∧ (∀ (b : Nat) (j : Int), ¬ (98 ≤ b ∧ b ≤ 105) → t b j = s b j) ∧ v1 = some (wp_i (lpA (tc (rulT s)) 98 p t (t 100 p) (t 100 p).toNat 0)) ∧ ∃ k : Nat, CS h1 (pulN 98 p t k))) := by
  have i0 := N.g.1.1
  refine wl_s (pc' := 1) ji_124_0 rfl rfl rfl ?_
  refine cs_gr (r := 47) (k := 0) C (by decide) sq_9 rfl ji_124_1 jf_124_19 ?_
  refine cs_gr (r := 48) (k := 0) C (by decide) sq_47 rfl ji_124_4 jf_124_49 ?_
  refine wl_s (pc' := 8) ji_124_7 rfl rfl rfl ?_
  obtain ⟨q2, hq2⟩ := cs_c C (by decide) sq_48
  refine wl_vc (d := d + 4) (as := [.ref 48, wp_i p]) (rest := []) ji_124_8 jc_124_168 rfl hq2 jk_81.symm (Nat.le_of_ble_eq_true rfl) rfl (by rw [jn_81]; rfl) (uc_81 (d := d + 4) C isF_48 (p := p) (by omega)) (fun v1 h1 R => ?_)
  obtain ⟨ee, y3, rfl, hy3a, hy3b⟩ := R
  rw [ee]
  clear ee
  show wl_R _ _ 124 11 [some (.ref 9), some (wp_i p)] [wp_i y3] _ _
  refine wl_if (t := 29) ji_124_11 rfl (by omega) (fun (hb4 : (y3 : Int) = 0) => ?_) (fun (hb4 : ¬ ((y3 : Int) = 0)) => ?_)
  · refine wl_s (pc' := 30) ji_124_29 rfl rfl rfl ?_
    exact wl_ri ji_124_30 jr_124 rfl (Or.inl ⟨by omega, rfl, C⟩)
  · refine wl_s (pc' := 15) ji_124_14 rfl rfl rfl ?_
    refine cs_gr (r := 95) (k := 4) C (by decide) sq_9 rfl ji_124_15 jf_124_45 ?_
    refine wl_s (pc' := 19) ji_124_18 rfl rfl rfl ?_
    refine cs_gr (r := 47) (k := 0) C (by decide) sq_9 rfl ji_124_19 jf_124_19 ?_
    refine wl_s (pc' := 23) ji_124_22 rfl rfl rfl ?_
    obtain ⟨q6, hq6⟩ := cs_c C (by decide) sq_95
    refine wl_vc (d := d + 4) (as := [.ref 95, .ref 47, wp_i p]) (rest := []) ji_124_23 jc_124_251 rfl hq6 jk_125.symm (Nat.le_of_ble_eq_true rfl) rfl (by rw [jn_125]; rfl) (uc_125 (d := d) C N (p := p) (by omega)) (fun v1 h5 R => ?_)
    obtain ⟨t, f, fr, rfl, k, C⟩ := R
    obtain ⟨lp, elp⟩ : ∃ z9_, lpA (tc (rulT s)) 98 p t (t 100 p) (t 100 p).toNat 0 = z9_ := ⟨_, rfl⟩
    rw [elp]
    show wl_R _ _ 124 26 [some (.ref 9), some (wp_i p)] [wp_i lp] h5 _
    refine wl_goto (t := 30) ji_124_26 rfl ?_
    exact wl_ri ji_124_30 jr_124 rfl (Or.inr ⟨by omega, t, f, fr, by rw [elp], k, C⟩)
