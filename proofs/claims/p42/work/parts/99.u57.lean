/-! -/
set_option maxRecDepth 100000 in
theorem ji_93_67 : mj_ins 93 67 = some (.iload 4) := by decide +kernel
set_option maxRecDepth 100000 in
theorem ji_93_69 : mj_ins 93 69 = some (.iload_n 2) := by decide +kernel
set_option maxRecDepth 100000 in
theorem ji_93_70 : mj_ins 93 70 = some (.if_icmp .ge 16) := by decide +kernel
set_option maxRecDepth 100000 in
theorem ji_93_86 : mj_ins 93 86 = some (.aload_n 3) := by decide +kernel
set_option maxRecDepth 100000 in
theorem ji_93_87 : mj_ins 93 87 = some (.getfield 104) := by decide +kernel
set_option maxRecDepth 100000 in
theorem jf_93_104 : mj_fld 93 104 = some (3, 11, .int, true) := by decide +kernel
set_option maxRecDepth 100000 in
theorem ji_93_90 : mj_ins 93 90 = some (.ireturn) := by decide +kernel
set_option maxRecDepth 100000 in
theorem jr_93 : mj_ret 93 = some .int := by decide +kernel
set_option maxRecDepth 100000 in
theorem ji_93_73 : mj_ins 93 73 = some (.aload_n 0) := by decide +kernel
set_option maxRecDepth 100000 in
theorem ji_93_74 : mj_ins 93 74 = some (.getfield 19) := by decide +kernel
set_option maxRecDepth 100000 in
theorem jf_93_19 : mj_fld 93 19 = some (0, 0, (.object "ForestOfPoles$State"), false) := by decide +kernel
set_option maxRecDepth 100000 in
theorem ji_93_77 : mj_ins 93 77 = some (.invokevirtual 148) := by decide +kernel
set_option maxRecDepth 100000 in
theorem jc_93_148 : mj_cal 93 148 = some (2, 94, 0) := by decide +kernel
set_option maxRecDepth 100000 in
theorem jn_94 : mj_nl 94 = 5 := by decide +kernel
set_option maxRecDepth 100000 in
theorem jk_94 : mj_cls 94 = 2 := by decide +kernel
set_option maxRecDepth 100000 in
theorem ji_93_80 : mj_ins 93 80 = some (.iinc 4 1) := by decide +kernel
set_option maxRecDepth 100000 in
theorem ji_93_83 : mj_ins 93 83 = some (.goto (-16)) := by decide +kernel
set_option maxRecDepth 100000 in
theorem ji_93_0 : mj_ins 93 0 = some (.aload_n 0) := by decide +kernel
set_option maxRecDepth 100000 in
theorem ji_93_1 : mj_ins 93 1 = some (.getfield 19) := by decide +kernel
set_option maxRecDepth 100000 in
theorem ji_93_4 : mj_ins 93 4 = some (.getfield 49) := by decide +kernel
set_option maxRecDepth 100000 in
theorem jf_93_49 : mj_fld 93 49 = some (2, 0, (.object "ForestOfPoles$Forest"), false) := by decide +kernel
set_option maxRecDepth 100000 in
theorem ji_93_7 : mj_ins 93 7 = some (.astore_n 3) := by decide +kernel
set_option maxRecDepth 100000 in
theorem ji_93_8 : mj_ins 93 8 = some (.iload_n 1) := by decide +kernel
set_option maxRecDepth 100000 in
theorem ji_93_9 : mj_ins 93 9 = some (.ifCond .lt 35) := by decide +kernel
set_option maxRecDepth 100000 in
theorem ji_93_44 : mj_ins 93 44 = some (.bipush (-2)) := by decide +kernel
set_option maxRecDepth 100000 in
theorem ji_93_46 : mj_ins 93 46 = some (.ireturn) := by decide +kernel
set_option maxRecDepth 100000 in
theorem ji_93_12 : mj_ins 93 12 = some (.iload_n 1) := by decide +kernel
set_option maxRecDepth 100000 in
theorem ji_93_13 : mj_ins 93 13 = some (.sipush 9999) := by decide +kernel
set_option maxRecDepth 100000 in
theorem ji_93_16 : mj_ins 93 16 = some (.if_icmp .gt 28) := by decide +kernel
set_option maxRecDepth 100000 in
theorem ji_93_19 : mj_ins 93 19 = some (.iload_n 2) := by decide +kernel
set_option maxRecDepth 100000 in
theorem ji_93_20 : mj_ins 93 20 = some (.iconst 1) := by decide +kernel
set_option maxRecDepth 100000 in
theorem ji_93_21 : mj_ins 93 21 = some (.if_icmp .lt 23) := by decide +kernel
set_option maxRecDepth 100000 in
theorem ji_93_24 : mj_ins 93 24 = some (.iload_n 2) := by decide +kernel
set_option maxRecDepth 100000 in
theorem ji_93_25 : mj_ins 93 25 = some (.bipush 40) := by decide +kernel
set_option maxRecDepth 100000 in
theorem ji_93_27 : mj_ins 93 27 = some (.if_icmp .gt 17) := by decide +kernel
set_option maxRecDepth 100000 in
theorem ji_93_30 : mj_ins 93 30 = some (.aload_n 3) := by decide +kernel
set_option maxRecDepth 100000 in
theorem ji_93_31 : mj_ins 93 31 = some (.getfield 136) := by decide +kernel
set_option maxRecDepth 100000 in
theorem jf_93_136 : mj_fld 93 136 = some (3, 0, .int, true) := by decide +kernel
set_option maxRecDepth 100000 in
theorem ji_93_34 : mj_ins 93 34 = some (.ifCond .eq 10) := by decide +kernel
set_option maxRecDepth 100000 in
theorem ji_93_37 : mj_ins 93 37 = some (.aload_n 3) := by decide +kernel
set_option maxRecDepth 100000 in
theorem ji_93_38 : mj_ins 93 38 = some (.getfield 139) := by decide +kernel
set_option maxRecDepth 100000 in
theorem jf_93_139 : mj_fld 93 139 = some (3, 1, .int, true) := by decide +kernel
set_option maxRecDepth 100000 in
theorem ji_93_41 : mj_ins 93 41 = some (.ifCond .ne 6) := by decide +kernel
set_option maxRecDepth 100000 in
theorem ji_93_47 : mj_ins 93 47 = some (.aload_n 0) := by decide +kernel
set_option maxRecDepth 100000 in
theorem ji_93_48 : mj_ins 93 48 = some (.getfield 19) := by decide +kernel
set_option maxRecDepth 100000 in
theorem ji_93_51 : mj_ins 93 51 = some (.invokevirtual 142) := by decide +kernel
set_option maxRecDepth 100000 in
theorem jc_93_142 : mj_cal 93 142 = some (2, 59, 0) := by decide +kernel
set_option maxRecDepth 100000 in
theorem ji_93_54 : mj_ins 93 54 = some (.aload_n 3) := by decide +kernel
set_option maxRecDepth 100000 in
theorem ji_93_55 : mj_ins 93 55 = some (.iload_n 1) := by decide +kernel
set_option maxRecDepth 100000 in
theorem ji_93_56 : mj_ins 93 56 = some (.iconst 2) := by decide +kernel
set_option maxRecDepth 100000 in
theorem ji_93_57 : mj_ins 93 57 = some (.imul) := by decide +kernel
set_option maxRecDepth 100000 in
theorem ji_93_58 : mj_ins 93 58 = some (.bipush 79) := by decide +kernel
set_option maxRecDepth 100000 in
theorem ji_93_60 : mj_ins 93 60 = some (.iadd) := by decide +kernel
set_option maxRecDepth 100000 in
theorem ji_93_61 : mj_ins 93 61 = some (.putfield 145) := by decide +kernel
set_option maxRecDepth 100000 in
theorem jf_93_145 : mj_fld 93 145 = some (3, 12, .int, true) := by decide +kernel
set_option maxRecDepth 100000 in
theorem ji_93_64 : mj_ins 93 64 = some (.iconst 0) := by decide +kernel
set_option maxRecDepth 100000 in
theorem ji_93_65 : mj_ins 93 65 = some (.istore 4) := by decide +kernel
/-! the class's centuries; what a clause does; laid by program (wp_u57.py) -/
theorem IG_raise {s : sg_} {F : Nat} (G : IG s F) {k : Int} : IG (up (up s (F + 6) k 0) (F + 7) k 0) F := by
  refine ⟨IF_w (IF_h G.1 (by decide)) (by decide), fun j a b c => ?_⟩
  by_cases e : j = k
  · rw [e, up_e]; decide
  · rw [up_a (by omega), up_k e] at c
    rw [up_k e, up_a (by omega)]
    exact G.2 j a b c
theorem IG_down {s : sg_} {F : Nat} (G : IG s F) {k : Int} : IG (up s (F + 6) k (-1)) F := by
  refine ⟨IF_h G.1 (by decide), fun j a b c => ?_⟩
  by_cases e : j = k
  · rw [e, up_e] at c
    exact absurd rfl c
  · rw [up_k e] at c
    rw [up_a (by omega)]
    exact G.2 j a b c
theorem cutW_a {s : sg_} {F : Nat} {p n w : Int} {b : Nat} {j : Int} (h2 : ¬ b = F + 2) (h6 : ¬ b = F + 6) : cutW s F p n w b j = s b j := by
  unfold cutW
  rw [if_neg (fun z => h2 z.1), if_neg (fun z => h6 z.1)]
theorem cutW_2 {s : sg_} {F : Nat} {p n w j : Int} : cutW s F p n w (F + 2) j = if j = p then s (F + 2) p - n else s (F + 2) j := by
  unfold cutW
  by_cases e : j = p
  · rw [if_pos ⟨rfl, e⟩, if_pos e]
  · rw [if_neg (fun z => e z.2), if_neg (fun z => by omega), if_neg e]
theorem cutW_6 {s : sg_} {F : Nat} {p n w j : Int} : cutW s F p n w (F + 6) j = if p * 6 ≤ j ∧ j < p * 6 + w then min (s (F + 6) j) (s (F + 2) p - n) else s (F + 6) j := by
  unfold cutW
  rw [if_neg (fun z => by omega)]
  by_cases e : p * 6 ≤ j ∧ j < p * 6 + w
  · rw [if_pos ⟨rfl, e⟩, if_pos e]
  · rw [if_neg (fun z => e z.2), if_neg e]
theorem IG_cut {s : sg_} {F : Nat} (G : IG s F) {p n w : Int} (hp : 0 ≤ p ∧ p < 8) (hn : 0 ≤ n ∧ n ≤ s (F + 2) p) : IG (cutW s F p n w) F := by
  obtain ⟨⟨i0, i1, i2, i4, i6, i7, i8⟩, g⟩ := G
  have i2p := i2 p hp.1 hp.2
  refine ⟨⟨by rw [cutW_1]; exact i0, by rw [cutW_1]; exact i1, fun q a b => ?_, fun q a b => by rw [cutW_a (by omega) (by omega)]; exact i4 q a b, fun j a b => ?_, fun j a b => by rw [cutW_a (by omega) (by omega)]; exact i7 j a b, by rw [cutW_1, cutW_1, cutW_1, cutW_1]; exact i8⟩, fun j a b c => ?_⟩
  · have := i2 q a b
    rw [cutW_2]
    split <;> omega
  · have := i6 j a b
    rw [cutW_6]
    split <;> omega
  · rw [cutW_a (by omega) (by omega)]
    refine g j a b (fun e => c ?_)
    rw [cutW_6, e]
    split <;> omega
/-- the forest changed alone -/
theorem NV_g {s s1 : sg_} {tc : tcs} (N : NV s tc) (g : IG s1 48) (e : ∀ (b : Nat) (j : Int), b < 48 ∨ (b = 48 ∧ j = 10) ∨ b = 56 ∨ b = 59 → s1 b j = s b j) : NV s1 tc :=
  NV_f N (fun b j h => e b j (Or.inl h)) g (by rw [e 48 10 (by omega)]; exact N.h) (by rw [e 56 2 (by omega)]; exact N.b) (by rw [e 59 1 (by omega), e 59 2 (by omega)]; exact ⟨N.e, N.c⟩)
theorem rsC_NV {s : sg_} {tc : tcs} (N : NV s tc) {w p : Int} : NV (rsC s w p) tc := NV_g N (IG_raise (F := 48) N.g) (fun b j h => by
  unfold rsC
  rw [up_a (by omega), up_a (by omega)])
theorem dnC_NV {s : sg_} {tc : tcs} (N : NV s tc) {k : Int} : NV (up s 54 k (-1)) tc := NV_g N (IG_down (F := 48) N.g) (fun b j h => up_a (by omega))
theorem ctC_NVc {s : sg_} {tc : tcs} (N : NV s tc) {p n w : Int} (hp : 0 ≤ p ∧ p < 8) (hn : 0 ≤ n ∧ n ≤ s 50 p) : NV (cutW s 48 p n w) tc := NV_g N (IG_cut (F := 48) N.g hp hn) (fun b j h => cutW_a (by omega) (by omega))
theorem NV_9 {s : sg_} {tc : tcs} (N : NV s tc) {y : Int} (hy : 0 ≤ y ∧ y ≤ 9) : NV (up s 48 9 y) tc := NV_g N (IG_9 N.g hy) (fun b j h => by
  unfold up
  exact if_neg (by omega))
theorem ctD_NV {s : sg_} {tc : tcs} (N : NV s tc) {q w p n : Int} (hp : 0 ≤ p ∧ p < 8) (hn : 0 ≤ n) : NV (ctD tc s q w p n) tc := by
  unfold ctD
  split
  · split
    · exact rsC_NV N
    · exact N
  · split
    · exact dnC_NV N
    · split
      · split
        · exact ctC_NVc N hp (by omega)
        · exact N
      · split
        · exact hrC_NV N (by omega)
        · exact N
theorem ctC_NV {s : sg_} {tc : tcs} (N : NV s tc) : NV (ctC tc s) tc := by
  unfold ctC
  split
  · exact N
  · have i0 := N.g.1.1
    have i12 := N.g.1.2.2.2.2.2.2.2.2.2
    have pa := Int.emod_nonneg (s 48 12) (show ¬ s 48 0 = 0 by omega)
    have pb := Int.emod_lt_of_pos (s 48 12) (show 0 < s 48 0 by omega)
    exact ctD_NV (NV_12 N (by omega)) (by omega) (by omega)
def ctsC (tc : tcs) (s : sg_) : Nat → sg_
  | 0 => s
  | n + 1 => ctC tc (ctsC tc s n)
theorem ctsC_NV {s : sg_} {tc : tcs} (N : NV s tc) : ∀ n : Nat, NV (ctsC tc s n) tc
  | 0 => N
  | n + 1 => ctC_NV (ctsC_NV N n)
def ctwC (tc : tcs) (s : sg_) (sd n : Int) : sg_ := ctsC tc (up (keepC s) 48 12 (sd * 2 + 79)) n.toNat
theorem uc_93l {d : Nat} {u : sg_} {tc : tcs} (N : NV u tc) {sd n : Int} (hn : 1 ≤ n ∧ n ≤ 40) : ∀ (nn i : Nat) (h : mj_H), CS h (ctsC tc u i) → (i : Int) ≤ n → wl_R nn (d + 7) 93 67 [some (.ref 9), some (wp_i sd), some (wp_i n), some (.ref 48), some (wp_i ((i : Int)))] [] h (fun v1 h1 => v1 = some (wp_i (ctsC tc u n.toNat 48 11)) ∧ CS h1 (ctsC tc u n.toNat)) := by
  intro nn
  induction nn with
  | zero => intros; exact wl_0
  | succ nn ih =>
    intro i h C hi
    have N1 := ctsC_NV N i
    obtain ⟨t, et⟩ : ∃ t, ctsC tc u i = t := ⟨_, rfl⟩
    rw [et] at C N1
    refine wl_s1 (pc' := 69) ji_93_67 rfl rfl rfl ?_
    refine wl_s (pc' := 70) ji_93_69 rfl rfl rfl ?_
    refine wl_icmp (t := 86) ji_93_70 rfl (by omega) (by omega) (fun (hb1 : (n : Int) ≤ ((i : Int))) => ?_) (fun (hb1 : ¬ ((n : Int) ≤ ((i : Int)))) => ?_)
    · refine wl_s (pc' := 87) ji_93_86 rfl rfl rfl ?_
      refine cs_gi (k := 11) (kI := 11) C (by decide) (by decide) sq_48 rfl rfl ji_93_87 jf_93_104 ?_
      have bd2 : wp_r (t 48 11) := cs_ri (k := 11) (kI := 11) C (by decide) (by decide) sq_48 rfl rfl (show 11 < 13 by decide)
      exact wl_ri ji_93_90 jr_93 rfl (⟨congrArg (fun z => some (wp_i z)) (by rw [← et, show i = n.toNat by omega]), cs_mono C (by rw [← et, show i = n.toNat by omega])⟩)
    · refine wl_s (pc' := 74) ji_93_73 rfl rfl rfl ?_
      refine cs_gr (r := 47) (k := 0) C (by decide) sq_9 rfl ji_93_74 jf_93_19 ?_
      obtain ⟨q4, hq4⟩ := cs_c C (by decide) sq_47
      refine wl_vc (d := d + 6) (as := [.ref 47]) (rest := []) ji_93_77 jc_93_148 rfl hq4 jk_94.symm (Nat.le_of_ble_eq_true rfl) rfl (by rw [jn_94]; rfl) (uc_94 (d := d) C N1) (fun v1 h3 R => ?_)
      obtain ⟨rfl, C⟩ := R
      show wl_R _ _ 93 80 [some (.ref 9), some (wp_i sd), some (wp_i n), some (.ref 48), some (wp_i ((i : Int)))] [] h3 _
      refine wl_iinc (x := (i : Int)) (z := (i : Int) + 1) (lv' := [some (.ref 9), some (wp_i sd), some (wp_i n), some (.ref 48), some (wp_i ((i : Int) + 1))]) ji_93_80 rfl (Nat.le_of_ble_eq_true rfl) (by omega) rfl ?_
      refine wl_goto (t := 67) ji_93_83 rfl ?_
      rw [show (i : Int) + 1 = ((i + 1 : Nat) : Int) by omega]
      exact ih (i + 1) _ (cs_mono C (by rw [← et]; rfl)) (by omega)
theorem uc_93 {nn d : Nat} {h : mj_H} {s : sg_} (C : CS h s) {tc : tcs} (N : NV s tc) {sd n : Int} (hs : wp_r sd) (hn : wp_r n) : wl_R nn (d + 7) 93 0 [some (.ref 9), some (wp_i sd), some (wp_i n), none, none] [] h (fun v1 h1 => (ctOk sd n (s 48 0) (s 48 1) ∧ v1 = some (wp_i (ctwC tc s sd n 48 11)) ∧ CS h1 (ctwC tc s sd n)) ∨ (¬ ctOk sd n (s 48 0) (s 48 1) ∧ v1 = some (wp_i (-2)) ∧ CS h1 s)) := by
  unfold ctOk
  refine wl_s (pc' := 1) ji_93_0 rfl rfl rfl ?_
  refine cs_gr (r := 47) (k := 0) C (by decide) sq_9 rfl ji_93_1 jf_93_19 ?_
  refine cs_gr (r := 48) (k := 0) C (by decide) sq_47 rfl ji_93_4 jf_93_49 ?_
  refine wl_s (pc' := 8) (lv' := [some (.ref 9), some (wp_i sd), some (wp_i n), some (.ref 48), none]) ji_93_7 rfl rfl rfl ?_
  refine wl_s (pc' := 9) ji_93_8 rfl rfl rfl ?_
  refine wl_if (t := 44) ji_93_9 rfl (by omega) (fun (hb1 : (sd : Int) < 0) => ?_) (fun (hb1 : ¬ ((sd : Int) < 0)) => ?_)
  · refine wl_bp ji_93_44 rfl ?_
    exact wl_ri ji_93_46 jr_93 rfl (Or.inr ⟨by omega, rfl, C⟩)
  · refine wl_s (pc' := 13) ji_93_12 rfl rfl rfl ?_
    refine wl_sp ji_93_13 rfl ?_
    refine wl_icmp (t := 44) ji_93_16 rfl (by omega) (by omega) (fun (hb2 : (9999 : Int) < sd) => ?_) (fun (hb2 : ¬ ((9999 : Int) < sd)) => ?_)
    · refine wl_bp ji_93_44 rfl ?_
      exact wl_ri ji_93_46 jr_93 rfl (Or.inr ⟨by omega, rfl, C⟩)
    · refine wl_s (pc' := 20) ji_93_19 rfl rfl rfl ?_
      refine wl_s (pc' := 21) ji_93_20 rfl rfl rfl ?_
      refine wl_icmp (t := 44) ji_93_21 rfl (by omega) (by omega) (fun (hb3 : (n : Int) < 1) => ?_) (fun (hb3 : ¬ ((n : Int) < 1)) => ?_)
      · refine wl_bp ji_93_44 rfl ?_
        exact wl_ri ji_93_46 jr_93 rfl (Or.inr ⟨by omega, rfl, C⟩)
      · refine wl_s (pc' := 25) ji_93_24 rfl rfl rfl ?_
        refine wl_bp ji_93_25 rfl ?_
        refine wl_icmp (t := 44) ji_93_27 rfl (by omega) (by omega) (fun (hb4 : (40 : Int) < n) => ?_) (fun (hb4 : ¬ ((40 : Int) < n)) => ?_)
        · refine wl_bp ji_93_44 rfl ?_
          exact wl_ri ji_93_46 jr_93 rfl (Or.inr ⟨by omega, rfl, C⟩)
        · refine wl_s (pc' := 31) ji_93_30 rfl rfl rfl ?_
          refine cs_gi (k := 0) (kI := 0) C (by decide) (by decide) sq_48 rfl rfl ji_93_31 jf_93_136 ?_
          have bd5 : wp_r (s 48 0) := cs_ri (k := 0) (kI := 0) C (by decide) (by decide) sq_48 rfl rfl (show 0 < 13 by decide)
          refine wl_if (t := 44) ji_93_34 rfl (by omega) (fun (hb6 : (s 48 0 : Int) = 0) => ?_) (fun (hb6 : ¬ ((s 48 0 : Int) = 0)) => ?_)
          · refine wl_bp ji_93_44 rfl ?_
            exact wl_ri ji_93_46 jr_93 rfl (Or.inr ⟨by omega, rfl, C⟩)
          · refine wl_s (pc' := 38) ji_93_37 rfl rfl rfl ?_
            refine cs_gi (k := 1) (kI := 1) C (by decide) (by decide) sq_48 rfl rfl ji_93_38 jf_93_139 ?_
            have bd7 : wp_r (s 48 1) := cs_ri (k := 1) (kI := 1) C (by decide) (by decide) sq_48 rfl rfl (show 1 < 13 by decide)
            refine wl_if (t := 47) ji_93_41 rfl (by omega) (fun (hb8 : ¬ (s 48 1 : Int) = 0) => ?_) (fun (hb8 : ¬ (¬ (s 48 1 : Int) = 0)) => ?_)
            · refine wl_s (pc' := 48) ji_93_47 rfl rfl rfl ?_
              refine cs_gr (r := 47) (k := 0) C (by decide) sq_9 rfl ji_93_48 jf_93_19 ?_
              obtain ⟨q10, hq10⟩ := cs_c C (by decide) sq_47
              refine wl_vc (d := d + 6) (as := [.ref 47]) (rest := []) ji_93_51 jc_93_142 rfl hq10 jk_59.symm (Nat.le_of_ble_eq_true rfl) rfl (by rw [jn_59]; rfl) (uc_59 (d := d + 5) C N.e N.c) (fun v1 h9 R => ?_)
              obtain ⟨rfl, C⟩ := R
              obtain ⟨t, et⟩ : ∃ z9_, keepC s = z9_ := ⟨_, rfl⟩
              rw [et] at C
              show wl_R _ _ 93 54 [some (.ref 9), some (wp_i sd), some (wp_i n), some (.ref 48), none] [] h9 _
              refine wl_s (pc' := 55) ji_93_54 rfl rfl rfl ?_
              refine wl_s (pc' := 56) ji_93_55 rfl rfl rfl ?_
              refine wl_s (pc' := 57) ji_93_56 rfl rfl rfl ?_
              refine wl_imul (x := sd) (y := 2) (z := sd * 2) ji_93_57 (by omega) ?_
              refine wl_bp ji_93_58 rfl ?_
              refine wl_iadd (x := sd * 2) (y := 79) (z := sd * 2 + 79) ji_93_60 (by omega) ?_
              refine cs_pi (k := 12) (kI := 12) (y := sd * 2 + 79) C (by decide) sq_48 rfl rfl ji_93_61 jf_93_145 rfl rfl (by omega) (fun h C => ?_)
              obtain ⟨s11, es11⟩ : ∃ z9_, up t 48 12 (sd * 2 + 79) = z9_ := ⟨_, rfl⟩
              rw [es11] at C
              refine wl_s (pc' := 65) ji_93_64 rfl rfl rfl ?_
              refine wl_s (pc' := 67) (lv' := [some (.ref 9), some (wp_i sd), some (wp_i n), some (.ref 48), some (wp_i 0)]) ji_93_65 rfl rfl rfl ?_
              have eu : up (keepC s) 48 12 (sd * 2 + 79) = s11 := by rw [et, es11]
              have N2 : NV s11 tc := eu ▸ NV_12 (keepC_NV N) (by omega)
              refine wl_mono (uc_93l (u := s11) N2 (by omega) nn 0 _ C (by omega)) (fun v1 h1 R => Or.inl ⟨by omega, ?_⟩)
              unfold ctwC; rw [eu]; exact R
            · refine wl_bp ji_93_44 rfl ?_
              exact wl_ri ji_93_46 jr_93 rfl (Or.inr ⟨by omega, rfl, C⟩)
