/-! -/
set_option maxRecDepth 100000 in
theorem ji_105_15 : mj_ins 105 15 = some (.iload_n 3) := by decide +kernel
set_option maxRecDepth 100000 in
theorem ji_105_16 : mj_ins 105 16 = some (.iload_n 2) := by decide +kernel
set_option maxRecDepth 100000 in
theorem ji_105_17 : mj_ins 105 17 = some (.if_icmp .ge 31) := by decide +kernel
set_option maxRecDepth 100000 in
theorem ji_105_48 : mj_ins 105 48 = some (.aload_n 0) := by decide +kernel
set_option maxRecDepth 100000 in
theorem ji_105_49 : mj_ins 105 49 = some (.getfield 13) := by decide +kernel
set_option maxRecDepth 100000 in
theorem sq_95 : sh_T[95]? = some (10, [99, 100, 0], 0, 0) := by decide +kernel
set_option maxRecDepth 100000 in
theorem jf_105_13 : mj_fld 105 13 = some (10, 0, (.array (.object "ForestOfPoles$Forest")), false) := by decide +kernel
set_option maxRecDepth 100000 in
theorem ji_105_52 : mj_ins 105 52 = some (.iconst 0) := by decide +kernel
set_option maxRecDepth 100000 in
theorem ji_105_53 : mj_ins 105 53 = some (.aaload) := by decide +kernel
set_option maxRecDepth 100000 in
theorem sq_96 : sh_T[96]? = some (1103, [101, 109, 117, 125, 133], 0, 0) := by decide +kernel
set_option maxRecDepth 100000 in
theorem ji_105_54 : mj_ins 105 54 = some (.areturn) := by decide +kernel
set_option maxRecDepth 100000 in
theorem jr_105 : mj_ret 105 = some (.object "ForestOfPoles$Forest") := by decide +kernel
set_option maxRecDepth 100000 in
theorem ji_105_20 : mj_ins 105 20 = some (.aload_n 0) := by decide +kernel
set_option maxRecDepth 100000 in
theorem ji_105_21 : mj_ins 105 21 = some (.getfield 13) := by decide +kernel
set_option maxRecDepth 100000 in
theorem ji_105_24 : mj_ins 105 24 = some (.iconst 0) := by decide +kernel
set_option maxRecDepth 100000 in
theorem ji_105_25 : mj_ins 105 25 = some (.aaload) := by decide +kernel
set_option maxRecDepth 100000 in
theorem ji_105_26 : mj_ins 105 26 = some (.aload_n 1) := by decide +kernel
set_option maxRecDepth 100000 in
theorem ji_105_27 : mj_ins 105 27 = some (.invokevirtual 36) := by decide +kernel
set_option maxRecDepth 100000 in
theorem jc_105_36 : mj_cal 105 36 = some (2, 62, 0) := by decide +kernel
set_option maxRecDepth 100000 in
theorem ji_105_30 : mj_ins 105 30 = some (.invokevirtual 40) := by decide +kernel
set_option maxRecDepth 100000 in
theorem jc_105_40 : mj_cal 105 40 = some (2, 63, 1) := by decide +kernel
set_option maxRecDepth 100000 in
theorem sq_98 : sh_T[98]? = some (3, [0, 0, 102, 103, 104, 105, 106, 107, 108, 0, 0, 0, 0], 0, 0) := by decide +kernel
set_option maxRecDepth 100000 in
theorem ji_105_33 : mj_ins 105 33 = some (.aload_n 0) := by decide +kernel
set_option maxRecDepth 100000 in
theorem ji_105_34 : mj_ins 105 34 = some (.getfield 13) := by decide +kernel
set_option maxRecDepth 100000 in
theorem ji_105_37 : mj_ins 105 37 = some (.iconst 0) := by decide +kernel
set_option maxRecDepth 100000 in
theorem ji_105_38 : mj_ins 105 38 = some (.aaload) := by decide +kernel
set_option maxRecDepth 100000 in
theorem ji_105_39 : mj_ins 105 39 = some (.invokevirtual 44) := by decide +kernel
set_option maxRecDepth 100000 in
theorem jc_105_44 : mj_cal 105 44 = some (2, 74, 0) := by decide +kernel
set_option maxRecDepth 100000 in
theorem ji_105_42 : mj_ins 105 42 = some (.iinc 3 1) := by decide +kernel
set_option maxRecDepth 100000 in
theorem ji_105_45 : mj_ins 105 45 = some (.goto (-30)) := by decide +kernel
set_option maxRecDepth 100000 in
theorem ji_105_0 : mj_ins 105 0 = some (.aload_n 0) := by decide +kernel
set_option maxRecDepth 100000 in
theorem ji_105_1 : mj_ins 105 1 = some (.getfield 13) := by decide +kernel
set_option maxRecDepth 100000 in
theorem ji_105_4 : mj_ins 105 4 = some (.iconst 0) := by decide +kernel
set_option maxRecDepth 100000 in
theorem ji_105_5 : mj_ins 105 5 = some (.aaload) := by decide +kernel
set_option maxRecDepth 100000 in
theorem ji_105_6 : mj_ins 105 6 = some (.aload_n 1) := by decide +kernel
set_option maxRecDepth 100000 in
theorem ji_105_7 : mj_ins 105 7 = some (.getfield 26) := by decide +kernel
set_option maxRecDepth 100000 in
theorem jf_105_26 : mj_fld 105 26 = some (2, 0, (.object "ForestOfPoles$Forest"), false) := by decide +kernel
set_option maxRecDepth 100000 in
theorem ji_105_10 : mj_ins 105 10 = some (.invokevirtual 32) := by decide +kernel
set_option maxRecDepth 100000 in
theorem jc_105_32 : mj_cal 105 32 = some (2, 106, 1) := by decide +kernel
set_option maxRecDepth 100000 in
theorem ji_105_13 : mj_ins 105 13 = some (.iconst 0) := by decide +kernel
set_option maxRecDepth 100000 in
theorem ji_105_14 : mj_ins 105 14 = some (.istore_n 3) := by decide +kernel
set_option maxRecDepth 100000 in
theorem ji_104_0 : mj_ins 104 0 = some (.iload_n 1) := by decide +kernel
set_option maxRecDepth 100000 in
theorem ji_104_1 : mj_ins 104 1 = some (.iconst 1) := by decide +kernel
set_option maxRecDepth 100000 in
theorem ji_104_2 : mj_ins 104 2 = some (.if_icmp .lt 9) := by decide +kernel
set_option maxRecDepth 100000 in
theorem ji_104_11 : mj_ins 104 11 = some (.bipush (-2)) := by decide +kernel
set_option maxRecDepth 100000 in
theorem ji_104_13 : mj_ins 104 13 = some (.goto 18) := by decide +kernel
set_option maxRecDepth 100000 in
theorem ji_104_31 : mj_ins 104 31 = some (.ireturn) := by decide +kernel
set_option maxRecDepth 100000 in
theorem jr_104 : mj_ret 104 = some .int := by decide +kernel
set_option maxRecDepth 100000 in
theorem ji_104_5 : mj_ins 104 5 = some (.iload_n 1) := by decide +kernel
set_option maxRecDepth 100000 in
theorem ji_104_6 : mj_ins 104 6 = some (.bipush 60) := by decide +kernel
set_option maxRecDepth 100000 in
theorem ji_104_8 : mj_ins 104 8 = some (.if_icmp .le 8) := by decide +kernel
set_option maxRecDepth 100000 in
theorem ji_104_16 : mj_ins 104 16 = some (.aload_n 0) := by decide +kernel
set_option maxRecDepth 100000 in
theorem ji_104_17 : mj_ins 104 17 = some (.getfield 45) := by decide +kernel
set_option maxRecDepth 100000 in
theorem jf_104_45 : mj_fld 104 45 = some (0, 4, (.object "ForestOfPoles$Lookout"), false) := by decide +kernel
set_option maxRecDepth 100000 in
theorem ji_104_20 : mj_ins 104 20 = some (.aload_n 0) := by decide +kernel
set_option maxRecDepth 100000 in
theorem ji_104_21 : mj_ins 104 21 = some (.getfield 19) := by decide +kernel
set_option maxRecDepth 100000 in
theorem jf_104_19 : mj_fld 104 19 = some (0, 0, (.object "ForestOfPoles$State"), false) := by decide +kernel
set_option maxRecDepth 100000 in
theorem ji_104_24 : mj_ins 104 24 = some (.iload_n 1) := by decide +kernel
set_option maxRecDepth 100000 in
theorem ji_104_25 : mj_ins 104 25 = some (.invokevirtual 221) := by decide +kernel
set_option maxRecDepth 100000 in
theorem jc_104_221 : mj_cal 104 221 = some (2, 105, 2) := by decide +kernel
set_option maxRecDepth 100000 in
theorem jn_105 : mj_nl 105 = 4 := by decide +kernel
set_option maxRecDepth 100000 in
theorem jk_105 : mj_cls 105 = 10 := by decide +kernel
set_option maxRecDepth 100000 in
theorem ji_104_28 : mj_ins 104 28 = some (.getfield 104) := by decide +kernel
set_option maxRecDepth 100000 in
theorem jf_104_104 : mj_fld 104 104 = some (3, 11, .int, true) := by decide +kernel
set_option maxRecDepth 100000 in
theorem ji_109_0 : mj_ins 109 0 = some (.iload_n 1) := by decide +kernel
set_option maxRecDepth 100000 in
theorem ji_109_1 : mj_ins 109 1 = some (.iconst 1) := by decide +kernel
set_option maxRecDepth 100000 in
theorem ji_109_2 : mj_ins 109 2 = some (.if_icmp .lt 9) := by decide +kernel
set_option maxRecDepth 100000 in
theorem ji_109_11 : mj_ins 109 11 = some (.bipush (-2)) := by decide +kernel
set_option maxRecDepth 100000 in
theorem ji_109_13 : mj_ins 109 13 = some (.goto 18) := by decide +kernel
set_option maxRecDepth 100000 in
theorem ji_109_31 : mj_ins 109 31 = some (.ireturn) := by decide +kernel
set_option maxRecDepth 100000 in
theorem jr_109 : mj_ret 109 = some .int := by decide +kernel
set_option maxRecDepth 100000 in
theorem ji_109_5 : mj_ins 109 5 = some (.iload_n 1) := by decide +kernel
set_option maxRecDepth 100000 in
theorem ji_109_6 : mj_ins 109 6 = some (.bipush 60) := by decide +kernel
set_option maxRecDepth 100000 in
theorem ji_109_8 : mj_ins 109 8 = some (.if_icmp .le 8) := by decide +kernel
set_option maxRecDepth 100000 in
theorem ji_109_16 : mj_ins 109 16 = some (.aload_n 0) := by decide +kernel
set_option maxRecDepth 100000 in
theorem ji_109_17 : mj_ins 109 17 = some (.getfield 45) := by decide +kernel
set_option maxRecDepth 100000 in
theorem jf_109_45 : mj_fld 109 45 = some (0, 4, (.object "ForestOfPoles$Lookout"), false) := by decide +kernel
set_option maxRecDepth 100000 in
theorem ji_109_20 : mj_ins 109 20 = some (.aload_n 0) := by decide +kernel
set_option maxRecDepth 100000 in
theorem ji_109_21 : mj_ins 109 21 = some (.getfield 19) := by decide +kernel
set_option maxRecDepth 100000 in
theorem jf_109_19 : mj_fld 109 19 = some (0, 0, (.object "ForestOfPoles$State"), false) := by decide +kernel
set_option maxRecDepth 100000 in
theorem ji_109_24 : mj_ins 109 24 = some (.iload_n 1) := by decide +kernel
set_option maxRecDepth 100000 in
theorem ji_109_25 : mj_ins 109 25 = some (.invokevirtual 221) := by decide +kernel
set_option maxRecDepth 100000 in
theorem jc_109_221 : mj_cal 109 221 = some (2, 105, 2) := by decide +kernel
set_option maxRecDepth 100000 in
theorem ji_109_28 : mj_ins 109 28 = some (.getfield 209) := by decide +kernel
set_option maxRecDepth 100000 in
theorem jf_109_209 : mj_fld 109 209 = some (3, 9, .int, true) := by decide +kernel
set_option maxRecDepth 100000 in
theorem ji_108_0 : mj_ins 108 0 = some (.iload_n 1) := by decide +kernel
set_option maxRecDepth 100000 in
theorem ji_108_1 : mj_ins 108 1 = some (.iconst 1) := by decide +kernel
set_option maxRecDepth 100000 in
theorem ji_108_2 : mj_ins 108 2 = some (.if_icmp .lt 37) := by decide +kernel
set_option maxRecDepth 100000 in
theorem ji_108_39 : mj_ins 108 39 = some (.bipush (-2)) := by decide +kernel
set_option maxRecDepth 100000 in
theorem ji_108_41 : mj_ins 108 41 = some (.ireturn) := by decide +kernel
set_option maxRecDepth 100000 in
theorem jr_108 : mj_ret 108 = some .int := by decide +kernel
set_option maxRecDepth 100000 in
theorem ji_108_5 : mj_ins 108 5 = some (.iload_n 1) := by decide +kernel
set_option maxRecDepth 100000 in
theorem ji_108_6 : mj_ins 108 6 = some (.bipush 60) := by decide +kernel
set_option maxRecDepth 100000 in
theorem ji_108_8 : mj_ins 108 8 = some (.if_icmp .gt 31) := by decide +kernel
set_option maxRecDepth 100000 in
theorem ji_108_11 : mj_ins 108 11 = some (.aload_n 0) := by decide +kernel
set_option maxRecDepth 100000 in
theorem ji_108_12 : mj_ins 108 12 = some (.getfield 19) := by decide +kernel
set_option maxRecDepth 100000 in
theorem jf_108_19 : mj_fld 108 19 = some (0, 0, (.object "ForestOfPoles$State"), false) := by decide +kernel
set_option maxRecDepth 100000 in
theorem ji_108_15 : mj_ins 108 15 = some (.getfield 49) := by decide +kernel
set_option maxRecDepth 100000 in
theorem jf_108_49 : mj_fld 108 49 = some (2, 0, (.object "ForestOfPoles$Forest"), false) := by decide +kernel
set_option maxRecDepth 100000 in
theorem ji_108_18 : mj_ins 108 18 = some (.iload_n 2) := by decide +kernel
set_option maxRecDepth 100000 in
theorem ji_108_19 : mj_ins 108 19 = some (.invokevirtual 177) := by decide +kernel
set_option maxRecDepth 100000 in
theorem jc_108_177 : mj_cal 108 177 = some (2, 80, 1) := by decide +kernel
set_option maxRecDepth 100000 in
theorem ji_108_22 : mj_ins 108 22 = some (.ifCond .eq 17) := by decide +kernel
set_option maxRecDepth 100000 in
theorem ji_108_25 : mj_ins 108 25 = some (.aload_n 0) := by decide +kernel
set_option maxRecDepth 100000 in
theorem ji_108_26 : mj_ins 108 26 = some (.getfield 19) := by decide +kernel
set_option maxRecDepth 100000 in
theorem ji_108_29 : mj_ins 108 29 = some (.getfield 49) := by decide +kernel
set_option maxRecDepth 100000 in
theorem ji_108_32 : mj_ins 108 32 = some (.iload_n 3) := by decide +kernel
set_option maxRecDepth 100000 in
theorem ji_108_33 : mj_ins 108 33 = some (.invokevirtual 168) := by decide +kernel
set_option maxRecDepth 100000 in
theorem jc_108_168 : mj_cal 108 168 = some (2, 81, 1) := by decide +kernel
set_option maxRecDepth 100000 in
theorem ji_108_36 : mj_ins 108 36 = some (.ifCond .ne 6) := by decide +kernel
set_option maxRecDepth 100000 in
theorem ji_108_42 : mj_ins 108 42 = some (.aload_n 0) := by decide +kernel
set_option maxRecDepth 100000 in
theorem ji_108_43 : mj_ins 108 43 = some (.getfield 45) := by decide +kernel
set_option maxRecDepth 100000 in
theorem jf_108_45 : mj_fld 108 45 = some (0, 4, (.object "ForestOfPoles$Lookout"), false) := by decide +kernel
set_option maxRecDepth 100000 in
theorem ji_108_46 : mj_ins 108 46 = some (.aload_n 0) := by decide +kernel
set_option maxRecDepth 100000 in
theorem ji_108_47 : mj_ins 108 47 = some (.getfield 19) := by decide +kernel
set_option maxRecDepth 100000 in
theorem ji_108_50 : mj_ins 108 50 = some (.iload_n 1) := by decide +kernel
set_option maxRecDepth 100000 in
theorem ji_108_51 : mj_ins 108 51 = some (.invokevirtual 221) := by decide +kernel
set_option maxRecDepth 100000 in
theorem jc_108_221 : mj_cal 108 221 = some (2, 105, 2) := by decide +kernel
set_option maxRecDepth 100000 in
theorem ji_108_54 : mj_ins 108 54 = some (.getfield 195) := by decide +kernel
set_option maxRecDepth 100000 in
theorem jf_108_195 : mj_fld 108 195 = some (3, 7, (.array .int), false) := by decide +kernel
set_option maxRecDepth 100000 in
theorem ji_108_57 : mj_ins 108 57 = some (.iload_n 3) := by decide +kernel
set_option maxRecDepth 100000 in
theorem ji_108_58 : mj_ins 108 58 = some (.bipush 6) := by decide +kernel
set_option maxRecDepth 100000 in
theorem ji_108_60 : mj_ins 108 60 = some (.imul) := by decide +kernel
set_option maxRecDepth 100000 in
theorem ji_108_61 : mj_ins 108 61 = some (.iload_n 2) := by decide +kernel
set_option maxRecDepth 100000 in
theorem ji_108_62 : mj_ins 108 62 = some (.iadd) := by decide +kernel
set_option maxRecDepth 100000 in
theorem ji_108_63 : mj_ins 108 63 = some (.iaload) := by decide +kernel
set_option maxRecDepth 100000 in
theorem sq_104 : sh_T[104]? = some (1000, [], 48, 0) := by decide +kernel
set_option maxRecDepth 100000 in
theorem ji_108_64 : mj_ins 108 64 = some (.ireturn) := by decide +kernel
/-! the class's lookout: hours to come on another forest; laid by program (wp_v00.py) -/
def drwC (F : Nat) (s : sg_) : sg_ := up (up s F 12 ((s F 12 * 283 + 181) % 30307)) F 9 (s F 12 % 10)
theorem drwC_IG {F : Nat} {s : sg_} (G : IG s F) : IG (drwC F s) F := IG_9 (IG_12 G (by omega)) (by omega)
theorem drwC_fr {F : Nat} {s : sg_} {b : Nat} {j : Int} (h : ¬ b = F) : drwC F s b j = s b j := by
  unfold drwC
  rw [up_a h, up_a h]
theorem drwC_0 {F : Nat} {s : sg_} {j : Int} (h1 : ¬ j = 9) (h2 : ¬ j = 12) : drwC F s F j = s F j := by
  unfold drwC
  rw [up_k h1, up_k h2]
/-- so many hours on the forest at F -/
def lkC (cd : cds) (F : Nat) (s : sg_) : Nat → sg_
  | 0 => s
  | n + 1 => drwC F (passC cd F (lkC cd F s n))
theorem lkC_fr {cd : cds} {F : Nat} {s : sg_} {b : Nat} {j : Int} (h0 : ¬ b = F) (h6 : ¬ b = F + 6) (h7 : ¬ b = F + 7) : ∀ n : Nat, lkC cd F s n b j = s b j
  | 0 => rfl
  | n + 1 => by
    show drwC F (passC cd F (lkC cd F s n)) b j = _
    rw [drwC_fr h0, passC_fr h0 h6 h7]
    exact lkC_fr h0 h6 h7 n
theorem lkC_10 {cd : cds} {F : Nat} {s : sg_} : ∀ n : Nat, lkC cd F s n F 10 = s F 10 + n
  | 0 => by show s F 10 = s F 10 + ((0 : Nat) : Int); omega
  | n + 1 => by
    show drwC F (passC cd F (lkC cd F s n)) F 10 = _
    rw [drwC_0 (by decide) (by decide), passC_10, lkC_10 n]
    omega
theorem lkC_IG {cd : cds} {F : Nat} {s : sg_} (G : IG s F) : ∀ n : Nat, s F 10 + n ≤ 20000 → IG (lkC cd F s n) F
  | 0, _ => G
  | n + 1, h => drwC_IG (passC_IG (lkC_IG G n (by omega)) (by rw [lkC_10]; omega))
theorem isF_98 : isF 98 := ⟨by decide, by decide +kernel, by decide +kernel, by decide +kernel, by decide +kernel, by decide +kernel, by decide +kernel, by decide +kernel, by decide +kernel, by decide⟩
theorem isF_106 : isF 106 := ⟨by decide, by decide +kernel, by decide +kernel, by decide +kernel, by decide +kernel, by decide +kernel, by decide +kernel, by decide +kernel, by decide +kernel, by decide⟩
theorem isF_114 : isF 114 := ⟨by decide, by decide +kernel, by decide +kernel, by decide +kernel, by decide +kernel, by decide +kernel, by decide +kernel, by decide +kernel, by decide +kernel, by decide⟩
theorem isF_122 : isF 122 := ⟨by decide, by decide +kernel, by decide +kernel, by decide +kernel, by decide +kernel, by decide +kernel, by decide +kernel, by decide +kernel, by decide +kernel, by decide⟩
theorem isF_130 : isF 130 := ⟨by decide, by decide +kernel, by decide +kernel, by decide +kernel, by decide +kernel, by decide +kernel, by decide +kernel, by decide +kernel, by decide +kernel, by decide⟩
/-- what is elsewhere stays, so the state of the game does -/
theorem NV_l {s t : sg_} {tc : tcs} (N : NV s tc) (e : ∀ (b : Nat) (j : Int), b < 95 → t b j = s b j) : NV t tc ∧ rulT t = rulT s := by
  refine ⟨NV_f N (fun b j hb => e b j (by omega)) (IG_f (fun b j _ hb => e b j (by omega)) N.g) (by rw [e _ _ (by decide)]; exact N.h) (by rw [e _ _ (by decide)]; exact N.b) (by rw [e _ _ (by decide), e _ _ (by decide)]; exact ⟨N.e, N.c⟩), ?_⟩
  unfold rulT
  rw [e _ _ (by decide), e _ _ (by decide)]
theorem uc_105l {d : Nat} {t : sg_} {tc : tcs} (N : NV t tc) (G : IG t 98) (h10 : t 98 10 ≤ 9999) {T : Nat} (hT : isT T) (hR0 : rulT t = T) {n : Int} (hn : n ≤ 60) : ∀ (nn i : Nat) (h : mj_H), CS h (lkC (tc T) 98 t i) → (i : Int) ≤ n → wl_R nn (d + 5) 105 15 [some (.ref 95), some (.ref 47), some (wp_i n), some (wp_i ((i : Int)))] [] h (fun v1 h1 => v1 = some (.ref 98) ∧ CS h1 (lkC (tc T) 98 t n.toNat)) := by
  intro nn
  induction nn with
  | zero => intros; exact wl_0
  | succ nn ih =>
    intro i h C hi
    have G1 := lkC_IG (cd := tc T) G i (by omega)
    have e10 := lkC_10 (cd := tc T) (F := 98) (s := t) i
    obtain ⟨N1, hRu⟩ := NV_l N (t := lkC (tc T) 98 t i) (fun b j hb => lkC_fr (by omega) (by omega) (by omega) i)
    rw [hR0] at hRu
    have H1 := NV_tx N1
    rw [hRu] at H1
    refine wl_s1 (pc' := 16) ji_105_15 rfl rfl rfl ?_
    refine wl_s (pc' := 17) ji_105_16 rfl rfl rfl ?_
    refine wl_icmp (t := 48) ji_105_17 rfl (by omega) (by omega) (fun (hb1 : (n : Int) ≤ ((i : Int))) => ?_) (fun (hb1 : ¬ ((n : Int) ≤ ((i : Int)))) => ?_)
    · refine wl_s (pc' := 49) ji_105_48 rfl rfl rfl ?_
      refine cs_gr (r := 96) (k := 0) C (by decide) sq_95 rfl ji_105_49 jf_105_13 ?_
      refine wl_s (pc' := 53) ji_105_52 rfl rfl rfl ?_
      refine cs_aa (r := 98) (x := 0) C (by decide) sq_96 (by decide) (by decide) (by decide) (by decide) rfl ji_105_53 ?_
      exact wl_ra ji_105_54 jr_105 ⟨rfl, cs_mono C (by rw [show i = n.toNat by omega])⟩
    · refine wl_s (pc' := 21) ji_105_20 rfl rfl rfl ?_
      refine cs_gr (r := 96) (k := 0) C (by decide) sq_95 rfl ji_105_21 jf_105_13 ?_
      refine wl_s (pc' := 25) ji_105_24 rfl rfl rfl ?_
      refine cs_aa (r := 98) (x := 0) C (by decide) sq_96 (by decide) (by decide) (by decide) (by decide) rfl ji_105_25 ?_
      refine wl_s (pc' := 27) ji_105_26 rfl rfl rfl ?_
      obtain ⟨q3, hq3⟩ := cs_c C (by decide) sq_47
      refine wl_vc (d := d + 4) (as := [.ref 47]) (rest := [.ref 98]) ji_105_27 jc_105_36 rfl hq3 jk_62.symm (Nat.le_of_ble_eq_true rfl) rfl (by rw [jn_62]; rfl) (uc_62 (d := d + 3) C N1.t.2) (fun v1 h2 R => ?_)
      obtain ⟨ee, rfl⟩ := R
      rw [ee]
      clear ee
      rw [hRu]
      show wl_R _ _ 105 30 [some (.ref 95), some (.ref 47), some (wp_i n), some (wp_i ((i : Int)))] [.ref T, .ref 98] _ _
      obtain ⟨q5, hq5⟩ := cs_c C (by decide) sq_98
      refine wl_vc (d := d + 4) (as := [.ref 98, .ref T]) (rest := []) ji_105_30 jc_105_40 rfl hq5 jk_63.symm (Nat.le_of_ble_eq_true rfl) rfl (by rw [jn_63]; rfl) (uc_63 (d := d) C hT isF_98 H1 N1.sc G1) (fun v1 h4 R => ?_)
      obtain ⟨rfl, C⟩ := R
      show wl_R _ _ 105 33 [some (.ref 95), some (.ref 47), some (wp_i n), some (wp_i ((i : Int)))] [] h4 _
      refine wl_s (pc' := 34) ji_105_33 rfl rfl rfl ?_
      refine cs_gr (r := 96) (k := 0) C (by decide) sq_95 rfl ji_105_34 jf_105_13 ?_
      refine wl_s (pc' := 38) ji_105_37 rfl rfl rfl ?_
      refine cs_aa (r := 98) (x := 0) C (by decide) sq_96 (by decide) (by decide) (by decide) (by decide) rfl ji_105_38 ?_
      obtain ⟨q7, hq7⟩ := cs_c C (by decide) sq_98
      refine wl_vc (d := d + 4) (as := [.ref 98]) (rest := []) ji_105_39 jc_105_44 rfl hq7 jk_74.symm (Nat.le_of_ble_eq_true rfl) rfl (by rw [jn_74]; rfl) (uc_74 (d := d + 3) C isF_98 (passC_IG G1 (by omega)).1) (fun v1 h6 R => ?_)
      obtain ⟨rfl, C⟩ := R
      show wl_R _ _ 105 42 [some (.ref 95), some (.ref 47), some (wp_i n), some (wp_i ((i : Int)))] [] h6 _
      refine wl_iinc (x := (i : Int)) (z := (i : Int) + 1) (lv' := [some (.ref 95), some (.ref 47), some (wp_i n), some (wp_i ((i : Int) + 1))]) ji_105_42 rfl (Nat.le_of_ble_eq_true rfl) (by omega) rfl ?_
      refine wl_goto (t := 15) ji_105_45 rfl ?_
      rw [show (i : Int) + 1 = ((i + 1 : Nat) : Int) by omega]
      exact ih (i + 1) _ C (by omega)
theorem uc_105 {nn d : Nat} {h : mj_H} {s : sg_} (C : CS h s) {tc : tcs} (N : NV s tc) {n : Int} (hn : 1 ≤ n ∧ n ≤ 60) : wl_R nn (d + 5) 105 0 [some (.ref 95), some (.ref 47), some (wp_i n), none] [] h (fun v1 h1 => v1 = some (.ref 98) ∧ ∃ t, FCP s t 48 98 ∧ (∀ (b : Nat) (j : Int), ¬ (98 ≤ b ∧ b ≤ 105) → t b j = s b j) ∧ CS h1 (lkC (tc (rulT s)) 98 t n.toNat)) := by
  refine wl_s (pc' := 1) ji_105_0 rfl rfl rfl ?_
  refine cs_gr (r := 96) (k := 0) C (by decide) sq_95 rfl ji_105_1 jf_105_13 ?_
  refine wl_s (pc' := 5) ji_105_4 rfl rfl rfl ?_
  refine cs_aa (r := 98) (x := 0) C (by decide) sq_96 (by decide) (by decide) (by decide) (by decide) rfl ji_105_5 ?_
  refine wl_s (pc' := 7) ji_105_6 rfl rfl rfl ?_
  refine cs_gr (r := 48) (k := 0) C (by decide) sq_47 rfl ji_105_7 jf_105_26 ?_
  obtain ⟨q2, hq2⟩ := cs_c C (by decide) sq_98
  refine wl_vc (d := d + 4) (as := [.ref 98, .ref 48]) (rest := []) ji_105_10 jc_105_32 rfl hq2 jk_106.symm (Nat.le_of_ble_eq_true rfl) rfl (by rw [jn_106]; rfl) (uc_106 (d := d + 3) C isF_98 isF_48 (by decide)) (fun v1 h1 R => ?_)
  obtain ⟨rfl, t, C, m1, m2, m4, m6, m9, mf⟩ := R
  show wl_R _ _ 105 13 [some (.ref 95), some (.ref 47), some (wp_i n), none] [] h1 _
  refine wl_s (pc' := 14) ji_105_13 rfl rfl rfl ?_
  refine wl_s (pc' := 15) (lv' := [some (.ref 95), some (.ref 47), some (wp_i n), some (wp_i 0)]) ji_105_14 rfl rfl rfl ?_
  have G := IG_t N.g (F1 := 98) (c1 := t) ⟨m1, m2, m4, m6, m9⟩
  obtain ⟨N1, hRu⟩ := NV_l N (t := t) (fun b j hb => mf b j (by omega))
  refine wl_mono (uc_105l N1 G (by rw [m9.2.1]; exact N.h) (hRu ▸ rulT_i N1.t.2) hRu hn.2 nn 0 _ C (by omega)) (fun v1 h1 R => ⟨R.1, t, ⟨m1, m2, m4, m6, m9⟩, fun b j hb => mf b j (by omega), R.2⟩)
theorem uc_104 {nn d : Nat} {h : mj_H} {s : sg_} (C : CS h s) {tc : tcs} (N : NV s tc) {n : Int} (hr : wp_r n) : wl_R nn (d + 6) 104 0 [some (.ref 9), some (wp_i n)] [] h (fun v1 h1 => (¬ (1 ≤ n ∧ n ≤ 60) ∧ v1 = some (wp_i (-2)) ∧ CS h1 s) ∨ ((1 ≤ n ∧ n ≤ 60) ∧ ∃ t, FCP s t 48 98 ∧ (∀ (b : Nat) (j : Int), ¬ (98 ≤ b ∧ b ≤ 105) → t b j = s b j) ∧ v1 = some (wp_i (lkC (tc (rulT s)) 98 t n.toNat 98 11)) ∧ CS h1 (lkC (tc (rulT s)) 98 t n.toNat))) := by
  refine wl_s (pc' := 1) ji_104_0 rfl rfl rfl ?_
  refine wl_s (pc' := 2) ji_104_1 rfl rfl rfl ?_
  refine wl_icmp (t := 11) ji_104_2 rfl (by omega) (by omega) (fun (hb1 : (n : Int) < 1) => ?_) (fun (hb1 : ¬ ((n : Int) < 1)) => ?_)
  · refine wl_bp ji_104_11 rfl ?_
    refine wl_goto (t := 31) ji_104_13 rfl ?_
    exact wl_ri ji_104_31 jr_104 rfl (Or.inl ⟨by omega, rfl, C⟩)
  · refine wl_s (pc' := 6) ji_104_5 rfl rfl rfl ?_
    refine wl_bp ji_104_6 rfl ?_
    refine wl_icmp (t := 16) ji_104_8 rfl (by omega) (by omega) (fun (hb2 : (n : Int) ≤ 60) => ?_) (fun (hb2 : ¬ ((n : Int) ≤ 60)) => ?_)
    · refine wl_s (pc' := 17) ji_104_16 rfl rfl rfl ?_
      refine cs_gr (r := 95) (k := 4) C (by decide) sq_9 rfl ji_104_17 jf_104_45 ?_
      refine wl_s (pc' := 21) ji_104_20 rfl rfl rfl ?_
      refine cs_gr (r := 47) (k := 0) C (by decide) sq_9 rfl ji_104_21 jf_104_19 ?_
      refine wl_s (pc' := 25) ji_104_24 rfl rfl rfl ?_
      obtain ⟨q4, hq4⟩ := cs_c C (by decide) sq_95
      refine wl_vc (d := d + 5) (as := [.ref 95, .ref 47, wp_i n]) (rest := []) ji_104_25 jc_104_221 rfl hq4 jk_105.symm (Nat.le_of_ble_eq_true rfl) rfl (by rw [jn_105]; rfl) (uc_105 (d := d) C N (by omega)) (fun v1 h3 R => ?_)
      obtain ⟨rfl, t, f, fr, C⟩ := R
      obtain ⟨u, eu⟩ : ∃ z9_, lkC (tc (rulT s)) 98 t n.toNat = z9_ := ⟨_, rfl⟩
      rw [eu] at C
      have q : ∀ (b : Nat) (j : Int), ¬ (98 ≤ b ∧ b ≤ 105) → u b j = s b j := fun b j hb => by rw [← eu, lkC_fr (by omega) (by omega) (by omega)]; exact fr b j hb
      have G1 : IG u 98 := eu ▸ lkC_IG (IG_t N.g f) _ (by have := N.h; have e := f.2.2.2.2.2.1; omega)
      have i11 := G1.1.2.2.2.2.2.2.2.2.1
      show wl_R _ _ 104 28 [some (.ref 9), some (wp_i n)] [.ref 98] h3 _
      refine cs_gi (k := 11) (kI := 11) C (by decide) (by decide) sq_98 rfl rfl ji_104_28 jf_104_104 ?_
      have bd5 : wp_r (u 98 11) := cs_ri (k := 11) (kI := 11) C (by decide) (by decide) sq_98 rfl rfl (show 11 < 13 by decide)
      exact wl_ri ji_104_31 jr_104 rfl (Or.inr ⟨by omega, t, f, fr, (eu ▸ rfl), eu ▸ C⟩)
    · refine wl_bp ji_104_11 rfl ?_
      refine wl_goto (t := 31) ji_104_13 rfl ?_
      exact wl_ri ji_104_31 jr_104 rfl (Or.inl ⟨by omega, rfl, C⟩)
theorem uc_109 {nn d : Nat} {h : mj_H} {s : sg_} (C : CS h s) {tc : tcs} (N : NV s tc) {n : Int} (hr : wp_r n) : wl_R nn (d + 6) 109 0 [some (.ref 9), some (wp_i n)] [] h (fun v1 h1 => (¬ (1 ≤ n ∧ n ≤ 60) ∧ v1 = some (wp_i (-2)) ∧ CS h1 s) ∨ ((1 ≤ n ∧ n ≤ 60) ∧ ∃ t, FCP s t 48 98 ∧ (∀ (b : Nat) (j : Int), ¬ (98 ≤ b ∧ b ≤ 105) → t b j = s b j) ∧ v1 = some (wp_i (lkC (tc (rulT s)) 98 t n.toNat 98 9)) ∧ CS h1 (lkC (tc (rulT s)) 98 t n.toNat))) := by
  refine wl_s (pc' := 1) ji_109_0 rfl rfl rfl ?_
  refine wl_s (pc' := 2) ji_109_1 rfl rfl rfl ?_
  refine wl_icmp (t := 11) ji_109_2 rfl (by omega) (by omega) (fun (hb1 : (n : Int) < 1) => ?_) (fun (hb1 : ¬ ((n : Int) < 1)) => ?_)
  · refine wl_bp ji_109_11 rfl ?_
    refine wl_goto (t := 31) ji_109_13 rfl ?_
    exact wl_ri ji_109_31 jr_109 rfl (Or.inl ⟨by omega, rfl, C⟩)
  · refine wl_s (pc' := 6) ji_109_5 rfl rfl rfl ?_
    refine wl_bp ji_109_6 rfl ?_
    refine wl_icmp (t := 16) ji_109_8 rfl (by omega) (by omega) (fun (hb2 : (n : Int) ≤ 60) => ?_) (fun (hb2 : ¬ ((n : Int) ≤ 60)) => ?_)
    · refine wl_s (pc' := 17) ji_109_16 rfl rfl rfl ?_
      refine cs_gr (r := 95) (k := 4) C (by decide) sq_9 rfl ji_109_17 jf_109_45 ?_
      refine wl_s (pc' := 21) ji_109_20 rfl rfl rfl ?_
      refine cs_gr (r := 47) (k := 0) C (by decide) sq_9 rfl ji_109_21 jf_109_19 ?_
      refine wl_s (pc' := 25) ji_109_24 rfl rfl rfl ?_
      obtain ⟨q4, hq4⟩ := cs_c C (by decide) sq_95
      refine wl_vc (d := d + 5) (as := [.ref 95, .ref 47, wp_i n]) (rest := []) ji_109_25 jc_109_221 rfl hq4 jk_105.symm (Nat.le_of_ble_eq_true rfl) rfl (by rw [jn_105]; rfl) (uc_105 (d := d) C N (by omega)) (fun v1 h3 R => ?_)
      obtain ⟨rfl, t, f, fr, C⟩ := R
      obtain ⟨u, eu⟩ : ∃ z9_, lkC (tc (rulT s)) 98 t n.toNat = z9_ := ⟨_, rfl⟩
      rw [eu] at C
      have q : ∀ (b : Nat) (j : Int), ¬ (98 ≤ b ∧ b ≤ 105) → u b j = s b j := fun b j hb => by rw [← eu, lkC_fr (by omega) (by omega) (by omega)]; exact fr b j hb
      have G1 : IG u 98 := eu ▸ lkC_IG (IG_t N.g f) _ (by have := N.h; have e := f.2.2.2.2.2.1; omega)
      have i11 := G1.1.2.2.2.2.2.2.2.2.1
      show wl_R _ _ 109 28 [some (.ref 9), some (wp_i n)] [.ref 98] h3 _
      refine cs_gi (k := 9) (kI := 9) C (by decide) (by decide) sq_98 rfl rfl ji_109_28 jf_109_209 ?_
      have bd5 : wp_r (u 98 9) := cs_ri (k := 9) (kI := 9) C (by decide) (by decide) sq_98 rfl rfl (show 9 < 13 by decide)
      exact wl_ri ji_109_31 jr_109 rfl (Or.inr ⟨by omega, t, f, fr, (eu ▸ rfl), eu ▸ C⟩)
    · refine wl_bp ji_109_11 rfl ?_
      refine wl_goto (t := 31) ji_109_13 rfl ?_
      exact wl_ri ji_109_31 jr_109 rfl (Or.inl ⟨by omega, rfl, C⟩)
theorem uc_108 {nn d : Nat} {h : mj_H} {s : sg_} (C : CS h s) {tc : tcs} (N : NV s tc) {n w p : Int} (hr : wp_r n) (hw : wp_r w) (hp : wp_r p) : wl_R nn (d + 6) 108 0 [some (.ref 9), some (wp_i n), some (wp_i w), some (wp_i p)] [] h (fun v1 h1 => (¬ ((1 ≤ n ∧ n ≤ 60) ∧ (0 ≤ w ∧ w < s 48 1) ∧ 0 ≤ p ∧ p < s 48 0) ∧ v1 = some (wp_i (-2)) ∧ CS h1 s) ∨ (((1 ≤ n ∧ n ≤ 60) ∧ (0 ≤ w ∧ w < s 48 1) ∧ 0 ≤ p ∧ p < s 48 0) ∧ ∃ t, FCP s t 48 98 ∧ (∀ (b : Nat) (j : Int), ¬ (98 ≤ b ∧ b ≤ 105) → t b j = s b j) ∧ v1 = some (wp_i (lkC (tc (rulT s)) 98 t n.toNat 104 (p * 6 + w))) ∧ CS h1 (lkC (tc (rulT s)) 98 t n.toNat))) := by
  have i0 := N.g.1.1
  have i1 := N.g.1.2.1
  refine wl_s (pc' := 1) ji_108_0 rfl rfl rfl ?_
  refine wl_s (pc' := 2) ji_108_1 rfl rfl rfl ?_
  refine wl_icmp (t := 39) ji_108_2 rfl (by omega) (by omega) (fun (hb1 : (n : Int) < 1) => ?_) (fun (hb1 : ¬ ((n : Int) < 1)) => ?_)
  · refine wl_bp ji_108_39 rfl ?_
    exact wl_ri ji_108_41 jr_108 rfl (Or.inl ⟨by omega, rfl, C⟩)
  · refine wl_s (pc' := 6) ji_108_5 rfl rfl rfl ?_
    refine wl_bp ji_108_6 rfl ?_
    refine wl_icmp (t := 39) ji_108_8 rfl (by omega) (by omega) (fun (hb2 : (60 : Int) < n) => ?_) (fun (hb2 : ¬ ((60 : Int) < n)) => ?_)
    · refine wl_bp ji_108_39 rfl ?_
      exact wl_ri ji_108_41 jr_108 rfl (Or.inl ⟨by omega, rfl, C⟩)
    · refine wl_s (pc' := 12) ji_108_11 rfl rfl rfl ?_
      refine cs_gr (r := 47) (k := 0) C (by decide) sq_9 rfl ji_108_12 jf_108_19 ?_
      refine cs_gr (r := 48) (k := 0) C (by decide) sq_47 rfl ji_108_15 jf_108_49 ?_
      refine wl_s (pc' := 19) ji_108_18 rfl rfl rfl ?_
      obtain ⟨q4, hq4⟩ := cs_c C (by decide) sq_48
      refine wl_vc (d := d + 5) (as := [.ref 48, wp_i w]) (rest := []) ji_108_19 jc_108_177 rfl hq4 jk_80.symm (Nat.le_of_ble_eq_true rfl) rfl (by rw [jn_80]; rfl) (uc_80 (d := d + 5) C isF_48 (p := w) (by omega)) (fun v1 h3 R => ?_)
      obtain ⟨ee, y5, rfl, hy5a, hy5b⟩ := R
      rw [ee]
      clear ee
      show wl_R _ _ 108 22 [some (.ref 9), some (wp_i n), some (wp_i w), some (wp_i p)] [wp_i y5] _ _
      refine wl_if (t := 39) ji_108_22 rfl (by omega) (fun (hb6 : (y5 : Int) = 0) => ?_) (fun (hb6 : ¬ ((y5 : Int) = 0)) => ?_)
      · refine wl_bp ji_108_39 rfl ?_
        exact wl_ri ji_108_41 jr_108 rfl (Or.inl ⟨by omega, rfl, C⟩)
      · refine wl_s (pc' := 26) ji_108_25 rfl rfl rfl ?_
        refine cs_gr (r := 47) (k := 0) C (by decide) sq_9 rfl ji_108_26 jf_108_19 ?_
        refine cs_gr (r := 48) (k := 0) C (by decide) sq_47 rfl ji_108_29 jf_108_49 ?_
        refine wl_s (pc' := 33) ji_108_32 rfl rfl rfl ?_
        obtain ⟨q8, hq8⟩ := cs_c C (by decide) sq_48
        refine wl_vc (d := d + 5) (as := [.ref 48, wp_i p]) (rest := []) ji_108_33 jc_108_168 rfl hq8 jk_81.symm (Nat.le_of_ble_eq_true rfl) rfl (by rw [jn_81]; rfl) (uc_81 (d := d + 5) C isF_48 (p := p) (by omega)) (fun v1 h7 R => ?_)
        obtain ⟨ee, y9, rfl, hy9a, hy9b⟩ := R
        rw [ee]
        clear ee
        show wl_R _ _ 108 36 [some (.ref 9), some (wp_i n), some (wp_i w), some (wp_i p)] [wp_i y9] _ _
        refine wl_if (t := 42) ji_108_36 rfl (by omega) (fun (hb10 : ¬ (y9 : Int) = 0) => ?_) (fun (hb10 : ¬ (¬ (y9 : Int) = 0)) => ?_)
        · refine wl_s (pc' := 43) ji_108_42 rfl rfl rfl ?_
          refine cs_gr (r := 95) (k := 4) C (by decide) sq_9 rfl ji_108_43 jf_108_45 ?_
          refine wl_s (pc' := 47) ji_108_46 rfl rfl rfl ?_
          refine cs_gr (r := 47) (k := 0) C (by decide) sq_9 rfl ji_108_47 jf_108_19 ?_
          refine wl_s (pc' := 51) ji_108_50 rfl rfl rfl ?_
          obtain ⟨q12, hq12⟩ := cs_c C (by decide) sq_95
          refine wl_vc (d := d + 5) (as := [.ref 95, .ref 47, wp_i n]) (rest := []) ji_108_51 jc_108_221 rfl hq12 jk_105.symm (Nat.le_of_ble_eq_true rfl) rfl (by rw [jn_105]; rfl) (uc_105 (d := d) C N (by omega)) (fun v1 h11 R => ?_)
          obtain ⟨rfl, t, f, fr, C⟩ := R
          obtain ⟨u, eu⟩ : ∃ z9_, lkC (tc (rulT s)) 98 t n.toNat = z9_ := ⟨_, rfl⟩
          rw [eu] at C
          have q : ∀ (b : Nat) (j : Int), ¬ (98 ≤ b ∧ b ≤ 105) → u b j = s b j := fun b j hb => by rw [← eu, lkC_fr (by omega) (by omega) (by omega)]; exact fr b j hb
          have G1 : IG u 98 := eu ▸ lkC_IG (IG_t N.g f) _ (by have := N.h; have e := f.2.2.2.2.2.1; omega)
          have i11 := G1.1.2.2.2.2.2.2.2.2.1
          show wl_R _ _ 108 54 [some (.ref 9), some (wp_i n), some (wp_i w), some (wp_i p)] [.ref 98] h11 _
          refine cs_gr (r := 104) (k := 7) C (by decide) sq_98 rfl ji_108_54 jf_108_195 ?_
          refine wl_s (pc' := 58) ji_108_57 rfl rfl rfl ?_
          refine wl_bp ji_108_58 rfl ?_
          refine wl_imul (x := p) (y := 6) (z := p * 6) ji_108_60 (by omega) ?_
          refine wl_s (pc' := 62) ji_108_61 rfl rfl rfl ?_
          refine wl_iadd (x := p * 6) (y := w) (z := p * 6 + w) ji_108_62 (by omega) ?_
          refine cs_l (x := p * 6 + w) C (by decide) (by decide) sq_104 (by omega) ji_108_63 (fun ld130 ld131 ld132 => ?_)
          exact wl_ri ji_108_64 jr_108 rfl (Or.inr ⟨by omega, t, f, fr, (eu ▸ rfl), eu ▸ C⟩)
        · refine wl_bp ji_108_39 rfl ?_
          exact wl_ri ji_108_41 jr_108 rfl (Or.inl ⟨by omega, rfl, C⟩)
