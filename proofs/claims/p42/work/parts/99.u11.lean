/-! -/
/-! -/
set_option maxRecDepth 100000 in
theorem ji_63_12 : mj_ins 63 12 = some (.iload_n 3) := by decide +kernel
set_option maxRecDepth 100000 in
theorem ji_63_13 : mj_ins 63 13 = some (.aload_n 0) := by decide +kernel
set_option maxRecDepth 100000 in
theorem ji_63_14 : mj_ins 63 14 = some (.getfield 15) := by decide +kernel
set_option maxRecDepth 100000 in
theorem jf_63_15 : mj_fld 63 15 = some (3, 1, .int, true) := by decide +kernel
set_option maxRecDepth 100000 in
theorem ji_63_17 : mj_ins 63 17 = some (.if_icmp .ge 107) := by decide +kernel
set_option maxRecDepth 100000 in
theorem ji_63_124 : mj_ins 63 124 = some (.iinc 2 1) := by decide +kernel
set_option maxRecDepth 100000 in
theorem ji_63_127 : mj_ins 63 127 = some (.goto (-125)) := by decide +kernel
set_option maxRecDepth 100000 in
theorem ji_63_2 : mj_ins 63 2 = some (.iload_n 2) := by decide +kernel
set_option maxRecDepth 100000 in
theorem ji_63_3 : mj_ins 63 3 = some (.aload_n 0) := by decide +kernel
set_option maxRecDepth 100000 in
theorem ji_63_4 : mj_ins 63 4 = some (.getfield 9) := by decide +kernel
set_option maxRecDepth 100000 in
theorem jf_63_9 : mj_fld 63 9 = some (3, 0, .int, true) := by decide +kernel
set_option maxRecDepth 100000 in
theorem ji_63_7 : mj_ins 63 7 = some (.if_icmp .ge 123) := by decide +kernel
set_option maxRecDepth 100000 in
theorem ji_63_130 : mj_ins 63 130 = some (.aload_n 0) := by decide +kernel
set_option maxRecDepth 100000 in
theorem ji_63_131 : mj_ins 63 131 = some (.aload_n 0) := by decide +kernel
set_option maxRecDepth 100000 in
theorem ji_63_132 : mj_ins 63 132 = some (.aload_n 1) := by decide +kernel
set_option maxRecDepth 100000 in
theorem ji_63_133 : mj_ins 63 133 = some (.invokevirtual 101) := by decide +kernel
set_option maxRecDepth 100000 in
theorem jc_63_101 : mj_cal 63 101 = some (2, 72, 1) := by decide +kernel
set_option maxRecDepth 100000 in
theorem jn_72 : mj_nl 72 = 7 := by decide +kernel
set_option maxRecDepth 100000 in
theorem jk_72 : mj_cls 72 = 3 := by decide +kernel
set_option maxRecDepth 100000 in
theorem ji_63_136 : mj_ins 63 136 = some (.putfield 46) := by decide +kernel
set_option maxRecDepth 100000 in
theorem jf_63_46 : mj_fld 63 46 = some (3, 11, .int, true) := by decide +kernel
set_option maxRecDepth 100000 in
theorem ji_63_139 : mj_ins 63 139 = some (.aload_n 0) := by decide +kernel
set_option maxRecDepth 100000 in
theorem ji_63_140 : mj_ins 63 140 = some (.dup) := by decide +kernel
set_option maxRecDepth 100000 in
theorem ji_63_141 : mj_ins 63 141 = some (.getfield 43) := by decide +kernel
set_option maxRecDepth 100000 in
theorem jf_63_43 : mj_fld 63 43 = some (3, 10, .int, true) := by decide +kernel
set_option maxRecDepth 100000 in
theorem ji_63_144 : mj_ins 63 144 = some (.iconst 1) := by decide +kernel
set_option maxRecDepth 100000 in
theorem ji_63_145 : mj_ins 63 145 = some (.iadd) := by decide +kernel
set_option maxRecDepth 100000 in
theorem ji_63_146 : mj_ins 63 146 = some (.putfield 43) := by decide +kernel
set_option maxRecDepth 100000 in
theorem ji_63_149 : mj_ins 63 149 = some (.return_) := by decide +kernel
set_option maxRecDepth 100000 in
theorem jr_63 : mj_ret 63 = none := by decide +kernel
set_option maxRecDepth 100000 in
theorem ji_63_10 : mj_ins 63 10 = some (.iconst 0) := by decide +kernel
set_option maxRecDepth 100000 in
theorem ji_63_11 : mj_ins 63 11 = some (.istore_n 3) := by decide +kernel
set_option maxRecDepth 100000 in
theorem ji_63_20 : mj_ins 63 20 = some (.iload_n 2) := by decide +kernel
set_option maxRecDepth 100000 in
theorem ji_63_21 : mj_ins 63 21 = some (.bipush 6) := by decide +kernel
set_option maxRecDepth 100000 in
theorem ji_63_23 : mj_ins 63 23 = some (.imul) := by decide +kernel
set_option maxRecDepth 100000 in
theorem ji_63_24 : mj_ins 63 24 = some (.iload_n 3) := by decide +kernel
set_option maxRecDepth 100000 in
theorem ji_63_25 : mj_ins 63 25 = some (.iadd) := by decide +kernel
set_option maxRecDepth 100000 in
theorem ji_63_26 : mj_ins 63 26 = some (.istore 4) := by decide +kernel
set_option maxRecDepth 100000 in
theorem ji_63_28 : mj_ins 63 28 = some (.aload_n 0) := by decide +kernel
set_option maxRecDepth 100000 in
theorem ji_63_29 : mj_ins 63 29 = some (.getfield 34) := by decide +kernel
set_option maxRecDepth 100000 in
theorem jf_63_34 : mj_fld 63 34 = some (3, 7, (.array .int), false) := by decide +kernel
set_option maxRecDepth 100000 in
theorem ji_63_32 : mj_ins 63 32 = some (.iload 4) := by decide +kernel
set_option maxRecDepth 100000 in
theorem ji_63_34 : mj_ins 63 34 = some (.iaload) := by decide +kernel
set_option maxRecDepth 100000 in
theorem ji_63_35 : mj_ins 63 35 = some (.iconst (-1)) := by decide +kernel
set_option maxRecDepth 100000 in
theorem ji_63_36 : mj_ins 63 36 = some (.if_icmp .ne 6) := by decide +kernel
set_option maxRecDepth 100000 in
theorem ji_63_42 : mj_ins 63 42 = some (.aload_n 0) := by decide +kernel
set_option maxRecDepth 100000 in
theorem ji_63_43 : mj_ins 63 43 = some (.getfield 34) := by decide +kernel
set_option maxRecDepth 100000 in
theorem ji_63_46 : mj_ins 63 46 = some (.iload 4) := by decide +kernel
set_option maxRecDepth 100000 in
theorem ji_63_48 : mj_ins 63 48 = some (.iaload) := by decide +kernel
set_option maxRecDepth 100000 in
theorem ji_63_49 : mj_ins 63 49 = some (.aload_n 1) := by decide +kernel
set_option maxRecDepth 100000 in
theorem ji_63_50 : mj_ins 63 50 = some (.iconst 0) := by decide +kernel
set_option maxRecDepth 100000 in
theorem ji_63_51 : mj_ins 63 51 = some (.aload_n 0) := by decide +kernel
set_option maxRecDepth 100000 in
theorem ji_63_52 : mj_ins 63 52 = some (.iload_n 2) := by decide +kernel
set_option maxRecDepth 100000 in
theorem ji_63_53 : mj_ins 63 53 = some (.iload_n 3) := by decide +kernel
set_option maxRecDepth 100000 in
theorem ji_63_54 : mj_ins 63 54 = some (.invokevirtual 91) := by decide +kernel
set_option maxRecDepth 100000 in
theorem jc_63_91 : mj_cal 63 91 = some (2, 64, 4) := by decide +kernel
set_option maxRecDepth 100000 in
theorem ji_63_57 : mj_ins 63 57 = some (.iadd) := by decide +kernel
set_option maxRecDepth 100000 in
theorem ji_63_58 : mj_ins 63 58 = some (.istore 5) := by decide +kernel
set_option maxRecDepth 100000 in
theorem ji_63_60 : mj_ins 63 60 = some (.aload_n 0) := by decide +kernel
set_option maxRecDepth 100000 in
theorem ji_63_61 : mj_ins 63 61 = some (.getfield 34) := by decide +kernel
set_option maxRecDepth 100000 in
theorem ji_63_64 : mj_ins 63 64 = some (.iload 4) := by decide +kernel
set_option maxRecDepth 100000 in
theorem ji_63_66 : mj_ins 63 66 = some (.iconst 0) := by decide +kernel
set_option maxRecDepth 100000 in
theorem ji_63_67 : mj_ins 63 67 = some (.aload_n 0) := by decide +kernel
set_option maxRecDepth 100000 in
theorem ji_63_68 : mj_ins 63 68 = some (.getfield 22) := by decide +kernel
set_option maxRecDepth 100000 in
theorem jf_63_22 : mj_fld 63 22 = some (3, 3, (.array .int), false) := by decide +kernel
set_option maxRecDepth 100000 in
theorem ji_63_71 : mj_ins 63 71 = some (.iload_n 2) := by decide +kernel
set_option maxRecDepth 100000 in
theorem ji_63_72 : mj_ins 63 72 = some (.iaload) := by decide +kernel
set_option maxRecDepth 100000 in
theorem ji_63_73 : mj_ins 63 73 = some (.iload 5) := by decide +kernel
set_option maxRecDepth 100000 in
theorem ji_63_75 : mj_ins 63 75 = some (.invokestatic 84) := by decide +kernel
set_option maxRecDepth 100000 in
theorem jc_63_84 : mj_cal 63 84 = some (11, 0, 0) := by decide +kernel
set_option maxRecDepth 100000 in
theorem ji_63_78 : mj_ins 63 78 = some (.invokestatic 69) := by decide +kernel
set_option maxRecDepth 100000 in
theorem jc_63_69 : mj_cal 63 69 = some (10, 0, 0) := by decide +kernel
set_option maxRecDepth 100000 in
theorem ji_63_81 : mj_ins 63 81 = some (.iastore) := by decide +kernel
set_option maxRecDepth 100000 in
theorem ji_63_82 : mj_ins 63 82 = some (.aload_n 0) := by decide +kernel
set_option maxRecDepth 100000 in
theorem ji_63_83 : mj_ins 63 83 = some (.getfield 37) := by decide +kernel
set_option maxRecDepth 100000 in
theorem jf_63_37 : mj_fld 63 37 = some (3, 8, (.array .int), false) := by decide +kernel
set_option maxRecDepth 100000 in
theorem ji_63_86 : mj_ins 63 86 = some (.iload 4) := by decide +kernel
set_option maxRecDepth 100000 in
theorem ji_63_88 : mj_ins 63 88 = some (.dup2) := by decide +kernel
set_option maxRecDepth 100000 in
theorem ji_63_89 : mj_ins 63 89 = some (.iaload) := by decide +kernel
set_option maxRecDepth 100000 in
theorem ji_63_90 : mj_ins 63 90 = some (.aload_n 1) := by decide +kernel
set_option maxRecDepth 100000 in
theorem ji_63_91 : mj_ins 63 91 = some (.iconst 1) := by decide +kernel
set_option maxRecDepth 100000 in
theorem ji_63_92 : mj_ins 63 92 = some (.aload_n 0) := by decide +kernel
set_option maxRecDepth 100000 in
theorem ji_63_93 : mj_ins 63 93 = some (.iload_n 2) := by decide +kernel
set_option maxRecDepth 100000 in
theorem ji_63_94 : mj_ins 63 94 = some (.iload_n 3) := by decide +kernel
set_option maxRecDepth 100000 in
theorem ji_63_95 : mj_ins 63 95 = some (.invokevirtual 91) := by decide +kernel
set_option maxRecDepth 100000 in
theorem ji_63_98 : mj_ins 63 98 = some (.iadd) := by decide +kernel
set_option maxRecDepth 100000 in
theorem ji_63_99 : mj_ins 63 99 = some (.iastore) := by decide +kernel
set_option maxRecDepth 100000 in
theorem ji_63_100 : mj_ins 63 100 = some (.aload_n 0) := by decide +kernel
set_option maxRecDepth 100000 in
theorem ji_63_101 : mj_ins 63 101 = some (.getfield 37) := by decide +kernel
set_option maxRecDepth 100000 in
theorem ji_63_104 : mj_ins 63 104 = some (.iload 4) := by decide +kernel
set_option maxRecDepth 100000 in
theorem ji_63_106 : mj_ins 63 106 = some (.iaload) := by decide +kernel
set_option maxRecDepth 100000 in
theorem ji_63_107 : mj_ins 63 107 = some (.bipush 99) := by decide +kernel
set_option maxRecDepth 100000 in
theorem ji_63_109 : mj_ins 63 109 = some (.if_icmp .le 9) := by decide +kernel
set_option maxRecDepth 100000 in
theorem ji_63_118 : mj_ins 63 118 = some (.iinc 3 1) := by decide +kernel
set_option maxRecDepth 100000 in
theorem ji_63_121 : mj_ins 63 121 = some (.goto (-109)) := by decide +kernel
set_option maxRecDepth 100000 in
theorem ji_63_112 : mj_ins 63 112 = some (.aload_n 0) := by decide +kernel
set_option maxRecDepth 100000 in
theorem ji_63_113 : mj_ins 63 113 = some (.iload_n 3) := by decide +kernel
set_option maxRecDepth 100000 in
theorem ji_63_114 : mj_ins 63 114 = some (.iload_n 2) := by decide +kernel
set_option maxRecDepth 100000 in
theorem ji_63_115 : mj_ins 63 115 = some (.invokevirtual 97) := by decide +kernel
set_option maxRecDepth 100000 in
theorem jc_63_97 : mj_cal 63 97 = some (2, 71, 2) := by decide +kernel
set_option maxRecDepth 100000 in
theorem jn_71 : mj_nl 71 = 3 := by decide +kernel
set_option maxRecDepth 100000 in
theorem jk_71 : mj_cls 71 = 3 := by decide +kernel
set_option maxRecDepth 100000 in
theorem ji_63_39 : mj_ins 63 39 = some (.goto 79) := by decide +kernel
set_option maxRecDepth 100000 in
theorem ji_63_0 : mj_ins 63 0 = some (.iconst 0) := by decide +kernel
set_option maxRecDepth 100000 in
theorem ji_63_1 : mj_ins 63 1 = some (.istore_n 2) := by decide +kernel
/-! an hour but for its wind, in the class; laid by program (wp_u11.py) -/
/-- small invariants of a forest, with the wears of flags that are up -/
def IG (s : sg_) (F : Nat) : Prop := IF s F ∧ ∀ k, 0 ≤ k → k < 48 → ¬ s (F + 6) k = -1 → s (F + 7) k ≤ 99
def psW (cd : cds) (F : Nat) (p w : Int) (s : sg_) : sg_ := if s (F + 6) (p * 6 + w) = -1 then s else
  let s1 := up s (F + 6) (p * 6 + w) (max 0 (min (s (F + 2) p) (s (F + 6) (p * 6 + w) + sayC cd s F p w 0)))
  let s2 := up s1 (F + 7) (p * 6 + w) (s1 (F + 7) (p * 6 + w) + sayC cd s1 F p w 1)
  if 99 < s2 (F + 7) (p * 6 + w) then up s2 (F + 6) (p * 6 + w) (-1) else s2
def psWs (cd : cds) (F : Nat) (p : Int) : Nat → sg_ → sg_
  | 0, s => s
  | n + 1, s => psW cd F p n (psWs cd F p n s)
def psPs (cd : cds) (F q : Nat) : Nat → sg_ → sg_
  | 0, s => s
  | m + 1, s => psWs cd F m q (psPs cd F q m s)
def passA (cd : cds) (F : Nat) (s : sg_) : sg_ := psPs cd F (s F 1).toNat (s F 0).toNat s
def passC (cd : cds) (F : Nat) (s : sg_) : sg_ := up (up (passA cd F s) F 11 (heirC cd (passA cd F s) F)) F 10 (s F 10 + 1)
theorem IF_h {s : sg_} {F : Nat} (I : IF s F) {k y : Int} (hy : -1 ≤ y ∧ y ≤ 99) : IF (up s (F + 6) k y) F := by
  obtain ⟨i0, i1, i2, i4, i6, i7, i8⟩ := I
  refine ⟨by rw [up_a (by omega)]; exact i0, by rw [up_a (by omega)]; exact i1, fun p a b => by rw [up_a (by omega)]; exact i2 p a b, fun p a b => by rw [up_a (by omega)]; exact i4 p a b, fun j a b => ?_, fun j a b => by rw [up_a (by omega)]; exact i7 j a b, by rw [up_a (by omega), up_a (by omega), up_a (by omega), up_a (by omega)]; exact i8⟩
  by_cases e : j = k
  · rw [e, up_e]; exact hy
  · rw [up_k e]; exact i6 j a b
theorem IF_w {s : sg_} {F : Nat} (I : IF s F) {k y : Int} (hy : 0 ≤ y ∧ y ≤ 199) : IF (up s (F + 7) k y) F := by
  obtain ⟨i0, i1, i2, i4, i6, i7, i8⟩ := I
  refine ⟨by rw [up_a (by omega)]; exact i0, by rw [up_a (by omega)]; exact i1, fun p a b => by rw [up_a (by omega)]; exact i2 p a b, fun p a b => by rw [up_a (by omega)]; exact i4 p a b, fun j a b => by rw [up_a (by omega)]; exact i6 j a b, fun j a b => ?_, by rw [up_a (by omega), up_a (by omega), up_a (by omega), up_a (by omega)]; exact i8⟩
  by_cases e : j = k
  · rw [e, up_e]; exact hy
  · rw [up_k e]; exact i7 j a b
theorem psW_fr {cd : cds} {F : Nat} {p w : Int} {s : sg_} {b : Nat} {j : Int} (h6 : ¬ b = F + 6) (h7 : ¬ b = F + 7) : psW cd F p w s b j = s b j := by
  unfold psW
  split
  · rfl
  · dsimp only
    split
    · rw [up_a h6, up_a h7, up_a h6]
    · rw [up_a h7, up_a h6]
theorem psWs_fr {cd : cds} {F : Nat} {p : Int} {s : sg_} {b : Nat} {j : Int} (h6 : ¬ b = F + 6) (h7 : ¬ b = F + 7) : ∀ n : Nat, psWs cd F p n s b j = s b j
  | 0 => rfl
  | n + 1 => (psW_fr h6 h7).trans (psWs_fr h6 h7 n)
theorem psPs_fr {cd : cds} {F q : Nat} {s : sg_} {b : Nat} {j : Int} (h6 : ¬ b = F + 6) (h7 : ¬ b = F + 7) : ∀ m : Nat, psPs cd F q m s b j = s b j
  | 0 => rfl
  | m + 1 => (psWs_fr h6 h7 q).trans (psPs_fr h6 h7 m)
theorem psW_IG {cd : cds} {F : Nat} {p w : Int} {s : sg_} (G : IG s F) (hp : 0 ≤ p ∧ p < 8) (hw : 0 ≤ w ∧ w < 6) : IG (psW cd F p w s) F := by
  unfold psW
  split
  · exact G
  · rename_i hx
    have b2 := G.1.2.2.1 p hp.1 hp.2
    have b7 := G.1.2.2.2.2.2.1 (p * 6 + w) (by omega) (by omega)
    have b8 := G.2 (p * 6 + w) (by omega) (by omega) hx
    have hs0 := sayC_r G.1 cd (p := p) (w := w) (l := 0) (by omega) hp hw
    obtain ⟨s1, e1⟩ : ∃ z, up s (F + 6) (p * 6 + w) (max 0 (min (s (F + 2) p) (s (F + 6) (p * 6 + w) + sayC cd s F p w 0))) = z := ⟨_, rfl⟩
    have I1 : IF s1 F := e1 ▸ IF_h G.1 (by omega)
    have hs1 := sayC_r I1 cd (p := p) (w := w) (l := 1) (by omega) hp hw
    have q1 : s1 (F + 7) (p * 6 + w) = s (F + 7) (p * 6 + w) := by rw [← e1, up_a (by omega)]
    dsimp only
    rw [e1, q1]
    obtain ⟨s2, e2⟩ : ∃ z, up s1 (F + 7) (p * 6 + w) (s (F + 7) (p * 6 + w) + sayC cd s1 F p w 1) = z := ⟨_, rfl⟩
    rw [e2]
    have I2 : IF s2 F := e2 ▸ IF_w I1 (by omega)
    have q2 : s2 (F + 7) (p * 6 + w) = s (F + 7) (p * 6 + w) + sayC cd s1 F p w 1 := by rw [← e2, up_e]
    have q3 : ∀ k, ¬ k = p * 6 + w → s2 (F + 6) k = s (F + 6) k ∧ s2 (F + 7) k = s (F + 7) k := fun k hk => ⟨by rw [← e2, up_a (by omega), ← e1, up_k hk], by rw [← e2, up_k hk, ← e1, up_a (by omega)]⟩
    split
    · refine ⟨IF_h I2 (by omega), fun k a b c => ?_⟩
      by_cases e : k = p * 6 + w
      · rw [e, up_e] at c
        exact absurd rfl c
      · rw [up_k e, (q3 k e).1] at c
        rw [up_a (by omega), (q3 k e).2]
        exact G.2 k a b c
    · refine ⟨I2, fun k a b c => ?_⟩
      by_cases e : k = p * 6 + w
      · rw [e]
        omega
      · rw [(q3 k e).1] at c
        rw [(q3 k e).2]
        exact G.2 k a b c
theorem psWs_IG {cd : cds} {F : Nat} {p : Int} {s : sg_} (G : IG s F) (hp : 0 ≤ p ∧ p < 8) : ∀ n : Nat, n ≤ 6 → IG (psWs cd F p n s) F
  | 0, _ => G
  | n + 1, h => psW_IG (psWs_IG G hp n (by omega)) hp (by omega)
theorem psPs_IG {cd : cds} {F q : Nat} {s : sg_} (G : IG s F) (hq : q ≤ 6) : ∀ m : Nat, m ≤ 8 → IG (psPs cd F q m s) F
  | 0, _ => G
  | m + 1, h => psWs_IG (psPs_IG G hq m (by omega)) (by omega) q hq
theorem passA_IG {cd : cds} {F : Nat} {s : sg_} (G : IG s F) : IG (passA cd F s) F := psPs_IG G (by have := G.1.2.1; omega) _ (by have := G.1.1; omega)
theorem passA_fr {cd : cds} {F : Nat} {s : sg_} {b : Nat} {j : Int} (h6 : ¬ b = F + 6) (h7 : ¬ b = F + 7) : passA cd F s b j = s b j := psPs_fr h6 h7 _
theorem SC_f {s s1 : sg_} (e6 : ∀ j, s1 6 j = s 6 j) (e7 : ∀ j, s1 7 j = s 7 j) (H : SC s) : SC s1 := by
  unfold SC at H ⊢
  simp only [e6, e7]
  exact H
theorem uc_63l {d : Nat} {s : sg_} {T : Nat} (hT : isT T) {F : Nat} (hF : isF F) {cd : cds} (i0 : 0 ≤ s F 0 ∧ s F 0 ≤ 8) (i1 : 0 ≤ s F 1 ∧ s F 1 ≤ 6) : ∀ (nn p w : Nat) (t : sg_) (l4 l5 : Option Value) (h : mj_H), CS h t → (p : Int) < s F 0 → (w : Int) ≤ s F 1 → t = psWs cd F p w (psPs cd F (s F 1).toNat p s) → IG t F → TXC t T cd → SC t → t F 0 = s F 0 → t F 1 = s F 1 → wl_R nn (d + 4) 63 12 [some (.ref F), some (.ref T), some (wp_i ((p : Int))), some (wp_i ((w : Int))), l4, l5] [] h (fun v1 h1 => v1 = none ∧ CS h1 (passC cd F s)) := by
  intro nn
  induction nn with
  | zero => intros; exact wl_0
  | succ nn ih =>
    intro p w t l4 l5 h C hp hw ht G H H2 e0 e1
    have hFb := isF_b hF
    have hTb := isT_b hT
    obtain ⟨k, hk⟩ : ∃ k, k = (p : Int) * 6 + (w : Int) := ⟨_, rfl⟩
    refine wl_s1 (pc' := 13) ji_63_12 rfl rfl rfl ?_
    refine wl_s (pc' := 14) ji_63_13 rfl rfl rfl ?_
    refine cs_gi (k := 1) (kI := 1) C (Nat.lt_of_lt_of_le (by decide) hF.1) (isF_n hF 0 (by decide)) hF.2.1 rfl rfl ji_63_14 jf_63_15 ?_
    rw [e1]
    have bd1 : wp_r (s F 1) := e1 ▸ cs_ri (k := 1) (kI := 1) C (Nat.lt_of_lt_of_le (by decide) hF.1) (isF_n hF 0 (by decide)) hF.2.1 rfl rfl (show 1 < 13 by decide)
    refine wl_icmp (t := 124) ji_63_17 rfl (by omega) (by omega) (fun (hb2 : (s F 1 : Int) ≤ ((w : Int))) => ?_) (fun (hb2 : ¬ ((s F 1 : Int) ≤ ((w : Int)))) => ?_)
    · refine wl_iinc (x := (p : Int)) (z := (p : Int) + 1) (lv' := [some (.ref F), some (.ref T), some (wp_i ((p : Int) + 1)), some (wp_i ((w : Int))), l4, l5]) ji_63_124 rfl (Nat.le_of_ble_eq_true rfl) (by omega) rfl ?_
      refine wl_goto (t := 2) ji_63_127 rfl ?_
      refine wl_s (pc' := 3) ji_63_2 rfl rfl rfl ?_
      refine wl_s (pc' := 4) ji_63_3 rfl rfl rfl ?_
      refine cs_gi (k := 0) (kI := 0) C (Nat.lt_of_lt_of_le (by decide) hF.1) (isF_n hF 0 (by decide)) hF.2.1 rfl rfl ji_63_4 jf_63_9 ?_
      rw [e0]
      have bd3 : wp_r (s F 0) := e0 ▸ cs_ri (k := 0) (kI := 0) C (Nat.lt_of_lt_of_le (by decide) hF.1) (isF_n hF 0 (by decide)) hF.2.1 rfl rfl (show 0 < 13 by decide)
      refine wl_icmp (t := 130) ji_63_7 rfl (by omega) (by omega) (fun (hb4 : (s F 0 : Int) ≤ ((p : Int) + 1)) => ?_) (fun (hb4 : ¬ ((s F 0 : Int) ≤ ((p : Int) + 1))) => ?_)
      · refine wl_s (pc' := 131) ji_63_130 rfl rfl rfl ?_
        refine wl_s (pc' := 132) ji_63_131 rfl rfl rfl ?_
        refine wl_s (pc' := 133) ji_63_132 rfl rfl rfl ?_
        obtain ⟨q6, hq6⟩ := cs_c C (Nat.lt_of_lt_of_le (by decide) hF.1) hF.2.1
        refine wl_vc (d := d + 3) (as := [.ref F, .ref T]) (rest := [.ref F]) ji_63_133 jc_63_101 rfl hq6 jk_72.symm (Nat.le_of_ble_eq_true rfl) rfl (by rw [jn_72]; rfl) (uc_72 (d := d) C hT hF H H2 G.1) (fun v1 h5 R => ?_)
        obtain ⟨rfl, C⟩ := R
        have hy7r := heirC_r (cd := cd) G.1
        obtain ⟨y7, hy7⟩ : ∃ z9_, heirC cd t F = z9_ := ⟨_, rfl⟩
        rw [hy7] at hy7r ⊢
        show wl_R _ _ 63 136 [some (.ref F), some (.ref T), some (wp_i ((p : Int) + 1)), some (wp_i ((w : Int))), l4, l5] [wp_i y7, .ref F] h5 _
        refine cs_pi (k := 11) (kI := 11) (y := y7) C hF.1 hF.2.1 rfl rfl ji_63_136 jf_63_46 rfl rfl (by omega) (fun h C => ?_)
        obtain ⟨s8, es8⟩ : ∃ z9_, up t F 11 y7 = z9_ := ⟨_, rfl⟩
        rw [es8] at C
        refine wl_s (pc' := 140) ji_63_139 rfl rfl rfl ?_
        refine wl_s (pc' := 141) ji_63_140 rfl rfl rfl ?_
        refine cs_gi (k := 10) (kI := 10) C (Nat.lt_of_lt_of_le (by decide) hF.1) (isF_n hF 0 (by decide)) hF.2.1 rfl rfl ji_63_141 jf_63_43 ?_
        have rd9 : s8 F 10 = t F 10 := by rw [← es8, up_k (by decide)]
        rw [rd9]
        have bd10 := G.1.2.2.2.2.2.2.2.1
        refine wl_s (pc' := 145) ji_63_144 rfl rfl rfl ?_
        refine wl_iadd (x := t F 10) (y := 1) (z := t F 10 + 1) ji_63_145 (by omega) ?_
        refine cs_pi (k := 10) (kI := 10) (y := t F 10 + 1) C hF.1 hF.2.1 rfl rfl ji_63_146 jf_63_43 rfl rfl (by omega) (fun h C => ?_)
        obtain ⟨s11, es11⟩ : ∃ z9_, up s8 F 10 (t F 10 + 1) = z9_ := ⟨_, rfl⟩
        rw [es11] at C
        exact wl_rv ji_63_149 jr_63 (⟨rfl, cs_mono C (by rw [← es11, ← es8, ← hy7, show t = passA cd F s by rw [ht]; unfold passA; rw [show (s F 0).toNat = p + 1 by omega, show (s F 1).toNat = w by omega]; rfl]; unfold passC; rw [passA_fr (by omega) (by omega)])⟩)
      · refine wl_s (pc' := 11) ji_63_10 rfl rfl rfl ?_
        refine wl_s (pc' := 12) (lv' := [some (.ref F), some (.ref T), some (wp_i ((p : Int) + 1)), some (wp_i 0), l4, l5]) ji_63_11 rfl rfl rfl ?_
        rw [show (p : Int) + 1 = ((p + 1 : Nat) : Int) by omega]
        exact ih (p + 1) 0 t _ _ _ C (by omega) (by omega) (by rw [ht, show w = (s F 1).toNat by omega]; rfl) G H H2 e0 e1
    · refine wl_s (pc' := 21) ji_63_20 rfl rfl rfl ?_
      refine wl_bp ji_63_21 rfl ?_
      refine wl_imul (x := (p : Int)) (y := 6) (z := ((p : Int)) * 6) ji_63_23 (by omega) ?_
      refine wl_s (pc' := 25) ji_63_24 rfl rfl rfl ?_
      refine wl_iadd (x := ((p : Int)) * 6) (y := (w : Int)) (z := k) ji_63_25 (by omega) ?_
      refine wl_s (pc' := 28) (lv' := [some (.ref F), some (.ref T), some (wp_i ((p : Int))), some (wp_i ((w : Int))), some (wp_i k), l5]) ji_63_26 rfl rfl rfl ?_
      refine wl_s (pc' := 29) ji_63_28 rfl rfl rfl ?_
      refine cs_gr (r := F + 6) (k := 7) C (Nat.lt_of_lt_of_le (by decide) hF.1) hF.2.1 rfl ji_63_29 jf_63_34 ?_
      refine wl_s (pc' := 34) ji_63_32 rfl rfl rfl ?_
      refine cs_l (x := k) C (Nat.lt_of_lt_of_le (by decide) (Nat.le_trans hF.1 (Nat.le_add_right _ _))) (isF_n hF 6 (by decide)) hF.2.2.2.2.2.2.2.1 (by omega) ji_63_34 (fun ld120 ld121 ld122 => ?_)
      have bd13 := G.1.2.2.2.2.1 (k) (by omega) (by omega)
      refine wl_s (pc' := 36) ji_63_35 rfl rfl rfl ?_
      refine wl_icmp (t := 42) ji_63_36 rfl (by omega) (by omega) (fun (hb14 : ¬ (t (F + 6) k : Int) = (-1)) => ?_) (fun (hb14 : ¬ (¬ (t (F + 6) k : Int) = (-1))) => ?_)
      · refine wl_s (pc' := 43) ji_63_42 rfl rfl rfl ?_
        refine cs_gr (r := F + 6) (k := 7) C (Nat.lt_of_lt_of_le (by decide) hF.1) hF.2.1 rfl ji_63_43 jf_63_34 ?_
        refine wl_s (pc' := 48) ji_63_46 rfl rfl rfl ?_
        refine cs_l (x := k) C (Nat.lt_of_lt_of_le (by decide) (Nat.le_trans hF.1 (Nat.le_add_right _ _))) (isF_n hF 6 (by decide)) hF.2.2.2.2.2.2.2.1 (by omega) ji_63_48 (fun ld150 ld151 ld152 => ?_)
        refine wl_s (pc' := 50) ji_63_49 rfl rfl rfl ?_
        refine wl_s (pc' := 51) ji_63_50 rfl rfl rfl ?_
        refine wl_s (pc' := 52) ji_63_51 rfl rfl rfl ?_
        refine wl_s (pc' := 53) ji_63_52 rfl rfl rfl ?_
        refine wl_s (pc' := 54) ji_63_53 rfl rfl rfl ?_
        obtain ⟨q17, hq17⟩ := cs_c C (Nat.lt_of_lt_of_le (by decide) hT.1) hT.2.1
        refine wl_vc (d := d + 3) (as := [.ref T, wp_i 0, .ref F, wp_i ((p : Int)), wp_i ((w : Int))]) (rest := [wp_i (t (F + 6) k)]) ji_63_54 jc_63_91 rfl hq17 jk_64.symm (Nat.le_of_ble_eq_true rfl) rfl (by rw [jn_64]; rfl) (uc_64 (d := d + 1) C hT hF G.1 H H2 (p := (p : Int)) (w := (w : Int)) (l := 0) (by omega) (by omega) (by omega)) (fun v1 h16 R => ?_)
        obtain ⟨rfl, C⟩ := R
        obtain ⟨y18, hy18⟩ : ∃ z9_, sayC cd t F ((p : Int)) ((w : Int)) 0 = z9_ := ⟨_, rfl⟩
        have hy18r := sayC_r G.1 cd (p := (p : Int)) (w := (w : Int)) (l := 0) (by omega) (by omega) (by omega)
        rw [hy18] at hy18r ⊢
        show wl_R _ _ 63 57 [some (.ref F), some (.ref T), some (wp_i ((p : Int))), some (wp_i ((w : Int))), some (wp_i k), l5] [wp_i y18, wp_i (t (F + 6) k)] h16 _
        refine wl_iadd (x := t (F + 6) k) (y := y18) (z := t (F + 6) k + y18) ji_63_57 (by omega) ?_
        refine wl_s (pc' := 60) (lv' := [some (.ref F), some (.ref T), some (wp_i ((p : Int))), some (wp_i ((w : Int))), some (wp_i k), some (wp_i (t (F + 6) k + y18))]) ji_63_58 rfl rfl rfl ?_
        refine wl_s (pc' := 61) ji_63_60 rfl rfl rfl ?_
        refine cs_gr (r := F + 6) (k := 7) C (Nat.lt_of_lt_of_le (by decide) hF.1) hF.2.1 rfl ji_63_61 jf_63_34 ?_
        refine wl_s (pc' := 66) ji_63_64 rfl rfl rfl ?_
        refine wl_s (pc' := 67) ji_63_66 rfl rfl rfl ?_
        refine wl_s (pc' := 68) ji_63_67 rfl rfl rfl ?_
        refine cs_gr (r := F + 2) (k := 3) C (Nat.lt_of_lt_of_le (by decide) hF.1) hF.2.1 rfl ji_63_68 jf_63_22 ?_
        refine wl_s (pc' := 72) ji_63_71 rfl rfl rfl ?_
        refine cs_l (x := (p : Int)) C (Nat.lt_of_lt_of_le (by decide) (Nat.le_trans hF.1 (Nat.le_add_right _ _))) (isF_n hF 2 (by decide)) hF.2.2.2.1 (by omega) ji_63_72 (fun ld190 ld191 ld192 => ?_)
        have bd20 := G.1.2.2.1 ((p : Int)) (by omega) (by omega)
        refine wl_s (pc' := 75) ji_63_73 rfl rfl rfl ?_
        refine wl_mn (a := t (F + 2) ((p : Int))) (b := t (F + 6) k + y18) ji_63_75 jc_63_84 (Nat.le_of_ble_eq_true rfl) (by omega) (by omega) ?_
        refine wl_mx (a := 0) (b := min (t (F + 2) ((p : Int))) (t (F + 6) k + y18)) ji_63_78 jc_63_69 (Nat.le_of_ble_eq_true rfl) (by omega) (by omega) ?_
        refine cs_s (x := k) (y := max 0 (min (t (F + 2) ((p : Int))) (t (F + 6) k + y18))) C (Nat.lt_of_lt_of_le (by decide) (Nat.le_trans hF.1 (Nat.le_add_right _ _))) hF.2.2.2.2.2.2.2.1 (by omega) (by omega) ji_63_81 (fun h st210 st211 C => ?_)
        obtain ⟨s22, es22⟩ : ∃ z9_, up t (F + 6) k (max 0 (min (t (F + 2) ((p : Int))) (t (F + 6) k + y18))) = z9_ := ⟨_, rfl⟩
        rw [es22] at C
        refine wl_s (pc' := 83) ji_63_82 rfl rfl rfl ?_
        refine cs_gr (r := F + 7) (k := 8) C (Nat.lt_of_lt_of_le (by decide) hF.1) hF.2.1 rfl ji_63_83 jf_63_37 ?_
        refine wl_s (pc' := 88) ji_63_86 rfl rfl rfl ?_
        refine wl_s (pc' := 89) ji_63_88 rfl rfl rfl ?_
        refine cs_l (x := k) C (Nat.lt_of_lt_of_le (by decide) (Nat.le_trans hF.1 (Nat.le_add_right _ _))) (isF_n hF 7 (by decide)) hF.2.2.2.2.2.2.2.2.1 (by omega) ji_63_89 (fun ld230 ld231 ld232 => ?_)
        have rd24 : s22 (F + 7) k = t (F + 7) k := by rw [← es22, up_a (by omega)]
        rw [rd24] at ld232 ⊢
        have bd25 := G.1.2.2.2.2.2.1 (k) (by omega) (by omega)
        refine wl_s (pc' := 91) ji_63_90 rfl rfl rfl ?_
        refine wl_s (pc' := 92) ji_63_91 rfl rfl rfl ?_
        refine wl_s (pc' := 93) ji_63_92 rfl rfl rfl ?_
        refine wl_s (pc' := 94) ji_63_93 rfl rfl rfl ?_
        refine wl_s (pc' := 95) ji_63_94 rfl rfl rfl ?_
        have I1 : IF s22 F := es22 ▸ IF_h G.1 (by omega)
        have H1 : TXC s22 T cd := TXC_f (fun b j _ _ => by rw [← es22, up_a (by omega)]) H
        have G1 : SC s22 := SC_f (fun j => by rw [← es22, up_a (by omega)]) (fun j => by rw [← es22, up_a (by omega)]) H2
        obtain ⟨q27, hq27⟩ := cs_c C (Nat.lt_of_lt_of_le (by decide) hT.1) hT.2.1
        refine wl_vc (d := d + 3) (as := [.ref T, wp_i 1, .ref F, wp_i ((p : Int)), wp_i ((w : Int))]) (rest := [wp_i (t (F + 7) k), wp_i k, .ref (F + 7)]) ji_63_95 jc_63_91 rfl hq27 jk_64.symm (Nat.le_of_ble_eq_true rfl) rfl (by rw [jn_64]; rfl) (uc_64 (d := d + 1) C hT hF I1 H1 G1 (p := (p : Int)) (w := (w : Int)) (l := 1) (by omega) (by omega) (by omega)) (fun v1 h26 R => ?_)
        obtain ⟨rfl, C⟩ := R
        obtain ⟨y28, hy28⟩ : ∃ z9_, sayC cd s22 F ((p : Int)) ((w : Int)) 1 = z9_ := ⟨_, rfl⟩
        have hy28r := sayC_r I1 cd (p := (p : Int)) (w := (w : Int)) (l := 1) (by omega) (by omega) (by omega)
        rw [hy28] at hy28r ⊢
        show wl_R _ _ 63 98 [some (.ref F), some (.ref T), some (wp_i ((p : Int))), some (wp_i ((w : Int))), some (wp_i k), some (wp_i (t (F + 6) k + y18))] [wp_i y28, wp_i (t (F + 7) k), wp_i k, .ref (F + 7)] h26 _
        refine wl_iadd (x := t (F + 7) k) (y := y28) (z := t (F + 7) k + y28) ji_63_98 (by omega) ?_
        refine cs_s (x := k) (y := t (F + 7) k + y28) C (Nat.lt_of_lt_of_le (by decide) (Nat.le_trans hF.1 (Nat.le_add_right _ _))) hF.2.2.2.2.2.2.2.2.1 (by omega) (by omega) ji_63_99 (fun h st290 st291 C => ?_)
        obtain ⟨s30, es30⟩ : ∃ z9_, up s22 (F + 7) k (t (F + 7) k + y28) = z9_ := ⟨_, rfl⟩
        rw [es30] at C
        refine wl_s (pc' := 101) ji_63_100 rfl rfl rfl ?_
        refine cs_gr (r := F + 7) (k := 8) C (Nat.lt_of_lt_of_le (by decide) hF.1) hF.2.1 rfl ji_63_101 jf_63_37 ?_
        refine wl_s (pc' := 106) ji_63_104 rfl rfl rfl ?_
        refine cs_l (x := k) C (Nat.lt_of_lt_of_le (by decide) (Nat.le_trans hF.1 (Nat.le_add_right _ _))) (isF_n hF 7 (by decide)) hF.2.2.2.2.2.2.2.2.1 (by omega) ji_63_106 (fun ld310 ld311 ld312 => ?_)
        have rd32 : s30 (F + 7) k = t (F + 7) k + y28 := by rw [← es30, up_e]
        rw [rd32] at ld312 ⊢
        have bd33 := G.1.2.2.2.2.2.1 (k) (by omega) (by omega)
        refine wl_bp ji_63_107 rfl ?_
        refine wl_icmp (t := 118) ji_63_109 rfl (by omega) (by omega) (fun (hb34 : (t (F + 7) k + y28 : Int) ≤ 99) => ?_) (fun (hb34 : ¬ ((t (F + 7) k + y28 : Int) ≤ 99)) => ?_)
        · refine wl_iinc (x := (w : Int)) (z := (w : Int) + 1) (lv' := [some (.ref F), some (.ref T), some (wp_i ((p : Int))), some (wp_i ((w : Int) + 1)), some (wp_i k), some (wp_i (t (F + 6) k + y18))]) ji_63_118 rfl (Nat.le_of_ble_eq_true rfl) (by omega) rfl ?_
          refine wl_goto (t := 12) ji_63_121 rfl ?_
          have q1 : s22 (F + 7) k = t (F + 7) k := by rw [← es22, up_a (by omega)]
          have q2 : s30 (F + 7) k = t (F + 7) k + y28 := by rw [← es30, up_e]
          have hpw : psW cd F p w t = s30 := by unfold psW; rw [← hk, if_neg (by omega), hy18]; dsimp only; rw [es22, hy28, q1, es30, q2, if_neg (by omega)]
          rw [show (w : Int) + 1 = ((w + 1 : Nat) : Int) by omega]
          exact ih p (w + 1) (psW cd F p w t) _ _ _ (cs_mono C hpw.symm) hp (by omega) (by rw [ht]; rfl) (psW_IG G (by omega) (by omega)) (TXC_f (fun b j _ _ => psW_fr (by omega) (by omega)) H) (SC_f (fun j => psW_fr (by omega) (by omega)) (fun j => psW_fr (by omega) (by omega)) H2) ((psW_fr (by omega) (by omega)).trans e0) ((psW_fr (by omega) (by omega)).trans e1)
        · refine wl_s (pc' := 113) ji_63_112 rfl rfl rfl ?_
          refine wl_s (pc' := 114) ji_63_113 rfl rfl rfl ?_
          refine wl_s (pc' := 115) ji_63_114 rfl rfl rfl ?_
          obtain ⟨q36, hq36⟩ := cs_c C (Nat.lt_of_lt_of_le (by decide) hF.1) hF.2.1
          refine wl_vc (d := d + 3) (as := [.ref F, wp_i ((w : Int)), wp_i ((p : Int))]) (rest := []) ji_63_115 jc_63_97 rfl hq36 jk_71.symm (Nat.le_of_ble_eq_true rfl) rfl (by rw [jn_71]; rfl) (uc_71 (d := d + 3) C hF (w := (w : Int)) (p := (p : Int)) (by omega) (by omega)) (fun v1 h35 R => ?_)
          obtain ⟨rfl, C⟩ := R
          rw [← hk] at C
          obtain ⟨s37, es37⟩ : ∃ z9_, up s30 (F + 6) k (-1) = z9_ := ⟨_, rfl⟩
          rw [es37] at C
          show wl_R _ _ 63 118 [some (.ref F), some (.ref T), some (wp_i ((p : Int))), some (wp_i ((w : Int))), some (wp_i k), some (wp_i (t (F + 6) k + y18))] [] h35 _
          refine wl_iinc (x := (w : Int)) (z := (w : Int) + 1) (lv' := [some (.ref F), some (.ref T), some (wp_i ((p : Int))), some (wp_i ((w : Int) + 1)), some (wp_i k), some (wp_i (t (F + 6) k + y18))]) ji_63_118 rfl (Nat.le_of_ble_eq_true rfl) (by omega) rfl ?_
          refine wl_goto (t := 12) ji_63_121 rfl ?_
          have q1 : s22 (F + 7) k = t (F + 7) k := by rw [← es22, up_a (by omega)]
          have q2 : s30 (F + 7) k = t (F + 7) k + y28 := by rw [← es30, up_e]
          have hpw : psW cd F p w t = s37 := by unfold psW; rw [← hk, if_neg (by omega), hy18]; dsimp only; rw [es22, hy28, q1, es30, q2, if_pos (by omega), es37]
          rw [show (w : Int) + 1 = ((w + 1 : Nat) : Int) by omega]
          exact ih p (w + 1) (psW cd F p w t) _ _ _ (cs_mono C hpw.symm) hp (by omega) (by rw [ht]; rfl) (psW_IG G (by omega) (by omega)) (TXC_f (fun b j _ _ => psW_fr (by omega) (by omega)) H) (SC_f (fun j => psW_fr (by omega) (by omega)) (fun j => psW_fr (by omega) (by omega)) H2) ((psW_fr (by omega) (by omega)).trans e0) ((psW_fr (by omega) (by omega)).trans e1)
      · refine wl_goto (t := 118) ji_63_39 rfl ?_
        refine wl_iinc (x := (w : Int)) (z := (w : Int) + 1) (lv' := [some (.ref F), some (.ref T), some (wp_i ((p : Int))), some (wp_i ((w : Int) + 1)), some (wp_i k), l5]) ji_63_118 rfl (Nat.le_of_ble_eq_true rfl) (by omega) rfl ?_
        refine wl_goto (t := 12) ji_63_121 rfl ?_
        have hpw : psW cd F p w t = t := by unfold psW; rw [if_pos (by rw [← hk]; omega)]
        rw [show (w : Int) + 1 = ((w + 1 : Nat) : Int) by omega]
        exact ih p (w + 1) (psW cd F p w t) _ _ _ (cs_mono C hpw.symm) hp (by omega) (by rw [ht]; rfl) (psW_IG G (by omega) (by omega)) (TXC_f (fun b j _ _ => psW_fr (by omega) (by omega)) H) (SC_f (fun j => psW_fr (by omega) (by omega)) (fun j => psW_fr (by omega) (by omega)) H2) ((psW_fr (by omega) (by omega)).trans e0) ((psW_fr (by omega) (by omega)).trans e1)
theorem uc_63 {nn d : Nat} {h : mj_H} {t : sg_} (C : CS h t) {T : Nat} (hT : isT T) {F : Nat} (hF : isF F) {cd : cds} (H : TXC t T cd) (H2 : SC t) (G : IG t F) : wl_R nn (d + 4) 63 0 [some (.ref F), some (.ref T), none, none, none, none] [] h (fun v1 h1 => v1 = none ∧ CS h1 (passC cd F t)) := by
  have hFb := isF_b hF
  refine wl_s (pc' := 1) ji_63_0 rfl rfl rfl ?_
  refine wl_s (pc' := 2) (lv' := [some (.ref F), some (.ref T), some (wp_i 0), none, none, none]) ji_63_1 rfl rfl rfl ?_
  refine wl_s (pc' := 3) ji_63_2 rfl rfl rfl ?_
  refine wl_s (pc' := 4) ji_63_3 rfl rfl rfl ?_
  refine cs_gi (k := 0) (kI := 0) C (Nat.lt_of_lt_of_le (by decide) hF.1) (isF_n hF 0 (by decide)) hF.2.1 rfl rfl ji_63_4 jf_63_9 ?_
  have bd1 := G.1.1
  refine wl_icmp (t := 130) ji_63_7 rfl (by omega) (by omega) (fun (hb2 : (t F 0 : Int) ≤ 0) => ?_) (fun (hb2 : ¬ ((t F 0 : Int) ≤ 0)) => ?_)
  · refine wl_s (pc' := 131) ji_63_130 rfl rfl rfl ?_
    refine wl_s (pc' := 132) ji_63_131 rfl rfl rfl ?_
    refine wl_s (pc' := 133) ji_63_132 rfl rfl rfl ?_
    obtain ⟨q4, hq4⟩ := cs_c C (Nat.lt_of_lt_of_le (by decide) hF.1) hF.2.1
    refine wl_vc (d := d + 3) (as := [.ref F, .ref T]) (rest := [.ref F]) ji_63_133 jc_63_101 rfl hq4 jk_72.symm (Nat.le_of_ble_eq_true rfl) rfl (by rw [jn_72]; rfl) (uc_72 (d := d) C hT hF H H2 G.1) (fun v1 h3 R => ?_)
    obtain ⟨rfl, C⟩ := R
    have hy5r := heirC_r (cd := cd) G.1
    obtain ⟨y5, hy5⟩ : ∃ z9_, heirC cd t F = z9_ := ⟨_, rfl⟩
    rw [hy5] at hy5r ⊢
    show wl_R _ _ 63 136 [some (.ref F), some (.ref T), some (wp_i 0), none, none, none] [wp_i y5, .ref F] h3 _
    refine cs_pi (k := 11) (kI := 11) (y := y5) C hF.1 hF.2.1 rfl rfl ji_63_136 jf_63_46 rfl rfl (by omega) (fun h C => ?_)
    obtain ⟨s6, es6⟩ : ∃ z9_, up t F 11 y5 = z9_ := ⟨_, rfl⟩
    rw [es6] at C
    refine wl_s (pc' := 140) ji_63_139 rfl rfl rfl ?_
    refine wl_s (pc' := 141) ji_63_140 rfl rfl rfl ?_
    refine cs_gi (k := 10) (kI := 10) C (Nat.lt_of_lt_of_le (by decide) hF.1) (isF_n hF 0 (by decide)) hF.2.1 rfl rfl ji_63_141 jf_63_43 ?_
    have rd7 : s6 F 10 = t F 10 := by rw [← es6, up_k (by decide)]
    rw [rd7]
    have bd8 := G.1.2.2.2.2.2.2.2.1
    refine wl_s (pc' := 145) ji_63_144 rfl rfl rfl ?_
    refine wl_iadd (x := t F 10) (y := 1) (z := t F 10 + 1) ji_63_145 (by omega) ?_
    refine cs_pi (k := 10) (kI := 10) (y := t F 10 + 1) C hF.1 hF.2.1 rfl rfl ji_63_146 jf_63_43 rfl rfl (by omega) (fun h C => ?_)
    obtain ⟨s9, es9⟩ : ∃ z9_, up s6 F 10 (t F 10 + 1) = z9_ := ⟨_, rfl⟩
    rw [es9] at C
    exact wl_rv ji_63_149 jr_63 (⟨rfl, cs_mono C (by unfold passC; rw [show passA cd F t = t by unfold passA; rw [show (t F 0).toNat = 0 by omega]; rfl, ← es9, ← es6, hy5])⟩)
  · refine wl_s (pc' := 11) ji_63_10 rfl rfl rfl ?_
    refine wl_s (pc' := 12) (lv' := [some (.ref F), some (.ref T), some (wp_i 0), some (wp_i 0), none, none]) ji_63_11 rfl rfl rfl ?_
    exact uc_63l hT hF G.1.1 G.1.2.1 nn 0 0 t none none _ C (by have := G.1.1; omega) (by have := G.1.2.1; omega) rfl G H H2 rfl rfl
