/-! -/
set_option maxRecDepth 100000 in
theorem ji_92_59 : mj_ins 92 59 = some (.tableswitch 172 3 9 #[41, 69, 96, 112, 128, 144, 158]) := by decide +kernel
set_option maxRecDepth 100000 in
theorem ji_92_100 : mj_ins 92 100 = some (.aload_n 0) := by decide +kernel
set_option maxRecDepth 100000 in
theorem ji_92_101 : mj_ins 92 101 = some (.getfield 19) := by decide +kernel
set_option maxRecDepth 100000 in
theorem jf_92_19 : mj_fld 92 19 = some (0, 0, (.object "ForestOfPoles$State"), false) := by decide +kernel
set_option maxRecDepth 100000 in
theorem ji_92_104 : mj_ins 92 104 = some (.getfield 49) := by decide +kernel
set_option maxRecDepth 100000 in
theorem jf_92_49 : mj_fld 92 49 = some (2, 0, (.object "ForestOfPoles$Forest"), false) := by decide +kernel
set_option maxRecDepth 100000 in
theorem ji_92_107 : mj_ins 92 107 = some (.iload 4) := by decide +kernel
set_option maxRecDepth 100000 in
theorem ji_92_109 : mj_ins 92 109 = some (.iload 5) := by decide +kernel
set_option maxRecDepth 100000 in
theorem ji_92_111 : mj_ins 92 111 = some (.invokevirtual 53) := by decide +kernel
set_option maxRecDepth 100000 in
theorem jc_92_53 : mj_cal 92 53 = some (2, 13, 2) := by decide +kernel
set_option maxRecDepth 100000 in
theorem ji_92_114 : mj_ins 92 114 = some (.iconst (-1)) := by decide +kernel
set_option maxRecDepth 100000 in
theorem ji_92_115 : mj_ins 92 115 = some (.if_icmp .eq 7) := by decide +kernel
set_option maxRecDepth 100000 in
theorem ji_92_122 : mj_ins 92 122 = some (.iconst 0) := by decide +kernel
set_option maxRecDepth 100000 in
theorem ji_92_123 : mj_ins 92 123 = some (.istore 6) := by decide +kernel
set_option maxRecDepth 100000 in
theorem ji_92_125 : mj_ins 92 125 = some (.goto 106) := by decide +kernel
set_option maxRecDepth 100000 in
theorem ji_92_118 : mj_ins 92 118 = some (.iconst 1) := by decide +kernel
set_option maxRecDepth 100000 in
theorem ji_92_119 : mj_ins 92 119 = some (.goto 4) := by decide +kernel
set_option maxRecDepth 100000 in
theorem ji_92_128 : mj_ins 92 128 = some (.aload_n 0) := by decide +kernel
set_option maxRecDepth 100000 in
theorem ji_92_129 : mj_ins 92 129 = some (.getfield 19) := by decide +kernel
set_option maxRecDepth 100000 in
theorem ji_92_132 : mj_ins 92 132 = some (.getfield 49) := by decide +kernel
set_option maxRecDepth 100000 in
theorem ji_92_135 : mj_ins 92 135 = some (.iload 4) := by decide +kernel
set_option maxRecDepth 100000 in
theorem ji_92_137 : mj_ins 92 137 = some (.iconst 0) := by decide +kernel
set_option maxRecDepth 100000 in
theorem ji_92_138 : mj_ins 92 138 = some (.invokevirtual 59) := by decide +kernel
set_option maxRecDepth 100000 in
theorem jc_92_59 : mj_cal 92 59 = some (2, 15, 2) := by decide +kernel
set_option maxRecDepth 100000 in
theorem ji_92_141 : mj_ins 92 141 = some (.iconst (-1)) := by decide +kernel
set_option maxRecDepth 100000 in
theorem ji_92_142 : mj_ins 92 142 = some (.if_icmp .eq 7) := by decide +kernel
set_option maxRecDepth 100000 in
theorem ji_92_149 : mj_ins 92 149 = some (.iconst 0) := by decide +kernel
set_option maxRecDepth 100000 in
theorem ji_92_150 : mj_ins 92 150 = some (.istore 6) := by decide +kernel
set_option maxRecDepth 100000 in
theorem ji_92_152 : mj_ins 92 152 = some (.goto 79) := by decide +kernel
set_option maxRecDepth 100000 in
theorem ji_92_145 : mj_ins 92 145 = some (.iconst 1) := by decide +kernel
set_option maxRecDepth 100000 in
theorem ji_92_146 : mj_ins 92 146 = some (.goto 4) := by decide +kernel
set_option maxRecDepth 100000 in
theorem ji_92_155 : mj_ins 92 155 = some (.aload_n 0) := by decide +kernel
set_option maxRecDepth 100000 in
theorem ji_92_156 : mj_ins 92 156 = some (.getfield 19) := by decide +kernel
set_option maxRecDepth 100000 in
theorem ji_92_159 : mj_ins 92 159 = some (.iload 4) := by decide +kernel
set_option maxRecDepth 100000 in
theorem ji_92_161 : mj_ins 92 161 = some (.iload 5) := by decide +kernel
set_option maxRecDepth 100000 in
theorem ji_92_163 : mj_ins 92 163 = some (.invokevirtual 107) := by decide +kernel
set_option maxRecDepth 100000 in
theorem jc_92_107 : mj_cal 92 107 = some (2, 78, 2) := by decide +kernel
set_option maxRecDepth 100000 in
theorem ji_92_166 : mj_ins 92 166 = some (.istore 6) := by decide +kernel
set_option maxRecDepth 100000 in
theorem ji_92_168 : mj_ins 92 168 = some (.goto 63) := by decide +kernel
set_option maxRecDepth 100000 in
theorem ji_92_171 : mj_ins 92 171 = some (.aload_n 0) := by decide +kernel
set_option maxRecDepth 100000 in
theorem ji_92_172 : mj_ins 92 172 = some (.getfield 19) := by decide +kernel
set_option maxRecDepth 100000 in
theorem ji_92_175 : mj_ins 92 175 = some (.iload 4) := by decide +kernel
set_option maxRecDepth 100000 in
theorem ji_92_177 : mj_ins 92 177 = some (.iload 5) := by decide +kernel
set_option maxRecDepth 100000 in
theorem ji_92_179 : mj_ins 92 179 = some (.invokevirtual 111) := by decide +kernel
set_option maxRecDepth 100000 in
theorem jc_92_111 : mj_cal 92 111 = some (2, 84, 2) := by decide +kernel
set_option maxRecDepth 100000 in
theorem ji_92_182 : mj_ins 92 182 = some (.istore 6) := by decide +kernel
set_option maxRecDepth 100000 in
theorem ji_92_184 : mj_ins 92 184 = some (.goto 47) := by decide +kernel
set_option maxRecDepth 100000 in
theorem ji_92_187 : mj_ins 92 187 = some (.aload_n 0) := by decide +kernel
set_option maxRecDepth 100000 in
theorem ji_92_188 : mj_ins 92 188 = some (.getfield 19) := by decide +kernel
set_option maxRecDepth 100000 in
theorem ji_92_191 : mj_ins 92 191 = some (.iload 4) := by decide +kernel
set_option maxRecDepth 100000 in
theorem ji_92_193 : mj_ins 92 193 = some (.iload 5) := by decide +kernel
set_option maxRecDepth 100000 in
theorem ji_92_195 : mj_ins 92 195 = some (.invokevirtual 114) := by decide +kernel
set_option maxRecDepth 100000 in
theorem jc_92_114 : mj_cal 92 114 = some (2, 87, 2) := by decide +kernel
set_option maxRecDepth 100000 in
theorem ji_92_198 : mj_ins 92 198 = some (.istore 6) := by decide +kernel
set_option maxRecDepth 100000 in
theorem ji_92_200 : mj_ins 92 200 = some (.goto 31) := by decide +kernel
set_option maxRecDepth 100000 in
theorem ji_92_203 : mj_ins 92 203 = some (.aload_n 0) := by decide +kernel
set_option maxRecDepth 100000 in
theorem ji_92_204 : mj_ins 92 204 = some (.getfield 19) := by decide +kernel
set_option maxRecDepth 100000 in
theorem ji_92_207 : mj_ins 92 207 = some (.iload 4) := by decide +kernel
set_option maxRecDepth 100000 in
theorem ji_92_209 : mj_ins 92 209 = some (.invokevirtual 121) := by decide +kernel
set_option maxRecDepth 100000 in
theorem jc_92_121 : mj_cal 92 121 = some (2, 91, 1) := by decide +kernel
set_option maxRecDepth 100000 in
theorem ji_92_212 : mj_ins 92 212 = some (.istore 6) := by decide +kernel
set_option maxRecDepth 100000 in
theorem ji_92_214 : mj_ins 92 214 = some (.goto 17) := by decide +kernel
set_option maxRecDepth 100000 in
theorem ji_92_217 : mj_ins 92 217 = some (.aload_n 0) := by decide +kernel
set_option maxRecDepth 100000 in
theorem ji_92_218 : mj_ins 92 218 = some (.getfield 19) := by decide +kernel
set_option maxRecDepth 100000 in
theorem ji_92_221 : mj_ins 92 221 = some (.iload 4) := by decide +kernel
set_option maxRecDepth 100000 in
theorem ji_92_223 : mj_ins 92 223 = some (.invokevirtual 101) := by decide +kernel
set_option maxRecDepth 100000 in
theorem jc_92_101 : mj_cal 92 101 = some (2, 58, 1) := by decide +kernel
set_option maxRecDepth 100000 in
theorem ji_92_226 : mj_ins 92 226 = some (.istore 6) := by decide +kernel
set_option maxRecDepth 100000 in
theorem ji_92_228 : mj_ins 92 228 = some (.goto 3) := by decide +kernel
set_option maxRecDepth 100000 in
theorem ji_92_26 : mj_ins 92 26 = some (.iload_n 3) := by decide +kernel
set_option maxRecDepth 100000 in
theorem ji_92_27 : mj_ins 92 27 = some (.aload_n 2) := by decide +kernel
set_option maxRecDepth 100000 in
theorem ji_92_28 : mj_ins 92 28 = some (.getfield 124) := by decide +kernel
set_option maxRecDepth 100000 in
theorem jf_92_124 : mj_fld 92 124 = some (1, 7, .int, true) := by decide +kernel
set_option maxRecDepth 100000 in
theorem ji_92_31 : mj_ins 92 31 = some (.if_icmp .ge 213) := by decide +kernel
set_option maxRecDepth 100000 in
theorem ji_92_244 : mj_ins 92 244 = some (.iconst (-1)) := by decide +kernel
set_option maxRecDepth 100000 in
theorem ji_92_245 : mj_ins 92 245 = some (.ireturn) := by decide +kernel
set_option maxRecDepth 100000 in
theorem jr_92 : mj_ret 92 = some .int := by decide +kernel
set_option maxRecDepth 100000 in
theorem ji_92_34 : mj_ins 92 34 = some (.aload_n 2) := by decide +kernel
set_option maxRecDepth 100000 in
theorem ji_92_35 : mj_ins 92 35 = some (.getfield 127) := by decide +kernel
set_option maxRecDepth 100000 in
theorem jf_92_127 : mj_fld 92 127 = some (1, 5, (.array .int), false) := by decide +kernel
set_option maxRecDepth 100000 in
theorem ji_92_38 : mj_ins 92 38 = some (.iload_n 3) := by decide +kernel
set_option maxRecDepth 100000 in
theorem ji_92_39 : mj_ins 92 39 = some (.iaload) := by decide +kernel
set_option maxRecDepth 100000 in
theorem ji_92_40 : mj_ins 92 40 = some (.istore 4) := by decide +kernel
set_option maxRecDepth 100000 in
theorem ji_92_42 : mj_ins 92 42 = some (.aload_n 2) := by decide +kernel
set_option maxRecDepth 100000 in
theorem ji_92_43 : mj_ins 92 43 = some (.getfield 130) := by decide +kernel
set_option maxRecDepth 100000 in
theorem jf_92_130 : mj_fld 92 130 = some (1, 6, (.array .int), false) := by decide +kernel
set_option maxRecDepth 100000 in
theorem ji_92_46 : mj_ins 92 46 = some (.iload_n 3) := by decide +kernel
set_option maxRecDepth 100000 in
theorem ji_92_47 : mj_ins 92 47 = some (.iaload) := by decide +kernel
set_option maxRecDepth 100000 in
theorem ji_92_48 : mj_ins 92 48 = some (.istore 5) := by decide +kernel
set_option maxRecDepth 100000 in
theorem ji_92_50 : mj_ins 92 50 = some (.iconst 1) := by decide +kernel
set_option maxRecDepth 100000 in
theorem ji_92_51 : mj_ins 92 51 = some (.istore 6) := by decide +kernel
set_option maxRecDepth 100000 in
theorem ji_92_53 : mj_ins 92 53 = some (.aload_n 2) := by decide +kernel
set_option maxRecDepth 100000 in
theorem ji_92_54 : mj_ins 92 54 = some (.getfield 133) := by decide +kernel
set_option maxRecDepth 100000 in
theorem jf_92_133 : mj_fld 92 133 = some (1, 4, (.array .int), false) := by decide +kernel
set_option maxRecDepth 100000 in
theorem ji_92_57 : mj_ins 92 57 = some (.iload_n 3) := by decide +kernel
set_option maxRecDepth 100000 in
theorem ji_92_58 : mj_ins 92 58 = some (.iaload) := by decide +kernel
set_option maxRecDepth 100000 in
theorem ji_92_231 : mj_ins 92 231 = some (.iload 6) := by decide +kernel
set_option maxRecDepth 100000 in
theorem ji_92_233 : mj_ins 92 233 = some (.ifCond .ne 5) := by decide +kernel
set_option maxRecDepth 100000 in
theorem ji_92_238 : mj_ins 92 238 = some (.iinc 3 1) := by decide +kernel
set_option maxRecDepth 100000 in
theorem ji_92_241 : mj_ins 92 241 = some (.goto (-215)) := by decide +kernel
set_option maxRecDepth 100000 in
theorem ji_92_236 : mj_ins 92 236 = some (.iload_n 3) := by decide +kernel
set_option maxRecDepth 100000 in
theorem ji_92_237 : mj_ins 92 237 = some (.ireturn) := by decide +kernel
set_option maxRecDepth 100000 in
theorem ji_92_0 : mj_ins 92 0 = some (.aload_n 0) := by decide +kernel
set_option maxRecDepth 100000 in
theorem ji_92_1 : mj_ins 92 1 = some (.getfield 19) := by decide +kernel
set_option maxRecDepth 100000 in
theorem ji_92_4 : mj_ins 92 4 = some (.iload_n 1) := by decide +kernel
set_option maxRecDepth 100000 in
theorem ji_92_5 : mj_ins 92 5 = some (.invokevirtual 91) := by decide +kernel
set_option maxRecDepth 100000 in
theorem jc_92_91 : mj_cal 92 91 = some (2, 56, 1) := by decide +kernel
set_option maxRecDepth 100000 in
theorem ji_92_8 : mj_ins 92 8 = some (.ifCond .ne 6) := by decide +kernel
set_option maxRecDepth 100000 in
theorem ji_92_14 : mj_ins 92 14 = some (.aload_n 0) := by decide +kernel
set_option maxRecDepth 100000 in
theorem ji_92_15 : mj_ins 92 15 = some (.getfield 19) := by decide +kernel
set_option maxRecDepth 100000 in
theorem ji_92_18 : mj_ins 92 18 = some (.getfield 73) := by decide +kernel
set_option maxRecDepth 100000 in
theorem jf_92_73 : mj_fld 92 73 = some (2, 5, (.array (.object "ForestOfPoles$Text")), false) := by decide +kernel
set_option maxRecDepth 100000 in
theorem ji_92_21 : mj_ins 92 21 = some (.iload_n 1) := by decide +kernel
set_option maxRecDepth 100000 in
theorem ji_92_22 : mj_ins 92 22 = some (.aaload) := by decide +kernel
set_option maxRecDepth 100000 in
theorem ji_92_23 : mj_ins 92 23 = some (.astore_n 2) := by decide +kernel
set_option maxRecDepth 100000 in
theorem ji_92_24 : mj_ins 92 24 = some (.iconst 0) := by decide +kernel
set_option maxRecDepth 100000 in
theorem ji_92_25 : mj_ins 92 25 = some (.istore_n 3) := by decide +kernel
set_option maxRecDepth 100000 in
theorem ji_92_11 : mj_ins 92 11 = some (.bipush (-2)) := by decide +kernel
set_option maxRecDepth 100000 in
theorem ji_92_13 : mj_ins 92 13 = some (.ireturn) := by decide +kernel
/-! a text played, in the class; laid by program (wp_u58.py) -/
/-- what a clause does: whether it can be, what is then -/
def doC (tc : tcs) (s : sg_) (k v w : Int) : Int × sg_ :=
  if k = 3 then (if s 48 0 < 8 ∧ (1 ≤ v ∧ v ≤ 99) ∧ (0 ≤ w ∧ w ≤ 99) then (1, plC s v w) else (0, s))
  else if k = 4 then (if s 48 1 < 6 ∧ (1 ≤ v ∧ v ≤ 9) then (1, pwC s v 0) else (0, s))
  else if k = 5 then (if (0 ≤ v ∧ v < s 48 1) ∧ (0 ≤ w ∧ w < s 48 0) ∧ mrC s v w then (1, rsC (keepC s) v w) else (0, s))
  else if k = 6 then (if (0 ≤ v ∧ v < s 48 1) ∧ (0 ≤ w ∧ w < s 48 0) ∧ ¬ s 54 (w * 6 + v) = -1 then (1, up (keepC s) 54 (w * 6 + v) (-1)) else (0, s))
  else if k = 7 then (if (0 ≤ v ∧ v < s 48 0) ∧ 1 ≤ w ∧ w < s 50 v then (1, cutW (keepC s) 48 v w (keepC s 48 1)) else (0, s))
  else if k = 8 then (if (0 ≤ v ∧ v ≤ 9) ∧ ¬ v = s 48 9 then (1, up (keepC s) 48 9 v) else (0, s))
  else if k = 9 then (if min v (9999 - s 48 10) = v then 1 else 0, hrsC tc s (min v (9999 - s 48 10)).toNat)
  else (1, s)
theorem plC_v {s : sg_} {x z : Int} : plC s x z 48 0 = s 48 0 + 1 ∧ plC s x z 49 (s 48 0) = x ∧ plC s x z 50 (s 48 0) = x ∧ plC s x z 51 (s 48 0) = z := by
  unfold plC
  refine ⟨up_e _ _ _ _, ?_, ?_, ?_⟩
  · rw [up_a (by decide), up_a (by decide), up_a (by decide), up_e]
  · rw [up_a (by decide), up_a (by decide), up_e]
  · rw [up_a (by decide), up_e]
theorem plC_j {s : sg_} {x z : Int} {b : Nat} {j : Int} (h : (¬ b = 48 ∧ ¬ b = 49 ∧ ¬ b = 50 ∧ ¬ b = 51) ∨ (b = 48 ∧ ¬ j = 0) ∨ (¬ b = 48 ∧ ¬ j = s 48 0)) : plC s x z b j = s b j := by
  unfold plC up
  rw [if_neg (by omega), if_neg (by omega), if_neg (by omega), if_neg (by omega)]
theorem pwC_v {s : sg_} {x z : Int} : pwC s x z 48 1 = s 48 1 + 1 ∧ pwC s x z 52 (s 48 1) = x ∧ pwC s x z 53 (s 48 1) = z := by
  unfold pwC
  refine ⟨up_e _ _ _ _, ?_, ?_⟩
  · rw [up_a (by decide), up_a (by decide), up_e]
  · rw [up_a (by decide), up_e]
theorem pwC_j {s : sg_} {x z : Int} {b : Nat} {j : Int} (h : (¬ b = 48 ∧ ¬ b = 52 ∧ ¬ b = 53) ∨ (b = 48 ∧ ¬ j = 1) ∨ (¬ b = 48 ∧ ¬ j = s 48 1)) : pwC s x z b j = s b j := by
  unfold pwC up
  rw [if_neg (by omega), if_neg (by omega), if_neg (by omega)]
theorem plC_NV {s : sg_} {tc : tcs} (N : NV s tc) (hc : s 48 0 < 8) {x z : Int} (hx : 1 ≤ x ∧ x ≤ 99) : NV (plC s x z) tc := by
  obtain ⟨⟨i0, i1, i2, i4, i6, i7, i8⟩, g⟩ := N.g
  have V := plC_v (s := s) (x := x) (z := z)
  refine NV_g N ⟨⟨by rw [V.1]; omega, by rw [plC_j (by omega)]; exact i1, fun q a b => ?_, fun q a b => by rw [plC_j (by omega)]; exact i4 q a b, fun q a b => by rw [plC_j (by omega)]; exact i6 q a b, fun q a b => by rw [plC_j (by omega)]; exact i7 q a b, by rw [plC_j (by omega), plC_j (by omega), plC_j (by omega), plC_j (by omega)]; exact i8⟩, fun q a b c => ?_⟩ (fun b j h => plC_j (by omega))
  · show 0 ≤ plC s x z 50 q ∧ plC s x z 50 q ≤ 99
    by_cases e : q = s 48 0
    · rw [e, V.2.2.1]; omega
    · rw [plC_j (by omega)]; exact i2 q a b
  · rw [plC_j (by omega)] at c ⊢
    exact g q a b c
theorem pwC_NV {s : sg_} {tc : tcs} (N : NV s tc) (hc : s 48 1 < 6) {x z : Int} (hx : 1 ≤ x ∧ x ≤ 9) : NV (pwC s x z) tc := by
  obtain ⟨⟨i0, i1, i2, i4, i6, i7, i8⟩, g⟩ := N.g
  have V := pwC_v (s := s) (x := x) (z := z)
  refine NV_g N ⟨⟨by rw [pwC_j (by omega)]; exact i0, by rw [V.1]; omega, fun q a b => by rw [pwC_j (by omega)]; exact i2 q a b, fun q a b => ?_, fun q a b => by rw [pwC_j (by omega)]; exact i6 q a b, fun q a b => by rw [pwC_j (by omega)]; exact i7 q a b, by rw [pwC_j (by omega), pwC_j (by omega), pwC_j (by omega), pwC_j (by omega)]; exact i8⟩, fun q a b c => ?_⟩ (fun b j h => pwC_j (by omega))
  · show 0 ≤ pwC s x z 52 q ∧ pwC s x z 52 q ≤ 9
    by_cases e : q = s 48 1
    · rw [e, V.2.1]; omega
    · rw [pwC_j (by omega)]; exact i4 q a b
  · rw [pwC_j (by omega)] at c ⊢
    exact g q a b c
theorem hrsC_fr {tc : tcs} {s : sg_} {b : Nat} {j : Int} (h : b < 48) : ∀ n : Nat, hrsC tc s n b j = s b j
  | 0 => rfl
  | n + 1 => by
    show hrC tc (keepC (hrsC tc s n)) b j = _
    rw [hrC_fr (by omega), keepC_fr (by omega) (by omega)]
    exact hrsC_fr h n
theorem doC_NV {s : sg_} {tc : tcs} (N : NV s tc) {k v w : Int} : NV (doC tc s k v w).2 tc ∧ ∀ (b : Nat) (j : Int), b < 48 → (doC tc s k v w).2 b j = s b j := by
  have K := keepC_NV N
  have kf : ∀ (b : Nat) (j : Int), b < 48 → keepC s b j = s b j := fun b j h => keepC_fr (by omega) (by omega)
  have i0 := N.g.1.1
  unfold doC
  split
  · split
    · rename_i c
      exact ⟨plC_NV N c.1 c.2.1, fun b j h => plC_j (by omega)⟩
    · exact ⟨N, fun _ _ _ => rfl⟩
  · split
    · split
      · rename_i c
        exact ⟨pwC_NV N c.1 c.2, fun b j h => pwC_j (by omega)⟩
      · exact ⟨N, fun _ _ _ => rfl⟩
    · split
      · split
        · exact ⟨rsC_NV K, fun b j h => by show rsC (keepC s) v w b j = _; unfold rsC; rw [up_a (by omega), up_a (by omega)]; exact kf b j h⟩
        · exact ⟨N, fun _ _ _ => rfl⟩
      · split
        · split
          · exact ⟨dnC_NV K, fun b j h => by show up (keepC s) 54 _ _ b j = _; rw [up_a (by omega)]; exact kf b j h⟩
          · exact ⟨N, fun _ _ _ => rfl⟩
        · split
          · split
            · rename_i c
              have c1 := c.1
              have c2 := c.2
              have k5 : keepC s 50 v = s 50 v := keepC_fr (by decide) (by decide)
              exact ⟨ctC_NVc K (by omega) (by rw [k5]; omega), fun b j h => by show cutW (keepC s) 48 v w _ b j = _; rw [cutW_a (by omega) (by omega)]; exact kf b j h⟩
            · exact ⟨N, fun _ _ _ => rfl⟩
          · split
            · split
              · rename_i c
                exact ⟨NV_9 K c.1, fun b j h => by show up (keepC s) 48 9 v b j = _; rw [up_a (by omega)]; exact kf b j h⟩
              · exact ⟨N, fun _ _ _ => rfl⟩
            · split
              · have o := N.h
                by_cases hm : 0 ≤ min v (9999 - s 48 10)
                · exact ⟨hrsC_NV N _ (by omega), fun b j h => hrsC_fr h _⟩
                · rw [show (min v (9999 - s 48 10)).toNat = 0 by omega]
                  exact ⟨N, fun _ _ _ => rfl⟩
              · exact ⟨N, fun _ _ _ => rfl⟩
theorem doC_01 {tc : tcs} {s : sg_} {k v w : Int} : (doC tc s k v w).1 = 0 ∨ (doC tc s k v w).1 = 1 := by
  unfold doC
  repeat' split
  all_goals first
    | exact Or.inl rfl
    | exact Or.inr rfl
def pyC (tc : tcs) (cl : cls) : Nat → Nat → sg_ → Int × sg_
  | 0, _, s => (-1, s)
  | f + 1, k, s => if (doC tc s (cl k).1 (cl k).2.1 (cl k).2.2).1 = 0 then ((k : Int), (doC tc s (cl k).1 (cl k).2.1 (cl k).2.2).2) else pyC tc cl f (k + 1) (doC tc s (cl k).1 (cl k).2.1 (cl k).2.2).2
/-- the clauses of a text, in the class -/
def clsC (s : sg_) (T : Nat) : cls := fun k => (s (T + 4) k, s (T + 5) k, s (T + 6) k)
theorem uc_92b {nn d : Nat} {h : mj_H} {t : sg_} {Q : Option Value → mj_H → Prop} (C : CS h t) {tc : tcs} (N : NV t tc) {tx i k v w : Int} {T : Nat} (hk9 : 0 ≤ k ∧ k ≤ 9) (rv : wp_r v) (rw_ : wp_r w) (hk : ∀ h1, CS h1 (doC tc t k v w).2 → wl_R nn (d + 7) 92 231 [some (.ref 9), some (wp_i tx), some (.ref T), some (wp_i i), some (wp_i v), some (wp_i w), some (wp_i (doC tc t k v w).1)] [] h1 Q) : wl_R nn (d + 7) 92 59 [some (.ref 9), some (wp_i tx), some (.ref T), some (wp_i i), some (wp_i v), some (wp_i w), some (wp_i 1)] [wp_i k] h Q := by
  have i0 := N.g.1.1
  have i1 := N.g.1.2.1
  have hq : k = 3 ∨ k = 4 ∨ k = 5 ∨ k = 6 ∨ k = 7 ∨ k = 8 ∨ k = 9 ∨ k = 0 ∨ k = 1 ∨ k = 2 := by omega
  rcases hq with hq | hq | hq | hq | hq | hq | hq | hq | hq | hq
  · rw [hq]
    refine wl_s (pc' := 100) ji_92_59 rfl rfl rfl ?_
    refine wl_s (pc' := 101) ji_92_100 rfl rfl rfl ?_
    refine cs_gr (r := 47) (k := 0) C (by decide) sq_9 rfl ji_92_101 jf_92_19 ?_
    refine cs_gr (r := 48) (k := 0) C (by decide) sq_47 rfl ji_92_104 jf_92_49 ?_
    refine wl_s (pc' := 109) ji_92_107 rfl rfl rfl ?_
    refine wl_s (pc' := 111) ji_92_109 rfl rfl rfl ?_
    obtain ⟨q2, hq2⟩ := cs_c C (by decide) sq_48
    refine wl_vc (d := d + 6) (as := [.ref 48, wp_i v, wp_i w]) (rest := []) ji_92_111 jc_92_53 rfl hq2 jk_13.symm (Nat.le_of_ble_eq_true rfl) rfl (by rw [jn_13]; rfl) (uc_13 (d := d + 6) C isF_48 N.g.1 (x := v) (z := w) rv rw_) (fun v1 h1 R => ?_)
    rcases R with ⟨hc, rfl, rfl⟩ | ⟨hc, rfl, C⟩
    · show wl_R _ _ 92 114 [some (.ref 9), some (wp_i tx), some (.ref T), some (wp_i i), some (wp_i v), some (wp_i w), some (wp_i 1)] [wp_i (-1)] h1 _
      refine wl_s (pc' := 115) ji_92_114 rfl rfl rfl ?_
      refine wl_icmp (t := 122) ji_92_115 rfl (by omega) (by omega) (fun (hb3 : (-1 : Int) = (-1)) => ?_) (fun (hb3 : ¬ ((-1 : Int) = (-1))) => (by exfalso; omega))
      refine wl_s (pc' := 123) ji_92_122 rfl rfl rfl ?_
      refine wl_s (pc' := 125) (lv' := [some (.ref 9), some (wp_i tx), some (.ref T), some (wp_i i), some (wp_i v), some (wp_i w), some (wp_i 0)]) ji_92_123 rfl rfl rfl ?_
      refine wl_goto (t := 231) ji_92_125 rfl ?_
      have e : doC tc t k v w = (0, t) := by { unfold doC; rw [if_pos hq, if_neg hc] }
      rw [e] at hk
      exact hk _ C
    · show wl_R _ _ 92 114 [some (.ref 9), some (wp_i tx), some (.ref T), some (wp_i i), some (wp_i v), some (wp_i w), some (wp_i 1)] [wp_i (t 48 0)] h1 _
      refine wl_s (pc' := 115) ji_92_114 rfl rfl rfl ?_
      refine wl_icmp (t := 122) ji_92_115 rfl (by omega) (by omega) (fun (hb4 : (t 48 0 : Int) = (-1)) => (by exfalso; omega)) (fun (hb4 : ¬ ((t 48 0 : Int) = (-1))) => ?_)
      refine wl_s (pc' := 119) ji_92_118 rfl rfl rfl ?_
      refine wl_goto (t := 123) ji_92_119 rfl ?_
      refine wl_s (pc' := 125) (lv' := [some (.ref 9), some (wp_i tx), some (.ref T), some (wp_i i), some (wp_i v), some (wp_i w), some (wp_i 1)]) ji_92_123 rfl rfl rfl ?_
      refine wl_goto (t := 231) ji_92_125 rfl ?_
      have e : doC tc t k v w = (1, plC t v w) := by { unfold doC; rw [if_pos hq, if_pos hc] }
      rw [e] at hk
      exact hk _ C
  · rw [hq]
    refine wl_s (pc' := 128) ji_92_59 rfl rfl rfl ?_
    refine wl_s (pc' := 129) ji_92_128 rfl rfl rfl ?_
    refine cs_gr (r := 47) (k := 0) C (by decide) sq_9 rfl ji_92_129 jf_92_19 ?_
    refine cs_gr (r := 48) (k := 0) C (by decide) sq_47 rfl ji_92_132 jf_92_49 ?_
    refine wl_s (pc' := 137) ji_92_135 rfl rfl rfl ?_
    refine wl_s (pc' := 138) ji_92_137 rfl rfl rfl ?_
    obtain ⟨q6, hq6⟩ := cs_c C (by decide) sq_48
    refine wl_vc (d := d + 6) (as := [.ref 48, wp_i v, wp_i 0]) (rest := []) ji_92_138 jc_92_59 rfl hq6 jk_15.symm (Nat.le_of_ble_eq_true rfl) rfl (by rw [jn_15]; rfl) (uc_15 (d := d + 6) C isF_48 N.g.1 (x := v) (z := 0) rv (by decide)) (fun v1 h5 R => ?_)
    rcases R with ⟨hc, rfl, rfl⟩ | ⟨hc, rfl, C⟩
    · show wl_R _ _ 92 141 [some (.ref 9), some (wp_i tx), some (.ref T), some (wp_i i), some (wp_i v), some (wp_i w), some (wp_i 1)] [wp_i (-1)] h5 _
      refine wl_s (pc' := 142) ji_92_141 rfl rfl rfl ?_
      refine wl_icmp (t := 149) ji_92_142 rfl (by omega) (by omega) (fun (hb7 : (-1 : Int) = (-1)) => ?_) (fun (hb7 : ¬ ((-1 : Int) = (-1))) => (by exfalso; omega))
      refine wl_s (pc' := 150) ji_92_149 rfl rfl rfl ?_
      refine wl_s (pc' := 152) (lv' := [some (.ref 9), some (wp_i tx), some (.ref T), some (wp_i i), some (wp_i v), some (wp_i w), some (wp_i 0)]) ji_92_150 rfl rfl rfl ?_
      refine wl_goto (t := 231) ji_92_152 rfl ?_
      have e : doC tc t k v w = (0, t) := by { unfold doC; rw [if_neg (by omega), if_pos hq, if_neg (fun z => hc ⟨z.1, z.2, by decide⟩)] }
      rw [e] at hk
      exact hk _ C
    · show wl_R _ _ 92 141 [some (.ref 9), some (wp_i tx), some (.ref T), some (wp_i i), some (wp_i v), some (wp_i w), some (wp_i 1)] [wp_i (t 48 1)] h5 _
      refine wl_s (pc' := 142) ji_92_141 rfl rfl rfl ?_
      refine wl_icmp (t := 149) ji_92_142 rfl (by omega) (by omega) (fun (hb8 : (t 48 1 : Int) = (-1)) => (by exfalso; omega)) (fun (hb8 : ¬ ((t 48 1 : Int) = (-1))) => ?_)
      refine wl_s (pc' := 146) ji_92_145 rfl rfl rfl ?_
      refine wl_goto (t := 150) ji_92_146 rfl ?_
      refine wl_s (pc' := 152) (lv' := [some (.ref 9), some (wp_i tx), some (.ref T), some (wp_i i), some (wp_i v), some (wp_i w), some (wp_i 1)]) ji_92_150 rfl rfl rfl ?_
      refine wl_goto (t := 231) ji_92_152 rfl ?_
      have e : doC tc t k v w = (1, pwC t v 0) := by { unfold doC; rw [if_neg (by omega), if_pos hq, if_pos ⟨hc.1, hc.2.1⟩] }
      rw [e] at hk
      exact hk _ C
  · rw [hq]
    refine wl_s (pc' := 155) ji_92_59 rfl rfl rfl ?_
    refine wl_s (pc' := 156) ji_92_155 rfl rfl rfl ?_
    refine cs_gr (r := 47) (k := 0) C (by decide) sq_9 rfl ji_92_156 jf_92_19 ?_
    refine wl_s (pc' := 161) ji_92_159 rfl rfl rfl ?_
    refine wl_s (pc' := 163) ji_92_161 rfl rfl rfl ?_
    obtain ⟨q10, hq10⟩ := cs_c C (by decide) sq_47
    refine wl_vc (d := d + 6) (as := [.ref 47, wp_i v, wp_i w]) (rest := []) ji_92_163 jc_92_107 rfl hq10 jk_78.symm (Nat.le_of_ble_eq_true rfl) rfl (by rw [jn_78]; rfl) (uc_78 (d := d + 4) C N (w := v) (p := w) rv rw_) (fun v1 h9 R => ?_)
    rcases R with ⟨rfl, hc, C⟩ | ⟨rfl, hc, C⟩
    · show wl_R _ _ 92 166 [some (.ref 9), some (wp_i tx), some (.ref T), some (wp_i i), some (wp_i v), some (wp_i w), some (wp_i 1)] [wp_i 1] h9 _
      refine wl_s (pc' := 168) (lv' := [some (.ref 9), some (wp_i tx), some (.ref T), some (wp_i i), some (wp_i v), some (wp_i w), some (wp_i 1)]) ji_92_166 rfl rfl rfl ?_
      refine wl_goto (t := 231) ji_92_168 rfl ?_
      have e : doC tc t k v w = (1, rsC (keepC t) v w) := by { unfold doC; rw [if_neg (by omega), if_neg (by omega), if_pos hq, if_pos hc] }
      rw [e] at hk
      exact hk _ C
    · show wl_R _ _ 92 166 [some (.ref 9), some (wp_i tx), some (.ref T), some (wp_i i), some (wp_i v), some (wp_i w), some (wp_i 1)] [wp_i 0] h9 _
      refine wl_s (pc' := 168) (lv' := [some (.ref 9), some (wp_i tx), some (.ref T), some (wp_i i), some (wp_i v), some (wp_i w), some (wp_i 0)]) ji_92_166 rfl rfl rfl ?_
      refine wl_goto (t := 231) ji_92_168 rfl ?_
      have e : doC tc t k v w = (0, t) := by { unfold doC; rw [if_neg (by omega), if_neg (by omega), if_pos hq, if_neg hc] }
      rw [e] at hk
      exact hk _ C
  · rw [hq]
    refine wl_s (pc' := 171) ji_92_59 rfl rfl rfl ?_
    refine wl_s (pc' := 172) ji_92_171 rfl rfl rfl ?_
    refine cs_gr (r := 47) (k := 0) C (by decide) sq_9 rfl ji_92_172 jf_92_19 ?_
    refine wl_s (pc' := 177) ji_92_175 rfl rfl rfl ?_
    refine wl_s (pc' := 179) ji_92_177 rfl rfl rfl ?_
    obtain ⟨q12, hq12⟩ := cs_c C (by decide) sq_47
    refine wl_vc (d := d + 6) (as := [.ref 47, wp_i v, wp_i w]) (rest := []) ji_92_179 jc_92_111 rfl hq12 jk_84.symm (Nat.le_of_ble_eq_true rfl) rfl (by rw [jn_84]; rfl) (uc_84 (d := d + 4) C N (w := v) (p := w) rv rw_) (fun v1 h11 R => ?_)
    rcases R with ⟨rfl, hc, C⟩ | ⟨rfl, hc, C⟩
    · show wl_R _ _ 92 182 [some (.ref 9), some (wp_i tx), some (.ref T), some (wp_i i), some (wp_i v), some (wp_i w), some (wp_i 1)] [wp_i 1] h11 _
      refine wl_s (pc' := 184) (lv' := [some (.ref 9), some (wp_i tx), some (.ref T), some (wp_i i), some (wp_i v), some (wp_i w), some (wp_i 1)]) ji_92_182 rfl rfl rfl ?_
      refine wl_goto (t := 231) ji_92_184 rfl ?_
      have e : doC tc t k v w = (1, up (keepC t) 54 (w * 6 + v) (-1)) := by { unfold doC; rw [if_neg (by omega), if_neg (by omega), if_neg (by omega), if_pos hq, if_pos hc] }
      rw [e] at hk
      exact hk _ C
    · show wl_R _ _ 92 182 [some (.ref 9), some (wp_i tx), some (.ref T), some (wp_i i), some (wp_i v), some (wp_i w), some (wp_i 1)] [wp_i 0] h11 _
      refine wl_s (pc' := 184) (lv' := [some (.ref 9), some (wp_i tx), some (.ref T), some (wp_i i), some (wp_i v), some (wp_i w), some (wp_i 0)]) ji_92_182 rfl rfl rfl ?_
      refine wl_goto (t := 231) ji_92_184 rfl ?_
      have e : doC tc t k v w = (0, t) := by { unfold doC; rw [if_neg (by omega), if_neg (by omega), if_neg (by omega), if_pos hq, if_neg hc] }
      rw [e] at hk
      exact hk _ C
  · rw [hq]
    refine wl_s (pc' := 187) ji_92_59 rfl rfl rfl ?_
    refine wl_s (pc' := 188) ji_92_187 rfl rfl rfl ?_
    refine cs_gr (r := 47) (k := 0) C (by decide) sq_9 rfl ji_92_188 jf_92_19 ?_
    refine wl_s (pc' := 193) ji_92_191 rfl rfl rfl ?_
    refine wl_s (pc' := 195) ji_92_193 rfl rfl rfl ?_
    obtain ⟨q14, hq14⟩ := cs_c C (by decide) sq_47
    refine wl_vc (d := d + 6) (as := [.ref 47, wp_i v, wp_i w]) (rest := []) ji_92_195 jc_92_114 rfl hq14 jk_87.symm (Nat.le_of_ble_eq_true rfl) rfl (by rw [jn_87]; rfl) (uc_87 (d := d + 4) C N (p := v) (n := w) rv rw_) (fun v1 h13 R => ?_)
    rcases R with ⟨rfl, hc, C⟩ | ⟨rfl, hc, C⟩
    · show wl_R _ _ 92 198 [some (.ref 9), some (wp_i tx), some (.ref T), some (wp_i i), some (wp_i v), some (wp_i w), some (wp_i 1)] [wp_i 1] h13 _
      refine wl_s (pc' := 200) (lv' := [some (.ref 9), some (wp_i tx), some (.ref T), some (wp_i i), some (wp_i v), some (wp_i w), some (wp_i 1)]) ji_92_198 rfl rfl rfl ?_
      refine wl_goto (t := 231) ji_92_200 rfl ?_
      have e : doC tc t k v w = (1, cutW (keepC t) 48 v w (keepC t 48 1)) := by { unfold doC; rw [if_neg (by omega), if_neg (by omega), if_neg (by omega), if_neg (by omega), if_pos hq, if_pos hc] }
      rw [e] at hk
      exact hk _ C
    · show wl_R _ _ 92 198 [some (.ref 9), some (wp_i tx), some (.ref T), some (wp_i i), some (wp_i v), some (wp_i w), some (wp_i 1)] [wp_i 0] h13 _
      refine wl_s (pc' := 200) (lv' := [some (.ref 9), some (wp_i tx), some (.ref T), some (wp_i i), some (wp_i v), some (wp_i w), some (wp_i 0)]) ji_92_198 rfl rfl rfl ?_
      refine wl_goto (t := 231) ji_92_200 rfl ?_
      have e : doC tc t k v w = (0, t) := by { unfold doC; rw [if_neg (by omega), if_neg (by omega), if_neg (by omega), if_neg (by omega), if_pos hq, if_neg hc] }
      rw [e] at hk
      exact hk _ C
  · rw [hq]
    refine wl_s (pc' := 203) ji_92_59 rfl rfl rfl ?_
    refine wl_s (pc' := 204) ji_92_203 rfl rfl rfl ?_
    refine cs_gr (r := 47) (k := 0) C (by decide) sq_9 rfl ji_92_204 jf_92_19 ?_
    refine wl_s (pc' := 209) ji_92_207 rfl rfl rfl ?_
    obtain ⟨q16, hq16⟩ := cs_c C (by decide) sq_47
    refine wl_vc (d := d + 6) (as := [.ref 47, wp_i v]) (rest := []) ji_92_209 jc_92_121 rfl hq16 jk_91.symm (Nat.le_of_ble_eq_true rfl) rfl (by rw [jn_91]; rfl) (uc_91 (d := d + 4) C N (w := v) rv) (fun v1 h15 R => ?_)
    rcases R with ⟨rfl, hc, C⟩ | ⟨rfl, hc, C⟩
    · show wl_R _ _ 92 212 [some (.ref 9), some (wp_i tx), some (.ref T), some (wp_i i), some (wp_i v), some (wp_i w), some (wp_i 1)] [wp_i 1] h15 _
      refine wl_s (pc' := 214) (lv' := [some (.ref 9), some (wp_i tx), some (.ref T), some (wp_i i), some (wp_i v), some (wp_i w), some (wp_i 1)]) ji_92_212 rfl rfl rfl ?_
      refine wl_goto (t := 231) ji_92_214 rfl ?_
      have e : doC tc t k v w = (1, up (keepC t) 48 9 v) := by { unfold doC; rw [if_neg (by omega), if_neg (by omega), if_neg (by omega), if_neg (by omega), if_neg (by omega), if_pos hq, if_pos hc] }
      rw [e] at hk
      exact hk _ C
    · show wl_R _ _ 92 212 [some (.ref 9), some (wp_i tx), some (.ref T), some (wp_i i), some (wp_i v), some (wp_i w), some (wp_i 1)] [wp_i 0] h15 _
      refine wl_s (pc' := 214) (lv' := [some (.ref 9), some (wp_i tx), some (.ref T), some (wp_i i), some (wp_i v), some (wp_i w), some (wp_i 0)]) ji_92_212 rfl rfl rfl ?_
      refine wl_goto (t := 231) ji_92_214 rfl ?_
      have e : doC tc t k v w = (0, t) := by { unfold doC; rw [if_neg (by omega), if_neg (by omega), if_neg (by omega), if_neg (by omega), if_neg (by omega), if_pos hq, if_neg hc] }
      rw [e] at hk
      exact hk _ C
  · rw [hq]
    refine wl_s (pc' := 217) ji_92_59 rfl rfl rfl ?_
    refine wl_s (pc' := 218) ji_92_217 rfl rfl rfl ?_
    refine cs_gr (r := 47) (k := 0) C (by decide) sq_9 rfl ji_92_218 jf_92_19 ?_
    refine wl_s (pc' := 223) ji_92_221 rfl rfl rfl ?_
    obtain ⟨q18, hq18⟩ := cs_c C (by decide) sq_47
    refine wl_vc (d := d + 6) (as := [.ref 47, wp_i v]) (rest := []) ji_92_223 jc_92_101 rfl hq18 jk_58.symm (Nat.le_of_ble_eq_true rfl) rfl (by rw [jn_58]; rfl) (uc_58 (d := d) C N (n := v) rv) (fun v1 h17 R => ?_)
    obtain ⟨y, rfl, hya, hyb, C⟩ := R
    show wl_R _ _ 92 226 [some (.ref 9), some (wp_i tx), some (.ref T), some (wp_i i), some (wp_i v), some (wp_i w), some (wp_i 1)] [wp_i y] h17 _
    refine wl_s (pc' := 228) (lv' := [some (.ref 9), some (wp_i tx), some (.ref T), some (wp_i i), some (wp_i v), some (wp_i w), some (wp_i y)]) ji_92_226 rfl rfl rfl ?_
    refine wl_goto (t := 231) ji_92_228 rfl ?_
    have e : doC tc t k v w = (y, hrsC tc t (min v (9999 - t 48 10)).toNat) := by { unfold doC; rw [if_neg (by omega), if_neg (by omega), if_neg (by omega), if_neg (by omega), if_neg (by omega), if_neg (by omega), if_pos hq, y01 hya hyb] }
    rw [e] at hk
    exact hk _ C
  · rw [hq]
    refine wl_s (pc' := 231) ji_92_59 rfl rfl rfl ?_
    have e : doC tc t k v w = (1, t) := by { unfold doC; rw [if_neg (by omega), if_neg (by omega), if_neg (by omega), if_neg (by omega), if_neg (by omega), if_neg (by omega), if_neg (by omega)] }
    rw [e] at hk
    exact hk _ C
  · rw [hq]
    refine wl_s (pc' := 231) ji_92_59 rfl rfl rfl ?_
    have e : doC tc t k v w = (1, t) := by { unfold doC; rw [if_neg (by omega), if_neg (by omega), if_neg (by omega), if_neg (by omega), if_neg (by omega), if_neg (by omega), if_neg (by omega)] }
    rw [e] at hk
    exact hk _ C
  · rw [hq]
    refine wl_s (pc' := 231) ji_92_59 rfl rfl rfl ?_
    have e : doC tc t k v w = (1, t) := by { unfold doC; rw [if_neg (by omega), if_neg (by omega), if_neg (by omega), if_neg (by omega), if_neg (by omega), if_neg (by omega), if_neg (by omega)] }
    rw [e] at hk
    exact hk _ C
theorem uc_92l {d : Nat} {tc : tcs} {tx : Int} {n T : Nat} (isT_ : isT T) {cl : cls} {s0 : sg_} (hn : n ≤ 24) (hn0 : s0 T 7 = (n : Int)) (hcl : ∀ k, cl k = clsC s0 T k) (O : clsO cl n) : ∀ (nn i : Nat) (l4 l5 l6 : Option Value) (t : sg_) (h : mj_H), CS h t → NV t tc → (∀ (b : Nat) (j : Int), b < 48 → t b j = s0 b j) → i ≤ n → wl_R nn (d + 7) 92 26 [some (.ref 9), some (wp_i tx), some (.ref T), some (wp_i ((i : Int))), l4, l5, l6] [] h (fun v1 h1 => v1 = some (wp_i (pyC tc cl (n - i) i t).1) ∧ CS h1 (pyC tc cl (n - i) i t).2) := by
  intro nn
  induction nn with
  | zero => intros; exact wl_0
  | succ nn ih =>
    intro i l4 l5 l6 t h C N E hi
    have bT := isT_b isT_
    have en : t T 7 = (n : Int) := by rw [E _ _ (by omega)]; exact hn0
    have ek : t (T + 4) (i : Int) = (cl i).1 := by rw [E _ _ (by omega)]; exact (congrArg (fun z => z.1) (hcl i)).symm
    have ev : t (T + 5) (i : Int) = (cl i).2.1 := by rw [E _ _ (by omega)]; exact (congrArg (fun z => z.2.1) (hcl i)).symm
    have ew : t (T + 6) (i : Int) = (cl i).2.2 := by rw [E _ _ (by omega)]; exact (congrArg (fun z => z.2.2) (hcl i)).symm
    have D := doC_NV N (k := (cl i).1) (v := (cl i).2.1) (w := (cl i).2.2)
    refine wl_s1 (pc' := 27) ji_92_26 rfl rfl rfl ?_
    refine wl_s (pc' := 28) ji_92_27 rfl rfl rfl ?_
    refine cs_gi (k := 7) (kI := 7) C (Nat.lt_of_lt_of_le (by decide) isT_.1) (isT_n isT_ 0 (by decide)) isT_.2.1 rfl rfl ji_92_28 jf_92_124 ?_
    rw [en]
    have bd1 : wp_r ((n : Int)) := en ▸ cs_ri (k := 7) (kI := 7) C (Nat.lt_of_lt_of_le (by decide) isT_.1) (isT_n isT_ 0 (by decide)) isT_.2.1 rfl rfl (show 7 < 9 by decide)
    refine wl_icmp (t := 244) ji_92_31 rfl (by omega) (by omega) (fun (hb2 : ((n : Int) : Int) ≤ ((i : Int))) => ?_) (fun (hb2 : ¬ (((n : Int) : Int) ≤ ((i : Int)))) => ?_)
    · refine wl_s (pc' := 245) ji_92_244 rfl rfl rfl ?_
      exact wl_ri ji_92_245 jr_92 rfl (⟨congrArg (fun z => some (wp_i z)) (by rw [show n - i = 0 by omega]; rfl), cs_mono C (by rw [show n - i = 0 by omega]; rfl)⟩)
    · refine wl_s (pc' := 35) ji_92_34 rfl rfl rfl ?_
      refine cs_gr (r := T + 5) (k := 5) C (Nat.lt_of_lt_of_le (by decide) isT_.1) isT_.2.1 rfl ji_92_35 jf_92_127 ?_
      refine wl_s (pc' := 39) ji_92_38 rfl rfl rfl ?_
      refine cs_l (x := (i : Int)) C (Nat.lt_of_lt_of_le (by decide) (Nat.le_trans isT_.1 (Nat.le_add_right _ _))) (isT_n isT_ 5 (by decide)) isT_.2.2.2.2.2.2.1 (by omega) ji_92_39 (fun ld30 ld31 ld32 => ?_)
      rw [ev] at ld32 ⊢
      refine wl_s (pc' := 42) (lv' := [some (.ref 9), some (wp_i tx), some (.ref T), some (wp_i ((i : Int))), some (wp_i ((cl i).2.1)), l5, l6]) ji_92_40 rfl rfl rfl ?_
      refine wl_s (pc' := 43) ji_92_42 rfl rfl rfl ?_
      refine cs_gr (r := T + 6) (k := 6) C (Nat.lt_of_lt_of_le (by decide) isT_.1) isT_.2.1 rfl ji_92_43 jf_92_130 ?_
      refine wl_s (pc' := 47) ji_92_46 rfl rfl rfl ?_
      refine cs_l (x := (i : Int)) C (Nat.lt_of_lt_of_le (by decide) (Nat.le_trans isT_.1 (Nat.le_add_right _ _))) (isT_n isT_ 6 (by decide)) isT_.2.2.2.2.2.2.2.1 (by omega) ji_92_47 (fun ld40 ld41 ld42 => ?_)
      rw [ew] at ld42 ⊢
      refine wl_s (pc' := 50) (lv' := [some (.ref 9), some (wp_i tx), some (.ref T), some (wp_i ((i : Int))), some (wp_i ((cl i).2.1)), some (wp_i ((cl i).2.2)), l6]) ji_92_48 rfl rfl rfl ?_
      refine wl_s (pc' := 51) ji_92_50 rfl rfl rfl ?_
      refine wl_s (pc' := 53) (lv' := [some (.ref 9), some (wp_i tx), some (.ref T), some (wp_i ((i : Int))), some (wp_i ((cl i).2.1)), some (wp_i ((cl i).2.2)), some (wp_i 1)]) ji_92_51 rfl rfl rfl ?_
      refine wl_s (pc' := 54) ji_92_53 rfl rfl rfl ?_
      refine cs_gr (r := T + 4) (k := 4) C (Nat.lt_of_lt_of_le (by decide) isT_.1) isT_.2.1 rfl ji_92_54 jf_92_133 ?_
      refine wl_s (pc' := 58) ji_92_57 rfl rfl rfl ?_
      refine cs_l (x := (i : Int)) C (Nat.lt_of_lt_of_le (by decide) (Nat.le_trans isT_.1 (Nat.le_add_right _ _))) (isT_n isT_ 4 (by decide)) isT_.2.2.2.2.2.1 (by omega) ji_92_58 (fun ld50 ld51 ld52 => ?_)
      rw [ek] at ld52 ⊢
      refine uc_92b C N (O i (by omega)).1 (by assumption) (by assumption) (fun h1 C => ?_)
      obtain ⟨t2, et2⟩ : ∃ z9_, (doC tc t (cl i).1 (cl i).2.1 (cl i).2.2).2 = z9_ := ⟨_, rfl⟩
      obtain ⟨y, ey⟩ : ∃ z9_, (doC tc t (cl i).1 (cl i).2.1 (cl i).2.2).1 = z9_ := ⟨_, rfl⟩
      rw [et2] at C
      rw [ey]
      have y0 : y = 0 ∨ y = 1 := ey ▸ doC_01
      show wl_R _ _ 92 231 [some (.ref 9), some (wp_i tx), some (.ref T), some (wp_i ((i : Int))), some (wp_i ((cl i).2.1)), some (wp_i ((cl i).2.2)), some (wp_i y)] [] _ _
      refine wl_s (pc' := 233) ji_92_231 rfl rfl rfl ?_
      refine wl_if (t := 238) ji_92_233 rfl (by omega) (fun (hb101 : ¬ (y : Int) = 0) => ?_) (fun (hb101 : ¬ (¬ (y : Int) = 0)) => ?_)
      · refine wl_iinc (x := (i : Int)) (z := (i : Int) + 1) (lv' := [some (.ref 9), some (wp_i tx), some (.ref T), some (wp_i ((i : Int) + 1)), some (wp_i ((cl i).2.1)), some (wp_i ((cl i).2.2)), some (wp_i y)]) ji_92_238 rfl (Nat.le_of_ble_eq_true rfl) (by omega) rfl ?_
        refine wl_goto (t := 26) ji_92_241 rfl ?_
        rw [show (i : Int) + 1 = ((i + 1 : Nat) : Int) by omega]
        have eR : pyC tc cl (n - i) i t = pyC tc cl (n - (i + 1)) (i + 1) t2 := by { rw [show n - i = (n - (i + 1)) + 1 by omega, ← et2]; exact if_neg (by rw [ey]; omega) }
        rw [eR]
        exact ih (i + 1) _ _ _ _ _ C (et2 ▸ D.1) (fun b j hb => by rw [← et2, D.2 b j hb]; exact E b j hb) (by omega)
      · refine wl_s (pc' := 237) ji_92_236 rfl rfl rfl ?_
        exact wl_ri ji_92_237 jr_92 rfl ((by have eR : pyC tc cl (n - i) i t = ((i : Int), t2) := by { rw [show n - i = (n - (i + 1)) + 1 by omega, ← et2]; exact if_pos (by rw [ey]; omega) }; rw [eR]; exact ⟨rfl, C⟩))
theorem uc_92 {nn d : Nat} {h : mj_H} {s : sg_} (C : CS h s) {tc : tcs} (N : NV s tc) {tx : Int} (htx : wp_r tx) {n T : Nat} (hT : 12 + 7 * tx.toNat = T) {cl : cls} (hn : n ≤ 24) (hn0 : 0 ≤ tx ∧ tx < s 47 6 → s T 7 = (n : Int)) (hcl : ∀ k, cl k = clsC s T k) (O : clsO cl n) : wl_R nn (d + 7) 92 0 [some (.ref 9), some (wp_i tx), none, none, none, none, none] [] h (fun v1 h1 => ((0 ≤ tx ∧ tx < s 47 6) ∧ v1 = some (wp_i (pyC tc cl n 0 s).1) ∧ CS h1 (pyC tc cl n 0 s).2) ∨ (¬ (0 ≤ tx ∧ tx < s 47 6) ∧ v1 = some (wp_i (-2)) ∧ CS h1 s)) := by
  have i6 := N.t
  have isT_ : 0 ≤ tx ∧ tx < s 47 6 → isT T := fun q => hT ▸ isT_k (by omega)
  refine wl_s (pc' := 1) ji_92_0 rfl rfl rfl ?_
  refine cs_gr (r := 47) (k := 0) C (by decide) sq_9 rfl ji_92_1 jf_92_19 ?_
  refine wl_s (pc' := 5) ji_92_4 rfl rfl rfl ?_
  obtain ⟨q2, hq2⟩ := cs_c C (by decide) sq_47
  refine wl_vc (d := d + 6) (as := [.ref 47, wp_i tx]) (rest := []) ji_92_5 jc_92_91 rfl hq2 jk_56.symm (Nat.le_of_ble_eq_true rfl) rfl (by rw [jn_56]; rfl) (uc_56 (d := d + 6) C (i := tx) htx) (fun v1 h1 R => ?_)
  obtain ⟨ee, y3, rfl, hy3a, hy3b⟩ := R
  rw [ee]
  clear ee
  show wl_R _ _ 92 8 [some (.ref 9), some (wp_i tx), none, none, none, none, none] [wp_i y3] _ _
  refine wl_if (t := 14) ji_92_8 rfl (by omega) (fun (hb4 : ¬ (y3 : Int) = 0) => ?_) (fun (hb4 : ¬ (¬ (y3 : Int) = 0)) => ?_)
  · refine wl_s (pc' := 15) ji_92_14 rfl rfl rfl ?_
    refine cs_gr (r := 47) (k := 0) C (by decide) sq_9 rfl ji_92_15 jf_92_19 ?_
    refine cs_gr (r := 11) (k := 5) C (by decide) sq_47 rfl ji_92_18 jf_92_73 ?_
    refine wl_s (pc' := 22) ji_92_21 rfl rfl rfl ?_
    refine cs_aa (r := 12 + 7 * tx.toNat) (x := tx) C (by decide) sq_11 (by decide) (by omega) (by show tx < ((5 : Nat) : Int); omega) (by decide) (sh_11r (by omega)) ji_92_22 ?_
    rw [hT]
    refine wl_s (pc' := 24) (lv' := [some (.ref 9), some (wp_i tx), some (.ref T), none, none, none, none]) ji_92_23 rfl rfl rfl ?_
    refine wl_s (pc' := 25) ji_92_24 rfl rfl rfl ?_
    refine wl_s (pc' := 26) (lv' := [some (.ref 9), some (wp_i tx), some (.ref T), some (wp_i 0), none, none, none]) ji_92_25 rfl rfl rfl ?_
    exact wl_mono (uc_92l (s0 := s) (isT_ (by omega)) hn (hn0 (by omega)) hcl O nn 0 _ _ _ s _ C N (fun _ _ _ => rfl) (by omega)) (fun v1 h1 R => Or.inl ⟨by omega, R.1, R.2⟩)
  · refine wl_bp ji_92_11 rfl ?_
    exact wl_ri ji_92_13 jr_92 rfl (Or.inr ⟨by omega, rfl, C⟩)
