/-! -/
set_option maxRecDepth 100000 in
theorem ji_209_10 : mj_ins 209 10 = some (.aload_n 0) := by decide +kernel
set_option maxRecDepth 100000 in
theorem ji_209_11 : mj_ins 209 11 = some (.getfield 109) := by decide +kernel
set_option maxRecDepth 100000 in
theorem jf_209_109 : mj_fld 209 109 = some (11, 11, .long, true) := by decide +kernel
set_option maxRecDepth 100000 in
theorem ji_209_14 : mj_ins 209 14 = some (.bipush 104) := by decide +kernel
set_option maxRecDepth 100000 in
theorem ji_209_16 : mj_ins 209 16 = some (.bipush 111) := by decide +kernel
set_option maxRecDepth 100000 in
theorem ji_209_18 : mj_ins 209 18 = some (.bipush 117) := by decide +kernel
set_option maxRecDepth 100000 in
theorem ji_209_20 : mj_ins 209 20 = some (.bipush 114) := by decide +kernel
set_option maxRecDepth 100000 in
theorem ji_209_22 : mj_ins 209 22 = some (.invokestatic 126) := by decide +kernel
set_option maxRecDepth 100000 in
theorem jc_209_126 : mj_cal 209 126 = some (1, 187, 4) := by decide +kernel
set_option maxRecDepth 100000 in
theorem ji_209_25 : mj_ins 209 25 = some (.lcmp) := by decide +kernel
set_option maxRecDepth 100000 in
theorem ji_209_26 : mj_ins 209 26 = some (.ifCond .ne 5) := by decide +kernel
set_option maxRecDepth 100000 in
theorem ji_209_31 : mj_ins 209 31 = some (.aload_n 0) := by decide +kernel
set_option maxRecDepth 100000 in
theorem ji_209_32 : mj_ins 209 32 = some (.getfield 109) := by decide +kernel
set_option maxRecDepth 100000 in
theorem ji_209_35 : mj_ins 209 35 = some (.bipush 119) := by decide +kernel
set_option maxRecDepth 100000 in
theorem ji_209_37 : mj_ins 209 37 = some (.bipush 105) := by decide +kernel
set_option maxRecDepth 100000 in
theorem ji_209_39 : mj_ins 209 39 = some (.bipush 110) := by decide +kernel
set_option maxRecDepth 100000 in
theorem ji_209_41 : mj_ins 209 41 = some (.bipush 100) := by decide +kernel
set_option maxRecDepth 100000 in
theorem ji_209_43 : mj_ins 209 43 = some (.invokestatic 126) := by decide +kernel
set_option maxRecDepth 100000 in
theorem ji_209_46 : mj_ins 209 46 = some (.lcmp) := by decide +kernel
set_option maxRecDepth 100000 in
theorem ji_209_47 : mj_ins 209 47 = some (.ifCond .ne 5) := by decide +kernel
set_option maxRecDepth 100000 in
theorem ji_209_52 : mj_ins 209 52 = some (.aload_n 0) := by decide +kernel
set_option maxRecDepth 100000 in
theorem ji_209_53 : mj_ins 209 53 = some (.getfield 109) := by decide +kernel
set_option maxRecDepth 100000 in
theorem ji_209_56 : mj_ins 209 56 = some (.bipush 112) := by decide +kernel
set_option maxRecDepth 100000 in
theorem ji_209_58 : mj_ins 209 58 = some (.bipush 111) := by decide +kernel
set_option maxRecDepth 100000 in
theorem ji_209_60 : mj_ins 209 60 = some (.bipush 119) := by decide +kernel
set_option maxRecDepth 100000 in
theorem ji_209_62 : mj_ins 209 62 = some (.bipush 101) := by decide +kernel
set_option maxRecDepth 100000 in
theorem ji_209_64 : mj_ins 209 64 = some (.bipush 114) := by decide +kernel
set_option maxRecDepth 100000 in
theorem ji_209_66 : mj_ins 209 66 = some (.invokestatic 130) := by decide +kernel
set_option maxRecDepth 100000 in
theorem jc_209_130 : mj_cal 209 130 = some (1, 186, 5) := by decide +kernel
set_option maxRecDepth 100000 in
theorem ji_209_69 : mj_ins 209 69 = some (.lcmp) := by decide +kernel
set_option maxRecDepth 100000 in
theorem ji_209_70 : mj_ins 209 70 = some (.ifCond .ne 5) := by decide +kernel
set_option maxRecDepth 100000 in
theorem ji_209_75 : mj_ins 209 75 = some (.aload_n 0) := by decide +kernel
set_option maxRecDepth 100000 in
theorem ji_209_76 : mj_ins 209 76 = some (.getfield 109) := by decide +kernel
set_option maxRecDepth 100000 in
theorem ji_209_79 : mj_ins 209 79 = some (.bipush 104) := by decide +kernel
set_option maxRecDepth 100000 in
theorem ji_209_81 : mj_ins 209 81 = some (.bipush 97) := by decide +kernel
set_option maxRecDepth 100000 in
theorem ji_209_83 : mj_ins 209 83 = some (.bipush 110) := by decide +kernel
set_option maxRecDepth 100000 in
theorem ji_209_85 : mj_ins 209 85 = some (.bipush 100) := by decide +kernel
set_option maxRecDepth 100000 in
theorem ji_209_87 : mj_ins 209 87 = some (.bipush 115) := by decide +kernel
set_option maxRecDepth 100000 in
theorem ji_209_89 : mj_ins 209 89 = some (.invokestatic 130) := by decide +kernel
set_option maxRecDepth 100000 in
theorem ji_209_92 : mj_ins 209 92 = some (.lcmp) := by decide +kernel
set_option maxRecDepth 100000 in
theorem ji_209_93 : mj_ins 209 93 = some (.ifCond .ne 5) := by decide +kernel
set_option maxRecDepth 100000 in
theorem ji_209_98 : mj_ins 209 98 = some (.aload_n 0) := by decide +kernel
set_option maxRecDepth 100000 in
theorem ji_209_99 : mj_ins 209 99 = some (.getfield 109) := by decide +kernel
set_option maxRecDepth 100000 in
theorem ji_209_102 : mj_ins 209 102 = some (.bipush 116) := by decide +kernel
set_option maxRecDepth 100000 in
theorem ji_209_104 : mj_ins 209 104 = some (.bipush 97) := by decide +kernel
set_option maxRecDepth 100000 in
theorem ji_209_106 : mj_ins 209 106 = some (.bipush 108) := by decide +kernel
set_option maxRecDepth 100000 in
theorem ji_209_108 : mj_ins 209 108 = some (.bipush 108) := by decide +kernel
set_option maxRecDepth 100000 in
theorem ji_209_110 : mj_ins 209 110 = some (.invokestatic 126) := by decide +kernel
set_option maxRecDepth 100000 in
theorem ji_209_113 : mj_ins 209 113 = some (.lcmp) := by decide +kernel
set_option maxRecDepth 100000 in
theorem ji_209_114 : mj_ins 209 114 = some (.ifCond .ne 5) := by decide +kernel
set_option maxRecDepth 100000 in
theorem ji_209_119 : mj_ins 209 119 = some (.aload_n 0) := by decide +kernel
set_option maxRecDepth 100000 in
theorem ji_209_120 : mj_ins 209 120 = some (.getfield 109) := by decide +kernel
set_option maxRecDepth 100000 in
theorem ji_209_123 : mj_ins 209 123 = some (.bipush 104) := by decide +kernel
set_option maxRecDepth 100000 in
theorem ji_209_125 : mj_ins 209 125 = some (.bipush 101) := by decide +kernel
set_option maxRecDepth 100000 in
theorem ji_209_127 : mj_ins 209 127 = some (.bipush 105) := by decide +kernel
set_option maxRecDepth 100000 in
theorem ji_209_129 : mj_ins 209 129 = some (.bipush 103) := by decide +kernel
set_option maxRecDepth 100000 in
theorem ji_209_131 : mj_ins 209 131 = some (.bipush 104) := by decide +kernel
set_option maxRecDepth 100000 in
theorem ji_209_133 : mj_ins 209 133 = some (.bipush 116) := by decide +kernel
set_option maxRecDepth 100000 in
theorem ji_209_135 : mj_ins 209 135 = some (.invokestatic 140) := by decide +kernel
set_option maxRecDepth 100000 in
theorem jc_209_140 : mj_cal 209 140 = some (1, 185, 6) := by decide +kernel
set_option maxRecDepth 100000 in
theorem ji_209_138 : mj_ins 209 138 = some (.lcmp) := by decide +kernel
set_option maxRecDepth 100000 in
theorem ji_209_139 : mj_ins 209 139 = some (.ifCond .ne 5) := by decide +kernel
set_option maxRecDepth 100000 in
theorem ji_209_144 : mj_ins 209 144 = some (.aload_n 0) := by decide +kernel
set_option maxRecDepth 100000 in
theorem ji_209_145 : mj_ins 209 145 = some (.getfield 109) := by decide +kernel
set_option maxRecDepth 100000 in
theorem ji_209_148 : mj_ins 209 148 = some (.bipush 119) := by decide +kernel
set_option maxRecDepth 100000 in
theorem ji_209_150 : mj_ins 209 150 = some (.bipush 101) := by decide +kernel
set_option maxRecDepth 100000 in
theorem ji_209_152 : mj_ins 209 152 = some (.bipush 97) := by decide +kernel
set_option maxRecDepth 100000 in
theorem ji_209_154 : mj_ins 209 154 = some (.bipush 114) := by decide +kernel
set_option maxRecDepth 100000 in
theorem ji_209_156 : mj_ins 209 156 = some (.invokestatic 126) := by decide +kernel
set_option maxRecDepth 100000 in
theorem ji_209_159 : mj_ins 209 159 = some (.lcmp) := by decide +kernel
set_option maxRecDepth 100000 in
theorem ji_209_160 : mj_ins 209 160 = some (.ifCond .ne 6) := by decide +kernel
set_option maxRecDepth 100000 in
theorem ji_209_166 : mj_ins 209 166 = some (.aload_n 0) := by decide +kernel
set_option maxRecDepth 100000 in
theorem ji_209_167 : mj_ins 209 167 = some (.getfield 109) := by decide +kernel
set_option maxRecDepth 100000 in
theorem ji_209_170 : mj_ins 209 170 = some (.bipush 104) := by decide +kernel
set_option maxRecDepth 100000 in
theorem ji_209_172 : mj_ins 209 172 = some (.bipush 101) := by decide +kernel
set_option maxRecDepth 100000 in
theorem ji_209_174 : mj_ins 209 174 = some (.bipush 114) := by decide +kernel
set_option maxRecDepth 100000 in
theorem ji_209_176 : mj_ins 209 176 = some (.bipush 101) := by decide +kernel
set_option maxRecDepth 100000 in
theorem ji_209_178 : mj_ins 209 178 = some (.invokestatic 126) := by decide +kernel
set_option maxRecDepth 100000 in
theorem ji_209_181 : mj_ins 209 181 = some (.lcmp) := by decide +kernel
set_option maxRecDepth 100000 in
theorem ji_209_182 : mj_ins 209 182 = some (.ifCond .ne 6) := by decide +kernel
set_option maxRecDepth 100000 in
theorem ji_209_188 : mj_ins 209 188 = some (.aload_n 0) := by decide +kernel
set_option maxRecDepth 100000 in
theorem ji_209_189 : mj_ins 209 189 = some (.getfield 109) := by decide +kernel
set_option maxRecDepth 100000 in
theorem ji_209_192 : mj_ins 209 192 = some (.bipush 112) := by decide +kernel
set_option maxRecDepth 100000 in
theorem ji_209_194 : mj_ins 209 194 = some (.bipush 108) := by decide +kernel
set_option maxRecDepth 100000 in
theorem ji_209_196 : mj_ins 209 196 = some (.bipush 97) := by decide +kernel
set_option maxRecDepth 100000 in
theorem ji_209_198 : mj_ins 209 198 = some (.bipush 99) := by decide +kernel
set_option maxRecDepth 100000 in
theorem ji_209_200 : mj_ins 209 200 = some (.bipush 101) := by decide +kernel
set_option maxRecDepth 100000 in
theorem ji_209_202 : mj_ins 209 202 = some (.invokestatic 130) := by decide +kernel
set_option maxRecDepth 100000 in
theorem ji_209_205 : mj_ins 209 205 = some (.lcmp) := by decide +kernel
set_option maxRecDepth 100000 in
theorem ji_209_206 : mj_ins 209 206 = some (.ifCond .ne 8) := by decide +kernel
set_option maxRecDepth 100000 in
theorem ji_209_214 : mj_ins 209 214 = some (.aload_n 0) := by decide +kernel
set_option maxRecDepth 100000 in
theorem ji_209_215 : mj_ins 209 215 = some (.getfield 109) := by decide +kernel
set_option maxRecDepth 100000 in
theorem ji_209_218 : mj_ins 209 218 = some (.bipush 104) := by decide +kernel
set_option maxRecDepth 100000 in
theorem ji_209_220 : mj_ins 209 220 = some (.bipush 111) := by decide +kernel
set_option maxRecDepth 100000 in
theorem ji_209_222 : mj_ins 209 222 = some (.bipush 108) := by decide +kernel
set_option maxRecDepth 100000 in
theorem ji_209_224 : mj_ins 209 224 = some (.bipush 100) := by decide +kernel
set_option maxRecDepth 100000 in
theorem ji_209_226 : mj_ins 209 226 = some (.bipush 115) := by decide +kernel
set_option maxRecDepth 100000 in
theorem ji_209_228 : mj_ins 209 228 = some (.invokestatic 130) := by decide +kernel
set_option maxRecDepth 100000 in
theorem ji_209_231 : mj_ins 209 231 = some (.lcmp) := by decide +kernel
set_option maxRecDepth 100000 in
theorem ji_209_232 : mj_ins 209 232 = some (.ifCond .ne 8) := by decide +kernel
set_option maxRecDepth 100000 in
theorem ji_209_240 : mj_ins 209 240 = some (.iconst (-1)) := by decide +kernel
set_option maxRecDepth 100000 in
theorem ji_209_241 : mj_ins 209 241 = some (.ireturn) := by decide +kernel
set_option maxRecDepth 100000 in
theorem ji_209_235 : mj_ins 209 235 = some (.bipush 9) := by decide +kernel
set_option maxRecDepth 100000 in
theorem ji_209_237 : mj_ins 209 237 = some (.goto 4) := by decide +kernel
set_option maxRecDepth 100000 in
theorem ji_209_209 : mj_ins 209 209 = some (.bipush 8) := by decide +kernel
set_option maxRecDepth 100000 in
theorem ji_209_211 : mj_ins 209 211 = some (.goto 30) := by decide +kernel
set_option maxRecDepth 100000 in
theorem ji_209_185 : mj_ins 209 185 = some (.bipush 7) := by decide +kernel
set_option maxRecDepth 100000 in
theorem ji_209_187 : mj_ins 209 187 = some (.ireturn) := by decide +kernel
set_option maxRecDepth 100000 in
theorem ji_209_163 : mj_ins 209 163 = some (.bipush 6) := by decide +kernel
set_option maxRecDepth 100000 in
theorem ji_209_165 : mj_ins 209 165 = some (.ireturn) := by decide +kernel
set_option maxRecDepth 100000 in
theorem ji_209_142 : mj_ins 209 142 = some (.iconst 5) := by decide +kernel
set_option maxRecDepth 100000 in
theorem ji_209_143 : mj_ins 209 143 = some (.ireturn) := by decide +kernel
set_option maxRecDepth 100000 in
theorem ji_209_117 : mj_ins 209 117 = some (.iconst 4) := by decide +kernel
set_option maxRecDepth 100000 in
theorem ji_209_118 : mj_ins 209 118 = some (.ireturn) := by decide +kernel
set_option maxRecDepth 100000 in
theorem ji_209_96 : mj_ins 209 96 = some (.iconst 3) := by decide +kernel
set_option maxRecDepth 100000 in
theorem ji_209_97 : mj_ins 209 97 = some (.ireturn) := by decide +kernel
set_option maxRecDepth 100000 in
theorem ji_209_73 : mj_ins 209 73 = some (.iconst 2) := by decide +kernel
set_option maxRecDepth 100000 in
theorem ji_209_74 : mj_ins 209 74 = some (.ireturn) := by decide +kernel
set_option maxRecDepth 100000 in
theorem ji_209_50 : mj_ins 209 50 = some (.iconst 1) := by decide +kernel
set_option maxRecDepth 100000 in
theorem ji_209_51 : mj_ins 209 51 = some (.ireturn) := by decide +kernel
set_option maxRecDepth 100000 in
theorem ji_209_29 : mj_ins 209 29 = some (.iconst 0) := by decide +kernel
set_option maxRecDepth 100000 in
theorem ji_209_30 : mj_ins 209 30 = some (.ireturn) := by decide +kernel
set_option maxRecDepth 100000 in
theorem ji_210_0 : mj_ins 210 0 = some (.iload_n 1) := by decide +kernel
set_option maxRecDepth 100000 in
theorem ji_210_1 : mj_ins 210 1 = some (.bipush 8) := by decide +kernel
set_option maxRecDepth 100000 in
theorem ji_210_3 : mj_ins 210 3 = some (.if_icmp .lt 27) := by decide +kernel
set_option maxRecDepth 100000 in
theorem ji_210_30 : mj_ins 210 30 = some (.iconst 1) := by decide +kernel
set_option maxRecDepth 100000 in
theorem ji_210_31 : mj_ins 210 31 = some (.goto 4) := by decide +kernel
set_option maxRecDepth 100000 in
theorem ji_210_35 : mj_ins 210 35 = some (.ireturn) := by decide +kernel
set_option maxRecDepth 100000 in
theorem jr_210 : mj_ret 210 = some .boolean := by decide +kernel
set_option maxRecDepth 100000 in
theorem ji_210_6 : mj_ins 210 6 = some (.iload_n 1) := by decide +kernel
set_option maxRecDepth 100000 in
theorem ji_210_7 : mj_ins 210 7 = some (.bipush 8) := by decide +kernel
set_option maxRecDepth 100000 in
theorem ji_210_9 : mj_ins 210 9 = some (.if_icmp .ne 13) := by decide +kernel
set_option maxRecDepth 100000 in
theorem ji_210_22 : mj_ins 210 22 = some (.aload_n 0) := by decide +kernel
set_option maxRecDepth 100000 in
theorem ji_210_23 : mj_ins 210 23 = some (.getfield 144) := by decide +kernel
set_option maxRecDepth 100000 in
theorem jf_210_144 : mj_fld 210 144 = some (11, 14, .int, true) := by decide +kernel
set_option maxRecDepth 100000 in
theorem ji_210_26 : mj_ins 210 26 = some (.iconst 1) := by decide +kernel
set_option maxRecDepth 100000 in
theorem ji_210_27 : mj_ins 210 27 = some (.if_icmp .eq 7) := by decide +kernel
set_option maxRecDepth 100000 in
theorem ji_210_34 : mj_ins 210 34 = some (.iconst 0) := by decide +kernel
set_option maxRecDepth 100000 in
theorem ji_210_12 : mj_ins 210 12 = some (.aload_n 0) := by decide +kernel
set_option maxRecDepth 100000 in
theorem ji_210_13 : mj_ins 210 13 = some (.getfield 144) := by decide +kernel
set_option maxRecDepth 100000 in
theorem ji_210_16 : mj_ins 210 16 = some (.ifCond .eq 18) := by decide +kernel
set_option maxRecDepth 100000 in
theorem ji_210_19 : mj_ins 210 19 = some (.goto 11) := by decide +kernel
/-! words of both; laid by program (wp_rread4.py) -/
def wdr (l : List Int) : Nat := l.foldr (fun c x => wd1 x c) 0
theorem wd_rev (l : List Int) : wd l = wdr l.reverse := by
  unfold wd wdr
  rw [List.foldl_eq_foldr_reverse]
theorem wdr_lt : ∀ (l : List Int) (k : Nat), l.length ≤ k → k ≤ 6 → (∀ c ∈ l, tk_l c) → wdr l < 256 ^ k
  | [], k, _, _, _ => by
    show 0 < 256 ^ k
    exact Nat.pos_of_ne_zero (by
      have : 0 < 256 ^ k := Nat.pow_pos (by decide)
      omega)
  | c :: l, 0, h, _, _ => by simp at h
  | c :: l, k + 1, h, h6, hl => by
    have ih := wdr_lt l k (by have : l.length + 1 ≤ k + 1 := h; omega) (by omega) (fun c hc => hl c (List.mem_cons_of_mem _ hc))
    have hc := hl c List.mem_cons_self
    unfold tk_l at hc
    have h48 : 256 ^ k ≤ 2 ^ 48 := by
      calc 256 ^ k ≤ 256 ^ 6 := Nat.pow_le_pow_right (by decide) (by omega)
        _ = 2 ^ 48 := by decide
    show wd1 (wdr l) c < 256 ^ (k + 1)
    unfold wd1
    rw [if_pos (by omega), Nat.pow_succ]
    omega
theorem wdr_inj : ∀ (K l : List Int), K.length ≤ 6 → (∀ c ∈ K, tk_l c) → (∀ c ∈ l, tk_l c) → wdr l = wdr K → l = K
  | [], [], _, _, _, _ => rfl
  | [], c :: l, _, _, hl, h => by
    exfalso
    have hc := hl c List.mem_cons_self
    unfold tk_l at hc
    have h : wd1 (wdr l) c = 0 := h
    unfold wd1 at h
    split at h <;> omega
  | k :: K, [], _, hK, _, h => by
    exfalso
    have hc := hK k List.mem_cons_self
    unfold tk_l at hc
    have h : 0 = wd1 (wdr K) k := h
    unfold wd1 at h
    split at h <;> omega
  | k :: K, c :: l, h6, hK, hl, h => by
    have hk := hK k List.mem_cons_self
    have hc := hl c List.mem_cons_self
    unfold tk_l at hk hc
    have hKl : K.length ≤ 5 := by have : K.length + 1 ≤ 6 := h6; omega
    have hb := wdr_lt K 5 hKl (by decide) (fun c hc => hK c (List.mem_cons_of_mem _ hc))
    have h : wd1 (wdr l) c = wd1 (wdr K) k := h
    have e5 : (256 : Nat) ^ 5 = 1099511627776 := by decide
    have hr : wd1 (wdr K) k = 256 * wdr K + k.toNat := if_pos (by omega)
    rw [hr] at h
    unfold wd1 at h
    split at h
    · have e1 : wdr l = wdr K := by omega
      have e2 : c = k := by omega
      rw [e2, wdr_inj K l (by omega) (fun c hc => hK c (List.mem_cons_of_mem _ hc)) (fun c hc => hl c (List.mem_cons_of_mem _ hc)) e1]
    · exfalso
      omega
theorem wd_inj {K l : List Int} (h6 : K.length ≤ 6) (hK : ∀ c ∈ K, tk_l c) (hl : ∀ c ∈ l, tk_l c) (h : wd l = wd K) : l = K := by
  rw [wd_rev, wd_rev] at h
  have := wdr_inj K.reverse l.reverse (by rw [List.length_reverse]; exact h6) (fun c hc => hK c (List.mem_reverse.mp hc)) (fun c hc => hl c (List.mem_reverse.mp hc)) h
  exact List.reverse_inj.mp this
theorem wix_n {l : List Int} : ∀ {Ks : List (List Int)} {n : Int}, 0 ≤ n → wix l Ks n = -1 ∨ n ≤ wix l Ks n
  | [], n, h => Or.inl rfl
  | K :: Ks, n, h => by
    have ih := wix_n (l := l) (Ks := Ks) (n := n + 1) (by omega)
    show (if l = K then n else wix l Ks (n + 1)) = -1 ∨ n ≤ (if l = K then n else wix l Ks (n + 1))
    split
    · omega
    · omega
theorem wix_1 {l : List Int} : ∀ {Ks : List (List Int)} {n : Int} {j : Nat}, 0 ≤ n → wix l Ks n = n + (j : Int) → Ks[j]? = some l
  | [], n, j, h, e => by
    have e : -1 = n + (j : Int) := e
    omega
  | K :: Ks, n, j, h, e => by
    have e : (if l = K then n else wix l Ks (n + 1)) = n + (j : Int) := e
    have hn := wix_n (l := l) (Ks := Ks) (n := n + 1) (by omega)
    split at e
    · rename_i hl
      have : j = 0 := by omega
      subst this
      rw [hl]
      rfl
    · cases j with
      | zero => exfalso; omega
      | succ j =>
        have := wix_1 (l := l) (Ks := Ks) (n := n + 1) (j := j) (by omega) (by omega)
        exact this
theorem wix_2 {l : List Int} : ∀ {Ks : List (List Int)} {n : Int} {j : Nat}, Ks.Nodup → Ks[j]? = some l → wix l Ks n = n + (j : Int)
  | [], n, j, _, e => by cases e
  | K :: Ks, n, j, hd, e => by
    show (if l = K then n else wix l Ks (n + 1)) = _
    cases j with
    | zero =>
      cases e
      rw [if_pos rfl]
      omega
    | succ j =>
      have e : Ks[j]? = some l := e
      have hne : ¬ l = K := fun x => (List.nodup_cons.mp hd).1 (by rw [← x]; exact List.mem_of_getElem? e)
      rw [if_neg hne, wix_2 (List.nodup_cons.mp hd).2 e]
      omega
theorem tk_Wn : tk_W.Nodup := by decide +kernel
theorem tk_Wb : (tk_W.all fun K => decide (K.length ≤ 6) && K.all fun c => decide (97 ≤ c ∧ c ≤ 122)) = true := by decide +kernel
/-- a word of both -/
theorem kw {k v t n : Int} {w : Nat} (T : tkr k v t n w) {j : Nat} {K : List Int} (hj : tk_W[j]? = some K) : (t = 2 ∧ w = wd K) ↔ (k = 0 ∧ v = (j : Int)) := by
  have hb := List.all_eq_true.mp tk_Wb K (List.mem_of_getElem? hj)
  rw [Bool.and_eq_true, decide_eq_true_eq] at hb
  have hK : ∀ c ∈ K, tk_l c := fun c hc => Or.inl (of_decide_eq_true (List.all_eq_true.mp hb.2 c hc))
  rcases T with ⟨rfl, rfl⟩ | ⟨rfl, rfl, l, hl, rfl, rfl⟩ | ⟨rfl, rfl, -⟩ | ⟨rfl, ht, hv⟩ | ⟨rfl, rfl⟩
  · constructor <;> (intro h; omega)
  · constructor
    · rintro ⟨-, h⟩
      have e := wd_inj hb.1 hK hl h
      subst e
      exact ⟨rfl, by rw [wix_2 tk_Wn hj]; omega⟩
    · rintro ⟨-, h⟩
      have e := wix_1 (l := l) (Ks := tk_W) (n := 0) (j := j) (by decide) (by omega)
      rw [hj] at e
      cases e
      exact ⟨rfl, rfl⟩
  · constructor <;> (intro h; omega)
  · unfold sg at ht
    constructor
    · intro h
      split at ht
      · omega
      · split at ht <;> omega
    · intro h
      omega
  · constructor <;> (intro h; omega)
theorem tk0 {k v t n : Int} {w : Nat} (T : tkr k v t n w) (h : k = 0) : t = 2 := by
  rcases T with ⟨rfl, rfl⟩ | ⟨rfl, rfl, -⟩ | ⟨rfl, rfl, -⟩ | ⟨rfl, ht, hv⟩ | ⟨rfl, rfl⟩
  · omega
  · rfl
  · omega
  · omega
  · omega
theorem tk2 {k v t n : Int} {w : Nat} (T : tkr k v t n w) (h : t = 2) : k = 0 := by
  rcases T with ⟨rfl, rfl⟩ | ⟨rfl, rfl, -⟩ | ⟨rfl, rfl, -⟩ | ⟨rfl, ht, hv⟩ | ⟨rfl, rfl⟩
  · omega
  · rfl
  · omega
  · unfold sg at ht
    exfalso
    split at ht
    · omega
    · split at ht <;> omega
  · omega
theorem kwb {k v t n : Int} {w : Nat} (T : tkr k v t n w) : 0 ≤ t := by
  rcases T with ⟨rfl, rfl⟩ | ⟨rfl, rfl, -⟩ | ⟨rfl, rfl, -⟩ | ⟨rfl, ht, hv⟩ | ⟨rfl, rfl⟩
  · omega
  · omega
  · omega
  · unfold sg at ht
    split at ht
    · omega
    · split at ht <;> omega
  · omega
def nmo (k v : Int) : Int := if k = 0 then (if v = 9 then 0 else if v = 17 then 1 else if v = 4 then 2 else if v = 18 then 3 else if v = 19 then 4 else if v = 20 then 5 else if v = 21 then 6 else if v = 22 then 7 else if v = 23 then 8 else if v = 24 then 9 else -1) else -1
theorem wr_nm {nn d : Nat} {h0 h : mj_H} {fs0 bl pl ts : List Value} {L p q t n x0 wr so pd op am wi ei oc cn : Int} {w : Nat} (V : rP h0 h fs0 bl L p q t n x0 wr so pd op am wi ei oc cn w pl ts) {k v : Int} (T : tkr k v t n w) (hw0 : w ≤ 2 ^ 60) (htr : wp_r t) : wl_R nn (d + 5) 209 0 [some (.ref 138)] [] h (fun v9 h1 => h1 = h ∧ v9 = some (wp_i (nmo k v))) := by
  skip
  refine wl_s (pc' := 1) ji_209_0 rfl rfl rfl ?_
  refine rp_g9 V ji_209_1 jf_209_95 ?_
  refine wl_s (pc' := 5) ji_209_4 rfl rfl rfl ?_
  refine wl_icmp (t := 10) ji_209_5 rfl (by omega) (by omega) (fun (hb1 : (t : Int) = 2) => ?_) (fun (hb1 : ¬ ((t : Int) = 2)) => ?_)
  · have ht2 : t = 2 := by omega
    have hk0 : k = 0 := tk2 T ht2
    refine wl_s (pc' := 11) ji_209_10 rfl rfl rfl ?_
    refine rp_g11 V ji_209_11 jf_209_109 ?_
    refine wl_bp ji_209_14 rfl ?_
    refine wl_bp ji_209_16 rfl ?_
    refine wl_bp ji_209_18 rfl ?_
    refine wl_bp ji_209_20 rfl ?_
    refine wl_sc (d := d + 4) (as := [wp_i 104, wp_i 111, wp_i 117, wp_i 114]) (rest := [.long (Int64.ofNat w)]) ji_209_22 jc_209_126 (Nat.le_of_ble_eq_true rfl) rfl (Nat.le_of_ble_eq_true rfl) rfl (by rw [jn_187]; rfl) (wr_w4 (d := d + 2) (by decide) (by decide) (by decide) (by decide)) (fun v1 h1 R => ?_)
    obtain ⟨ee, rfl⟩ := R
    subst ee
    show wl_R _ _ 209 25 [some (.ref 138)] [.long (Int64.ofNat (wd [104, 111, 117, 114])), .long (Int64.ofNat w)] h1 _
    refine wl_lcmp (x := w) (y := wd [104, 111, 117, 114]) ji_209_25 (by omega) (by decide +kernel) (fun z2 hz2a hz2b => ?_)
    refine wl_if (t := 31) ji_209_26 rfl (by omega) (fun (hb3 : ¬ (z2 : Int) = 0) => ?_) (fun (hb3 : ¬ (¬ (z2 : Int) = 0)) => ?_)
    · have n2 : ¬ v = 9 := fun x => hb3 (hz2b.mpr ((kw T (j := 9) (K := [104, 111, 117, 114]) rfl).mpr ⟨hk0, x⟩).2)
      clear hb3 hz2a hz2b
      refine wl_s (pc' := 32) ji_209_31 rfl rfl rfl ?_
      refine rp_g11 V ji_209_32 jf_209_109 ?_
      refine wl_bp ji_209_35 rfl ?_
      refine wl_bp ji_209_37 rfl ?_
      refine wl_bp ji_209_39 rfl ?_
      refine wl_bp ji_209_41 rfl ?_
      refine wl_sc (d := d + 4) (as := [wp_i 119, wp_i 105, wp_i 110, wp_i 100]) (rest := [.long (Int64.ofNat w)]) ji_209_43 jc_209_126 (Nat.le_of_ble_eq_true rfl) rfl (Nat.le_of_ble_eq_true rfl) rfl (by rw [jn_187]; rfl) (wr_w4 (d := d + 2) (by decide) (by decide) (by decide) (by decide)) (fun v1 h1 R => ?_)
      obtain ⟨ee, rfl⟩ := R
      subst ee
      show wl_R _ _ 209 46 [some (.ref 138)] [.long (Int64.ofNat (wd [119, 105, 110, 100])), .long (Int64.ofNat w)] h1 _
      refine wl_lcmp (x := w) (y := wd [119, 105, 110, 100]) ji_209_46 (by omega) (by decide +kernel) (fun z4 hz4a hz4b => ?_)
      refine wl_if (t := 52) ji_209_47 rfl (by omega) (fun (hb5 : ¬ (z4 : Int) = 0) => ?_) (fun (hb5 : ¬ (¬ (z4 : Int) = 0)) => ?_)
      · have n4 : ¬ v = 17 := fun x => hb5 (hz4b.mpr ((kw T (j := 17) (K := [119, 105, 110, 100]) rfl).mpr ⟨hk0, x⟩).2)
        clear hb5 hz4a hz4b
        refine wl_s (pc' := 53) ji_209_52 rfl rfl rfl ?_
        refine rp_g11 V ji_209_53 jf_209_109 ?_
        refine wl_bp ji_209_56 rfl ?_
        refine wl_bp ji_209_58 rfl ?_
        refine wl_bp ji_209_60 rfl ?_
        refine wl_bp ji_209_62 rfl ?_
        refine wl_bp ji_209_64 rfl ?_
        refine wl_sc (d := d + 4) (as := [wp_i 112, wp_i 111, wp_i 119, wp_i 101, wp_i 114]) (rest := [.long (Int64.ofNat w)]) ji_209_66 jc_209_130 (Nat.le_of_ble_eq_true rfl) rfl (Nat.le_of_ble_eq_true rfl) rfl (by rw [jn_186]; rfl) (wr_w5 (d := d + 1) (by decide) (by decide) (by decide) (by decide) (by decide)) (fun v1 h1 R => ?_)
        obtain ⟨ee, rfl⟩ := R
        subst ee
        show wl_R _ _ 209 69 [some (.ref 138)] [.long (Int64.ofNat (wd [112, 111, 119, 101, 114])), .long (Int64.ofNat w)] h1 _
        refine wl_lcmp (x := w) (y := wd [112, 111, 119, 101, 114]) ji_209_69 (by omega) (by decide +kernel) (fun z6 hz6a hz6b => ?_)
        refine wl_if (t := 75) ji_209_70 rfl (by omega) (fun (hb7 : ¬ (z6 : Int) = 0) => ?_) (fun (hb7 : ¬ (¬ (z6 : Int) = 0)) => ?_)
        · have n6 : ¬ v = 4 := fun x => hb7 (hz6b.mpr ((kw T (j := 4) (K := [112, 111, 119, 101, 114]) rfl).mpr ⟨hk0, x⟩).2)
          clear hb7 hz6a hz6b
          refine wl_s (pc' := 76) ji_209_75 rfl rfl rfl ?_
          refine rp_g11 V ji_209_76 jf_209_109 ?_
          refine wl_bp ji_209_79 rfl ?_
          refine wl_bp ji_209_81 rfl ?_
          refine wl_bp ji_209_83 rfl ?_
          refine wl_bp ji_209_85 rfl ?_
          refine wl_bp ji_209_87 rfl ?_
          refine wl_sc (d := d + 4) (as := [wp_i 104, wp_i 97, wp_i 110, wp_i 100, wp_i 115]) (rest := [.long (Int64.ofNat w)]) ji_209_89 jc_209_130 (Nat.le_of_ble_eq_true rfl) rfl (Nat.le_of_ble_eq_true rfl) rfl (by rw [jn_186]; rfl) (wr_w5 (d := d + 1) (by decide) (by decide) (by decide) (by decide) (by decide)) (fun v1 h1 R => ?_)
          obtain ⟨ee, rfl⟩ := R
          subst ee
          show wl_R _ _ 209 92 [some (.ref 138)] [.long (Int64.ofNat (wd [104, 97, 110, 100, 115])), .long (Int64.ofNat w)] h1 _
          refine wl_lcmp (x := w) (y := wd [104, 97, 110, 100, 115]) ji_209_92 (by omega) (by decide +kernel) (fun z8 hz8a hz8b => ?_)
          refine wl_if (t := 98) ji_209_93 rfl (by omega) (fun (hb9 : ¬ (z8 : Int) = 0) => ?_) (fun (hb9 : ¬ (¬ (z8 : Int) = 0)) => ?_)
          · have n8 : ¬ v = 18 := fun x => hb9 (hz8b.mpr ((kw T (j := 18) (K := [104, 97, 110, 100, 115]) rfl).mpr ⟨hk0, x⟩).2)
            clear hb9 hz8a hz8b
            refine wl_s (pc' := 99) ji_209_98 rfl rfl rfl ?_
            refine rp_g11 V ji_209_99 jf_209_109 ?_
            refine wl_bp ji_209_102 rfl ?_
            refine wl_bp ji_209_104 rfl ?_
            refine wl_bp ji_209_106 rfl ?_
            refine wl_bp ji_209_108 rfl ?_
            refine wl_sc (d := d + 4) (as := [wp_i 116, wp_i 97, wp_i 108, wp_i 108]) (rest := [.long (Int64.ofNat w)]) ji_209_110 jc_209_126 (Nat.le_of_ble_eq_true rfl) rfl (Nat.le_of_ble_eq_true rfl) rfl (by rw [jn_187]; rfl) (wr_w4 (d := d + 2) (by decide) (by decide) (by decide) (by decide)) (fun v1 h1 R => ?_)
            obtain ⟨ee, rfl⟩ := R
            subst ee
            show wl_R _ _ 209 113 [some (.ref 138)] [.long (Int64.ofNat (wd [116, 97, 108, 108])), .long (Int64.ofNat w)] h1 _
            refine wl_lcmp (x := w) (y := wd [116, 97, 108, 108]) ji_209_113 (by omega) (by decide +kernel) (fun z10 hz10a hz10b => ?_)
            refine wl_if (t := 119) ji_209_114 rfl (by omega) (fun (hb11 : ¬ (z10 : Int) = 0) => ?_) (fun (hb11 : ¬ (¬ (z10 : Int) = 0)) => ?_)
            · have n10 : ¬ v = 19 := fun x => hb11 (hz10b.mpr ((kw T (j := 19) (K := [116, 97, 108, 108]) rfl).mpr ⟨hk0, x⟩).2)
              clear hb11 hz10a hz10b
              refine wl_s (pc' := 120) ji_209_119 rfl rfl rfl ?_
              refine rp_g11 V ji_209_120 jf_209_109 ?_
              refine wl_bp ji_209_123 rfl ?_
              refine wl_bp ji_209_125 rfl ?_
              refine wl_bp ji_209_127 rfl ?_
              refine wl_bp ji_209_129 rfl ?_
              refine wl_bp ji_209_131 rfl ?_
              refine wl_bp ji_209_133 rfl ?_
              refine wl_sc (d := d + 4) (as := [wp_i 104, wp_i 101, wp_i 105, wp_i 103, wp_i 104, wp_i 116]) (rest := [.long (Int64.ofNat w)]) ji_209_135 jc_209_140 (Nat.le_of_ble_eq_true rfl) rfl (Nat.le_of_ble_eq_true rfl) rfl (by rw [jn_185]; rfl) (wr_w6 (d := d + 0) (by decide) (by decide) (by decide) (by decide) (by decide) (by decide)) (fun v1 h1 R => ?_)
              obtain ⟨ee, rfl⟩ := R
              subst ee
              show wl_R _ _ 209 138 [some (.ref 138)] [.long (Int64.ofNat (wd [104, 101, 105, 103, 104, 116])), .long (Int64.ofNat w)] h1 _
              refine wl_lcmp (x := w) (y := wd [104, 101, 105, 103, 104, 116]) ji_209_138 (by omega) (by decide +kernel) (fun z12 hz12a hz12b => ?_)
              refine wl_if (t := 144) ji_209_139 rfl (by omega) (fun (hb13 : ¬ (z12 : Int) = 0) => ?_) (fun (hb13 : ¬ (¬ (z12 : Int) = 0)) => ?_)
              · have n12 : ¬ v = 20 := fun x => hb13 (hz12b.mpr ((kw T (j := 20) (K := [104, 101, 105, 103, 104, 116]) rfl).mpr ⟨hk0, x⟩).2)
                clear hb13 hz12a hz12b
                refine wl_s (pc' := 145) ji_209_144 rfl rfl rfl ?_
                refine rp_g11 V ji_209_145 jf_209_109 ?_
                refine wl_bp ji_209_148 rfl ?_
                refine wl_bp ji_209_150 rfl ?_
                refine wl_bp ji_209_152 rfl ?_
                refine wl_bp ji_209_154 rfl ?_
                refine wl_sc (d := d + 4) (as := [wp_i 119, wp_i 101, wp_i 97, wp_i 114]) (rest := [.long (Int64.ofNat w)]) ji_209_156 jc_209_126 (Nat.le_of_ble_eq_true rfl) rfl (Nat.le_of_ble_eq_true rfl) rfl (by rw [jn_187]; rfl) (wr_w4 (d := d + 2) (by decide) (by decide) (by decide) (by decide)) (fun v1 h1 R => ?_)
                obtain ⟨ee, rfl⟩ := R
                subst ee
                show wl_R _ _ 209 159 [some (.ref 138)] [.long (Int64.ofNat (wd [119, 101, 97, 114])), .long (Int64.ofNat w)] h1 _
                refine wl_lcmp (x := w) (y := wd [119, 101, 97, 114]) ji_209_159 (by omega) (by decide +kernel) (fun z14 hz14a hz14b => ?_)
                refine wl_if (t := 166) ji_209_160 rfl (by omega) (fun (hb15 : ¬ (z14 : Int) = 0) => ?_) (fun (hb15 : ¬ (¬ (z14 : Int) = 0)) => ?_)
                · have n14 : ¬ v = 21 := fun x => hb15 (hz14b.mpr ((kw T (j := 21) (K := [119, 101, 97, 114]) rfl).mpr ⟨hk0, x⟩).2)
                  clear hb15 hz14a hz14b
                  refine wl_s (pc' := 167) ji_209_166 rfl rfl rfl ?_
                  refine rp_g11 V ji_209_167 jf_209_109 ?_
                  refine wl_bp ji_209_170 rfl ?_
                  refine wl_bp ji_209_172 rfl ?_
                  refine wl_bp ji_209_174 rfl ?_
                  refine wl_bp ji_209_176 rfl ?_
                  refine wl_sc (d := d + 4) (as := [wp_i 104, wp_i 101, wp_i 114, wp_i 101]) (rest := [.long (Int64.ofNat w)]) ji_209_178 jc_209_126 (Nat.le_of_ble_eq_true rfl) rfl (Nat.le_of_ble_eq_true rfl) rfl (by rw [jn_187]; rfl) (wr_w4 (d := d + 2) (by decide) (by decide) (by decide) (by decide)) (fun v1 h1 R => ?_)
                  obtain ⟨ee, rfl⟩ := R
                  subst ee
                  show wl_R _ _ 209 181 [some (.ref 138)] [.long (Int64.ofNat (wd [104, 101, 114, 101])), .long (Int64.ofNat w)] h1 _
                  refine wl_lcmp (x := w) (y := wd [104, 101, 114, 101]) ji_209_181 (by omega) (by decide +kernel) (fun z16 hz16a hz16b => ?_)
                  refine wl_if (t := 188) ji_209_182 rfl (by omega) (fun (hb17 : ¬ (z16 : Int) = 0) => ?_) (fun (hb17 : ¬ (¬ (z16 : Int) = 0)) => ?_)
                  · have n16 : ¬ v = 22 := fun x => hb17 (hz16b.mpr ((kw T (j := 22) (K := [104, 101, 114, 101]) rfl).mpr ⟨hk0, x⟩).2)
                    clear hb17 hz16a hz16b
                    refine wl_s (pc' := 189) ji_209_188 rfl rfl rfl ?_
                    refine rp_g11 V ji_209_189 jf_209_109 ?_
                    refine wl_bp ji_209_192 rfl ?_
                    refine wl_bp ji_209_194 rfl ?_
                    refine wl_bp ji_209_196 rfl ?_
                    refine wl_bp ji_209_198 rfl ?_
                    refine wl_bp ji_209_200 rfl ?_
                    refine wl_sc (d := d + 4) (as := [wp_i 112, wp_i 108, wp_i 97, wp_i 99, wp_i 101]) (rest := [.long (Int64.ofNat w)]) ji_209_202 jc_209_130 (Nat.le_of_ble_eq_true rfl) rfl (Nat.le_of_ble_eq_true rfl) rfl (by rw [jn_186]; rfl) (wr_w5 (d := d + 1) (by decide) (by decide) (by decide) (by decide) (by decide)) (fun v1 h1 R => ?_)
                    obtain ⟨ee, rfl⟩ := R
                    subst ee
                    show wl_R _ _ 209 205 [some (.ref 138)] [.long (Int64.ofNat (wd [112, 108, 97, 99, 101])), .long (Int64.ofNat w)] h1 _
                    refine wl_lcmp (x := w) (y := wd [112, 108, 97, 99, 101]) ji_209_205 (by omega) (by decide +kernel) (fun z18 hz18a hz18b => ?_)
                    refine wl_if (t := 214) ji_209_206 rfl (by omega) (fun (hb19 : ¬ (z18 : Int) = 0) => ?_) (fun (hb19 : ¬ (¬ (z18 : Int) = 0)) => ?_)
                    · have n18 : ¬ v = 23 := fun x => hb19 (hz18b.mpr ((kw T (j := 23) (K := [112, 108, 97, 99, 101]) rfl).mpr ⟨hk0, x⟩).2)
                      clear hb19 hz18a hz18b
                      refine wl_s (pc' := 215) ji_209_214 rfl rfl rfl ?_
                      refine rp_g11 V ji_209_215 jf_209_109 ?_
                      refine wl_bp ji_209_218 rfl ?_
                      refine wl_bp ji_209_220 rfl ?_
                      refine wl_bp ji_209_222 rfl ?_
                      refine wl_bp ji_209_224 rfl ?_
                      refine wl_bp ji_209_226 rfl ?_
                      refine wl_sc (d := d + 4) (as := [wp_i 104, wp_i 111, wp_i 108, wp_i 100, wp_i 115]) (rest := [.long (Int64.ofNat w)]) ji_209_228 jc_209_130 (Nat.le_of_ble_eq_true rfl) rfl (Nat.le_of_ble_eq_true rfl) rfl (by rw [jn_186]; rfl) (wr_w5 (d := d + 1) (by decide) (by decide) (by decide) (by decide) (by decide)) (fun v1 h1 R => ?_)
                      obtain ⟨ee, rfl⟩ := R
                      subst ee
                      show wl_R _ _ 209 231 [some (.ref 138)] [.long (Int64.ofNat (wd [104, 111, 108, 100, 115])), .long (Int64.ofNat w)] h1 _
                      refine wl_lcmp (x := w) (y := wd [104, 111, 108, 100, 115]) ji_209_231 (by omega) (by decide +kernel) (fun z20 hz20a hz20b => ?_)
                      refine wl_if (t := 240) ji_209_232 rfl (by omega) (fun (hb21 : ¬ (z20 : Int) = 0) => ?_) (fun (hb21 : ¬ (¬ (z20 : Int) = 0)) => ?_)
                      · have n20 : ¬ v = 24 := fun x => hb21 (hz20b.mpr ((kw T (j := 24) (K := [104, 111, 108, 100, 115]) rfl).mpr ⟨hk0, x⟩).2)
                        clear hb21 hz20a hz20b
                        refine wl_s (pc' := 241) ji_209_240 rfl rfl rfl ?_
                        rw [show nmo k v = -1 by unfold nmo; rw [if_pos hk0]; repeat' split; all_goals omega]
                        exact wl_ri ji_209_241 jr_209 rfl ⟨rfl, rfl⟩
                      · have n20 : v = 24 := ((kw T (j := 24) (K := [104, 111, 108, 100, 115]) rfl).mp ⟨ht2, hz20b.mp (Classical.byContradiction hb21)⟩).2
                        clear hb21 hz20a hz20b
                        refine wl_bp ji_209_235 rfl ?_
                        refine wl_goto (t := 241) ji_209_237 rfl ?_
                        rw [show nmo k v = 9 by unfold nmo; rw [if_pos hk0]; repeat' split; all_goals omega]
                        exact wl_ri ji_209_241 jr_209 rfl ⟨rfl, rfl⟩
                    · have n18 : v = 23 := ((kw T (j := 23) (K := [112, 108, 97, 99, 101]) rfl).mp ⟨ht2, hz18b.mp (Classical.byContradiction hb19)⟩).2
                      clear hb19 hz18a hz18b
                      refine wl_bp ji_209_209 rfl ?_
                      refine wl_goto (t := 241) ji_209_211 rfl ?_
                      rw [show nmo k v = 8 by unfold nmo; rw [if_pos hk0]; repeat' split; all_goals omega]
                      exact wl_ri ji_209_241 jr_209 rfl ⟨rfl, rfl⟩
                  · have n16 : v = 22 := ((kw T (j := 22) (K := [104, 101, 114, 101]) rfl).mp ⟨ht2, hz16b.mp (Classical.byContradiction hb17)⟩).2
                    clear hb17 hz16a hz16b
                    refine wl_bp ji_209_185 rfl ?_
                    rw [show nmo k v = 7 by unfold nmo; rw [if_pos hk0]; repeat' split; all_goals omega]
                    exact wl_ri ji_209_187 jr_209 rfl ⟨rfl, rfl⟩
                · have n14 : v = 21 := ((kw T (j := 21) (K := [119, 101, 97, 114]) rfl).mp ⟨ht2, hz14b.mp (Classical.byContradiction hb15)⟩).2
                  clear hb15 hz14a hz14b
                  refine wl_bp ji_209_163 rfl ?_
                  rw [show nmo k v = 6 by unfold nmo; rw [if_pos hk0]; repeat' split; all_goals omega]
                  exact wl_ri ji_209_165 jr_209 rfl ⟨rfl, rfl⟩
              · have n12 : v = 20 := ((kw T (j := 20) (K := [104, 101, 105, 103, 104, 116]) rfl).mp ⟨ht2, hz12b.mp (Classical.byContradiction hb13)⟩).2
                clear hb13 hz12a hz12b
                refine wl_s (pc' := 143) ji_209_142 rfl rfl rfl ?_
                rw [show nmo k v = 5 by unfold nmo; rw [if_pos hk0]; repeat' split; all_goals omega]
                exact wl_ri ji_209_143 jr_209 rfl ⟨rfl, rfl⟩
            · have n10 : v = 19 := ((kw T (j := 19) (K := [116, 97, 108, 108]) rfl).mp ⟨ht2, hz10b.mp (Classical.byContradiction hb11)⟩).2
              clear hb11 hz10a hz10b
              refine wl_s (pc' := 118) ji_209_117 rfl rfl rfl ?_
              rw [show nmo k v = 4 by unfold nmo; rw [if_pos hk0]; repeat' split; all_goals omega]
              exact wl_ri ji_209_118 jr_209 rfl ⟨rfl, rfl⟩
          · have n8 : v = 18 := ((kw T (j := 18) (K := [104, 97, 110, 100, 115]) rfl).mp ⟨ht2, hz8b.mp (Classical.byContradiction hb9)⟩).2
            clear hb9 hz8a hz8b
            refine wl_s (pc' := 97) ji_209_96 rfl rfl rfl ?_
            rw [show nmo k v = 3 by unfold nmo; rw [if_pos hk0]; repeat' split; all_goals omega]
            exact wl_ri ji_209_97 jr_209 rfl ⟨rfl, rfl⟩
        · have n6 : v = 4 := ((kw T (j := 4) (K := [112, 111, 119, 101, 114]) rfl).mp ⟨ht2, hz6b.mp (Classical.byContradiction hb7)⟩).2
          clear hb7 hz6a hz6b
          refine wl_s (pc' := 74) ji_209_73 rfl rfl rfl ?_
          rw [show nmo k v = 2 by unfold nmo; rw [if_pos hk0]; repeat' split; all_goals omega]
          exact wl_ri ji_209_74 jr_209 rfl ⟨rfl, rfl⟩
      · have n4 : v = 17 := ((kw T (j := 17) (K := [119, 105, 110, 100]) rfl).mp ⟨ht2, hz4b.mp (Classical.byContradiction hb5)⟩).2
        clear hb5 hz4a hz4b
        refine wl_s (pc' := 51) ji_209_50 rfl rfl rfl ?_
        rw [show nmo k v = 1 by unfold nmo; rw [if_pos hk0]; repeat' split; all_goals omega]
        exact wl_ri ji_209_51 jr_209 rfl ⟨rfl, rfl⟩
    · have n2 : v = 9 := ((kw T (j := 9) (K := [104, 111, 117, 114]) rfl).mp ⟨ht2, hz2b.mp (Classical.byContradiction hb3)⟩).2
      clear hb3 hz2a hz2b
      refine wl_s (pc' := 30) ji_209_29 rfl rfl rfl ?_
      rw [show nmo k v = 0 by unfold nmo; rw [if_pos hk0]; repeat' split; all_goals omega]
      exact wl_ri ji_209_30 jr_209 rfl ⟨rfl, rfl⟩
  · have hk0 : ¬ k = 0 := fun e => hb1 (tk0 T e)
    refine wl_s (pc' := 9) ji_209_8 rfl rfl rfl ?_
    rw [show nmo k v = -1 by unfold nmo; rw [if_neg hk0]]
    exact wl_ri ji_209_9 jr_209 rfl ⟨rfl, rfl⟩
def cmo (t : Int) : Int := if t = 60 then 10 else if t = 4 then 11 else if t = 62 then 12 else if t = 5 then 13 else if t = 61 then 14 else if t = 35 then 15 else -1
theorem wr_co {nn d : Nat} {h0 h : mj_H} {fs0 bl pl ts : List Value} {L p q t n x0 wr so pd op am wi ei oc cn : Int} {w : Nat} (V : rP h0 h fs0 bl L p q t n x0 wr so pd op am wi ei oc cn w pl ts) (htr : wp_r t) : wl_R nn d 201 0 [some (.ref 138)] [] h (fun v9 h1 => h1 = h ∧ v9 = some (wp_i (cmo t))) := by
  refine wl_s (pc' := 1) ji_201_0 rfl rfl rfl ?_
  refine rp_g9 V ji_201_1 jf_201_95 ?_
  refine wl_bp ji_201_4 rfl ?_
  refine wl_icmp (t := 14) ji_201_6 rfl (by omega) (by omega) (fun (hb1 : ¬ (t : Int) = 60) => ?_) (fun (hb1 : ¬ (¬ (t : Int) = 60)) => ?_)
  · refine wl_s (pc' := 15) ji_201_14 rfl rfl rfl ?_
    refine rp_g9 V ji_201_15 jf_201_95 ?_
    refine wl_s (pc' := 19) ji_201_18 rfl rfl rfl ?_
    refine wl_icmp (t := 27) ji_201_19 rfl (by omega) (by omega) (fun (hb2 : ¬ (t : Int) = 4) => ?_) (fun (hb2 : ¬ (¬ (t : Int) = 4)) => ?_)
    · refine wl_s (pc' := 28) ji_201_27 rfl rfl rfl ?_
      refine rp_g9 V ji_201_28 jf_201_95 ?_
      refine wl_bp ji_201_31 rfl ?_
      refine wl_icmp (t := 41) ji_201_33 rfl (by omega) (by omega) (fun (hb3 : ¬ (t : Int) = 62) => ?_) (fun (hb3 : ¬ (¬ (t : Int) = 62)) => ?_)
      · refine wl_s (pc' := 42) ji_201_41 rfl rfl rfl ?_
        refine rp_g9 V ji_201_42 jf_201_95 ?_
        refine wl_s (pc' := 46) ji_201_45 rfl rfl rfl ?_
        refine wl_icmp (t := 54) ji_201_46 rfl (by omega) (by omega) (fun (hb4 : ¬ (t : Int) = 5) => ?_) (fun (hb4 : ¬ (¬ (t : Int) = 5)) => ?_)
        · refine wl_s (pc' := 55) ji_201_54 rfl rfl rfl ?_
          refine rp_g9 V ji_201_55 jf_201_95 ?_
          refine wl_bp ji_201_58 rfl ?_
          refine wl_icmp (t := 68) ji_201_60 rfl (by omega) (by omega) (fun (hb5 : ¬ (t : Int) = 61) => ?_) (fun (hb5 : ¬ (¬ (t : Int) = 61)) => ?_)
          · refine wl_s (pc' := 69) ji_201_68 rfl rfl rfl ?_
            refine rp_g9 V ji_201_69 jf_201_95 ?_
            refine wl_bp ji_201_72 rfl ?_
            refine wl_icmp (t := 82) ji_201_74 rfl (by omega) (by omega) (fun (hb6 : ¬ (t : Int) = 35) => ?_) (fun (hb6 : ¬ (¬ (t : Int) = 35)) => ?_)
            · refine wl_s (pc' := 83) ji_201_82 rfl rfl rfl ?_
              exact wl_ri ji_201_83 jr_201 rfl ⟨rfl, by rw [show cmo t = -1 by unfold cmo; repeat' split; all_goals omega]⟩
            · refine wl_bp ji_201_77 rfl ?_
              refine wl_goto (t := 83) ji_201_79 rfl ?_
              exact wl_ri ji_201_83 jr_201 rfl ⟨rfl, by rw [show cmo t = 15 by unfold cmo; repeat' split; all_goals omega]⟩
          · refine wl_bp ji_201_63 rfl ?_
            refine wl_goto (t := 83) ji_201_65 rfl ?_
            exact wl_ri ji_201_83 jr_201 rfl ⟨rfl, by rw [show cmo t = 14 by unfold cmo; repeat' split; all_goals omega]⟩
        · refine wl_bp ji_201_49 rfl ?_
          refine wl_goto (t := 83) ji_201_51 rfl ?_
          exact wl_ri ji_201_83 jr_201 rfl ⟨rfl, by rw [show cmo t = 13 by unfold cmo; repeat' split; all_goals omega]⟩
      · refine wl_bp ji_201_36 rfl ?_
        refine wl_goto (t := 83) ji_201_38 rfl ?_
        exact wl_ri ji_201_83 jr_201 rfl ⟨rfl, by rw [show cmo t = 12 by unfold cmo; repeat' split; all_goals omega]⟩
    · refine wl_bp ji_201_22 rfl ?_
      refine wl_goto (t := 83) ji_201_24 rfl ?_
      exact wl_ri ji_201_83 jr_201 rfl ⟨rfl, by rw [show cmo t = 11 by unfold cmo; repeat' split; all_goals omega]⟩
  · refine wl_bp ji_201_9 rfl ?_
    refine wl_goto (t := 83) ji_201_11 rfl ?_
    exact wl_ri ji_201_83 jr_201 rfl ⟨rfl, by rw [show cmo t = 10 by unfold cmo; repeat' split; all_goals omega]⟩
theorem wr_of {nn d : Nat} {x : Int} {h0 h : mj_H} {fs0 bl pl ts : List Value} {L p q t n x0 wr so pd op am wi ei oc cn : Int} {w : Nat} (V : rP h0 h fs0 bl L p q t n x0 wr so pd op am wi ei oc cn w pl ts) (hx : wp_r x) (hso : wp_r so) : wl_R nn d 210 0 [some (.ref 138), some (wp_i x)] [] h (fun v9 h1 => h1 = h ∧ ∃ y : Int, v9 = some (wp_i y) ∧ (y = 0 ∨ y = 1) ∧ (y = 1 ↔ x < 8 ∨ (x = 8 ∧ ¬ so = 0) ∨ (8 < x ∧ ¬ so = 1))) := by
  refine wl_s (pc' := 1) ji_210_0 rfl rfl rfl ?_
  refine wl_bp ji_210_1 rfl ?_
  refine wl_icmp (t := 30) ji_210_3 rfl (by omega) (by omega) (fun (hb1 : (x : Int) < 8) => ?_) (fun (hb1 : ¬ ((x : Int) < 8)) => ?_)
  · refine wl_s (pc' := 31) ji_210_30 rfl rfl rfl ?_
    refine wl_goto (t := 35) ji_210_31 rfl ?_
    exact wl_ri ji_210_35 jr_210 rfl ⟨rfl, 1, rfl, by omega, by omega⟩
  · refine wl_s (pc' := 7) ji_210_6 rfl rfl rfl ?_
    refine wl_bp ji_210_7 rfl ?_
    refine wl_icmp (t := 22) ji_210_9 rfl (by omega) (by omega) (fun (hb2 : ¬ (x : Int) = 8) => ?_) (fun (hb2 : ¬ (¬ (x : Int) = 8)) => ?_)
    · refine wl_s (pc' := 23) ji_210_22 rfl rfl rfl ?_
      refine rp_g14 V ji_210_23 jf_210_144 ?_
      refine wl_s (pc' := 27) ji_210_26 rfl rfl rfl ?_
      refine wl_icmp (t := 34) ji_210_27 rfl (by omega) (by omega) (fun (hb3 : (so : Int) = 1) => ?_) (fun (hb3 : ¬ ((so : Int) = 1)) => ?_)
      · refine wl_s (pc' := 35) ji_210_34 rfl rfl rfl ?_
        exact wl_ri ji_210_35 jr_210 rfl ⟨rfl, 0, rfl, by omega, by omega⟩
      · refine wl_s (pc' := 31) ji_210_30 rfl rfl rfl ?_
        refine wl_goto (t := 35) ji_210_31 rfl ?_
        exact wl_ri ji_210_35 jr_210 rfl ⟨rfl, 1, rfl, by omega, by omega⟩
    · refine wl_s (pc' := 13) ji_210_12 rfl rfl rfl ?_
      refine rp_g14 V ji_210_13 jf_210_144 ?_
      refine wl_if (t := 34) ji_210_16 rfl (by omega) (fun (hb4 : (so : Int) = 0) => ?_) (fun (hb4 : ¬ ((so : Int) = 0)) => ?_)
      · refine wl_s (pc' := 35) ji_210_34 rfl rfl rfl ?_
        exact wl_ri ji_210_35 jr_210 rfl ⟨rfl, 0, rfl, by omega, by omega⟩
      · refine wl_goto (t := 30) ji_210_19 rfl ?_
        refine wl_s (pc' := 31) ji_210_30 rfl rfl rfl ?_
        refine wl_goto (t := 35) ji_210_31 rfl ?_
        exact wl_ri ji_210_35 jr_210 rfl ⟨rfl, 1, rfl, by omega, by omega⟩
