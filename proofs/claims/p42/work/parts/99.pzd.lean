/-! -/
set_option maxRecDepth 100000 in
theorem jk_191 : mj_cls 191 = 11 := by decide +kernel
set_option maxRecDepth 100000 in
theorem ji_184_0 : mj_ins 184 0 = some (.aload_n 0) := by decide +kernel
set_option maxRecDepth 100000 in
theorem ji_184_1 : mj_ins 184 1 = some (.bipush 99) := by decide +kernel
set_option maxRecDepth 100000 in
theorem ji_184_3 : mj_ins 184 3 = some (.bipush 108) := by decide +kernel
set_option maxRecDepth 100000 in
theorem ji_184_5 : mj_ins 184 5 = some (.bipush 105) := by decide +kernel
set_option maxRecDepth 100000 in
theorem ji_184_7 : mj_ins 184 7 = some (.bipush 109) := by decide +kernel
set_option maxRecDepth 100000 in
theorem ji_184_9 : mj_ins 184 9 = some (.bipush 98) := by decide +kernel
set_option maxRecDepth 100000 in
theorem ji_184_11 : mj_ins 184 11 = some (.bipush 115) := by decide +kernel
set_option maxRecDepth 100000 in
theorem ji_184_13 : mj_ins 184 13 = some (.invokestatic 140) := by decide +kernel
set_option maxRecDepth 100000 in
theorem jc_184_140 : mj_cal 184 140 = some (1, 185, 6) := by decide +kernel
set_option maxRecDepth 100000 in
theorem ji_184_16 : mj_ins 184 16 = some (.invokevirtual 189) := by decide +kernel
set_option maxRecDepth 100000 in
theorem jc_184_189 : mj_cal 184 189 = some (2, 190, 1) := by decide +kernel
set_option maxRecDepth 100000 in
theorem ji_184_19 : mj_ins 184 19 = some (.ifCond .eq 5) := by decide +kernel
set_option maxRecDepth 100000 in
theorem ji_184_24 : mj_ins 184 24 = some (.aload_n 0) := by decide +kernel
set_option maxRecDepth 100000 in
theorem ji_184_25 : mj_ins 184 25 = some (.bipush 116) := by decide +kernel
set_option maxRecDepth 100000 in
theorem ji_184_27 : mj_ins 184 27 = some (.bipush 101) := by decide +kernel
set_option maxRecDepth 100000 in
theorem ji_184_29 : mj_ins 184 29 = some (.bipush 97) := by decide +kernel
set_option maxRecDepth 100000 in
theorem ji_184_31 : mj_ins 184 31 = some (.bipush 114) := by decide +kernel
set_option maxRecDepth 100000 in
theorem ji_184_33 : mj_ins 184 33 = some (.bipush 115) := by decide +kernel
set_option maxRecDepth 100000 in
theorem ji_184_35 : mj_ins 184 35 = some (.invokestatic 130) := by decide +kernel
set_option maxRecDepth 100000 in
theorem jc_184_130 : mj_cal 184 130 = some (1, 186, 5) := by decide +kernel
set_option maxRecDepth 100000 in
theorem ji_184_38 : mj_ins 184 38 = some (.invokevirtual 189) := by decide +kernel
set_option maxRecDepth 100000 in
theorem ji_184_41 : mj_ins 184 41 = some (.ifCond .eq 5) := by decide +kernel
set_option maxRecDepth 100000 in
theorem ji_184_46 : mj_ins 184 46 = some (.aload_n 0) := by decide +kernel
set_option maxRecDepth 100000 in
theorem ji_184_47 : mj_ins 184 47 = some (.bipush 99) := by decide +kernel
set_option maxRecDepth 100000 in
theorem ji_184_49 : mj_ins 184 49 = some (.bipush 111) := by decide +kernel
set_option maxRecDepth 100000 in
theorem ji_184_51 : mj_ins 184 51 = some (.bipush 117) := by decide +kernel
set_option maxRecDepth 100000 in
theorem ji_184_53 : mj_ins 184 53 = some (.bipush 110) := by decide +kernel
set_option maxRecDepth 100000 in
theorem ji_184_55 : mj_ins 184 55 = some (.bipush 116) := by decide +kernel
set_option maxRecDepth 100000 in
theorem ji_184_57 : mj_ins 184 57 = some (.bipush 115) := by decide +kernel
set_option maxRecDepth 100000 in
theorem ji_184_59 : mj_ins 184 59 = some (.invokestatic 140) := by decide +kernel
set_option maxRecDepth 100000 in
theorem ji_184_62 : mj_ins 184 62 = some (.invokevirtual 189) := by decide +kernel
set_option maxRecDepth 100000 in
theorem ji_184_65 : mj_ins 184 65 = some (.ifCond .eq 5) := by decide +kernel
set_option maxRecDepth 100000 in
theorem ji_184_70 : mj_ins 184 70 = some (.aload_n 0) := by decide +kernel
set_option maxRecDepth 100000 in
theorem ji_184_71 : mj_ins 184 71 = some (.bipush 112) := by decide +kernel
set_option maxRecDepth 100000 in
theorem ji_184_73 : mj_ins 184 73 = some (.bipush 111) := by decide +kernel
set_option maxRecDepth 100000 in
theorem ji_184_75 : mj_ins 184 75 = some (.bipush 108) := by decide +kernel
set_option maxRecDepth 100000 in
theorem ji_184_77 : mj_ins 184 77 = some (.bipush 101) := by decide +kernel
set_option maxRecDepth 100000 in
theorem ji_184_79 : mj_ins 184 79 = some (.invokestatic 126) := by decide +kernel
set_option maxRecDepth 100000 in
theorem jc_184_126 : mj_cal 184 126 = some (1, 187, 4) := by decide +kernel
set_option maxRecDepth 100000 in
theorem ji_184_82 : mj_ins 184 82 = some (.invokevirtual 189) := by decide +kernel
set_option maxRecDepth 100000 in
theorem ji_184_85 : mj_ins 184 85 = some (.ifCond .eq 5) := by decide +kernel
set_option maxRecDepth 100000 in
theorem ji_184_90 : mj_ins 184 90 = some (.aload_n 0) := by decide +kernel
set_option maxRecDepth 100000 in
theorem ji_184_91 : mj_ins 184 91 = some (.bipush 112) := by decide +kernel
set_option maxRecDepth 100000 in
theorem ji_184_93 : mj_ins 184 93 = some (.bipush 111) := by decide +kernel
set_option maxRecDepth 100000 in
theorem ji_184_95 : mj_ins 184 95 = some (.bipush 119) := by decide +kernel
set_option maxRecDepth 100000 in
theorem ji_184_97 : mj_ins 184 97 = some (.bipush 101) := by decide +kernel
set_option maxRecDepth 100000 in
theorem ji_184_99 : mj_ins 184 99 = some (.bipush 114) := by decide +kernel
set_option maxRecDepth 100000 in
theorem ji_184_101 : mj_ins 184 101 = some (.invokestatic 130) := by decide +kernel
set_option maxRecDepth 100000 in
theorem ji_184_104 : mj_ins 184 104 = some (.invokevirtual 189) := by decide +kernel
set_option maxRecDepth 100000 in
theorem ji_184_107 : mj_ins 184 107 = some (.ifCond .eq 5) := by decide +kernel
set_option maxRecDepth 100000 in
theorem ji_184_112 : mj_ins 184 112 = some (.aload_n 0) := by decide +kernel
set_option maxRecDepth 100000 in
theorem ji_184_113 : mj_ins 184 113 = some (.bipush 104) := by decide +kernel
set_option maxRecDepth 100000 in
theorem ji_184_115 : mj_ins 184 115 = some (.bipush 111) := by decide +kernel
set_option maxRecDepth 100000 in
theorem ji_184_117 : mj_ins 184 117 = some (.bipush 105) := by decide +kernel
set_option maxRecDepth 100000 in
theorem ji_184_119 : mj_ins 184 119 = some (.bipush 115) := by decide +kernel
set_option maxRecDepth 100000 in
theorem ji_184_121 : mj_ins 184 121 = some (.bipush 116) := by decide +kernel
set_option maxRecDepth 100000 in
theorem ji_184_123 : mj_ins 184 123 = some (.invokestatic 130) := by decide +kernel
set_option maxRecDepth 100000 in
theorem ji_184_126 : mj_ins 184 126 = some (.invokevirtual 189) := by decide +kernel
set_option maxRecDepth 100000 in
theorem ji_184_129 : mj_ins 184 129 = some (.ifCond .eq 5) := by decide +kernel
set_option maxRecDepth 100000 in
theorem ji_184_134 : mj_ins 184 134 = some (.aload_n 0) := by decide +kernel
set_option maxRecDepth 100000 in
theorem ji_184_135 : mj_ins 184 135 = some (.bipush 108) := by decide +kernel
set_option maxRecDepth 100000 in
theorem ji_184_137 : mj_ins 184 137 = some (.bipush 111) := by decide +kernel
set_option maxRecDepth 100000 in
theorem ji_184_139 : mj_ins 184 139 = some (.bipush 119) := by decide +kernel
set_option maxRecDepth 100000 in
theorem ji_184_141 : mj_ins 184 141 = some (.bipush 101) := by decide +kernel
set_option maxRecDepth 100000 in
theorem ji_184_143 : mj_ins 184 143 = some (.bipush 114) := by decide +kernel
set_option maxRecDepth 100000 in
theorem ji_184_145 : mj_ins 184 145 = some (.invokestatic 130) := by decide +kernel
set_option maxRecDepth 100000 in
theorem ji_184_148 : mj_ins 184 148 = some (.invokevirtual 189) := by decide +kernel
set_option maxRecDepth 100000 in
theorem ji_184_151 : mj_ins 184 151 = some (.ifCond .eq 6) := by decide +kernel
set_option maxRecDepth 100000 in
theorem ji_184_157 : mj_ins 184 157 = some (.aload_n 0) := by decide +kernel
set_option maxRecDepth 100000 in
theorem ji_184_158 : mj_ins 184 158 = some (.bipush 112) := by decide +kernel
set_option maxRecDepth 100000 in
theorem ji_184_160 : mj_ins 184 160 = some (.bipush 114) := by decide +kernel
set_option maxRecDepth 100000 in
theorem ji_184_162 : mj_ins 184 162 = some (.bipush 117) := by decide +kernel
set_option maxRecDepth 100000 in
theorem ji_184_164 : mj_ins 184 164 = some (.bipush 110) := by decide +kernel
set_option maxRecDepth 100000 in
theorem ji_184_166 : mj_ins 184 166 = some (.bipush 101) := by decide +kernel
set_option maxRecDepth 100000 in
theorem ji_184_168 : mj_ins 184 168 = some (.invokestatic 130) := by decide +kernel
set_option maxRecDepth 100000 in
theorem ji_184_171 : mj_ins 184 171 = some (.invokevirtual 189) := by decide +kernel
set_option maxRecDepth 100000 in
theorem ji_184_174 : mj_ins 184 174 = some (.ifCond .eq 6) := by decide +kernel
set_option maxRecDepth 100000 in
theorem ji_184_180 : mj_ins 184 180 = some (.aload_n 0) := by decide +kernel
set_option maxRecDepth 100000 in
theorem ji_184_181 : mj_ins 184 181 = some (.bipush 98) := by decide +kernel
set_option maxRecDepth 100000 in
theorem ji_184_183 : mj_ins 184 183 = some (.bipush 108) := by decide +kernel
set_option maxRecDepth 100000 in
theorem ji_184_185 : mj_ins 184 185 = some (.bipush 111) := by decide +kernel
set_option maxRecDepth 100000 in
theorem ji_184_187 : mj_ins 184 187 = some (.bipush 119) := by decide +kernel
set_option maxRecDepth 100000 in
theorem ji_184_189 : mj_ins 184 189 = some (.invokestatic 126) := by decide +kernel
set_option maxRecDepth 100000 in
theorem ji_184_192 : mj_ins 184 192 = some (.invokevirtual 189) := by decide +kernel
set_option maxRecDepth 100000 in
theorem ji_184_195 : mj_ins 184 195 = some (.ifCond .eq 8) := by decide +kernel
set_option maxRecDepth 100000 in
theorem ji_184_203 : mj_ins 184 203 = some (.aload_n 0) := by decide +kernel
set_option maxRecDepth 100000 in
theorem ji_184_204 : mj_ins 184 204 = some (.bipush 104) := by decide +kernel
set_option maxRecDepth 100000 in
theorem ji_184_206 : mj_ins 184 206 = some (.bipush 111) := by decide +kernel
set_option maxRecDepth 100000 in
theorem ji_184_208 : mj_ins 184 208 = some (.bipush 117) := by decide +kernel
set_option maxRecDepth 100000 in
theorem ji_184_210 : mj_ins 184 210 = some (.bipush 114) := by decide +kernel
set_option maxRecDepth 100000 in
theorem ji_184_212 : mj_ins 184 212 = some (.invokestatic 126) := by decide +kernel
set_option maxRecDepth 100000 in
theorem ji_184_215 : mj_ins 184 215 = some (.invokevirtual 189) := by decide +kernel
set_option maxRecDepth 100000 in
theorem ji_184_218 : mj_ins 184 218 = some (.ifCond .eq 8) := by decide +kernel
set_option maxRecDepth 100000 in
theorem ji_184_226 : mj_ins 184 226 = some (.iconst (-1)) := by decide +kernel
set_option maxRecDepth 100000 in
theorem ji_184_227 : mj_ins 184 227 = some (.ireturn) := by decide +kernel
set_option maxRecDepth 100000 in
theorem jr_184 : mj_ret 184 = some .int := by decide +kernel
set_option maxRecDepth 100000 in
theorem ji_184_221 : mj_ins 184 221 = some (.bipush 9) := by decide +kernel
set_option maxRecDepth 100000 in
theorem ji_184_223 : mj_ins 184 223 = some (.goto 4) := by decide +kernel
set_option maxRecDepth 100000 in
theorem ji_184_198 : mj_ins 184 198 = some (.bipush 8) := by decide +kernel
set_option maxRecDepth 100000 in
theorem ji_184_200 : mj_ins 184 200 = some (.goto 27) := by decide +kernel
set_option maxRecDepth 100000 in
theorem ji_184_177 : mj_ins 184 177 = some (.bipush 7) := by decide +kernel
set_option maxRecDepth 100000 in
theorem ji_184_179 : mj_ins 184 179 = some (.ireturn) := by decide +kernel
set_option maxRecDepth 100000 in
theorem ji_184_154 : mj_ins 184 154 = some (.bipush 6) := by decide +kernel
set_option maxRecDepth 100000 in
theorem ji_184_156 : mj_ins 184 156 = some (.ireturn) := by decide +kernel
set_option maxRecDepth 100000 in
theorem ji_184_132 : mj_ins 184 132 = some (.iconst 5) := by decide +kernel
set_option maxRecDepth 100000 in
theorem ji_184_133 : mj_ins 184 133 = some (.ireturn) := by decide +kernel
set_option maxRecDepth 100000 in
theorem ji_184_110 : mj_ins 184 110 = some (.iconst 4) := by decide +kernel
set_option maxRecDepth 100000 in
theorem ji_184_111 : mj_ins 184 111 = some (.ireturn) := by decide +kernel
set_option maxRecDepth 100000 in
theorem ji_184_88 : mj_ins 184 88 = some (.iconst 3) := by decide +kernel
set_option maxRecDepth 100000 in
theorem ji_184_89 : mj_ins 184 89 = some (.ireturn) := by decide +kernel
set_option maxRecDepth 100000 in
theorem ji_184_68 : mj_ins 184 68 = some (.iconst 2) := by decide +kernel
set_option maxRecDepth 100000 in
theorem ji_184_69 : mj_ins 184 69 = some (.ireturn) := by decide +kernel
set_option maxRecDepth 100000 in
theorem ji_184_44 : mj_ins 184 44 = some (.iconst 1) := by decide +kernel
set_option maxRecDepth 100000 in
theorem ji_184_45 : mj_ins 184 45 = some (.ireturn) := by decide +kernel
set_option maxRecDepth 100000 in
theorem ji_184_22 : mj_ins 184 22 = some (.iconst 0) := by decide +kernel
set_option maxRecDepth 100000 in
theorem ji_184_23 : mj_ins 184 23 = some (.ireturn) := by decide +kernel
/-! the reference's deeds and clauses; laid by program (wp_rread10.py) -/
theorem tk_v1 {k v t n : Int} {w : Nat} (T : tkr k v t n w) : t = 1 → v = min 10000 n := by
  intro h
  rcases T with ⟨rfl, rfl⟩ | ⟨rfl, rfl, -⟩ | ⟨rfl, rfl, hn, hv⟩ | ⟨rfl, ht, hv⟩ | ⟨rfl, rfl⟩
  · omega
  · omega
  · exact hv
  · unfold sg at ht
    split at ht
    · omega
    · split at ht <;> omega
  · omega
theorem wr_fg {nn d : Nat} {h0 h : mj_H} {fs0 bl pl ts : List Value} {L p q t n x0 wr so pd op am wi ei oc cn : Int} {w : Nat} (V : rP h0 h fs0 bl L p q t n x0 wr so pd op am wi ei oc cn w pl ts) {x a b : Int} (hx : (x0 ≤ x ∧ x ≤ 3000) ∧ ¬ x = x0) (hx0 : 0 ≤ x0 ∧ x0 ≤ 3000) (hab : (0 ≤ a ∧ a ≤ 9) ∧ (0 ≤ b ∧ b ≤ 9000)) (D : tB bl) (hL : 0 ≤ L ∧ L ≤ 300) (hp : 0 ≤ p ∧ p ≤ L) (hw0 : w ≤ 2 ^ 60) {k v : Int} (T : tkr k v t n w) (htr : wp_r t) : wl_R nn (d + 2) 213 0 [some (.ref 138), some (wp_i x), some (wp_i a), some (wp_i b)] [] h (fun v9 h1 => (¬ xn a b k v = 0 ∧ v9 = some (wp_i (xn a b k v)) ∧ h1 = h) ∨ (xn a b k v = 0 ∧ v9 = some (wp_i 0) ∧ ∃ (k2 v2 q' r' t' n' : Int) (w' : Nat) (ts' : List Value), tok (bt bl L) p k2 v2 q' r' ∧ tkr k2 v2 t' n' w' ∧ (0 ≤ q' ∧ r' ≤ L) ∧ w' ≤ 2 ^ 60 ∧ rP h0 h1 fs0 bl L r' q' t' n' x0 wr so pd op am wi ei oc cn w' pl ts')) := by
  have hk1 := (tk_t T).1
  refine wl_s (pc' := 1) ji_213_0 rfl rfl rfl ?_
  refine rp_g9 V ji_213_1 jf_213_95 ?_
  refine wl_s (pc' := 5) ji_213_4 rfl rfl rfl ?_
  refine wl_icmp (t := 10) ji_213_5 rfl (by omega) (by omega) (fun (hb1 : (t : Int) = 1) => ?_) (fun (hb1 : ¬ ((t : Int) = 1)) => ?_)
  · refine wl_s (pc' := 11) ji_213_10 rfl rfl rfl ?_
    refine rp_g10 V ji_213_11 jf_213_102 ?_
    refine wl_s (pc' := 15) ji_213_14 rfl rfl rfl ?_
    refine wl_s (pc' := 16) ji_213_15 rfl rfl rfl ?_
    have hnr := tk_nr T (by omega)
    refine wl_sc (d := d + 1) (as := [wp_i n, wp_i a, wp_i b]) (rest := []) ji_213_16 jc_213_66 (Nat.le_of_ble_eq_true rfl) rfl (Nat.le_of_ble_eq_true rfl) rfl (by rw [jn_171]; rfl) (wp_wl (ws_isIn (x := n) (lo := a) (hi := b) (by omega) (by omega) (by omega))) (fun v1 h2 R => ?_)
    obtain ⟨ee, rfl⟩ := R
    subst ee
    obtain ⟨y, hy⟩ : ∃ y, (if a ≤ n ∧ n ≤ b then (1 : Int) else 0) = y := ⟨_, rfl⟩
    rw [hy]
    have hyi : (a ≤ n ∧ n ≤ b ∧ y = 1) ∨ (¬ (a ≤ n ∧ n ≤ b) ∧ y = 0) := by split at hy <;> omega
    show wl_R _ _ 213 19 [some (.ref 138), some (wp_i x), some (wp_i a), some (wp_i b)] [wp_i y] h2 _
    refine wl_if (t := 24) ji_213_19 rfl (by omega) (fun (hb2 : ¬ (y : Int) = 0) => ?_) (fun (hb2 : ¬ (¬ (y : Int) = 0)) => ?_)
    · refine wl_s (pc' := 25) ji_213_24 rfl rfl rfl ?_
      refine rp_g2 V ji_213_25 jf_213_16 ?_
      refine wl_s (pc' := 29) ji_213_28 rfl rfl rfl ?_
      refine wl_s (pc' := 30) ji_213_29 rfl rfl rfl ?_
      refine rp_g10 V ji_213_30 jf_213_102 ?_
      refine rp_t (x := x) (y := n) V (by omega) (by omega) (by omega) ji_213_33 (fun h ts V => ?_)
      refine wl_s (pc' := 35) ji_213_34 rfl rfl rfl ?_
      obtain ⟨cs, hcs⟩ := rp_c V
      refine wl_vc (d := d + 1) (as := [.ref 138]) (rest := []) ji_213_35 jc_213_171 rfl hcs jk_178.symm (Nat.le_of_ble_eq_true rfl) rfl (by rw [jn_178]; rfl) (wr_nt (d := d) V D hL hp hw0) (fun v1 hb_ R => ?_)
      obtain ⟨rfl, k2, v2, q', r', t', n', w', tk, tr, hb, hw1, V⟩ := R
      show wl_R _ _ 213 38 [some (.ref 138), some (wp_i x), some (wp_i a), some (wp_i b)] [] hb_ _
      refine wl_s (pc' := 39) ji_213_38 rfl rfl rfl ?_
      exact wl_ri ji_213_39 jr_213 rfl (Or.inr ⟨(if_neg (by omega)).trans (if_neg (by have := tk_v1 T; omega)), rfl, k2, v2, q', r', t', n', w', ts, tk, tr, hb, hw1, V⟩)
    · refine wl_s (pc' := 23) ji_213_22 rfl rfl rfl ?_
      rw [show xn a b k v = 2 from (if_neg (by omega)).trans (if_pos (by have := tk_v1 T; omega))]
      exact wl_ri ji_213_23 jr_213 rfl (Or.inl ⟨by decide, rfl, rfl⟩)
  · refine wl_s (pc' := 9) ji_213_8 rfl rfl rfl ?_
    rw [show xn a b k v = 1 from if_pos (by omega)]
    exact wl_ri ji_213_9 jr_213 rfl (Or.inl ⟨by decide, rfl, rfl⟩)
theorem xn_r (a b k v : Int) : 0 ≤ xn a b k v ∧ xn a b k v ≤ 2 := by
  unfold xn
  repeat' split
  all_goals omega
theorem wr_pr {nn d : Nat} {h0 h : mj_H} {fs0 bl pl ts : List Value} {L p q t n x0 wr so pd op am wi ei oc cn : Int} {w : Nat} (V : rP h0 h fs0 bl L p q t n x0 wr so pd op am wi ei oc cn w pl ts) {x a b a2 b2 : Int} (hx : x0 + 1 ≤ x ∧ x ≤ 2998) (hx0 : 0 ≤ x0 ∧ x0 ≤ 3000) (hab : ((0 ≤ a ∧ a ≤ 9) ∧ (0 ≤ b ∧ b ≤ 9000)) ∧ ((0 ≤ a2 ∧ a2 ≤ 9) ∧ (0 ≤ b2 ∧ b2 ≤ 9000))) (D : tB bl) (hL : 0 ≤ L ∧ L ≤ 300) (hp : 0 ≤ p ∧ p ≤ L) (hw0 : w ≤ 2 ^ 60) {k v : Int} (T : tkr k v t n w) (htr : wp_r t) {jw : Nat} {K : List Int} (hK : tk_W[jw]? = some K) (hK1 : wd K ≤ 2 ^ 60) : wl_R nn (d + 3) 212 0 [some (.ref 138), some (wp_i x), some (wp_i a), some (wp_i b), some (.long (Int64.ofNat (wd K))), none, some (wp_i a2), some (wp_i b2), none] [] h (fun v9 h1 => (¬ xn a b k v = 0 ∧ v9 = some (wp_i (xn a b k v)) ∧ rP h0 h1 fs0 bl L p q t n x0 wr so pd op am wi ei oc cn w pl ts) ∨ (xn a b k v = 0 ∧ ∃ (k2 v2 q' r' t' n' : Int) (w' : Nat) (ts' : List Value), tok (bt bl L) p k2 v2 q' r' ∧ tkr k2 v2 t' n' w' ∧ (0 ≤ q' ∧ r' ≤ L) ∧ w' ≤ 2 ^ 60 ∧ ((¬ (k2 = 0 ∧ v2 = (jw : Int)) ∧ v9 = some (wp_i 1) ∧ rP h0 h1 fs0 bl L r' q' t' n' x0 wr so pd op am wi ei oc cn w' pl ts') ∨ ((k2 = 0 ∧ v2 = (jw : Int)) ∧ ∃ (k3 v3 q3 r3 t3 n3 : Int) (w3 : Nat), tok (bt bl L) r' k3 v3 q3 r3 ∧ tkr k3 v3 t3 n3 w3 ∧ (0 ≤ q3 ∧ r3 ≤ L) ∧ w3 ≤ 2 ^ 60 ∧ ((¬ xn a2 b2 k3 v3 = 0 ∧ v9 = some (wp_i (xn a2 b2 k3 v3)) ∧ rP h0 h1 fs0 bl L r3 q3 t3 n3 x0 wr so pd op am wi ei oc cn w3 pl ts') ∨ (xn a2 b2 k3 v3 = 0 ∧ v9 = some (wp_i 0) ∧ ∃ (k4 v4 q4 r4 t4 n4 : Int) (w4 : Nat) (ts' : List Value), tok (bt bl L) r3 k4 v4 q4 r4 ∧ tkr k4 v4 t4 n4 w4 ∧ (0 ≤ q4 ∧ r4 ≤ L) ∧ w4 ≤ 2 ^ 60 ∧ rP h0 h1 fs0 bl L r4 q4 t4 n4 x0 wr so pd op am wi ei oc cn w4 pl ts')))))) := by
  refine wl_s (pc' := 1) ji_212_0 rfl rfl rfl ?_
  refine wl_s (pc' := 2) ji_212_1 rfl rfl rfl ?_
  refine wl_s (pc' := 3) ji_212_2 rfl rfl rfl ?_
  refine wl_iadd (x := x) (y := 1) (z := x + 1) ji_212_3 (by omega) ?_
  refine wl_s (pc' := 5) ji_212_4 rfl rfl rfl ?_
  refine wl_s (pc' := 6) ji_212_5 rfl rfl rfl ?_
  obtain ⟨csh1, hcsh1⟩ := rp_c V
  refine wl_vc (d := d + 2) (as := [.ref 138, wp_i (x + 1), wp_i a, wp_i b]) (rest := []) ji_212_6 jc_212_227 rfl hcsh1 jk_213.symm (Nat.le_of_ble_eq_true rfl) rfl (by rw [jn_213]; rfl) (wr_fg (d := d) V (x := x + 1) (a := a) (b := b) (by omega) hx0 (by omega) D hL hp hw0 T htr) (fun v1 h1 R => ?_)
  rcases R with ⟨hz, rfl, rfl⟩ | ⟨hz, rfl, k2, v2, q', r', t', n', w', ts', tk2, T2, hB2, hw2, V⟩
  · have hxr := xn_r a b k v
    obtain ⟨y, hy⟩ : ∃ y, xn a b k v = y := ⟨_, rfl⟩
    rw [hy] at hz hxr ⊢
    show wl_R _ _ 212 9 [some (.ref 138), some (wp_i x), some (wp_i a), some (wp_i b), some (.long (Int64.ofNat (wd K))), none, some (wp_i a2), some (wp_i b2), none] [wp_i y] h1 _
    refine wl_s (pc' := 11) (lv' := [some (.ref 138), some (wp_i x), some (wp_i a), some (wp_i b), some (.long (Int64.ofNat (wd K))), none, some (wp_i a2), some (wp_i b2), some (wp_i y)]) ji_212_9 rfl rfl rfl ?_
    refine wl_s (pc' := 13) ji_212_11 rfl rfl rfl ?_
    refine wl_if (t := 19) ji_212_13 rfl (by omega) (fun (hb1 : (y : Int) = 0) => (by exfalso; omega)) (fun (hb1 : ¬ ((y : Int) = 0)) => ?_)
    refine wl_s (pc' := 18) ji_212_16 rfl rfl rfl ?_
    exact wl_ri ji_212_18 jr_212 rfl (Or.inl ⟨hz, rfl, V⟩)
  · show wl_R _ _ 212 9 [some (.ref 138), some (wp_i x), some (wp_i a), some (wp_i b), some (.long (Int64.ofNat (wd K))), none, some (wp_i a2), some (wp_i b2), none] [wp_i 0] h1 _
    have hta2 := tok_adv tk2
    refine wl_s (pc' := 11) (lv' := [some (.ref 138), some (wp_i x), some (wp_i a), some (wp_i b), some (.long (Int64.ofNat (wd K))), none, some (wp_i a2), some (wp_i b2), some (wp_i 0)]) ji_212_9 rfl rfl rfl ?_
    refine wl_s (pc' := 13) ji_212_11 rfl rfl rfl ?_
    refine wl_if (t := 19) ji_212_13 rfl (by omega) (fun (hb2 : (0 : Int) = 0) => ?_) (fun (hb2 : ¬ ((0 : Int) = 0)) => (by exfalso; omega))
    refine wl_s (pc' := 20) ji_212_19 rfl rfl rfl ?_
    refine wl_s (pc' := 22) ji_212_20 rfl rfl rfl ?_
    obtain ⟨cs8, hcs8⟩ := rp_c V
    refine wl_vc (d := d + 2) (as := [.ref 138, .long (Int64.ofNat (wd K))]) (rest := []) ji_212_22 jc_212_189 rfl hcs8 jk_190.symm (Nat.le_of_ble_eq_true rfl) rfl (by rw [jn_190]; rfl) (wr_iw (W := wd K) V hw2 (Nat.lt_of_le_of_lt hK1 (by decide)) (by have := tk_tr tk2 T2; omega)) (fun v1 h1 R => ?_)
    obtain ⟨ee, z, rfl, hza, hzb⟩ := R
    subst ee
    rw [kw T2 (j := jw) (K := K) hK] at hzb
    show wl_R _ _ 212 25 [some (.ref 138), some (wp_i x), some (wp_i a), some (wp_i b), some (.long (Int64.ofNat (wd K))), none, some (wp_i a2), some (wp_i b2), some (wp_i 0)] [wp_i z] h1 _
    refine wl_if (t := 30) ji_212_25 rfl (by omega) (fun (hb3 : ¬ (z : Int) = 0) => ?_) (fun (hb3 : ¬ (¬ (z : Int) = 0)) => ?_)
    · refine wl_s (pc' := 31) ji_212_30 rfl rfl rfl ?_
      have hzz : k2 = 0 ∧ v2 = (jw : Int) := hzb.mp (by omega)
      obtain ⟨cs, hcs⟩ := rp_c V
      refine wl_vc (d := d + 2) (as := [.ref 138]) (rest := []) ji_212_31 jc_212_171 rfl hcs jk_178.symm (Nat.le_of_ble_eq_true rfl) rfl (by rw [jn_178]; rfl) (wr_nt (d := d + 1) V D hL (by omega) hw2) (fun v1 h2 R => ?_)
      obtain ⟨rfl, k3, v3, q3, r3, t3, n3, w3, tk3, T3, hB3, hw3, V⟩ := R
      have hta3 := tok_adv tk3
      show wl_R _ _ 212 34 [some (.ref 138), some (wp_i x), some (wp_i a), some (wp_i b), some (.long (Int64.ofNat (wd K))), none, some (wp_i a2), some (wp_i b2), some (wp_i 0)] [] h2 _
      refine wl_s (pc' := 35) ji_212_34 rfl rfl rfl ?_
      refine wl_s (pc' := 36) ji_212_35 rfl rfl rfl ?_
      refine wl_s (pc' := 37) ji_212_36 rfl rfl rfl ?_
      refine wl_iadd (x := x) (y := 2) (z := x + 2) ji_212_37 (by omega) ?_
      refine wl_s (pc' := 40) ji_212_38 rfl rfl rfl ?_
      refine wl_s (pc' := 42) ji_212_40 rfl rfl rfl ?_
      obtain ⟨csh3, hcsh3⟩ := rp_c V
      refine wl_vc (d := d + 2) (as := [.ref 138, wp_i (x + 2), wp_i a2, wp_i b2]) (rest := []) ji_212_42 jc_212_227 rfl hcsh3 jk_213.symm (Nat.le_of_ble_eq_true rfl) rfl (by rw [jn_213]; rfl) (wr_fg (d := d) V (x := x + 2) (a := a2) (b := b2) (by omega) hx0 (by omega) D hL (by omega) hw3 T3 (by have := tk_tr tk3 T3; omega)) (fun v1 h3 R => ?_)
      obtain ⟨y9, hy9⟩ : ∃ y9 : Int, v1 = some (wp_i y9) := by rcases R with ⟨_, z, _⟩ | ⟨_, z, _⟩ <;> exact ⟨_, z⟩
      subst hy9
      show wl_R _ _ 212 45 [some (.ref 138), some (wp_i x), some (wp_i a), some (wp_i b), some (.long (Int64.ofNat (wd K))), none, some (wp_i a2), some (wp_i b2), some (wp_i 0)] [wp_i y9] h3 _
      refine wl_ri ji_212_45 jr_212 rfl (Or.inr ⟨hz, k2, v2, q', r', t', n', w', ts', tk2, T2, hB2, hw2, Or.inr ⟨hzz, k3, v3, q3, r3, t3, n3, w3, tk3, T3, hB3, hw3, ?_⟩⟩)
      rcases R with ⟨z1, z2, rfl⟩ | ⟨z1, z2, z3⟩
      · exact Or.inl ⟨z1, z2, V⟩
      · exact Or.inr ⟨z1, z2, z3⟩
    · refine wl_s (pc' := 29) ji_212_28 rfl rfl rfl ?_
      exact wl_ri ji_212_29 jr_212 rfl (Or.inr ⟨hz, k2, v2, q', r', t', n', w', ts', tk2, T2, hB2, hw2, Or.inl ⟨fun z9 => by have := hzb.mpr z9; omega, rfl, V⟩⟩)
theorem RL_0 {law ls am : Int} (hls : 0 ≤ ls ∧ ls ≤ 6) (hlaw : 0 ≤ law ∧ law ≤ 2) : RL law (if law = 2 then 0 else 1) [] ls 0 [] 0 am 0 (if law = 2 then 1 else 0) := by
  have e4 : ¬ (if law = 2 then (0 : Int) else 1) = 4 := by split <;> omega
  have e2 : ¬ (if law = 2 then (0 : Int) else 1) = 2 := by split <;> omega
  refine ⟨⟨trivial, by decide, Or.inl rfl, fun _ c hc => (by cases hc), hls, by split <;> omega, fun z => ?_⟩, trivial, ?_, ?_, ?_, rfl, fun z => (by cases z), ?_, ?_⟩
  · by_cases l2 : law = 2
    · exact ⟨l2, rfl, by decide⟩
    · rw [if_neg l2] at z
      omega
  · unfold rU rV
    rw [if_neg e4, if_neg e2]
    rfl
  · unfold rV
    rw [if_neg e2]
    rfl
  · rw [if_neg (by omega)]
  · exact ⟨fun z => by omega, fun z => z.elim (fun y => by cases y) (fun y => absurd y e4)⟩
  · by_cases l2 : law = 2
    · exact Or.inl (if_pos l2)
    · exact Or.inr (Or.inl ⟨if_neg l2, fun z => l2 z.1⟩)
theorem wr_pa {nn d : Nat} {h0 h : mj_H} {fs0 bl pl ts : List Value} {L p q r t n x0 wr so pd op am wi ei oc cn : Int} {w : Nat} (V : rP h0 h fs0 bl L r q t n x0 wr so pd op am wi ei oc cn w pl ts) {k v : Int} (tk : tok (bt bl L) p k v q r) (T : tkr k v t n w) (D : tB bl) (hL : 0 ≤ L ∧ L ≤ 300) (hx0 : 0 ≤ x0 ∧ x0 ≤ 3000) (hb : 0 ≤ p ∧ 0 ≤ q ∧ r ≤ L) (hw0 : w ≤ 2 ^ 60) (hwr : 0 ≤ wr ∧ wr ≤ 1000 * (p + 1)) (ham : 0 ≤ am ∧ am ≤ 100) (hso : 0 ≤ so ∧ so ≤ 2) {ls : Int} (hls : 0 ≤ ls ∧ ls ≤ 6) : wl_R nn (d + 7) 194 0 [some (.ref 138), some (wp_i (if so = 2 then 1 else 0)), none] [] h (pQ h0 fs0 bl L x0 oc cn so p (if so = 2 then 0 else 1) [] ls 0 (if so = 2 then 1 else 0)) := by
  have he2 : (if so = 2 then (1 : Int) else 0) = 0 ∨ (if so = 2 then (1 : Int) else 0) = 1 := by split <;> omega
  refine wl_s (pc' := 1) ji_194_0 rfl rfl rfl ?_
  refine wl_s (pc' := 2) ji_194_1 rfl rfl rfl ?_
  refine rp_p16 (y := 0) V ji_194_2 jf_194_147 (fun h V => ?_)
  refine wl_s (pc' := 6) ji_194_5 rfl rfl rfl ?_
  refine wl_s (pc' := 7) ji_194_6 rfl rfl rfl ?_
  refine rp_p17 (y := 0) V ji_194_7 jf_194_157 (fun h V => ?_)
  refine wl_s (pc' := 11) ji_194_10 rfl rfl rfl ?_
  refine wl_s (pc' := 12) ji_194_11 rfl rfl rfl ?_
  refine rp_p19 (y := 0) (by omega) V ji_194_12 jf_194_180 (fun h V => ?_)
  refine wl_s (pc' := 16) ji_194_15 rfl rfl rfl ?_
  refine wl_s (pc' := 17) ji_194_16 rfl rfl rfl ?_
  refine rp_p20 (y := (if so = 2 then 1 else 0)) (by omega) V ji_194_17 jf_194_160 (fun h V => ?_)
  exact wr_pl (d := d) D hL hx0 hso nn h none p k v q r _ [] ls 0 ⟨t, n, wr, 0, am, 0, w, [], pl, ts, tk, T, by omega, hw0, RL_0 hls hso, trivial, by omega, ham, V⟩
theorem wr_lc {nn d : Nat} {x x0 : Int} (hx : x0 + 1 ≤ x ∧ x ≤ 2998) {h0 h : mj_H} {fs0 bl pl ts : List Value} {L p q r t n wr so pd op am wi ei oc cn : Int} {w : Nat} (V : rP h0 h fs0 bl L r q t n x0 wr so pd op am wi ei oc cn w pl ts) {k v : Int} (tk : tok (bt bl L) p k v q r) (T : tkr k v t n w) (D : tB bl) (hL : 0 ≤ L ∧ L ≤ 300) (hx0 : 0 ≤ x0 ∧ x0 ≤ 3000) (hb : 0 ≤ p ∧ 0 ≤ q ∧ r ≤ L) (hw0 : w ≤ 2 ^ 60) (hwr : 0 ≤ wr ∧ wr ≤ 1000 * (p + 1)) (ham : 0 ≤ am ∧ am ≤ 100) (hso : 0 ≤ so ∧ so ≤ 2) {ls : Int} (hls : 0 ≤ ls ∧ ls ≤ 6) : wl_R nn (d + 8) 193 0 [some (.ref 138), some (wp_i x), some (wp_i (if so = 2 then 1 else 0)), none] [] h (pQ h0 fs0 bl L x0 oc cn so p (if so = 2 then 0 else 1) [] ls 0 (if so = 2 then 1 else 0)) := by
  refine wl_s (pc' := 1) ji_193_0 rfl rfl rfl ?_
  refine rp_g2 V ji_193_1 jf_193_16 ?_
  refine wl_s (pc' := 5) ji_193_4 rfl rfl rfl ?_
  refine wl_s (pc' := 6) ji_193_5 rfl rfl rfl ?_
  refine wl_iadd (x := x) (y := 1) (z := x + 1) ji_193_6 (by omega) ?_
  refine wl_s (pc' := 8) ji_193_7 rfl rfl rfl ?_
  refine rp_g13 V ji_193_8 jf_193_137 ?_
  refine rp_t (x := x + 1) (y := wr) V (by omega) (by omega) (by omega) ji_193_11 (fun h ts V => ?_)
  refine wl_s (pc' := 13) ji_193_12 rfl rfl rfl ?_
  refine wl_s (pc' := 14) ji_193_13 rfl rfl rfl ?_
  obtain ⟨cs, hcs⟩ := rp_c V
  refine wl_vc (d := d + 7) (as := [.ref 138, wp_i (if so = 2 then 1 else 0)]) (rest := []) ji_193_14 jc_193_223 rfl hcs jk_194.symm (Nat.le_of_ble_eq_true rfl) rfl (by rw [jn_194]; rfl) (wr_pa (d := d) V tk T D hL hx0 hb hw0 hwr ham hso hls) (fun v1 h1 R => ?_)
  obtain ⟨f, rfl, hf, p1, k1, v1, q1, r1, t1, n1, wr1, pd1, op1, am1, wi1, w1, pl1, ts1, hz, tk1, T1, hb1, hw1, hwr1, ham1, V⟩ := R
  show wl_R _ _ 193 17 [some (.ref 138), some (wp_i x), some (wp_i ((if so = 2 then 1 else 0))), none] [wp_i f] h1 _
  refine wl_s (pc' := 18) (lv' := [some (.ref 138), some (wp_i x), some (wp_i ((if so = 2 then 1 else 0))), some (wp_i f)]) ji_193_17 rfl rfl rfl ?_
  refine wl_s (pc' := 19) ji_193_18 rfl rfl rfl ?_
  refine rp_g2 V ji_193_19 jf_193_16 ?_
  refine wl_s (pc' := 23) ji_193_22 rfl rfl rfl ?_
  refine wl_s (pc' := 24) ji_193_23 rfl rfl rfl ?_
  refine wl_iadd (x := x) (y := 2) (z := x + 2) ji_193_24 (by omega) ?_
  refine wl_s (pc' := 26) ji_193_25 rfl rfl rfl ?_
  refine rp_g13 V ji_193_26 jf_193_137 ?_
  refine rp_t (x := x + 2) (y := wr1) V (by omega) (by omega) (by omega) ji_193_29 (fun h ts V => ?_)
  refine wl_s (pc' := 31) ji_193_30 rfl rfl rfl ?_
  exact wl_ri ji_193_31 jr_193 rfl ⟨f, rfl, hf, p1, k1, v1, q1, r1, t1, n1, wr1, pd1, op1, am1, wi1, w1, pl1, ts, hz, tk1, T1, hb1, hw1, hwr1, ham1, V⟩
def srt (k v : Int) : Int := if k = 0 ∧ 0 ≤ v ∧ v ≤ 9 then v else -1
theorem wr_so {nn d : Nat} {h0 h : mj_H} {fs0 bl pl ts : List Value} {L p q t n x0 wr so pd op am wi ei oc cn : Int} {w : Nat} (V : rP h0 h fs0 bl L p q t n x0 wr so pd op am wi ei oc cn w pl ts) {k v : Int} (T : tkr k v t n w) (hw0 : w ≤ 2 ^ 60) (htr : wp_r t) : wl_R nn (d + 5) 184 0 [some (.ref 138)] [] h (fun v9 h1 => h1 = h ∧ v9 = some (wp_i (srt k v))) := by
  refine wl_s (pc' := 1) ji_184_0 rfl rfl rfl ?_
  refine wl_bp ji_184_1 rfl ?_
  refine wl_bp ji_184_3 rfl ?_
  refine wl_bp ji_184_5 rfl ?_
  refine wl_bp ji_184_7 rfl ?_
  refine wl_bp ji_184_9 rfl ?_
  refine wl_bp ji_184_11 rfl ?_
  refine wl_sc (d := d + 4) (as := [wp_i 99, wp_i 108, wp_i 105, wp_i 109, wp_i 98, wp_i 115]) (rest := [.ref 138]) ji_184_13 jc_184_140 (Nat.le_of_ble_eq_true rfl) rfl (Nat.le_of_ble_eq_true rfl) rfl (by rw [jn_185]; rfl) (wr_w6 (d := d + 0) (by decide) (by decide) (by decide) (by decide) (by decide) (by decide)) (fun v1 h1 R => ?_)
  obtain ⟨ee, rfl⟩ := R
  subst ee
  show wl_R _ _ 184 16 [some (.ref 138)] [.long (Int64.ofNat (wd [99, 108, 105, 109, 98, 115])), .ref 138] h1 _
  obtain ⟨cs8, hcs8⟩ := rp_c V
  refine wl_vc (d := d + 4) (as := [.ref 138, .long (Int64.ofNat (wd [99, 108, 105, 109, 98, 115]))]) (rest := []) ji_184_16 jc_184_189 rfl hcs8 jk_190.symm (Nat.le_of_ble_eq_true rfl) rfl (by rw [jn_190]; rfl) (wr_iw (W := wd [99, 108, 105, 109, 98, 115]) V hw0 (by decide +kernel) htr) (fun v1 h1 R => ?_)
  obtain ⟨ee, z1, rfl, hz1a, hz1b⟩ := R
  subst ee
  rw [kw T (j := 0) (K := [99, 108, 105, 109, 98, 115]) rfl] at hz1b
  show wl_R _ _ 184 19 [some (.ref 138)] [wp_i z1] h1 _
  refine wl_if (t := 24) ji_184_19 rfl (by omega) (fun (hb2 : (z1 : Int) = 0) => ?_) (fun (hb2 : ¬ ((z1 : Int) = 0)) => ?_)
  · have n0 : ¬ (k = 0 ∧ v = 0) := fun x => by have := hz1b.mpr x; omega
    clear hz1b
    refine wl_s (pc' := 25) ji_184_24 rfl rfl rfl ?_
    refine wl_bp ji_184_25 rfl ?_
    refine wl_bp ji_184_27 rfl ?_
    refine wl_bp ji_184_29 rfl ?_
    refine wl_bp ji_184_31 rfl ?_
    refine wl_bp ji_184_33 rfl ?_
    refine wl_sc (d := d + 4) (as := [wp_i 116, wp_i 101, wp_i 97, wp_i 114, wp_i 115]) (rest := [.ref 138]) ji_184_35 jc_184_130 (Nat.le_of_ble_eq_true rfl) rfl (Nat.le_of_ble_eq_true rfl) rfl (by rw [jn_186]; rfl) (wr_w5 (d := d + 1) (by decide) (by decide) (by decide) (by decide) (by decide)) (fun v1 h1 R => ?_)
    obtain ⟨ee, rfl⟩ := R
    subst ee
    show wl_R _ _ 184 38 [some (.ref 138)] [.long (Int64.ofNat (wd [116, 101, 97, 114, 115])), .ref 138] h1 _
    obtain ⟨cs8, hcs8⟩ := rp_c V
    refine wl_vc (d := d + 4) (as := [.ref 138, .long (Int64.ofNat (wd [116, 101, 97, 114, 115]))]) (rest := []) ji_184_38 jc_184_189 rfl hcs8 jk_190.symm (Nat.le_of_ble_eq_true rfl) rfl (by rw [jn_190]; rfl) (wr_iw (W := wd [116, 101, 97, 114, 115]) V hw0 (by decide +kernel) htr) (fun v1 h1 R => ?_)
    obtain ⟨ee, z3, rfl, hz3a, hz3b⟩ := R
    subst ee
    rw [kw T (j := 1) (K := [116, 101, 97, 114, 115]) rfl] at hz3b
    show wl_R _ _ 184 41 [some (.ref 138)] [wp_i z3] h1 _
    refine wl_if (t := 46) ji_184_41 rfl (by omega) (fun (hb4 : (z3 : Int) = 0) => ?_) (fun (hb4 : ¬ ((z3 : Int) = 0)) => ?_)
    · have n1 : ¬ (k = 0 ∧ v = 1) := fun x => by have := hz3b.mpr x; omega
      clear hz3b
      refine wl_s (pc' := 47) ji_184_46 rfl rfl rfl ?_
      refine wl_bp ji_184_47 rfl ?_
      refine wl_bp ji_184_49 rfl ?_
      refine wl_bp ji_184_51 rfl ?_
      refine wl_bp ji_184_53 rfl ?_
      refine wl_bp ji_184_55 rfl ?_
      refine wl_bp ji_184_57 rfl ?_
      refine wl_sc (d := d + 4) (as := [wp_i 99, wp_i 111, wp_i 117, wp_i 110, wp_i 116, wp_i 115]) (rest := [.ref 138]) ji_184_59 jc_184_140 (Nat.le_of_ble_eq_true rfl) rfl (Nat.le_of_ble_eq_true rfl) rfl (by rw [jn_185]; rfl) (wr_w6 (d := d + 0) (by decide) (by decide) (by decide) (by decide) (by decide) (by decide)) (fun v1 h1 R => ?_)
      obtain ⟨ee, rfl⟩ := R
      subst ee
      show wl_R _ _ 184 62 [some (.ref 138)] [.long (Int64.ofNat (wd [99, 111, 117, 110, 116, 115])), .ref 138] h1 _
      obtain ⟨cs8, hcs8⟩ := rp_c V
      refine wl_vc (d := d + 4) (as := [.ref 138, .long (Int64.ofNat (wd [99, 111, 117, 110, 116, 115]))]) (rest := []) ji_184_62 jc_184_189 rfl hcs8 jk_190.symm (Nat.le_of_ble_eq_true rfl) rfl (by rw [jn_190]; rfl) (wr_iw (W := wd [99, 111, 117, 110, 116, 115]) V hw0 (by decide +kernel) htr) (fun v1 h1 R => ?_)
      obtain ⟨ee, z5, rfl, hz5a, hz5b⟩ := R
      subst ee
      rw [kw T (j := 2) (K := [99, 111, 117, 110, 116, 115]) rfl] at hz5b
      show wl_R _ _ 184 65 [some (.ref 138)] [wp_i z5] h1 _
      refine wl_if (t := 70) ji_184_65 rfl (by omega) (fun (hb6 : (z5 : Int) = 0) => ?_) (fun (hb6 : ¬ ((z5 : Int) = 0)) => ?_)
      · have n2 : ¬ (k = 0 ∧ v = 2) := fun x => by have := hz5b.mpr x; omega
        clear hz5b
        refine wl_s (pc' := 71) ji_184_70 rfl rfl rfl ?_
        refine wl_bp ji_184_71 rfl ?_
        refine wl_bp ji_184_73 rfl ?_
        refine wl_bp ji_184_75 rfl ?_
        refine wl_bp ji_184_77 rfl ?_
        refine wl_sc (d := d + 4) (as := [wp_i 112, wp_i 111, wp_i 108, wp_i 101]) (rest := [.ref 138]) ji_184_79 jc_184_126 (Nat.le_of_ble_eq_true rfl) rfl (Nat.le_of_ble_eq_true rfl) rfl (by rw [jn_187]; rfl) (wr_w4 (d := d + 2) (by decide) (by decide) (by decide) (by decide)) (fun v1 h1 R => ?_)
        obtain ⟨ee, rfl⟩ := R
        subst ee
        show wl_R _ _ 184 82 [some (.ref 138)] [.long (Int64.ofNat (wd [112, 111, 108, 101])), .ref 138] h1 _
        obtain ⟨cs8, hcs8⟩ := rp_c V
        refine wl_vc (d := d + 4) (as := [.ref 138, .long (Int64.ofNat (wd [112, 111, 108, 101]))]) (rest := []) ji_184_82 jc_184_189 rfl hcs8 jk_190.symm (Nat.le_of_ble_eq_true rfl) rfl (by rw [jn_190]; rfl) (wr_iw (W := wd [112, 111, 108, 101]) V hw0 (by decide +kernel) htr) (fun v1 h1 R => ?_)
        obtain ⟨ee, z7, rfl, hz7a, hz7b⟩ := R
        subst ee
        rw [kw T (j := 3) (K := [112, 111, 108, 101]) rfl] at hz7b
        show wl_R _ _ 184 85 [some (.ref 138)] [wp_i z7] h1 _
        refine wl_if (t := 90) ji_184_85 rfl (by omega) (fun (hb8 : (z7 : Int) = 0) => ?_) (fun (hb8 : ¬ ((z7 : Int) = 0)) => ?_)
        · have n3 : ¬ (k = 0 ∧ v = 3) := fun x => by have := hz7b.mpr x; omega
          clear hz7b
          refine wl_s (pc' := 91) ji_184_90 rfl rfl rfl ?_
          refine wl_bp ji_184_91 rfl ?_
          refine wl_bp ji_184_93 rfl ?_
          refine wl_bp ji_184_95 rfl ?_
          refine wl_bp ji_184_97 rfl ?_
          refine wl_bp ji_184_99 rfl ?_
          refine wl_sc (d := d + 4) (as := [wp_i 112, wp_i 111, wp_i 119, wp_i 101, wp_i 114]) (rest := [.ref 138]) ji_184_101 jc_184_130 (Nat.le_of_ble_eq_true rfl) rfl (Nat.le_of_ble_eq_true rfl) rfl (by rw [jn_186]; rfl) (wr_w5 (d := d + 1) (by decide) (by decide) (by decide) (by decide) (by decide)) (fun v1 h1 R => ?_)
          obtain ⟨ee, rfl⟩ := R
          subst ee
          show wl_R _ _ 184 104 [some (.ref 138)] [.long (Int64.ofNat (wd [112, 111, 119, 101, 114])), .ref 138] h1 _
          obtain ⟨cs8, hcs8⟩ := rp_c V
          refine wl_vc (d := d + 4) (as := [.ref 138, .long (Int64.ofNat (wd [112, 111, 119, 101, 114]))]) (rest := []) ji_184_104 jc_184_189 rfl hcs8 jk_190.symm (Nat.le_of_ble_eq_true rfl) rfl (by rw [jn_190]; rfl) (wr_iw (W := wd [112, 111, 119, 101, 114]) V hw0 (by decide +kernel) htr) (fun v1 h1 R => ?_)
          obtain ⟨ee, z9, rfl, hz9a, hz9b⟩ := R
          subst ee
          rw [kw T (j := 4) (K := [112, 111, 119, 101, 114]) rfl] at hz9b
          show wl_R _ _ 184 107 [some (.ref 138)] [wp_i z9] h1 _
          refine wl_if (t := 112) ji_184_107 rfl (by omega) (fun (hb10 : (z9 : Int) = 0) => ?_) (fun (hb10 : ¬ ((z9 : Int) = 0)) => ?_)
          · have n4 : ¬ (k = 0 ∧ v = 4) := fun x => by have := hz9b.mpr x; omega
            clear hz9b
            refine wl_s (pc' := 113) ji_184_112 rfl rfl rfl ?_
            refine wl_bp ji_184_113 rfl ?_
            refine wl_bp ji_184_115 rfl ?_
            refine wl_bp ji_184_117 rfl ?_
            refine wl_bp ji_184_119 rfl ?_
            refine wl_bp ji_184_121 rfl ?_
            refine wl_sc (d := d + 4) (as := [wp_i 104, wp_i 111, wp_i 105, wp_i 115, wp_i 116]) (rest := [.ref 138]) ji_184_123 jc_184_130 (Nat.le_of_ble_eq_true rfl) rfl (Nat.le_of_ble_eq_true rfl) rfl (by rw [jn_186]; rfl) (wr_w5 (d := d + 1) (by decide) (by decide) (by decide) (by decide) (by decide)) (fun v1 h1 R => ?_)
            obtain ⟨ee, rfl⟩ := R
            subst ee
            show wl_R _ _ 184 126 [some (.ref 138)] [.long (Int64.ofNat (wd [104, 111, 105, 115, 116])), .ref 138] h1 _
            obtain ⟨cs8, hcs8⟩ := rp_c V
            refine wl_vc (d := d + 4) (as := [.ref 138, .long (Int64.ofNat (wd [104, 111, 105, 115, 116]))]) (rest := []) ji_184_126 jc_184_189 rfl hcs8 jk_190.symm (Nat.le_of_ble_eq_true rfl) rfl (by rw [jn_190]; rfl) (wr_iw (W := wd [104, 111, 105, 115, 116]) V hw0 (by decide +kernel) htr) (fun v1 h1 R => ?_)
            obtain ⟨ee, z11, rfl, hz11a, hz11b⟩ := R
            subst ee
            rw [kw T (j := 5) (K := [104, 111, 105, 115, 116]) rfl] at hz11b
            show wl_R _ _ 184 129 [some (.ref 138)] [wp_i z11] h1 _
            refine wl_if (t := 134) ji_184_129 rfl (by omega) (fun (hb12 : (z11 : Int) = 0) => ?_) (fun (hb12 : ¬ ((z11 : Int) = 0)) => ?_)
            · have n5 : ¬ (k = 0 ∧ v = 5) := fun x => by have := hz11b.mpr x; omega
              clear hz11b
              refine wl_s (pc' := 135) ji_184_134 rfl rfl rfl ?_
              refine wl_bp ji_184_135 rfl ?_
              refine wl_bp ji_184_137 rfl ?_
              refine wl_bp ji_184_139 rfl ?_
              refine wl_bp ji_184_141 rfl ?_
              refine wl_bp ji_184_143 rfl ?_
              refine wl_sc (d := d + 4) (as := [wp_i 108, wp_i 111, wp_i 119, wp_i 101, wp_i 114]) (rest := [.ref 138]) ji_184_145 jc_184_130 (Nat.le_of_ble_eq_true rfl) rfl (Nat.le_of_ble_eq_true rfl) rfl (by rw [jn_186]; rfl) (wr_w5 (d := d + 1) (by decide) (by decide) (by decide) (by decide) (by decide)) (fun v1 h1 R => ?_)
              obtain ⟨ee, rfl⟩ := R
              subst ee
              show wl_R _ _ 184 148 [some (.ref 138)] [.long (Int64.ofNat (wd [108, 111, 119, 101, 114])), .ref 138] h1 _
              obtain ⟨cs8, hcs8⟩ := rp_c V
              refine wl_vc (d := d + 4) (as := [.ref 138, .long (Int64.ofNat (wd [108, 111, 119, 101, 114]))]) (rest := []) ji_184_148 jc_184_189 rfl hcs8 jk_190.symm (Nat.le_of_ble_eq_true rfl) rfl (by rw [jn_190]; rfl) (wr_iw (W := wd [108, 111, 119, 101, 114]) V hw0 (by decide +kernel) htr) (fun v1 h1 R => ?_)
              obtain ⟨ee, z13, rfl, hz13a, hz13b⟩ := R
              subst ee
              rw [kw T (j := 6) (K := [108, 111, 119, 101, 114]) rfl] at hz13b
              show wl_R _ _ 184 151 [some (.ref 138)] [wp_i z13] h1 _
              refine wl_if (t := 157) ji_184_151 rfl (by omega) (fun (hb14 : (z13 : Int) = 0) => ?_) (fun (hb14 : ¬ ((z13 : Int) = 0)) => ?_)
              · have n6 : ¬ (k = 0 ∧ v = 6) := fun x => by have := hz13b.mpr x; omega
                clear hz13b
                refine wl_s (pc' := 158) ji_184_157 rfl rfl rfl ?_
                refine wl_bp ji_184_158 rfl ?_
                refine wl_bp ji_184_160 rfl ?_
                refine wl_bp ji_184_162 rfl ?_
                refine wl_bp ji_184_164 rfl ?_
                refine wl_bp ji_184_166 rfl ?_
                refine wl_sc (d := d + 4) (as := [wp_i 112, wp_i 114, wp_i 117, wp_i 110, wp_i 101]) (rest := [.ref 138]) ji_184_168 jc_184_130 (Nat.le_of_ble_eq_true rfl) rfl (Nat.le_of_ble_eq_true rfl) rfl (by rw [jn_186]; rfl) (wr_w5 (d := d + 1) (by decide) (by decide) (by decide) (by decide) (by decide)) (fun v1 h1 R => ?_)
                obtain ⟨ee, rfl⟩ := R
                subst ee
                show wl_R _ _ 184 171 [some (.ref 138)] [.long (Int64.ofNat (wd [112, 114, 117, 110, 101])), .ref 138] h1 _
                obtain ⟨cs8, hcs8⟩ := rp_c V
                refine wl_vc (d := d + 4) (as := [.ref 138, .long (Int64.ofNat (wd [112, 114, 117, 110, 101]))]) (rest := []) ji_184_171 jc_184_189 rfl hcs8 jk_190.symm (Nat.le_of_ble_eq_true rfl) rfl (by rw [jn_190]; rfl) (wr_iw (W := wd [112, 114, 117, 110, 101]) V hw0 (by decide +kernel) htr) (fun v1 h1 R => ?_)
                obtain ⟨ee, z15, rfl, hz15a, hz15b⟩ := R
                subst ee
                rw [kw T (j := 7) (K := [112, 114, 117, 110, 101]) rfl] at hz15b
                show wl_R _ _ 184 174 [some (.ref 138)] [wp_i z15] h1 _
                refine wl_if (t := 180) ji_184_174 rfl (by omega) (fun (hb16 : (z15 : Int) = 0) => ?_) (fun (hb16 : ¬ ((z15 : Int) = 0)) => ?_)
                · have n7 : ¬ (k = 0 ∧ v = 7) := fun x => by have := hz15b.mpr x; omega
                  clear hz15b
                  refine wl_s (pc' := 181) ji_184_180 rfl rfl rfl ?_
                  refine wl_bp ji_184_181 rfl ?_
                  refine wl_bp ji_184_183 rfl ?_
                  refine wl_bp ji_184_185 rfl ?_
                  refine wl_bp ji_184_187 rfl ?_
                  refine wl_sc (d := d + 4) (as := [wp_i 98, wp_i 108, wp_i 111, wp_i 119]) (rest := [.ref 138]) ji_184_189 jc_184_126 (Nat.le_of_ble_eq_true rfl) rfl (Nat.le_of_ble_eq_true rfl) rfl (by rw [jn_187]; rfl) (wr_w4 (d := d + 2) (by decide) (by decide) (by decide) (by decide)) (fun v1 h1 R => ?_)
                  obtain ⟨ee, rfl⟩ := R
                  subst ee
                  show wl_R _ _ 184 192 [some (.ref 138)] [.long (Int64.ofNat (wd [98, 108, 111, 119])), .ref 138] h1 _
                  obtain ⟨cs8, hcs8⟩ := rp_c V
                  refine wl_vc (d := d + 4) (as := [.ref 138, .long (Int64.ofNat (wd [98, 108, 111, 119]))]) (rest := []) ji_184_192 jc_184_189 rfl hcs8 jk_190.symm (Nat.le_of_ble_eq_true rfl) rfl (by rw [jn_190]; rfl) (wr_iw (W := wd [98, 108, 111, 119]) V hw0 (by decide +kernel) htr) (fun v1 h1 R => ?_)
                  obtain ⟨ee, z17, rfl, hz17a, hz17b⟩ := R
                  subst ee
                  rw [kw T (j := 8) (K := [98, 108, 111, 119]) rfl] at hz17b
                  show wl_R _ _ 184 195 [some (.ref 138)] [wp_i z17] h1 _
                  refine wl_if (t := 203) ji_184_195 rfl (by omega) (fun (hb18 : (z17 : Int) = 0) => ?_) (fun (hb18 : ¬ ((z17 : Int) = 0)) => ?_)
                  · have n8 : ¬ (k = 0 ∧ v = 8) := fun x => by have := hz17b.mpr x; omega
                    clear hz17b
                    refine wl_s (pc' := 204) ji_184_203 rfl rfl rfl ?_
                    refine wl_bp ji_184_204 rfl ?_
                    refine wl_bp ji_184_206 rfl ?_
                    refine wl_bp ji_184_208 rfl ?_
                    refine wl_bp ji_184_210 rfl ?_
                    refine wl_sc (d := d + 4) (as := [wp_i 104, wp_i 111, wp_i 117, wp_i 114]) (rest := [.ref 138]) ji_184_212 jc_184_126 (Nat.le_of_ble_eq_true rfl) rfl (Nat.le_of_ble_eq_true rfl) rfl (by rw [jn_187]; rfl) (wr_w4 (d := d + 2) (by decide) (by decide) (by decide) (by decide)) (fun v1 h1 R => ?_)
                    obtain ⟨ee, rfl⟩ := R
                    subst ee
                    show wl_R _ _ 184 215 [some (.ref 138)] [.long (Int64.ofNat (wd [104, 111, 117, 114])), .ref 138] h1 _
                    obtain ⟨cs8, hcs8⟩ := rp_c V
                    refine wl_vc (d := d + 4) (as := [.ref 138, .long (Int64.ofNat (wd [104, 111, 117, 114]))]) (rest := []) ji_184_215 jc_184_189 rfl hcs8 jk_190.symm (Nat.le_of_ble_eq_true rfl) rfl (by rw [jn_190]; rfl) (wr_iw (W := wd [104, 111, 117, 114]) V hw0 (by decide +kernel) htr) (fun v1 h1 R => ?_)
                    obtain ⟨ee, z19, rfl, hz19a, hz19b⟩ := R
                    subst ee
                    rw [kw T (j := 9) (K := [104, 111, 117, 114]) rfl] at hz19b
                    show wl_R _ _ 184 218 [some (.ref 138)] [wp_i z19] h1 _
                    refine wl_if (t := 226) ji_184_218 rfl (by omega) (fun (hb20 : (z19 : Int) = 0) => ?_) (fun (hb20 : ¬ ((z19 : Int) = 0)) => ?_)
                    · have n9 : ¬ (k = 0 ∧ v = 9) := fun x => by have := hz19b.mpr x; omega
                      clear hz19b
                      refine wl_s (pc' := 227) ji_184_226 rfl rfl rfl ?_
                      rw [show srt k v = -1 from if_neg (fun x => by obtain ⟨x1, x2, x3⟩ := x; have m0 : ¬ v = 0 := fun e => n0 ⟨x1, e⟩; have m1 : ¬ v = 1 := fun e => n1 ⟨x1, e⟩; have m2 : ¬ v = 2 := fun e => n2 ⟨x1, e⟩; have m3 : ¬ v = 3 := fun e => n3 ⟨x1, e⟩; have m4 : ¬ v = 4 := fun e => n4 ⟨x1, e⟩; have m5 : ¬ v = 5 := fun e => n5 ⟨x1, e⟩; have m6 : ¬ v = 6 := fun e => n6 ⟨x1, e⟩; have m7 : ¬ v = 7 := fun e => n7 ⟨x1, e⟩; have m8 : ¬ v = 8 := fun e => n8 ⟨x1, e⟩; have m9 : ¬ v = 9 := fun e => n9 ⟨x1, e⟩; omega)]
                      exact wl_ri ji_184_227 jr_184 rfl ⟨rfl, rfl⟩
                    · have n9 : k = 0 ∧ v = 9 := hz19b.mp (by omega)
                      clear hz19b
                      refine wl_bp ji_184_221 rfl ?_
                      refine wl_goto (t := 227) ji_184_223 rfl ?_
                      rw [show srt k v = 9 from (if_pos ⟨n9.1, by omega, by omega⟩).trans n9.2]
                      exact wl_ri ji_184_227 jr_184 rfl ⟨rfl, rfl⟩
                  · have n8 : k = 0 ∧ v = 8 := hz17b.mp (by omega)
                    clear hz17b
                    refine wl_bp ji_184_198 rfl ?_
                    refine wl_goto (t := 227) ji_184_200 rfl ?_
                    rw [show srt k v = 8 from (if_pos ⟨n8.1, by omega, by omega⟩).trans n8.2]
                    exact wl_ri ji_184_227 jr_184 rfl ⟨rfl, rfl⟩
                · have n7 : k = 0 ∧ v = 7 := hz15b.mp (by omega)
                  clear hz15b
                  refine wl_bp ji_184_177 rfl ?_
                  rw [show srt k v = 7 from (if_pos ⟨n7.1, by omega, by omega⟩).trans n7.2]
                  exact wl_ri ji_184_179 jr_184 rfl ⟨rfl, rfl⟩
              · have n6 : k = 0 ∧ v = 6 := hz13b.mp (by omega)
                clear hz13b
                refine wl_bp ji_184_154 rfl ?_
                rw [show srt k v = 6 from (if_pos ⟨n6.1, by omega, by omega⟩).trans n6.2]
                exact wl_ri ji_184_156 jr_184 rfl ⟨rfl, rfl⟩
            · have n5 : k = 0 ∧ v = 5 := hz11b.mp (by omega)
              clear hz11b
              refine wl_s (pc' := 133) ji_184_132 rfl rfl rfl ?_
              rw [show srt k v = 5 from (if_pos ⟨n5.1, by omega, by omega⟩).trans n5.2]
              exact wl_ri ji_184_133 jr_184 rfl ⟨rfl, rfl⟩
          · have n4 : k = 0 ∧ v = 4 := hz9b.mp (by omega)
            clear hz9b
            refine wl_s (pc' := 111) ji_184_110 rfl rfl rfl ?_
            rw [show srt k v = 4 from (if_pos ⟨n4.1, by omega, by omega⟩).trans n4.2]
            exact wl_ri ji_184_111 jr_184 rfl ⟨rfl, rfl⟩
        · have n3 : k = 0 ∧ v = 3 := hz7b.mp (by omega)
          clear hz7b
          refine wl_s (pc' := 89) ji_184_88 rfl rfl rfl ?_
          rw [show srt k v = 3 from (if_pos ⟨n3.1, by omega, by omega⟩).trans n3.2]
          exact wl_ri ji_184_89 jr_184 rfl ⟨rfl, rfl⟩
      · have n2 : k = 0 ∧ v = 2 := hz5b.mp (by omega)
        clear hz5b
        refine wl_s (pc' := 69) ji_184_68 rfl rfl rfl ?_
        rw [show srt k v = 2 from (if_pos ⟨n2.1, by omega, by omega⟩).trans n2.2]
        exact wl_ri ji_184_69 jr_184 rfl ⟨rfl, rfl⟩
    · have n1 : k = 0 ∧ v = 1 := hz3b.mp (by omega)
      clear hz3b
      refine wl_s (pc' := 45) ji_184_44 rfl rfl rfl ?_
      rw [show srt k v = 1 from (if_pos ⟨n1.1, by omega, by omega⟩).trans n1.2]
      exact wl_ri ji_184_45 jr_184 rfl ⟨rfl, rfl⟩
  · have n0 : k = 0 ∧ v = 0 := hz1b.mp (by omega)
    clear hz1b
    refine wl_s (pc' := 23) ji_184_22 rfl rfl rfl ?_
    rw [show srt k v = 0 from (if_pos ⟨n0.1, by omega, by omega⟩).trans n0.2]
    exact wl_ri ji_184_23 jr_184 rfl ⟨rfl, rfl⟩
