/-! -/
/-! -/
set_option maxRecDepth 100000 in
theorem ji_222_114 : mj_ins 222 114 = some (.aload_n 0) := by decide +kernel
set_option maxRecDepth 100000 in
theorem ji_222_115 : mj_ins 222 115 = some (.getfield 7) := by decide +kernel
set_option maxRecDepth 100000 in
theorem ji_222_118 : mj_ins 222 118 = some (.bipush 10) := by decide +kernel
set_option maxRecDepth 100000 in
theorem ji_222_120 : mj_ins 222 120 = some (.iaload) := by decide +kernel
set_option maxRecDepth 100000 in
theorem ji_222_121 : mj_ins 222 121 = some (.istore_n 1) := by decide +kernel
set_option maxRecDepth 100000 in
theorem ji_222_122 : mj_ins 222 122 = some (.aload_n 0) := by decide +kernel
set_option maxRecDepth 100000 in
theorem ji_222_123 : mj_ins 222 123 = some (.getfield 7) := by decide +kernel
set_option maxRecDepth 100000 in
theorem ji_222_126 : mj_ins 222 126 = some (.bipush 10) := by decide +kernel
set_option maxRecDepth 100000 in
theorem ji_222_128 : mj_ins 222 128 = some (.aload_n 0) := by decide +kernel
set_option maxRecDepth 100000 in
theorem ji_222_129 : mj_ins 222 129 = some (.invokevirtual 327) := by decide +kernel
set_option maxRecDepth 100000 in
theorem jc_222_327 : mj_cal 222 327 = some (2, 242, 0) := by decide +kernel
set_option maxRecDepth 100000 in
theorem jn_242 : mj_nl 242 = 6 := by decide +kernel
set_option maxRecDepth 100000 in
theorem jk_242 : mj_cls 242 = 11 := by decide +kernel
set_option maxRecDepth 100000 in
theorem ji_222_132 : mj_ins 222 132 = some (.iastore) := by decide +kernel
set_option maxRecDepth 100000 in
theorem ji_222_133 : mj_ins 222 133 = some (.aload_n 0) := by decide +kernel
set_option maxRecDepth 100000 in
theorem ji_222_134 : mj_ins 222 134 = some (.getfield 7) := by decide +kernel
set_option maxRecDepth 100000 in
theorem ji_222_137 : mj_ins 222 137 = some (.bipush 10) := by decide +kernel
set_option maxRecDepth 100000 in
theorem ji_222_139 : mj_ins 222 139 = some (.iaload) := by decide +kernel
set_option maxRecDepth 100000 in
theorem ji_222_140 : mj_ins 222 140 = some (.iload_n 1) := by decide +kernel
set_option maxRecDepth 100000 in
theorem ji_222_141 : mj_ins 222 141 = some (.if_icmp .eq 81) := by decide +kernel
set_option maxRecDepth 100000 in
theorem ji_222_222 : mj_ins 222 222 = some (.aload_n 0) := by decide +kernel
set_option maxRecDepth 100000 in
theorem ji_222_223 : mj_ins 222 223 = some (.getfield 7) := by decide +kernel
set_option maxRecDepth 100000 in
theorem ji_222_226 : mj_ins 222 226 = some (.bipush 8) := by decide +kernel
set_option maxRecDepth 100000 in
theorem ji_222_228 : mj_ins 222 228 = some (.dup2) := by decide +kernel
set_option maxRecDepth 100000 in
theorem ji_222_229 : mj_ins 222 229 = some (.iaload) := by decide +kernel
set_option maxRecDepth 100000 in
theorem ji_222_230 : mj_ins 222 230 = some (.iconst 1) := by decide +kernel
set_option maxRecDepth 100000 in
theorem ji_222_231 : mj_ins 222 231 = some (.iadd) := by decide +kernel
set_option maxRecDepth 100000 in
theorem ji_222_232 : mj_ins 222 232 = some (.iastore) := by decide +kernel
set_option maxRecDepth 100000 in
theorem ji_222_233 : mj_ins 222 233 = some (.return_) := by decide +kernel
set_option maxRecDepth 100000 in
theorem jr_222 : mj_ret 222 = none := by decide +kernel
set_option maxRecDepth 100000 in
theorem ji_222_144 : mj_ins 222 144 = some (.aload_n 0) := by decide +kernel
set_option maxRecDepth 100000 in
theorem ji_222_145 : mj_ins 222 145 = some (.getfield 43) := by decide +kernel
set_option maxRecDepth 100000 in
theorem jf_222_43 : mj_fld 222 43 = some (11, 25, .boolean, true) := by decide +kernel
set_option maxRecDepth 100000 in
theorem ji_222_148 : mj_ins 222 148 = some (.ifCond .eq 74) := by decide +kernel
set_option maxRecDepth 100000 in
theorem ji_222_151 : mj_ins 222 151 = some (.aload_n 0) := by decide +kernel
set_option maxRecDepth 100000 in
theorem ji_222_152 : mj_ins 222 152 = some (.getfield 7) := by decide +kernel
set_option maxRecDepth 100000 in
theorem ji_222_155 : mj_ins 222 155 = some (.sipush 3484) := by decide +kernel
set_option maxRecDepth 100000 in
theorem ji_222_158 : mj_ins 222 158 = some (.iconst 2) := by decide +kernel
set_option maxRecDepth 100000 in
theorem ji_222_159 : mj_ins 222 159 = some (.aload_n 0) := by decide +kernel
set_option maxRecDepth 100000 in
theorem ji_222_160 : mj_ins 222 160 = some (.getfield 7) := by decide +kernel
set_option maxRecDepth 100000 in
theorem ji_222_163 : mj_ins 222 163 = some (.bipush 12) := by decide +kernel
set_option maxRecDepth 100000 in
theorem ji_222_165 : mj_ins 222 165 = some (.iaload) := by decide +kernel
set_option maxRecDepth 100000 in
theorem ji_222_166 : mj_ins 222 166 = some (.sipush 1280) := by decide +kernel
set_option maxRecDepth 100000 in
theorem ji_222_169 : mj_ins 222 169 = some (.irem) := by decide +kernel
set_option maxRecDepth 100000 in
theorem ji_222_170 : mj_ins 222 170 = some (.imul) := by decide +kernel
set_option maxRecDepth 100000 in
theorem ji_222_171 : mj_ins 222 171 = some (.iadd) := by decide +kernel
set_option maxRecDepth 100000 in
theorem ji_222_172 : mj_ins 222 172 = some (.aload_n 0) := by decide +kernel
set_option maxRecDepth 100000 in
theorem ji_222_173 : mj_ins 222 173 = some (.getfield 7) := by decide +kernel
set_option maxRecDepth 100000 in
theorem ji_222_176 : mj_ins 222 176 = some (.bipush 8) := by decide +kernel
set_option maxRecDepth 100000 in
theorem ji_222_178 : mj_ins 222 178 = some (.iaload) := by decide +kernel
set_option maxRecDepth 100000 in
theorem ji_222_179 : mj_ins 222 179 = some (.iastore) := by decide +kernel
set_option maxRecDepth 100000 in
theorem ji_222_180 : mj_ins 222 180 = some (.aload_n 0) := by decide +kernel
set_option maxRecDepth 100000 in
theorem ji_222_181 : mj_ins 222 181 = some (.getfield 7) := by decide +kernel
set_option maxRecDepth 100000 in
theorem ji_222_184 : mj_ins 222 184 = some (.sipush 3484) := by decide +kernel
set_option maxRecDepth 100000 in
theorem ji_222_187 : mj_ins 222 187 = some (.iconst 2) := by decide +kernel
set_option maxRecDepth 100000 in
theorem ji_222_188 : mj_ins 222 188 = some (.aload_n 0) := by decide +kernel
set_option maxRecDepth 100000 in
theorem ji_222_189 : mj_ins 222 189 = some (.getfield 7) := by decide +kernel
set_option maxRecDepth 100000 in
theorem ji_222_192 : mj_ins 222 192 = some (.bipush 12) := by decide +kernel
set_option maxRecDepth 100000 in
theorem ji_222_194 : mj_ins 222 194 = some (.iaload) := by decide +kernel
set_option maxRecDepth 100000 in
theorem ji_222_195 : mj_ins 222 195 = some (.sipush 1280) := by decide +kernel
set_option maxRecDepth 100000 in
theorem ji_222_198 : mj_ins 222 198 = some (.irem) := by decide +kernel
set_option maxRecDepth 100000 in
theorem ji_222_199 : mj_ins 222 199 = some (.imul) := by decide +kernel
set_option maxRecDepth 100000 in
theorem ji_222_200 : mj_ins 222 200 = some (.iadd) := by decide +kernel
set_option maxRecDepth 100000 in
theorem ji_222_201 : mj_ins 222 201 = some (.iconst 1) := by decide +kernel
set_option maxRecDepth 100000 in
theorem ji_222_202 : mj_ins 222 202 = some (.iadd) := by decide +kernel
set_option maxRecDepth 100000 in
theorem ji_222_203 : mj_ins 222 203 = some (.aload_n 0) := by decide +kernel
set_option maxRecDepth 100000 in
theorem ji_222_204 : mj_ins 222 204 = some (.getfield 7) := by decide +kernel
set_option maxRecDepth 100000 in
theorem ji_222_207 : mj_ins 222 207 = some (.bipush 10) := by decide +kernel
set_option maxRecDepth 100000 in
theorem ji_222_209 : mj_ins 222 209 = some (.iaload) := by decide +kernel
set_option maxRecDepth 100000 in
theorem ji_222_210 : mj_ins 222 210 = some (.iastore) := by decide +kernel
set_option maxRecDepth 100000 in
theorem ji_222_211 : mj_ins 222 211 = some (.aload_n 0) := by decide +kernel
set_option maxRecDepth 100000 in
theorem ji_222_212 : mj_ins 222 212 = some (.getfield 7) := by decide +kernel
set_option maxRecDepth 100000 in
theorem ji_222_215 : mj_ins 222 215 = some (.bipush 12) := by decide +kernel
set_option maxRecDepth 100000 in
theorem ji_222_217 : mj_ins 222 217 = some (.dup2) := by decide +kernel
set_option maxRecDepth 100000 in
theorem ji_222_218 : mj_ins 222 218 = some (.iaload) := by decide +kernel
set_option maxRecDepth 100000 in
theorem ji_222_219 : mj_ins 222 219 = some (.iconst 1) := by decide +kernel
set_option maxRecDepth 100000 in
theorem ji_222_220 : mj_ins 222 220 = some (.iadd) := by decide +kernel
set_option maxRecDepth 100000 in
theorem ji_222_221 : mj_ins 222 221 = some (.iastore) := by decide +kernel
/-! the reference's flyOn, its end; laid by program (wp_u38.py) -/
theorem hnR_r {s : sg_} {cr : crs} : ∀ n : Nat, n ≤ 6 → -1 ≤ (hnR s cr n).1 ∧ (hnR s cr n).1 < 6
  | 0, _ => ⟨Int.le_refl _, (by decide : (-1 : Int) < 6)⟩
  | n + 1, h => by
    have ih := hnR_r (s := s) (cr := cr) n (by omega)
    show -1 ≤ (hn1 s cr n (hnR s cr n)).1 ∧ (hn1 s cr n (hnR s cr n)).1 < 6
    unfold hn1
    split
    · exact ih
    · split
      · exact (show -1 ≤ (n : Int) ∧ (n : Int) < 6 by omega)
      · exact ih
theorem holdR_r {s : sg_} {cr : crs} (h : s 139 1 ≤ 6) : -1 ≤ holdR s cr ∧ holdR s cr < 6 := by
  unfold holdR
  split
  · omega
  · exact hnR_r _ (by omega)
def endR (cr : crs) (t : sg_) : sg_ := up (if holdR t cr = t 139 10 ∨ t 138 25 = 0 then up t 139 10 (holdR t cr) else up (up (up (up t 139 10 (holdR t cr)) 139 (3484 + 2 * (t 139 12 % 1280)) (t 139 8)) 139 (3484 + 2 * (t 139 12 % 1280) + 1) (holdR t cr)) 139 12 (t 139 12 + 1)) 139 8 (t 139 8 + 1)
theorem uc_222e {nn d : Nat} {h : mj_H} {t : sg_} (C : CS h t) {cr : crs} (H9 : RS t cr) (hB : 0 ≤ t 139 12 ∧ t 139 12 ≤ 2000000000) {l1 l2 l3 : Option Value} : wl_R nn (d + 7) 222 114 [some (.ref 138), l1, l2, l3] [] h (fun v1 h1 => v1 = none ∧ CS h1 (endR cr t)) := by
  have r8 := H9.g.o
  have r10 := H9.g.d
  obtain ⟨kk, hkk⟩ : ∃ kk, kk = 3484 + 2 * (t 139 12 % 1280) := ⟨_, rfl⟩
  refine wl_s (pc' := 115) ji_222_114 rfl rfl rfl ?_
  refine cs_gr (r := 139) (k := 0) C (by decide) sq_138 rfl ji_222_115 jf_222_7 ?_
  refine wl_bp ji_222_118 rfl ?_
  refine cs_l (x := 10) C (by decide) (by decide) sq_139 (by omega) ji_222_120 (fun ld10 ld11 ld12 => ?_)
  refine wl_s (pc' := 122) (lv' := [some (.ref 138), some (wp_i (t 139 10)), l2, l3]) ji_222_121 rfl rfl rfl ?_
  refine wl_s (pc' := 123) ji_222_122 rfl rfl rfl ?_
  refine cs_gr (r := 139) (k := 0) C (by decide) sq_138 rfl ji_222_123 jf_222_7 ?_
  refine wl_bp ji_222_126 rfl ?_
  refine wl_s (pc' := 129) ji_222_128 rfl rfl rfl ?_
  obtain ⟨q3, hq3⟩ := cs_c C (by decide) sq_138
  refine wl_vc (d := d + 6) (as := [.ref 138]) (rest := [wp_i 10, .ref 139]) ji_222_129 jc_222_327 rfl hq3 jk_242.symm (Nat.le_of_ble_eq_true rfl) rfl (by rw [jn_242]; rfl) (uc_242 (d := d) C (RS_R H9)) (fun v1 h2 R => ?_)
  obtain ⟨rfl, C⟩ := R
  have rO := holdR_r (s := t) (cr := cr) H9.g.w0.2
  obtain ⟨O, eO⟩ : ∃ z9_, holdR t cr = z9_ := ⟨_, rfl⟩
  rw [eO] at rO ⊢
  show wl_R _ _ 222 132 [some (.ref 138), some (wp_i (t 139 10)), l2, l3] [wp_i O, wp_i 10, .ref 139] h2 _
  refine cs_s (x := 10) (y := O) C (by decide) sq_139 (by omega) (by omega) ji_222_132 (fun h st40 st41 C => ?_)
  obtain ⟨s5, es5⟩ : ∃ z9_, up t 139 10 O = z9_ := ⟨_, rfl⟩
  rw [es5] at C
  refine wl_s (pc' := 134) ji_222_133 rfl rfl rfl ?_
  refine cs_gr (r := 139) (k := 0) C (by decide) sq_138 rfl ji_222_134 jf_222_7 ?_
  refine wl_bp ji_222_137 rfl ?_
  refine cs_l (x := 10) C (by decide) (by decide) sq_139 (by omega) ji_222_139 (fun ld60 ld61 ld62 => ?_)
  have rd7 : s5 139 10 = O := by rw [← es5, up_e]
  rw [rd7] at ld62 ⊢
  refine wl_s (pc' := 141) ji_222_140 rfl rfl rfl ?_
  refine wl_icmp (t := 222) ji_222_141 rfl (by omega) (by omega) (fun (hb8 : (O : Int) = (t 139 10)) => ?_) (fun (hb8 : ¬ ((O : Int) = (t 139 10))) => ?_)
  · refine wl_s (pc' := 223) ji_222_222 rfl rfl rfl ?_
    refine cs_gr (r := 139) (k := 0) C (by decide) sq_138 rfl ji_222_223 jf_222_7 ?_
    refine wl_bp ji_222_226 rfl ?_
    refine wl_s (pc' := 229) ji_222_228 rfl rfl rfl ?_
    refine cs_l (x := 8) C (by decide) (by decide) sq_139 (by omega) ji_222_229 (fun ld90 ld91 ld92 => ?_)
    have rd10 : s5 139 8 = t 139 8 := by rw [← es5, up_k (by decide)]
    rw [rd10] at ld92 ⊢
    refine wl_s (pc' := 231) ji_222_230 rfl rfl rfl ?_
    refine wl_iadd (x := t 139 8) (y := 1) (z := t 139 8 + 1) ji_222_231 (by omega) ?_
    refine cs_s (x := 8) (y := t 139 8 + 1) C (by decide) sq_139 (by omega) (by omega) ji_222_232 (fun h st110 st111 C => ?_)
    obtain ⟨s12, es12⟩ : ∃ z9_, up s5 139 8 (t 139 8 + 1) = z9_ := ⟨_, rfl⟩
    rw [es12] at C
    exact wl_rv ji_222_233 jr_222 (⟨rfl, cs_mono C (by unfold endR; rw [eO, if_pos (by omega), es5, es12])⟩)
  · refine wl_s (pc' := 145) ji_222_144 rfl rfl rfl ?_
    refine cs_gi (k := 25) (kI := 25) C (by decide) (by decide) sq_138 rfl rfl ji_222_145 jf_222_43 ?_
    have rd13 : s5 138 25 = t 138 25 := by rw [← es5, up_a (by omega)]
    rw [rd13]
    have bd14 : wp_r (t 138 25) := rd13 ▸ cs_ri (k := 25) (kI := 25) C (by decide) (by decide) sq_138 rfl rfl (show 25 < 31 by decide)
    refine wl_if (t := 222) ji_222_148 rfl (by omega) (fun (hb15 : (t 138 25 : Int) = 0) => ?_) (fun (hb15 : ¬ ((t 138 25 : Int) = 0)) => ?_)
    · refine wl_s (pc' := 223) ji_222_222 rfl rfl rfl ?_
      refine cs_gr (r := 139) (k := 0) C (by decide) sq_138 rfl ji_222_223 jf_222_7 ?_
      refine wl_bp ji_222_226 rfl ?_
      refine wl_s (pc' := 229) ji_222_228 rfl rfl rfl ?_
      refine cs_l (x := 8) C (by decide) (by decide) sq_139 (by omega) ji_222_229 (fun ld160 ld161 ld162 => ?_)
      have rd17 : s5 139 8 = t 139 8 := by rw [← es5, up_k (by decide)]
      rw [rd17] at ld162 ⊢
      refine wl_s (pc' := 231) ji_222_230 rfl rfl rfl ?_
      refine wl_iadd (x := t 139 8) (y := 1) (z := t 139 8 + 1) ji_222_231 (by omega) ?_
      refine cs_s (x := 8) (y := t 139 8 + 1) C (by decide) sq_139 (by omega) (by omega) ji_222_232 (fun h st180 st181 C => ?_)
      obtain ⟨s19, es19⟩ : ∃ z9_, up s5 139 8 (t 139 8 + 1) = z9_ := ⟨_, rfl⟩
      rw [es19] at C
      exact wl_rv ji_222_233 jr_222 (⟨rfl, cs_mono C (by unfold endR; rw [eO, if_pos (by omega), es5, es19])⟩)
    · refine wl_s (pc' := 152) ji_222_151 rfl rfl rfl ?_
      refine cs_gr (r := 139) (k := 0) C (by decide) sq_138 rfl ji_222_152 jf_222_7 ?_
      refine wl_sp ji_222_155 rfl ?_
      refine wl_s (pc' := 159) ji_222_158 rfl rfl rfl ?_
      refine wl_s (pc' := 160) ji_222_159 rfl rfl rfl ?_
      refine cs_gr (r := 139) (k := 0) C (by decide) sq_138 rfl ji_222_160 jf_222_7 ?_
      refine wl_bp ji_222_163 rfl ?_
      refine cs_l (x := 12) C (by decide) (by decide) sq_139 (by omega) ji_222_165 (fun ld200 ld201 ld202 => ?_)
      have rd21 : s5 139 12 = t 139 12 := by rw [← es5, up_k (by decide)]
      rw [rd21] at ld202 ⊢
      refine wl_sp ji_222_166 rfl ?_
      refine wl_irem (x := t 139 12) (y := 1280) ji_222_169 (by omega) (by omega) ?_
      refine wl_imul (x := 2) (y := (t 139 12) % 1280) (z := 2 * ((t 139 12) % 1280)) ji_222_170 (by omega) ?_
      refine wl_iadd (x := 3484) (y := 2 * ((t 139 12) % 1280)) (z := kk) ji_222_171 (by omega) ?_
      refine wl_s (pc' := 173) ji_222_172 rfl rfl rfl ?_
      refine cs_gr (r := 139) (k := 0) C (by decide) sq_138 rfl ji_222_173 jf_222_7 ?_
      refine wl_bp ji_222_176 rfl ?_
      refine cs_l (x := 8) C (by decide) (by decide) sq_139 (by omega) ji_222_178 (fun ld220 ld221 ld222 => ?_)
      have rd23 : s5 139 8 = t 139 8 := by rw [← es5, up_k (by decide)]
      rw [rd23] at ld222 ⊢
      refine cs_s (x := kk) (y := t 139 8) C (by decide) sq_139 (by omega) (by omega) ji_222_179 (fun h st240 st241 C => ?_)
      obtain ⟨s25, es25⟩ : ∃ z9_, up s5 139 kk (t 139 8) = z9_ := ⟨_, rfl⟩
      rw [es25] at C
      refine wl_s (pc' := 181) ji_222_180 rfl rfl rfl ?_
      refine cs_gr (r := 139) (k := 0) C (by decide) sq_138 rfl ji_222_181 jf_222_7 ?_
      refine wl_sp ji_222_184 rfl ?_
      refine wl_s (pc' := 188) ji_222_187 rfl rfl rfl ?_
      refine wl_s (pc' := 189) ji_222_188 rfl rfl rfl ?_
      refine cs_gr (r := 139) (k := 0) C (by decide) sq_138 rfl ji_222_189 jf_222_7 ?_
      refine wl_bp ji_222_192 rfl ?_
      refine cs_l (x := 12) C (by decide) (by decide) sq_139 (by omega) ji_222_194 (fun ld260 ld261 ld262 => ?_)
      have rd27 : s25 139 12 = t 139 12 := by rw [← es25, up_k (by omega)]; rw [← es5, up_k (by decide)]
      rw [rd27] at ld262 ⊢
      refine wl_sp ji_222_195 rfl ?_
      refine wl_irem (x := t 139 12) (y := 1280) ji_222_198 (by omega) (by omega) ?_
      refine wl_imul (x := 2) (y := (t 139 12) % 1280) (z := 2 * ((t 139 12) % 1280)) ji_222_199 (by omega) ?_
      refine wl_iadd (x := 3484) (y := 2 * ((t 139 12) % 1280)) (z := kk) ji_222_200 (by omega) ?_
      refine wl_s (pc' := 202) ji_222_201 rfl rfl rfl ?_
      refine wl_iadd (x := kk) (y := 1) (z := kk + 1) ji_222_202 (by omega) ?_
      refine wl_s (pc' := 204) ji_222_203 rfl rfl rfl ?_
      refine cs_gr (r := 139) (k := 0) C (by decide) sq_138 rfl ji_222_204 jf_222_7 ?_
      refine wl_bp ji_222_207 rfl ?_
      refine cs_l (x := 10) C (by decide) (by decide) sq_139 (by omega) ji_222_209 (fun ld280 ld281 ld282 => ?_)
      have rd29 : s25 139 10 = O := by rw [← es25, up_k (by omega)]; rw [← es5, up_e]
      rw [rd29] at ld282 ⊢
      refine cs_s (x := kk + 1) (y := O) C (by decide) sq_139 (by omega) (by omega) ji_222_210 (fun h st300 st301 C => ?_)
      obtain ⟨s31, es31⟩ : ∃ z9_, up s25 139 (kk + 1) O = z9_ := ⟨_, rfl⟩
      rw [es31] at C
      refine wl_s (pc' := 212) ji_222_211 rfl rfl rfl ?_
      refine cs_gr (r := 139) (k := 0) C (by decide) sq_138 rfl ji_222_212 jf_222_7 ?_
      refine wl_bp ji_222_215 rfl ?_
      refine wl_s (pc' := 218) ji_222_217 rfl rfl rfl ?_
      refine cs_l (x := 12) C (by decide) (by decide) sq_139 (by omega) ji_222_218 (fun ld320 ld321 ld322 => ?_)
      have rd33 : s31 139 12 = t 139 12 := by rw [← es31, up_k (by omega)]; rw [← es25, up_k (by omega)]; rw [← es5, up_k (by decide)]
      rw [rd33] at ld322 ⊢
      refine wl_s (pc' := 220) ji_222_219 rfl rfl rfl ?_
      refine wl_iadd (x := t 139 12) (y := 1) (z := t 139 12 + 1) ji_222_220 (by omega) ?_
      refine cs_s (x := 12) (y := t 139 12 + 1) C (by decide) sq_139 (by omega) (by omega) ji_222_221 (fun h st340 st341 C => ?_)
      obtain ⟨s35, es35⟩ : ∃ z9_, up s31 139 12 (t 139 12 + 1) = z9_ := ⟨_, rfl⟩
      rw [es35] at C
      refine wl_s (pc' := 223) ji_222_222 rfl rfl rfl ?_
      refine cs_gr (r := 139) (k := 0) C (by decide) sq_138 rfl ji_222_223 jf_222_7 ?_
      refine wl_bp ji_222_226 rfl ?_
      refine wl_s (pc' := 229) ji_222_228 rfl rfl rfl ?_
      refine cs_l (x := 8) C (by decide) (by decide) sq_139 (by omega) ji_222_229 (fun ld360 ld361 ld362 => ?_)
      have rd37 : s35 139 8 = t 139 8 := by rw [← es35, up_k (by decide)]; rw [← es31, up_k (by omega)]; rw [← es25, up_k (by omega)]; rw [← es5, up_k (by decide)]
      rw [rd37] at ld362 ⊢
      refine wl_s (pc' := 231) ji_222_230 rfl rfl rfl ?_
      refine wl_iadd (x := t 139 8) (y := 1) (z := t 139 8 + 1) ji_222_231 (by omega) ?_
      refine cs_s (x := 8) (y := t 139 8 + 1) C (by decide) sq_139 (by omega) (by omega) ji_222_232 (fun h st380 st381 C => ?_)
      obtain ⟨s39, es39⟩ : ∃ z9_, up s35 139 8 (t 139 8 + 1) = z9_ := ⟨_, rfl⟩
      rw [es39] at C
      exact wl_rv ji_222_233 jr_222 (⟨rfl, cs_mono C (by unfold endR; rw [eO, if_neg (by omega), ← hkk, es5, es25, es31, es35, es39])⟩)
