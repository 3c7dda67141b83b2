/-! -/
set_option maxRecDepth 100000 in
theorem jn_104 : mj_nl 104 = 2 := by decide +kernel
set_option maxRecDepth 100000 in
theorem jn_109 : mj_nl 109 = 2 := by decide +kernel
set_option maxRecDepth 100000 in
theorem jn_108 : mj_nl 108 = 4 := by decide +kernel
set_option maxRecDepth 100000 in
theorem jn_114 : mj_nl 114 = 6 := by decide +kernel
set_option maxRecDepth 100000 in
theorem jn_118 : mj_nl 118 = 5 := by decide +kernel
set_option maxRecDepth 100000 in
theorem jn_124 : mj_nl 124 = 2 := by decide +kernel
set_option maxRecDepth 100000 in
theorem jn_271 : mj_nl 271 = 2 := by decide +kernel
set_option maxRecDepth 100000 in
theorem jn_276 : mj_nl 276 = 2 := by decide +kernel
set_option maxRecDepth 100000 in
theorem jn_275 : mj_nl 275 = 4 := by decide +kernel
set_option maxRecDepth 100000 in
theorem jn_277 : mj_nl 277 = 7 := by decide +kernel
set_option maxRecDepth 100000 in
theorem jn_281 : mj_nl 281 = 8 := by decide +kernel
set_option maxRecDepth 100000 in
theorem jn_287 : mj_nl 287 = 4 := by decide +kernel
/-! the other questions at the law; laid by program (wp_v10.py) -/
theorem LAWS_l {tc : tcs} {tr : Int → crs} {s t : sg_} {M : Int} (L : LAWS tc tr s M) (e : ∀ (b : Nat) (j : Int), ¬ (95 ≤ b ∧ b ≤ 137) → t b j = s b j) : LAWS tc tr t M := LAWS_x L (INV_q L.1 (fun b j h1 h2 => e b j (by omega))) (fun b j h => e b j (by omega))
theorem LAWS_b {tc : tcs} {tr : Int → crs} {s t : sg_} {M : Int} (L : LAWS tc tr s M) (e : ∀ (b : Nat) (j : Int), ¬ (b = 147 ∧ 8 ≤ j ∧ j < 148) → ¬ (b = 138 ∧ j = 25) → t b j = s b j) : LAWS tc tr t M := by
  refine ⟨INV_q L.1 (fun b j h1 h2 => e b j (by omega) (by omega)), ?_, ?_⟩
  · obtain ⟨b, q, f⟩ := L.2.1
    refine ⟨by rw [e _ _ (by omega) (by omega)]; exact b, by rw [e _ _ (by omega) (by omega), e _ _ (by omega) (by omega)]; exact q, fun j a d => ?_⟩
    rw [e 92 j (by omega) (by omega), e 142 j (by omega) (by omega)]
    exact f j a d
  · unfold FLT
    rw [e 93 2 (by omega) (by omega), e 93 3 (by omega) (by omega), e 93 4 (by omega) (by omega), e 138 5 (by omega) (by omega), e 138 6 (by omega) (by omega), e 138 11 (by omega) (by omega)]
    exact L.2.2
theorem an_l {lo hi : Int} {v : Option Value} (h : sx_an sx_tau (some (1, lo, hi)) v) : ∃ y : Int, v = some (wl_L y) := by
  obtain ⟨w, rfl, z, rfl, -, -⟩ := h
  exact ⟨z.toInt, congrArg (fun z => some (Value.long z)) (Int64.ofInt_toInt z).symm⟩
/-- a question that is walked -/
theorem ws_g {sl : List Value} {h : mj_H} {B : Int} {s : sg_} (W : WS sl h B s) {d c n : Nat} {K : sx_K} (hM : sx_M sx_PP d c K) {vs : List Value} {lv0 : mj_L} (ha : sx_ag sx_tau K.1 vs) (hd : sx_lev K vs ≤ d) (hc : sx_cost K.2.2.2 = n) (hB : B + n ≤ 2147483647) (hn : mj_ent (mj_nl c) vs = some lv0) (hm : mo_ok K.2.2.2 = true) {P : Option Value → sg_ → Prop} (hq : ∀ nn, wl_R nn d c 0 lv0 [] h (fun v h1 => ∃ t, CS h1 t ∧ P v t)) : wp_R d c 0 lv0 [] h (fun v h1 => sx_an sx_tau K.2.1 v ∧ ∃ s1, WS sl h1 (B + n) s1 ∧ P v s1) := by
  refine wp_mono (wl_wp (lw_K0 W.1 W.2.1 W.2.2.1 hM ha hd hc hB hn hm) hq) ?_
  rintro v h1 ⟨⟨k1, k2, k3, k4, -⟩, t, C, p⟩
  exact ⟨k1, t, ⟨k2, k3, k4, C⟩, p⟩
theorem tf_104 (AM : lw_AM) {sl : List Value} {h : mj_H} {B : Int} {s : sg_} {tc : tcs} {tr : Int → crs} {M : Int} (L : LAWS tc tr s M) {a : Int} (ra : wp_r a) (hMM : M ≤ 900000000) (W : WS sl h B s) (hB : 0 ≤ B ∧ B ≤ 130000000) : wp_R 1199 104 0 [some (.ref 9), some (wp_i a)] [] h (fun v h1 => ∃ y : Int, v = some (wp_i y) ∧ wp_r y ∧ ∃ s1, WS sl h1 (B + (0 : Nat)) s1 ∧ LAWS tc tr s1 M) := by
  have N := INV_NV L.1
  have T := INV_RT L.1
  have C := W.2.2.2
  refine wp_mono (ws_g (n := 0) (P := fun _ t => LAWS tc tr t M) W (AM 1199 104 sx_K104 rfl) (vs := [.ref 9, wp_i a]) ⟨⟨9, rfl, rfl⟩, ⟨_, rfl, (sx_r32 _).1, (sx_r32 _).2⟩, trivial⟩ (show (6 : Int) + 0 ≤ ((1199 : Nat) : Int) by decide) (by decide) (by omega) (by rw [jn_104]; rfl) (by decide +kernel) (fun nn => wl_mono (uc_104 (d := 1193) C N ra) (fun v h1 R => ?_))) ?_
  · rcases R with ⟨-, -, C⟩ | ⟨-, t, -, fr, -, C⟩
    · exact ⟨s, C, L⟩
    · exact ⟨_, C, LAWS_l L (fun b j hb => (lkC_fr (by omega) (by omega) (by omega) _).trans (fr b j (by omega)))⟩
  · rintro v h1 ⟨k, s1, W1, L1⟩
    obtain ⟨y, e, r⟩ := an_i k
    exact ⟨y, e, r, s1, W1, L1⟩
theorem tf_109 (AM : lw_AM) {sl : List Value} {h : mj_H} {B : Int} {s : sg_} {tc : tcs} {tr : Int → crs} {M : Int} (L : LAWS tc tr s M) {a : Int} (ra : wp_r a) (hMM : M ≤ 900000000) (W : WS sl h B s) (hB : 0 ≤ B ∧ B ≤ 130000000) : wp_R 1199 109 0 [some (.ref 9), some (wp_i a)] [] h (fun v h1 => ∃ y : Int, v = some (wp_i y) ∧ wp_r y ∧ ∃ s1, WS sl h1 (B + (0 : Nat)) s1 ∧ LAWS tc tr s1 M) := by
  have N := INV_NV L.1
  have T := INV_RT L.1
  have C := W.2.2.2
  refine wp_mono (ws_g (n := 0) (P := fun _ t => LAWS tc tr t M) W (AM 1199 109 sx_K109 rfl) (vs := [.ref 9, wp_i a]) ⟨⟨9, rfl, rfl⟩, ⟨_, rfl, (sx_r32 _).1, (sx_r32 _).2⟩, trivial⟩ (show (6 : Int) + 0 ≤ ((1199 : Nat) : Int) by decide) (by decide) (by omega) (by rw [jn_109]; rfl) (by decide +kernel) (fun nn => wl_mono (uc_109 (d := 1193) C N ra) (fun v h1 R => ?_))) ?_
  · rcases R with ⟨-, -, C⟩ | ⟨-, t, -, fr, -, C⟩
    · exact ⟨s, C, L⟩
    · exact ⟨_, C, LAWS_l L (fun b j hb => (lkC_fr (by omega) (by omega) (by omega) _).trans (fr b j (by omega)))⟩
  · rintro v h1 ⟨k, s1, W1, L1⟩
    obtain ⟨y, e, r⟩ := an_i k
    exact ⟨y, e, r, s1, W1, L1⟩
theorem tf_108 (AM : lw_AM) {sl : List Value} {h : mj_H} {B : Int} {s : sg_} {tc : tcs} {tr : Int → crs} {M : Int} (L : LAWS tc tr s M) {a b c : Int} (ra : wp_r a) (rb : wp_r b) (rc : wp_r c) (hMM : M ≤ 900000000) (W : WS sl h B s) (hB : 0 ≤ B ∧ B ≤ 130000000) : wp_R 1199 108 0 [some (.ref 9), some (wp_i a), some (wp_i b), some (wp_i c)] [] h (fun v h1 => ∃ y : Int, v = some (wp_i y) ∧ wp_r y ∧ ∃ s1, WS sl h1 (B + (0 : Nat)) s1 ∧ LAWS tc tr s1 M) := by
  have N := INV_NV L.1
  have T := INV_RT L.1
  have C := W.2.2.2
  refine wp_mono (ws_g (n := 0) (P := fun _ t => LAWS tc tr t M) W (AM 1199 108 sx_K108 rfl) (vs := [.ref 9, wp_i a, wp_i b, wp_i c]) ⟨⟨9, rfl, rfl⟩, ⟨_, rfl, (sx_r32 _).1, (sx_r32 _).2⟩, ⟨_, rfl, (sx_r32 _).1, (sx_r32 _).2⟩, ⟨_, rfl, (sx_r32 _).1, (sx_r32 _).2⟩, trivial⟩ (show (6 : Int) + 0 ≤ ((1199 : Nat) : Int) by decide) (by decide) (by omega) (by rw [jn_108]; rfl) (by decide +kernel) (fun nn => wl_mono (uc_108 (d := 1193) C N ra rb rc) (fun v h1 R => ?_))) ?_
  · rcases R with ⟨-, -, C⟩ | ⟨-, t, -, fr, -, C⟩
    · exact ⟨s, C, L⟩
    · exact ⟨_, C, LAWS_l L (fun b j hb => (lkC_fr (by omega) (by omega) (by omega) _).trans (fr b j (by omega)))⟩
  · rintro v h1 ⟨k, s1, W1, L1⟩
    obtain ⟨y, e, r⟩ := an_i k
    exact ⟨y, e, r, s1, W1, L1⟩
theorem tf_114 (AM : lw_AM) {sl : List Value} {h : mj_H} {B : Int} {s : sg_} {tc : tcs} {tr : Int → crs} {M : Int} (L : LAWS tc tr s M) {a b c : Int} (hc : c = 0 ∨ c = 1) (ra : wp_r a) (rb : wp_r b) (hMM : M ≤ 900000000) (W : WS sl h B s) (hB : 0 ≤ B ∧ B ≤ 130000000) : wp_R 1199 114 0 [some (.ref 9), some (wp_i a), some (wp_i b), some (wp_i c), none, none] [] h (fun v h1 => ∃ y : Int, v = some (wl_L y) ∧ ∃ s1, WS sl h1 (B + (0 : Nat)) s1 ∧ LAWS tc tr s1 M) := by
  have N := INV_NV L.1
  have T := INV_RT L.1
  have C := W.2.2.2
  refine wp_mono (ws_g (n := 0) (P := fun _ t => LAWS tc tr t M) W (AM 1199 114 sx_K114 rfl) (vs := [.ref 9, wp_i a, wp_i b, wp_i c]) ⟨⟨9, rfl, rfl⟩, ⟨_, rfl, (sx_r32 _).1, (sx_r32 _).2⟩, ⟨_, rfl, (sx_r32 _).1, (sx_r32 _).2⟩, ⟨_, rfl, (by rcases hc with rfl | rfl <;> decide), (by rcases hc with rfl | rfl <;> decide)⟩, trivial⟩ (show (9 : Int) + 0 ≤ ((1199 : Nat) : Int) by decide) (by decide) (by omega) (by rw [jn_114]; rfl) (by decide +kernel) (fun nn => wl_mono (uc_114 (d := 1190) (r := s) C N T.2 T.1.rs.2.2.2.2.2.2 ra rb hc L.1.1.2.1 T.1.rs.g T.1.b.1) (fun v h1 R => ?_))) ?_
  · rcases R with ⟨-, -, C⟩ | ⟨-, -, t, fr, C⟩
    · exact ⟨s, C, L⟩
    · exact ⟨t, C, LAWS_l L (fun b j hb => fr b j (by omega) (by omega))⟩
  · rintro v h1 ⟨k, s1, W1, L1⟩
    obtain ⟨y, e⟩ := an_l k
    exact ⟨y, e, s1, W1, L1⟩
theorem tf_118 (AM : lw_AM) {sl : List Value} {h : mj_H} {B : Int} {s : sg_} {tc : tcs} {tr : Int → crs} {M : Int} (L : LAWS tc tr s M) {a b c : Int} (ra : wp_r a) (rb : wp_r b) (rc : wp_r c) (hMM : M ≤ 900000000) (W : WS sl h B s) (hB : 0 ≤ B ∧ B ≤ 130000000) : wp_R 1199 118 0 [some (.ref 9), some (wp_i a), some (wp_i b), some (wp_i c), none] [] h (fun v h1 => ∃ y : Int, v = some (wp_i y) ∧ wp_r y ∧ ∃ s1, WS sl h1 (B + (0 : Nat)) s1 ∧ LAWS tc tr s1 M) := by
  have N := INV_NV L.1
  have T := INV_RT L.1
  have C := W.2.2.2
  refine wp_mono (ws_g (n := 0) (P := fun _ t => LAWS tc tr t M) W (AM 1199 118 sx_K118 rfl) (vs := [.ref 9, wp_i a, wp_i b, wp_i c]) ⟨⟨9, rfl, rfl⟩, ⟨_, rfl, (sx_r32 _).1, (sx_r32 _).2⟩, ⟨_, rfl, (sx_r32 _).1, (sx_r32 _).2⟩, ⟨_, rfl, (sx_r32 _).1, (sx_r32 _).2⟩, trivial⟩ (show (11 : Int) + 0 ≤ ((1199 : Nat) : Int) by decide) (by decide) (by omega) (by rw [jn_118]; rfl) (by decide +kernel) (fun nn => wl_mono (uc_118 (d := 1189) C N ra rb rc) (fun v h1 R => ?_))) ?_
  · obtain ⟨yy, -, t, C, fr⟩ := R
    exact ⟨t, C, LAWS_l L (fun b j hb => fr b j (by omega))⟩
  · rintro v h1 ⟨k, s1, W1, L1⟩
    obtain ⟨y, e, r⟩ := an_i k
    exact ⟨y, e, r, s1, W1, L1⟩
theorem tf_124 (AM : lw_AM) {sl : List Value} {h : mj_H} {B : Int} {s : sg_} {tc : tcs} {tr : Int → crs} {M : Int} (L : LAWS tc tr s M) {a : Int} (ra : wp_r a) (hMM : M ≤ 900000000) (W : WS sl h B s) (hB : 0 ≤ B ∧ B ≤ 130000000) : wp_R 1199 124 0 [some (.ref 9), some (wp_i a)] [] h (fun v h1 => ∃ y : Int, v = some (wp_i y) ∧ wp_r y ∧ ∃ s1, WS sl h1 (B + (0 : Nat)) s1 ∧ LAWS tc tr s1 M) := by
  have N := INV_NV L.1
  have T := INV_RT L.1
  have C := W.2.2.2
  refine wp_mono (ws_g (n := 0) (P := fun _ t => LAWS tc tr t M) W (AM 1199 124 sx_K124 rfl) (vs := [.ref 9, wp_i a]) ⟨⟨9, rfl, rfl⟩, ⟨_, rfl, (sx_r32 _).1, (sx_r32 _).2⟩, trivial⟩ (show (5 : Int) + 0 ≤ ((1199 : Nat) : Int) by decide) (by decide) (by omega) (by rw [jn_124]; rfl) (by decide +kernel) (fun nn => wl_mono (uc_124 (d := 1194) C N ra) (fun v h1 R => ?_))) ?_
  · rcases R with ⟨-, -, C⟩ | ⟨-, t, -, fr, -, k, C⟩
    · exact ⟨s, C, L⟩
    · exact ⟨_, C, LAWS_l L (fun b j hb => (pulN_fr (by omega) (by omega) k).trans (fr b j (by omega)))⟩
  · rintro v h1 ⟨k, s1, W1, L1⟩
    obtain ⟨y, e, r⟩ := an_i k
    exact ⟨y, e, r, s1, W1, L1⟩
theorem tf_271 (AM : lw_AM) {sl : List Value} {h : mj_H} {B : Int} {s : sg_} {tc : tcs} {tr : Int → crs} {M : Int} (L : LAWS tc tr s M) {a : Int} (ra : wp_r a) (hMM : M ≤ 900000000) (W : WS sl h B s) (hB : 0 ≤ B ∧ B ≤ 130000000) : wp_R 1199 271 0 [some (.ref 138), some (wp_i a)] [] h (fun v h1 => ∃ y : Int, v = some (wp_i y) ∧ wp_r y ∧ ∃ s1, WS sl h1 (B + (60 : Nat)) s1 ∧ LAWS tc tr s1 M) := by
  have N := INV_NV L.1
  have T := INV_RT L.1
  have C := W.2.2.2
  refine wp_mono (ws_g (n := 60) (P := fun _ t => LAWS tc tr t M) W (AM 1199 271 sx_K271 rfl) (vs := [.ref 138, wp_i a]) ⟨⟨138, rfl, rfl⟩, ⟨_, rfl, (sx_r32 _).1, (sx_r32 _).2⟩, trivial⟩ (show (15 : Int) + 0 ≤ ((1199 : Nat) : Int) by decide) (by decide) (by omega) (by rw [jn_271]; rfl) (by decide +kernel) (fun nn => wl_mono (uc_271 (d := 1189) C (by omega) T.1 ra) (fun v h1 R => ?_))) ?_
  · rcases R with ⟨-, -, C⟩ | ⟨-, -, t, C, fr⟩
    · exact ⟨s, C, L⟩
    · exact ⟨t, C, LAWS_b L fr⟩
  · rintro v h1 ⟨k, s1, W1, L1⟩
    obtain ⟨y, e, r⟩ := an_i k
    exact ⟨y, e, r, s1, W1, L1⟩
theorem tf_276 (AM : lw_AM) {sl : List Value} {h : mj_H} {B : Int} {s : sg_} {tc : tcs} {tr : Int → crs} {M : Int} (L : LAWS tc tr s M) {a : Int} (ra : wp_r a) (hMM : M ≤ 900000000) (W : WS sl h B s) (hB : 0 ≤ B ∧ B ≤ 130000000) : wp_R 1199 276 0 [some (.ref 138), some (wp_i a)] [] h (fun v h1 => ∃ y : Int, v = some (wp_i y) ∧ wp_r y ∧ ∃ s1, WS sl h1 (B + (60 : Nat)) s1 ∧ LAWS tc tr s1 M) := by
  have N := INV_NV L.1
  have T := INV_RT L.1
  have C := W.2.2.2
  refine wp_mono (ws_g (n := 60) (P := fun _ t => LAWS tc tr t M) W (AM 1199 276 sx_K276 rfl) (vs := [.ref 138, wp_i a]) ⟨⟨138, rfl, rfl⟩, ⟨_, rfl, (sx_r32 _).1, (sx_r32 _).2⟩, trivial⟩ (show (15 : Int) + 0 ≤ ((1199 : Nat) : Int) by decide) (by decide) (by omega) (by rw [jn_276]; rfl) (by decide +kernel) (fun nn => wl_mono (uc_276 (d := 1189) C (by omega) T.1 ra) (fun v h1 R => ?_))) ?_
  · rcases R with ⟨-, -, C⟩ | ⟨-, -, t, C, fr⟩
    · exact ⟨s, C, L⟩
    · exact ⟨t, C, LAWS_b L fr⟩
  · rintro v h1 ⟨k, s1, W1, L1⟩
    obtain ⟨y, e, r⟩ := an_i k
    exact ⟨y, e, r, s1, W1, L1⟩
theorem tf_275 (AM : lw_AM) {sl : List Value} {h : mj_H} {B : Int} {s : sg_} {tc : tcs} {tr : Int → crs} {M : Int} (L : LAWS tc tr s M) {a b c : Int} (ra : wp_r a) (rb : wp_r b) (rc : wp_r c) (hMM : M ≤ 900000000) (W : WS sl h B s) (hB : 0 ≤ B ∧ B ≤ 130000000) : wp_R 1199 275 0 [some (.ref 138), some (wp_i a), some (wp_i b), some (wp_i c)] [] h (fun v h1 => ∃ y : Int, v = some (wp_i y) ∧ wp_r y ∧ ∃ s1, WS sl h1 (B + (60 : Nat)) s1 ∧ LAWS tc tr s1 M) := by
  have N := INV_NV L.1
  have T := INV_RT L.1
  have C := W.2.2.2
  refine wp_mono (ws_g (n := 60) (P := fun _ t => LAWS tc tr t M) W (AM 1199 275 sx_K275 rfl) (vs := [.ref 138, wp_i a, wp_i b, wp_i c]) ⟨⟨138, rfl, rfl⟩, ⟨_, rfl, (sx_r32 _).1, (sx_r32 _).2⟩, ⟨_, rfl, (sx_r32 _).1, (sx_r32 _).2⟩, ⟨_, rfl, (sx_r32 _).1, (sx_r32 _).2⟩, trivial⟩ (show (15 : Int) + 0 ≤ ((1199 : Nat) : Int) by decide) (by decide) (by omega) (by rw [jn_275]; rfl) (by decide +kernel) (fun nn => wl_mono (uc_275 (d := 1189) C (by omega) T.1 ra rb rc) (fun v h1 R => ?_))) ?_
  · rcases R with ⟨-, -, C⟩ | ⟨-, -, t, C, fr⟩
    · exact ⟨s, C, L⟩
    · exact ⟨t, C, LAWS_b L fr⟩
  · rintro v h1 ⟨k, s1, W1, L1⟩
    obtain ⟨y, e, r⟩ := an_i k
    exact ⟨y, e, r, s1, W1, L1⟩
theorem tf_277 (AM : lw_AM) {sl : List Value} {h : mj_H} {B : Int} {s : sg_} {tc : tcs} {tr : Int → crs} {M : Int} (L : LAWS tc tr s M) {a b c : Int} (hc : c = 0 ∨ c = 1) (ra : wp_r a) (rb : wp_r b) (hMM : M ≤ 900000000) (W : WS sl h B s) (hB : 0 ≤ B ∧ B ≤ 130000000) : wp_R 1199 277 0 [some (.ref 138), some (wp_i a), some (wp_i b), some (wp_i c), none, none, none] [] h (fun v h1 => ∃ y : Int, v = some (wl_L y) ∧ ∃ s1, WS sl h1 (B + (3000 : Nat)) s1 ∧ LAWS tc tr s1 M) := by
  have N := INV_NV L.1
  have T := INV_RT L.1
  have C := W.2.2.2
  refine wp_mono (ws_g (n := 3000) (P := fun _ t => LAWS tc tr t M) W (AM 1199 277 sx_K277 rfl) (vs := [.ref 138, wp_i a, wp_i b, wp_i c]) ⟨⟨138, rfl, rfl⟩, ⟨_, rfl, (sx_r32 _).1, (sx_r32 _).2⟩, ⟨_, rfl, (sx_r32 _).1, (sx_r32 _).2⟩, ⟨_, rfl, (by rcases hc with rfl | rfl <;> decide), (by rcases hc with rfl | rfl <;> decide)⟩, trivial⟩ (show (14 : Int) + 0 ≤ ((1199 : Nat) : Int) by decide) (by decide) (by omega) (by rw [jn_277]; rfl) (by decide +kernel) (fun nn => wl_mono (uc_277 (d := 1190) C (by omega) T.1 ra rb hc) (fun v h1 R => ?_))) ?_
  · rcases R with ⟨-, -, C⟩ | ⟨-, -, t, C, fr⟩
    · exact ⟨s, C, L⟩
    · exact ⟨t, C, LAWS_b L fr⟩
  · rintro v h1 ⟨k, s1, W1, L1⟩
    obtain ⟨y, e⟩ := an_l k
    exact ⟨y, e, s1, W1, L1⟩
theorem tf_281 (AM : lw_AM) {sl : List Value} {h : mj_H} {B : Int} {s : sg_} {tc : tcs} {tr : Int → crs} {M : Int} (L : LAWS tc tr s M) {a b c : Int} (ra : wp_r a) (rb : wp_r b) (rc : wp_r c) (hMM : M ≤ 900000000) (W : WS sl h B s) (hB : 0 ≤ B ∧ B ≤ 130000000) : wp_R 1199 281 0 [some (.ref 138), some (wp_i a), some (wp_i b), some (wp_i c), none, none, none, none] [] h (fun v h1 => ∃ y : Int, v = some (wp_i y) ∧ wp_r y ∧ ∃ s1, WS sl h1 (B + (26244 : Nat)) s1 ∧ LAWS tc tr s1 M) := by
  have N := INV_NV L.1
  have T := INV_RT L.1
  have C := W.2.2.2
  refine wp_mono (ws_g (n := 26244) (P := fun _ t => LAWS tc tr t M) W (AM 1199 281 sx_K281 rfl) (vs := [.ref 138, wp_i a, wp_i b, wp_i c]) ⟨⟨138, rfl, rfl⟩, ⟨_, rfl, (sx_r32 _).1, (sx_r32 _).2⟩, ⟨_, rfl, (sx_r32 _).1, (sx_r32 _).2⟩, ⟨_, rfl, (sx_r32 _).1, (sx_r32 _).2⟩, trivial⟩ (show (15 : Int) + 0 ≤ ((1199 : Nat) : Int) by decide) (by decide) (by omega) (by rw [jn_281]; rfl) (by decide +kernel) (fun nn => wl_mono (uc_281 (d := 1189) C (by omega) T.1 ra rb rc) (fun v h1 R => ?_))) ?_
  · rcases R with ⟨-, -, C⟩ | ⟨-, -, t, C, fr⟩
    · exact ⟨s, C, L⟩
    · exact ⟨t, C, LAWS_b L fr⟩
  · rintro v h1 ⟨k, s1, W1, L1⟩
    obtain ⟨y, e, r⟩ := an_i k
    exact ⟨y, e, r, s1, W1, L1⟩
theorem tf_287 (AM : lw_AM) {sl : List Value} {h : mj_H} {B : Int} {s : sg_} {tc : tcs} {tr : Int → crs} {M : Int} (L : LAWS tc tr s M) {a : Int} (ra : wp_r a) (hMM : M ≤ 900000000) (W : WS sl h B s) (hB : 0 ≤ B ∧ B ≤ 130000000) : wp_R 1199 287 0 [some (.ref 138), some (wp_i a), none, none] [] h (fun v h1 => ∃ y : Int, v = some (wp_i y) ∧ wp_r y ∧ ∃ s1, WS sl h1 (B + (0 : Nat)) s1 ∧ LAWS tc tr s1 M) := by
  have N := INV_NV L.1
  have T := INV_RT L.1
  have C := W.2.2.2
  refine wp_mono (ws_g (n := 0) (P := fun _ t => LAWS tc tr t M) W (AM 1199 287 sx_K287 rfl) (vs := [.ref 138, wp_i a]) ⟨⟨138, rfl, rfl⟩, ⟨_, rfl, (sx_r32 _).1, (sx_r32 _).2⟩, trivial⟩ (show (12 : Int) + 0 ≤ ((1199 : Nat) : Int) by decide) (by decide) (by omega) (by rw [jn_287]; rfl) (by decide +kernel) (fun nn => wl_mono (uc_287 (d := 1192) C T.1 ra) (fun v h1 R => ?_))) ?_
  · rcases R with ⟨-, -, C⟩ | ⟨-, -, t, C, fr⟩
    · exact ⟨s, C, L⟩
    · exact ⟨t, C, LAWS_b L fr⟩
  · rintro v h1 ⟨k, s1, W1, L1⟩
    obtain ⟨y, e, r⟩ := an_i k
    exact ⟨y, e, r, s1, W1, L1⟩
