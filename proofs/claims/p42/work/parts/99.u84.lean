/-! -/
set_option maxRecDepth 100000 in
theorem jn_12 : mj_nl 12 = 3 := by decide +kernel
set_option maxRecDepth 100000 in
theorem jn_14 : mj_nl 14 = 3 := by decide +kernel
set_option maxRecDepth 100000 in
theorem jn_77 : mj_nl 77 = 3 := by decide +kernel
set_option maxRecDepth 100000 in
theorem jn_83 : mj_nl 83 = 3 := by decide +kernel
set_option maxRecDepth 100000 in
theorem jn_86 : mj_nl 86 = 3 := by decide +kernel
set_option maxRecDepth 100000 in
theorem jn_90 : mj_nl 90 = 2 := by decide +kernel
set_option maxRecDepth 100000 in
theorem jn_57 : mj_nl 57 = 2 := by decide +kernel
set_option maxRecDepth 100000 in
theorem jn_217 : mj_nl 217 = 2 := by decide +kernel
set_option maxRecDepth 100000 in
theorem jn_93 : mj_nl 93 = 5 := by decide +kernel
set_option maxRecDepth 100000 in
theorem jn_257 : mj_nl 257 = 5 := by decide +kernel
set_option maxRecDepth 100000 in
theorem jn_143 : mj_nl 143 = 3 := by decide +kernel
set_option maxRecDepth 100000 in
theorem jn_300 : mj_nl 300 = 3 := by decide +kernel
set_option maxRecDepth 100000 in
theorem jn_151 : mj_nl 151 = 3 := by decide +kernel
set_option maxRecDepth 100000 in
theorem jn_306 : mj_nl 306 = 3 := by decide +kernel
set_option maxRecDepth 100000 in
theorem jn_95 : mj_nl 95 = 1 := by decide +kernel
set_option maxRecDepth 100000 in
theorem jn_216 : mj_nl 216 = 3 := by decide +kernel
set_option maxRecDepth 100000 in
theorem jn_92 : mj_nl 92 = 7 := by decide +kernel
set_option maxRecDepth 100000 in
theorem jn_255 : mj_nl 255 = 3 := by decide +kernel
set_option maxRecDepth 100000 in
theorem jn_160 : mj_nl 160 = 1 := by decide +kernel
set_option maxRecDepth 100000 in
theorem jn_312 : mj_nl 312 = 1 := by decide +kernel
set_option maxRecDepth 100000 in
theorem jn_166 : mj_nl 166 = 1 := by decide +kernel
set_option maxRecDepth 100000 in
theorem jn_313 : mj_nl 313 = 1 := by decide +kernel
/-! every call that writes, at the law; laid by program (wp_u84.py) -/
theorem cf_q {s : sg_} {tc : tcs} {tr : Int → crs} {M : Int} (L : LAWS tc tr s M) {a b c e f : Int} : 0 ≤ (cFeed s a b c e f).2 138 4 ∧ (cFeed s a b c e f).2 138 4 ≤ 300 := by
  have q := L.2.1.1
  have q4 := L.2.1.2.1
  unfold cFeed
  by_cases c0 : s 91 1 + 20 ≤ 300
  · rw [if_pos c0]
    show 0 ≤ fvC s a b c e f 138 4 ∧ fvC s a b c e f 138 4 ≤ 300
    rw [fvC_o _ _ (by decide) (by decide), q4]
    exact q
  · rw [if_neg c0]
    show 0 ≤ s 138 4 ∧ s 138 4 ≤ 300
    rw [q4]
    exact q
theorem ce_q {s : sg_} {tc : tcs} {tr : Int → crs} {M : Int} (L : LAWS tc tr s M) {x : Int} : 0 ≤ (cEnd s x).2 138 4 ∧ (cEnd s x).2 138 4 ≤ 300 := by
  have q := L.2.1.1
  have q4 := L.2.1.2.1
  unfold cEnd
  by_cases c0 : 0 ≤ x ∧ x ≤ s 91 1
  · rw [if_pos c0]
    show 0 ≤ up s 91 1 x 138 4 ∧ up s 91 1 x 138 4 ≤ 300
    rw [up_a (by decide), q4]
    exact q
  · rw [if_neg c0]
    show 0 ≤ s 138 4 ∧ s 138 4 ≤ 300
    rw [q4]
    exact q
theorem tc_Pole (AM : lw_AM) {sl : List Value} {h : mj_H} {B : Int} {s : sg_} {tc : tcs} {tr : Int → crs} {M : Int} (L : LAWS tc tr s M) {x z : Int} (hx : wp_r x) (hz : wp_r z) (W : WS sl h B s) (hB : 0 ≤ B ∧ B ≤ 130000000) : wp_R 1199 12 0 [some (.ref 9), some (wp_i x), some (wp_i z)] [] h (fun v h1 => v = some (wp_i (cPole s x z).1) ∧ WS sl h1 (B + (0 : Nat)) (cPole s x z).2) := by
  have C := W.2.2.2
  exact ws_c (n := 0) W (AM 1199 12 sx_K12 rfl) (vs := [.ref 9, wp_i x, wp_i z]) ⟨⟨9, rfl, rfl⟩, ⟨_, rfl, (sx_r32 _).1, (sx_r32 _).2⟩, ⟨_, rfl, (sx_r32 _).1, (sx_r32 _).2⟩, trivial⟩ (show (1 : Int) + 0 ≤ ((1199 : Nat) : Int) by decide) (by decide) (by omega) (by rw [jn_12]; rfl) (by decide +kernel) (fun nn => dc_Pole (d := 1198) L.1 C hx hz)
theorem tr_Pole (AM : lw_AM) {sl : List Value} {h : mj_H} {B : Int} {s : sg_} {tc : tcs} {tr : Int → crs} {M : Int} (L : LAWS tc tr s M) {x z : Int} (hx : wp_r x) (hz : wp_r z) (hM : M ≤ 900000000) (W : WS sl h B (cPole s x z).2) (hB : 0 ≤ B ∧ B ≤ 130000000) : wp_R 1199 170 0 [some (.ref 138), some (wp_i x), some (wp_i z), none] [] h (fun v h1 => v = some (wp_i (rPole (cPole s x z).2 x z).1) ∧ WS sl h1 (B + (0 : Nat)) (rPole (cPole s x z).2 x z).2) := by
  have C := W.2.2.2
  exact ws_c (n := 0) W (AM 1199 170 sx_K170 rfl) (vs := [.ref 138, wp_i x, wp_i z]) ⟨⟨138, rfl, rfl⟩, ⟨_, rfl, (sx_r32 _).1, (sx_r32 _).2⟩, ⟨_, rfl, (sx_r32 _).1, (sx_r32 _).2⟩, trivial⟩ (show (1 : Int) + 0 ≤ ((1199 : Nat) : Int) by decide) (by decide) (by omega) (by rw [jn_170]; rfl) (by decide +kernel) (fun nn => dr_Pole (d := 1198) L.1 hM C hx hz)
theorem tc_Power (AM : lw_AM) {sl : List Value} {h : mj_H} {B : Int} {s : sg_} {tc : tcs} {tr : Int → crs} {M : Int} (L : LAWS tc tr s M) {x z : Int} (hx : wp_r x) (hz : wp_r z) (W : WS sl h B s) (hB : 0 ≤ B ∧ B ≤ 130000000) : wp_R 1199 14 0 [some (.ref 9), some (wp_i x), some (wp_i z)] [] h (fun v h1 => v = some (wp_i (cPower s x z).1) ∧ WS sl h1 (B + (0 : Nat)) (cPower s x z).2) := by
  have C := W.2.2.2
  exact ws_c (n := 0) W (AM 1199 14 sx_K14 rfl) (vs := [.ref 9, wp_i x, wp_i z]) ⟨⟨9, rfl, rfl⟩, ⟨_, rfl, (sx_r32 _).1, (sx_r32 _).2⟩, ⟨_, rfl, (sx_r32 _).1, (sx_r32 _).2⟩, trivial⟩ (show (1 : Int) + 0 ≤ ((1199 : Nat) : Int) by decide) (by decide) (by omega) (by rw [jn_14]; rfl) (by decide +kernel) (fun nn => dc_Power (d := 1198) L.1 C hx hz)
theorem tr_Power (AM : lw_AM) {sl : List Value} {h : mj_H} {B : Int} {s : sg_} {tc : tcs} {tr : Int → crs} {M : Int} (L : LAWS tc tr s M) {x z : Int} (hx : wp_r x) (hz : wp_r z) (hM : M ≤ 900000000) (W : WS sl h B (cPower s x z).2) (hB : 0 ≤ B ∧ B ≤ 130000000) : wp_R 1199 172 0 [some (.ref 138), some (wp_i x), some (wp_i z)] [] h (fun v h1 => v = some (wp_i (rPower (cPower s x z).2 x z).1) ∧ WS sl h1 (B + (0 : Nat)) (rPower (cPower s x z).2 x z).2) := by
  have C := W.2.2.2
  exact ws_c (n := 0) W (AM 1199 172 sx_K172 rfl) (vs := [.ref 138, wp_i x, wp_i z]) ⟨⟨138, rfl, rfl⟩, ⟨_, rfl, (sx_r32 _).1, (sx_r32 _).2⟩, ⟨_, rfl, (sx_r32 _).1, (sx_r32 _).2⟩, trivial⟩ (show (1 : Int) + 0 ≤ ((1199 : Nat) : Int) by decide) (by decide) (by omega) (by rw [jn_172]; rfl) (by decide +kernel) (fun nn => dr_Power (d := 1198) L.1 hM C hx hz)
theorem tc_Hoist (AM : lw_AM) {sl : List Value} {h : mj_H} {B : Int} {s : sg_} {tc : tcs} {tr : Int → crs} {M : Int} (L : LAWS tc tr s M) {w p : Int} (hw : wp_r w) (hp : wp_r p) (W : WS sl h B s) (hB : 0 ≤ B ∧ B ≤ 130000000) : wp_R 1199 77 0 [some (.ref 9), some (wp_i w), some (wp_i p)] [] h (fun v h1 => v = some (wp_i (cHoist s w p).1) ∧ WS sl h1 (B + (0 : Nat)) (cHoist s w p).2) := by
  have C := W.2.2.2
  exact ws_c (n := 0) W (AM 1199 77 sx_K77 rfl) (vs := [.ref 9, wp_i w, wp_i p]) ⟨⟨9, rfl, rfl⟩, ⟨_, rfl, (sx_r32 _).1, (sx_r32 _).2⟩, ⟨_, rfl, (sx_r32 _).1, (sx_r32 _).2⟩, trivial⟩ (show (3 : Int) + 0 ≤ ((1199 : Nat) : Int) by decide) (by decide) (by omega) (by rw [jn_77]; rfl) (by decide +kernel) (fun nn => dc_Hoist (d := 1196) L.1 C hw hp)
theorem tr_Hoist (AM : lw_AM) {sl : List Value} {h : mj_H} {B : Int} {s : sg_} {tc : tcs} {tr : Int → crs} {M : Int} (L : LAWS tc tr s M) {w p : Int} (hw : wp_r w) (hp : wp_r p) (hM : M ≤ 900000000) (W : WS sl h B (cHoist s w p).2) (hB : 0 ≤ B ∧ B ≤ 130000000) : wp_R 1199 246 0 [some (.ref 138), some (wp_i w), some (wp_i p)] [] h (fun v h1 => v = some (wp_i (rHoist (cHoist s w p).2 w p).1) ∧ WS sl h1 (B + (0 : Nat)) (rHoist (cHoist s w p).2 w p).2) := by
  have C := W.2.2.2
  exact ws_c (n := 0) W (AM 1199 246 sx_K246 rfl) (vs := [.ref 138, wp_i w, wp_i p]) ⟨⟨138, rfl, rfl⟩, ⟨_, rfl, (sx_r32 _).1, (sx_r32 _).2⟩, ⟨_, rfl, (sx_r32 _).1, (sx_r32 _).2⟩, trivial⟩ (show (4 : Int) + 0 ≤ ((1199 : Nat) : Int) by decide) (by decide) (by omega) (by rw [jn_246]; rfl) (by decide +kernel) (fun nn => dr_Hoist (d := 1195) L.1 hM C hw hp)
theorem tc_Lower (AM : lw_AM) {sl : List Value} {h : mj_H} {B : Int} {s : sg_} {tc : tcs} {tr : Int → crs} {M : Int} (L : LAWS tc tr s M) {w p : Int} (hw : wp_r w) (hp : wp_r p) (W : WS sl h B s) (hB : 0 ≤ B ∧ B ≤ 130000000) : wp_R 1199 83 0 [some (.ref 9), some (wp_i w), some (wp_i p)] [] h (fun v h1 => v = some (wp_i (cLower s w p).1) ∧ WS sl h1 (B + (0 : Nat)) (cLower s w p).2) := by
  have C := W.2.2.2
  exact ws_c (n := 0) W (AM 1199 83 sx_K83 rfl) (vs := [.ref 9, wp_i w, wp_i p]) ⟨⟨9, rfl, rfl⟩, ⟨_, rfl, (sx_r32 _).1, (sx_r32 _).2⟩, ⟨_, rfl, (sx_r32 _).1, (sx_r32 _).2⟩, trivial⟩ (show (3 : Int) + 0 ≤ ((1199 : Nat) : Int) by decide) (by decide) (by omega) (by rw [jn_83]; rfl) (by decide +kernel) (fun nn => dc_Lower (d := 1196) L.1 C hw hp)
theorem tr_Lower (AM : lw_AM) {sl : List Value} {h : mj_H} {B : Int} {s : sg_} {tc : tcs} {tr : Int → crs} {M : Int} (L : LAWS tc tr s M) {w p : Int} (hw : wp_r w) (hp : wp_r p) (hM : M ≤ 900000000) (W : WS sl h B (cLower s w p).2) (hB : 0 ≤ B ∧ B ≤ 130000000) : wp_R 1199 251 0 [some (.ref 138), some (wp_i w), some (wp_i p)] [] h (fun v h1 => v = some (wp_i (rLower (cLower s w p).2 w p).1) ∧ WS sl h1 (B + (0 : Nat)) (rLower (cLower s w p).2 w p).2) := by
  have C := W.2.2.2
  exact ws_c (n := 0) W (AM 1199 251 sx_K251 rfl) (vs := [.ref 138, wp_i w, wp_i p]) ⟨⟨138, rfl, rfl⟩, ⟨_, rfl, (sx_r32 _).1, (sx_r32 _).2⟩, ⟨_, rfl, (sx_r32 _).1, (sx_r32 _).2⟩, trivial⟩ (show (2 : Int) + 0 ≤ ((1199 : Nat) : Int) by decide) (by decide) (by omega) (by rw [jn_251]; rfl) (by decide +kernel) (fun nn => dr_Lower (d := 1197) L.1 hM C hw hp)
theorem tc_Prune (AM : lw_AM) {sl : List Value} {h : mj_H} {B : Int} {s : sg_} {tc : tcs} {tr : Int → crs} {M : Int} (L : LAWS tc tr s M) {p n : Int} (hp : wp_r p) (hn : wp_r n) (W : WS sl h B s) (hB : 0 ≤ B ∧ B ≤ 130000000) : wp_R 1199 86 0 [some (.ref 9), some (wp_i p), some (wp_i n)] [] h (fun v h1 => v = some (wp_i (cPrune s p n).1) ∧ WS sl h1 (B + (0 : Nat)) (cPrune s p n).2) := by
  have C := W.2.2.2
  exact ws_c (n := 0) W (AM 1199 86 sx_K86 rfl) (vs := [.ref 9, wp_i p, wp_i n]) ⟨⟨9, rfl, rfl⟩, ⟨_, rfl, (sx_r32 _).1, (sx_r32 _).2⟩, ⟨_, rfl, (sx_r32 _).1, (sx_r32 _).2⟩, trivial⟩ (show (3 : Int) + 0 ≤ ((1199 : Nat) : Int) by decide) (by decide) (by omega) (by rw [jn_86]; rfl) (by decide +kernel) (fun nn => dc_Prune (d := 1196) L.1 C hp hn)
theorem tr_Prune (AM : lw_AM) {sl : List Value} {h : mj_H} {B : Int} {s : sg_} {tc : tcs} {tr : Int → crs} {M : Int} (L : LAWS tc tr s M) {p n : Int} (hp : wp_r p) (hn : wp_r n) (hM : M ≤ 900000000) (W : WS sl h B (cPrune s p n).2) (hB : 0 ≤ B ∧ B ≤ 130000000) : wp_R 1199 252 0 [some (.ref 138), some (wp_i p), some (wp_i n)] [] h (fun v h1 => v = some (wp_i (rPrune (cPrune s p n).2 p n).1) ∧ WS sl h1 (B + (0 : Nat)) (rPrune (cPrune s p n).2 p n).2) := by
  have C := W.2.2.2
  exact ws_c (n := 0) W (AM 1199 252 sx_K252 rfl) (vs := [.ref 138, wp_i p, wp_i n]) ⟨⟨138, rfl, rfl⟩, ⟨_, rfl, (sx_r32 _).1, (sx_r32 _).2⟩, ⟨_, rfl, (sx_r32 _).1, (sx_r32 _).2⟩, trivial⟩ (show (2 : Int) + 0 ≤ ((1199 : Nat) : Int) by decide) (by decide) (by omega) (by rw [jn_252]; rfl) (by decide +kernel) (fun nn => dr_Prune (d := 1197) L.1 hM C hp hn)
theorem tc_Blow (AM : lw_AM) {sl : List Value} {h : mj_H} {B : Int} {s : sg_} {tc : tcs} {tr : Int → crs} {M : Int} (L : LAWS tc tr s M) {w : Int} (hw : wp_r w) (W : WS sl h B s) (hB : 0 ≤ B ∧ B ≤ 130000000) : wp_R 1199 90 0 [some (.ref 9), some (wp_i w)] [] h (fun v h1 => v = some (wp_i (cBlow s w).1) ∧ WS sl h1 (B + (0 : Nat)) (cBlow s w).2) := by
  have C := W.2.2.2
  exact ws_c (n := 0) W (AM 1199 90 sx_K90 rfl) (vs := [.ref 9, wp_i w]) ⟨⟨9, rfl, rfl⟩, ⟨_, rfl, (sx_r32 _).1, (sx_r32 _).2⟩, trivial⟩ (show (3 : Int) + 0 ≤ ((1199 : Nat) : Int) by decide) (by decide) (by omega) (by rw [jn_90]; rfl) (by decide +kernel) (fun nn => dc_Blow (d := 1196) L.1 C hw)
theorem tr_Blow (AM : lw_AM) {sl : List Value} {h : mj_H} {B : Int} {s : sg_} {tc : tcs} {tr : Int → crs} {M : Int} (L : LAWS tc tr s M) {w : Int} (hw : wp_r w) (hM : M ≤ 900000000) (W : WS sl h B (cBlow s w).2) (hB : 0 ≤ B ∧ B ≤ 130000000) : wp_R 1199 254 0 [some (.ref 138), some (wp_i w)] [] h (fun v h1 => v = some (wp_i (rBlow (cBlow s w).2 w).1) ∧ WS sl h1 (B + (0 : Nat)) (rBlow (cBlow s w).2 w).2) := by
  have C := W.2.2.2
  exact ws_c (n := 0) W (AM 1199 254 sx_K254 rfl) (vs := [.ref 138, wp_i w]) ⟨⟨138, rfl, rfl⟩, ⟨_, rfl, (sx_r32 _).1, (sx_r32 _).2⟩, trivial⟩ (show (2 : Int) + 0 ≤ ((1199 : Nat) : Int) by decide) (by decide) (by omega) (by rw [jn_254]; rfl) (by decide +kernel) (fun nn => dr_Blow (d := 1197) L.1 hM C hw)
theorem tc_Hour (AM : lw_AM) {sl : List Value} {h : mj_H} {B : Int} {s : sg_} {tc : tcs} {tr : Int → crs} {M : Int} (L : LAWS tc tr s M) {n : Int} (hn : wp_r n) (W : WS sl h B s) (hB : 0 ≤ B ∧ B ≤ 130000000) : wp_R 1199 57 0 [some (.ref 9), some (wp_i n)] [] h (fun v h1 => v = some (wp_i (cHour tc s n).1) ∧ WS sl h1 (B + (0 : Nat)) (cHour tc s n).2) := by
  have C := W.2.2.2
  exact ws_c (n := 0) W (AM 1199 57 sx_K57 rfl) (vs := [.ref 9, wp_i n]) ⟨⟨9, rfl, rfl⟩, ⟨_, rfl, (sx_r32 _).1, (sx_r32 _).2⟩, trivial⟩ (show (7 : Int) + 0 ≤ ((1199 : Nat) : Int) by decide) (by decide) (by omega) (by rw [jn_57]; rfl) (by decide +kernel) (fun nn => dc_Hour (d := 1192) L.1 C hn)
theorem tr_Hour (AM : lw_AM) {sl : List Value} {h : mj_H} {B : Int} {s : sg_} {tc : tcs} {tr : Int → crs} {M : Int} (L : LAWS tc tr s M) {n : Int} (hn : wp_r n) (hM : M ≤ 900000000) (W : WS sl h B (cHour tc s n).2) (hB : 0 ≤ B ∧ B ≤ 130000000) : wp_R 1199 217 0 [some (.ref 138), some (wp_i n)] [] h (fun v h1 => v = some (wp_i (rHour (tr (s 139 3)) (cHour tc s n).2 n).1) ∧ WS sl h1 (B + (9999 : Nat)) (rHour (tr (s 139 3)) (cHour tc s n).2 n).2) := by
  have C := W.2.2.2
  exact ws_c (n := 9999) W (AM 1199 217 sx_K217 rfl) (vs := [.ref 138, wp_i n]) ⟨⟨138, rfl, rfl⟩, ⟨_, rfl, (sx_r32 _).1, (sx_r32 _).2⟩, trivial⟩ (show (15 : Int) + 0 ≤ ((1199 : Nat) : Int) by decide) (by decide) (by omega) (by rw [jn_217]; rfl) (by decide +kernel) (fun nn => dr_Hour (d := 1189) L.1 hM C hn)
theorem tc_Cent (AM : lw_AM) {sl : List Value} {h : mj_H} {B : Int} {s : sg_} {tc : tcs} {tr : Int → crs} {M : Int} (L : LAWS tc tr s M) {x n : Int} (hx : wp_r x) (hn : wp_r n) (W : WS sl h B s) (hB : 0 ≤ B ∧ B ≤ 130000000) : wp_R 1199 93 0 [some (.ref 9), some (wp_i x), some (wp_i n), none, none] [] h (fun v h1 => v = some (wp_i (cCent tc s x n).1) ∧ WS sl h1 (B + (0 : Nat)) (cCent tc s x n).2) := by
  have C := W.2.2.2
  exact ws_c (n := 0) W (AM 1199 93 sx_K93 rfl) (vs := [.ref 9, wp_i x, wp_i n]) ⟨⟨9, rfl, rfl⟩, ⟨_, rfl, (sx_r32 _).1, (sx_r32 _).2⟩, ⟨_, rfl, (sx_r32 _).1, (sx_r32 _).2⟩, trivial⟩ (show (7 : Int) + 0 ≤ ((1199 : Nat) : Int) by decide) (by decide) (by omega) (by rw [jn_93]; rfl) (by decide +kernel) (fun nn => dc_Cent (d := 1192) L.1 C hx hn)
theorem tr_Cent (AM : lw_AM) {sl : List Value} {h : mj_H} {B : Int} {s : sg_} {tc : tcs} {tr : Int → crs} {M : Int} (L : LAWS tc tr s M) {x n : Int} (hx : wp_r x) (hn : wp_r n) (hM : M ≤ 900000000) (W : WS sl h B (cCent tc s x n).2) (hB : 0 ≤ B ∧ B ≤ 130000000) : wp_R 1199 257 0 [some (.ref 138), some (wp_i x), some (wp_i n), none, none] [] h (fun v h1 => v = some (wp_i (rCent (tr (s 139 3)) (cCent tc s x n).2 x n).1) ∧ WS sl h1 (B + (1000 : Nat)) (rCent (tr (s 139 3)) (cCent tc s x n).2 x n).2) := by
  have C := W.2.2.2
  exact ws_c (n := 1000) W (AM 1199 257 sx_K257 rfl) (vs := [.ref 138, wp_i x, wp_i n]) ⟨⟨138, rfl, rfl⟩, ⟨_, rfl, (sx_r32 _).1, (sx_r32 _).2⟩, ⟨_, rfl, (sx_r32 _).1, (sx_r32 _).2⟩, trivial⟩ (show (15 : Int) + 0 ≤ ((1199 : Nat) : Int) by decide) (by decide) (by omega) (by rw [jn_257]; rfl) (by decide +kernel) (fun nn => dr_Cent (d := 1189) L.1 hM C hx hn)
theorem tc_By (AM : lw_AM) {sl : List Value} {h : mj_H} {B : Int} {s : sg_} {tc : tcs} {tr : Int → crs} {M : Int} (L : LAWS tc tr s M) {x : Int} (hx : wp_r x) (W : WS sl h B s) (hB : 0 ≤ B ∧ B ≤ 130000000) : wp_R 1199 55 0 [some (.ref 9), some (wp_i x)] [] h (fun v h1 => v = some (wp_i (cBy s x).1) ∧ WS sl h1 (B + (0 : Nat)) (cBy s x).2) := by
  have C := W.2.2.2
  exact ws_c (n := 0) W (AM 1199 55 sx_K55 rfl) (vs := [.ref 9, wp_i x]) ⟨⟨9, rfl, rfl⟩, ⟨_, rfl, (sx_r32 _).1, (sx_r32 _).2⟩, trivial⟩ (show (1 : Int) + 0 ≤ ((1199 : Nat) : Int) by decide) (by decide) (by omega) (by rw [jn_55]; rfl) (by decide +kernel) (fun nn => dc_By (d := 1198) L.1 C hx)
theorem tr_By (AM : lw_AM) {sl : List Value} {h : mj_H} {B : Int} {s : sg_} {tc : tcs} {tr : Int → crs} {M : Int} (L : LAWS tc tr s M) {x : Int} (hx : wp_r x) (hM : M ≤ 900000000) (W : WS sl h B (cBy s x).2) (hB : 0 ≤ B ∧ B ≤ 130000000) : wp_R 1199 215 0 [some (.ref 138), some (wp_i x)] [] h (fun v h1 => v = some (wp_i (rBy (cBy s x).2 x).1) ∧ WS sl h1 (B + (0 : Nat)) (rBy (cBy s x).2 x).2) := by
  have C := W.2.2.2
  exact ws_c (n := 0) W (AM 1199 215 sx_K215 rfl) (vs := [.ref 138, wp_i x]) ⟨⟨138, rfl, rfl⟩, ⟨_, rfl, (sx_r32 _).1, (sx_r32 _).2⟩, trivial⟩ (show (1 : Int) + 0 ≤ ((1199 : Nat) : Int) by decide) (by decide) (by omega) (by rw [jn_215]; rfl) (by decide +kernel) (fun nn => dr_By (d := 1198) L.1 hM C hx)
theorem tc_Found (AM : lw_AM) {sl : List Value} {h : mj_H} {B : Int} {s : sg_} {tc : tcs} {tr : Int → crs} {M : Int} (L : LAWS tc tr s M) {p b : Int} (hp : wp_r p) (hb : b = 0 ∨ b = 1) (W : WS sl h B s) (hB : 0 ≤ B ∧ B ≤ 130000000) : wp_R 1199 143 0 [some (.ref 9), some (wp_i p), some (wp_i b)] [] h (fun v h1 => v = some (wp_i (fdC s p b).1) ∧ WS sl h1 (B + (0 : Nat)) (fdC s p b).2) := by
  have C := W.2.2.2
  exact ws_c (n := 0) W (AM 1199 143 sx_K143 rfl) (vs := [.ref 9, wp_i p, wp_i b]) ⟨⟨9, rfl, rfl⟩, ⟨_, rfl, (sx_r32 _).1, (sx_r32 _).2⟩, ⟨_, rfl, (by rcases hb with rfl | rfl <;> decide), (by rcases hb with rfl | rfl <;> decide)⟩, trivial⟩ (show (1 : Int) + 0 ≤ ((1199 : Nat) : Int) by decide) (by decide) (by omega) (by rw [jn_143]; rfl) (by decide +kernel) (fun nn => dc_Found (d := 1198) L.1 C hp hb)
theorem tr_Found (AM : lw_AM) {sl : List Value} {h : mj_H} {B : Int} {s : sg_} {tc : tcs} {tr : Int → crs} {M : Int} (L : LAWS tc tr s M) {p b : Int} (hp : wp_r p) (hb : b = 0 ∨ b = 1) (hM : M ≤ 900000000) (W : WS sl h B (fdC s p b).2) (hB : 0 ≤ B ∧ B ≤ 130000000) : wp_R 1199 300 0 [some (.ref 138), some (wp_i p), some (wp_i b)] [] h (fun v h1 => v = some (wp_i (fdR (fdC s p b).2 p b).1) ∧ WS sl h1 (B + (0 : Nat)) (fdR (fdC s p b).2 p b).2) := by
  have C := W.2.2.2
  exact ws_c (n := 0) W (AM 1199 300 sx_K300 rfl) (vs := [.ref 138, wp_i p, wp_i b]) ⟨⟨138, rfl, rfl⟩, ⟨_, rfl, (sx_r32 _).1, (sx_r32 _).2⟩, ⟨_, rfl, (by rcases hb with rfl | rfl <;> decide), (by rcases hb with rfl | rfl <;> decide)⟩, trivial⟩ (show (1 : Int) + 0 ≤ ((1199 : Nat) : Int) by decide) (by decide) (by omega) (by rw [jn_300]; rfl) (by decide +kernel) (fun nn => dr_Found (d := 1198) L.1 hp hb C)
theorem tc_Ahead (AM : lw_AM) {sl : List Value} {h : mj_H} {B : Int} {s : sg_} {tc : tcs} {tr : Int → crs} {M : Int} (L : LAWS tc tr s M) {x y : Int} (hx : wp_r x) (hy : wp_r y) (W : WS sl h B s) (hB : 0 ≤ B ∧ B ≤ 130000000) : wp_R 1199 151 0 [some (.ref 9), some (wp_i x), some (wp_i y)] [] h (fun v h1 => v = some (wp_i (adC s x y).1) ∧ WS sl h1 (B + (0 : Nat)) (adC s x y).2) := by
  have C := W.2.2.2
  exact ws_c (n := 0) W (AM 1199 151 sx_K151 rfl) (vs := [.ref 9, wp_i x, wp_i y]) ⟨⟨9, rfl, rfl⟩, ⟨_, rfl, (sx_r32 _).1, (sx_r32 _).2⟩, ⟨_, rfl, (sx_r32 _).1, (sx_r32 _).2⟩, trivial⟩ (show (1 : Int) + 0 ≤ ((1199 : Nat) : Int) by decide) (by decide) (by omega) (by rw [jn_151]; rfl) (by decide +kernel) (fun nn => dc_Ahead (d := 1198) L.1 C hx hy)
theorem tr_Ahead (AM : lw_AM) {sl : List Value} {h : mj_H} {B : Int} {s : sg_} {tc : tcs} {tr : Int → crs} {M : Int} (L : LAWS tc tr s M) {x y : Int} (hx : wp_r x) (hy : wp_r y) (hM : M ≤ 900000000) (W : WS sl h B (adC s x y).2) (hB : 0 ≤ B ∧ B ≤ 130000000) : wp_R 1199 306 0 [some (.ref 138), some (wp_i x), some (wp_i y)] [] h (fun v h1 => v = some (wp_i (adR (adC s x y).2 x y).1) ∧ WS sl h1 (B + (0 : Nat)) (adR (adC s x y).2 x y).2) := by
  have C := W.2.2.2
  exact ws_c (n := 0) W (AM 1199 306 sx_K306 rfl) (vs := [.ref 138, wp_i x, wp_i y]) ⟨⟨138, rfl, rfl⟩, ⟨_, rfl, (sx_r32 _).1, (sx_r32 _).2⟩, ⟨_, rfl, (sx_r32 _).1, (sx_r32 _).2⟩, trivial⟩ (show (2 : Int) + 0 ≤ ((1199 : Nat) : Int) by decide) (by decide) (by omega) (by rw [jn_306]; rfl) (by decide +kernel) (fun nn => dr_Ahead (d := 1197) L.1 hx hy C)
theorem tc_Undo (AM : lw_AM) {sl : List Value} {h : mj_H} {B : Int} {s : sg_} {tc : tcs} {tr : Int → crs} {M : Int} (L : LAWS tc tr s M) (W : WS sl h B s) (hB : 0 ≤ B ∧ B ≤ 130000000) : wp_R 1199 95 0 [some (.ref 9)] [] h (fun v h1 => v = some (wp_i (cUndo s).1) ∧ WS sl h1 (B + (0 : Nat)) (cUndo s).2) := by
  have C := W.2.2.2
  exact ws_c (n := 0) W (AM 1199 95 sx_K95 rfl) (vs := [.ref 9]) ⟨⟨9, rfl, rfl⟩, trivial⟩ (show (1 : Int) + 0 ≤ ((1199 : Nat) : Int) by decide) (by decide) (by omega) (by rw [jn_95]; rfl) (by decide +kernel) (fun nn => dc_Undo (d := 1198) L.1 C)
theorem tr_Undo (AM : lw_AM) {sl : List Value} {h : mj_H} {B : Int} {s : sg_} {tc : tcs} {tr : Int → crs} {M : Int} (L : LAWS tc tr s M) (hM : M ≤ 900000000) (W : WS sl h B (cUndo s).2) (hB : 0 ≤ B ∧ B ≤ 130000000) : wp_R 1199 216 0 [some (.ref 138), none, none] [] h (fun v h1 => v = some (wp_i (rUndo (cUndo s).2).1) ∧ WS sl h1 (B + (0 : Nat)) (rUndo (cUndo s).2).2) := by
  have C := W.2.2.2
  exact ws_c (n := 0) W (AM 1199 216 sx_K216 rfl) (vs := [.ref 138]) ⟨⟨138, rfl, rfl⟩, trivial⟩ (show (0 : Int) + 0 ≤ ((1199 : Nat) : Int) by decide) (by decide) (by omega) (by rw [jn_216]; rfl) (by decide +kernel) (fun nn => dr_Undo (d := 1198) L.1 hM C)
theorem tc_Played (AM : lw_AM) {sl : List Value} {h : mj_H} {B : Int} {s : sg_} {tc : tcs} {tr : Int → crs} {M : Int} (L : LAWS tc tr s M) {x : Int} (hx : wp_r x) (W : WS sl h B s) (hB : 0 ≤ B ∧ B ≤ 130000000) : wp_R 1199 92 0 [some (.ref 9), some (wp_i x), none, none, none, none, none] [] h (fun v h1 => v = some (wp_i (cPlayed tc s x).1) ∧ WS sl h1 (B + (0 : Nat)) (cPlayed tc s x).2) := by
  have C := W.2.2.2
  exact ws_c (n := 0) W (AM 1199 92 sx_K92 rfl) (vs := [.ref 9, wp_i x]) ⟨⟨9, rfl, rfl⟩, ⟨_, rfl, (sx_r32 _).1, (sx_r32 _).2⟩, trivial⟩ (show (7 : Int) + 0 ≤ ((1199 : Nat) : Int) by decide) (by decide) (by omega) (by rw [jn_92]; rfl) (by decide +kernel) (fun nn => dc_Played (d := 1192) L.1 C hx)
theorem tr_Played (AM : lw_AM) {sl : List Value} {h : mj_H} {B : Int} {s : sg_} {tc : tcs} {tr : Int → crs} {M : Int} (L : LAWS tc tr s M) {x : Int} (hx : wp_r x) (hM : M ≤ 900000000) (W : WS sl h B (cPlayed tc s x).2) (hB : 0 ≤ B ∧ B ≤ 130000000) : wp_R 1199 255 0 [some (.ref 138), some (wp_i x), none] [] h (fun v h1 => v = some (wp_i (rPlayed (tr (s 139 3)) (cPlayed tc s x).2 x).1) ∧ WS sl h1 (B + (239976 : Nat)) (rPlayed (tr (s 139 3)) (cPlayed tc s x).2 x).2) := by
  have C := W.2.2.2
  exact ws_c (n := 239976) W (AM 1199 255 sx_K255 rfl) (vs := [.ref 138, wp_i x]) ⟨⟨138, rfl, rfl⟩, ⟨_, rfl, (sx_r32 _).1, (sx_r32 _).2⟩, trivial⟩ (show (16 : Int) + 0 ≤ ((1199 : Nat) : Int) by decide) (by decide) (by omega) (by rw [jn_255]; rfl) (by decide +kernel) (fun nn => dr_Played (d := 1188) L.1 hM hx C)
theorem tc_Image (AM : lw_AM) {sl : List Value} {h : mj_H} {B : Int} {s : sg_} {tc : tcs} {tr : Int → crs} {M : Int} (L : LAWS tc tr s M) (W : WS sl h B s) (hB : 0 ≤ B ∧ B ≤ 130000000) : wp_R 1199 160 0 [some (.ref 9)] [] h (fun v h1 => v = some (wp_i (s 48 10)) ∧ ∃ t, WS sl h1 (B + (0 : Nat)) t ∧ CPY s t 47 69) := by
  have C := W.2.2.2
  exact ws_e (n := 0) W (AM 1199 160 sx_K160 rfl) (vs := [.ref 9]) ⟨⟨9, rfl, rfl⟩, trivial⟩ (show (3 : Int) + 0 ≤ ((1199 : Nat) : Int) by decide) (by decide) (by omega) (by rw [jn_160]; rfl) (by decide +kernel) (fun nn => dc_Image (d := 1196) L.1 C)
theorem tr_Image (AM : lw_AM) {sl : List Value} {h : mj_H} {B : Int} {s : sg_} {tc : tcs} {tr : Int → crs} {M : Int} (L : LAWS tc tr s M) {t : sg_} (K : CPY s t 47 69) (W : WS sl h B t) (hB : 0 ≤ B ∧ B ≤ 130000000) : wp_R 1199 312 0 [some (.ref 138)] [] h (fun v h1 => v = some (wp_i (s 48 10)) ∧ WS sl h1 (B + (0 : Nat)) (cpy t 139 0 140 0 6044)) := by
  have C := W.2.2.2
  exact ws_c (n := 0) W (AM 1199 312 sx_K312 rfl) (vs := [.ref 138]) ⟨⟨138, rfl, rfl⟩, trivial⟩ (show (1 : Int) + 0 ≤ ((1199 : Nat) : Int) by decide) (by decide) (by omega) (by rw [jn_312]; rfl) (by decide +kernel) (fun nn => dr_Image (d := 1198) L.1 K C)
theorem tc_Back (AM : lw_AM) {sl : List Value} {h : mj_H} {B : Int} {s : sg_} {tc : tcs} {tr : Int → crs} {M : Int} (L : LAWS tc tr s M) (W : WS sl h B s) (hB : 0 ≤ B ∧ B ≤ 130000000) : wp_R 1199 166 0 [some (.ref 9)] [] h (fun v h1 => v = some (wp_i (s 70 10)) ∧ ∃ t, WS sl h1 (B + (0 : Nat)) t ∧ CPY s t 69 47) := by
  have C := W.2.2.2
  exact ws_e (n := 0) W (AM 1199 166 sx_K166 rfl) (vs := [.ref 9]) ⟨⟨9, rfl, rfl⟩, trivial⟩ (show (3 : Int) + 0 ≤ ((1199 : Nat) : Int) by decide) (by decide) (by omega) (by rw [jn_166]; rfl) (by decide +kernel) (fun nn => dc_Back (d := 1196) L.1 C)
theorem tr_Back (AM : lw_AM) {sl : List Value} {h : mj_H} {B : Int} {s : sg_} {tc : tcs} {tr : Int → crs} {M : Int} (L : LAWS tc tr s M) {t : sg_} (K : CPY s t 69 47) (W : WS sl h B t) (hB : 0 ≤ B ∧ B ≤ 130000000) : wp_R 1199 313 0 [some (.ref 138)] [] h (fun v h1 => v = some (wp_i (s 70 10)) ∧ WS sl h1 (B + (0 : Nat)) (cpy t 140 0 139 0 6044)) := by
  have C := W.2.2.2
  exact ws_c (n := 0) W (AM 1199 313 sx_K313 rfl) (vs := [.ref 138]) ⟨⟨138, rfl, rfl⟩, trivial⟩ (show (1 : Int) + 0 ≤ ((1199 : Nat) : Int) by decide) (by decide) (by omega) (by rw [jn_313]; rfl) (by decide +kernel) (fun nn => dr_Back (d := 1198) L.1 K C)
theorem tc_Feed (AM : lw_AM) {sl : List Value} {h : mj_H} {B : Int} {s : sg_} {tc : tcs} {tr : Int → crs} {M : Int} (L : LAWS tc tr s M) {a b c e f : Int} (ha : wp_r a) (hb : wp_r b) (hc : wp_r c) (he : wp_r e) (hf : wp_r f) (W : WS sl h B s) (hB : 0 ≤ B ∧ B ≤ 130000000) : wp_R 1199 16 0 [some (.ref 9), some (wp_i a), some (wp_i b), some (wp_i c), some (wp_i e), some (wp_i f)] [] h (fun v h1 => v = some (wp_i (cFeed s a b c e f).1) ∧ WS sl h1 (B + (0 : Nat)) (cFeed s a b c e f).2) := by
  have C := W.2.2.2
  exact ws_c (n := 0) W (AM 1199 16 sx_K16 rfl) (vs := [.ref 9, wp_i a, wp_i b, wp_i c, wp_i e, wp_i f]) ⟨⟨9, rfl, rfl⟩, ⟨_, rfl, (sx_r32 _).1, (sx_r32 _).2⟩, ⟨_, rfl, (sx_r32 _).1, (sx_r32 _).2⟩, ⟨_, rfl, (sx_r32 _).1, (sx_r32 _).2⟩, ⟨_, rfl, (sx_r32 _).1, (sx_r32 _).2⟩, ⟨_, rfl, (sx_r32 _).1, (sx_r32 _).2⟩, trivial⟩ (show (1 : Int) + 0 ≤ ((1199 : Nat) : Int) by decide) (by decide) (by omega) (by rw [jn_16]; rfl) (by decide +kernel) (fun nn => uc_16 (d := 1198) C L.2.1.1 ha hb hc he hf)
theorem tr_Feed (AM : lw_AM) {sl : List Value} {h : mj_H} {B : Int} {s : sg_} {tc : tcs} {tr : Int → crs} {M : Int} (L : LAWS tc tr s M) {a b c e f : Int} (ha : wp_r a) (hb : wp_r b) (hc : wp_r c) (he : wp_r e) (hf : wp_r f) (W : WS sl h B (cFeed s a b c e f).2) (hB : 0 ≤ B ∧ B ≤ 130000000) : wp_R 1199 173 0 [some (.ref 138), some (wp_i a), some (wp_i b), some (wp_i c), some (wp_i e), some (wp_i f)] [] h (fun v h1 => v = some (wp_i (rFeed (cFeed s a b c e f).2 a b c e f).1) ∧ WS sl h1 (B + (0 : Nat)) (rFeed (cFeed s a b c e f).2 a b c e f).2) := by
  have C := W.2.2.2
  exact ws_c (n := 0) W (AM 1199 173 sx_K173 rfl) (vs := [.ref 138, wp_i a, wp_i b, wp_i c, wp_i e, wp_i f]) ⟨⟨138, rfl, rfl⟩, ⟨_, rfl, (sx_r32 _).1, (sx_r32 _).2⟩, ⟨_, rfl, (sx_r32 _).1, (sx_r32 _).2⟩, ⟨_, rfl, (sx_r32 _).1, (sx_r32 _).2⟩, ⟨_, rfl, (sx_r32 _).1, (sx_r32 _).2⟩, ⟨_, rfl, (sx_r32 _).1, (sx_r32 _).2⟩, trivial⟩ (show (1 : Int) + 0 ≤ ((1199 : Nat) : Int) by decide) (by decide) (by omega) (by rw [jn_173]; rfl) (by decide +kernel) (fun nn => uc_173 (d := 1198) C (cf_q L) ha hb hc he hf)
theorem tc_End (AM : lw_AM) {sl : List Value} {h : mj_H} {B : Int} {s : sg_} {tc : tcs} {tr : Int → crs} {M : Int} (L : LAWS tc tr s M) {x : Int} (hx : wp_r x) (W : WS sl h B s) (hB : 0 ≤ B ∧ B ≤ 130000000) : wp_R 1199 18 0 [some (.ref 9), some (wp_i x)] [] h (fun v h1 => v = some (wp_i (cEnd s x).1) ∧ WS sl h1 (B + (0 : Nat)) (cEnd s x).2) := by
  have C := W.2.2.2
  exact ws_c (n := 0) W (AM 1199 18 sx_K18 rfl) (vs := [.ref 9, wp_i x]) ⟨⟨9, rfl, rfl⟩, ⟨_, rfl, (sx_r32 _).1, (sx_r32 _).2⟩, trivial⟩ (show (0 : Int) + 0 ≤ ((1199 : Nat) : Int) by decide) (by decide) (by omega) (by rw [jn_18]; rfl) (by decide +kernel) (fun nn => uc_18 (d := 1198) C hx L.2.1.1)
theorem tr_End (AM : lw_AM) {sl : List Value} {h : mj_H} {B : Int} {s : sg_} {tc : tcs} {tr : Int → crs} {M : Int} (L : LAWS tc tr s M) {x : Int} (hx : wp_r x) (W : WS sl h B (cEnd s x).2) (hB : 0 ≤ B ∧ B ≤ 130000000) : wp_R 1199 175 0 [some (.ref 138), some (wp_i x)] [] h (fun v h1 => v = some (wp_i (rEnd (cEnd s x).2 x).1) ∧ WS sl h1 (B + (0 : Nat)) (rEnd (cEnd s x).2 x).2) := by
  have C := W.2.2.2
  exact ws_c (n := 0) W (AM 1199 175 sx_K175 rfl) (vs := [.ref 138, wp_i x]) ⟨⟨138, rfl, rfl⟩, ⟨_, rfl, (sx_r32 _).1, (sx_r32 _).2⟩, trivial⟩ (show (1 : Int) + 0 ≤ ((1199 : Nat) : Int) by decide) (by decide) (by omega) (by rw [jn_175]; rfl) (by decide +kernel) (fun nn => uc_175 (d := 1198) C hx (ce_q L))
theorem tc_Fault (AM : lw_AM) {sl : List Value} {h : mj_H} {B : Int} {s : sg_} {tc : tcs} {tr : Int → crs} {M : Int} (L : LAWS tc tr s M) {x : Int} (hx : wp_r x) (W : WS sl h B s) (hB : 0 ≤ B ∧ B ≤ 130000000) : wp_R 1199 54 0 [some (.ref 9), some (wp_i x)] [] h (fun v h1 => v = some (wp_i (cFault s x)) ∧ WS sl h1 (B + (0 : Nat)) s) := by
  have C := W.2.2.2
  exact ws_c (n := 0) W (AM 1199 54 sx_K54 rfl) (vs := [.ref 9, wp_i x]) ⟨⟨9, rfl, rfl⟩, ⟨_, rfl, (sx_r32 _).1, (sx_r32 _).2⟩, trivial⟩ (show (0 : Int) + 0 ≤ ((1199 : Nat) : Int) by decide) (by decide) (by omega) (by rw [jn_54]; rfl) (by decide +kernel) (fun nn => wl_mono (uc_54 (d := 1199) C hx) (fun v h1 R => ⟨R.2, R.1 ▸ C⟩))
theorem tr_Fault (AM : lw_AM) {sl : List Value} {h : mj_H} {B : Int} {s : sg_} {tc : tcs} {tr : Int → crs} {M : Int} (L : LAWS tc tr s M) {x : Int} (hx : wp_r x) (W : WS sl h B s) (hB : 0 ≤ B ∧ B ≤ 130000000) : wp_R 1199 214 0 [some (.ref 138), some (wp_i x)] [] h (fun v h1 => v = some (wp_i (rFault s x)) ∧ WS sl h1 (B + (0 : Nat)) s) := by
  have C := W.2.2.2
  exact ws_c (n := 0) W (AM 1199 214 sx_K214 rfl) (vs := [.ref 138, wp_i x]) ⟨⟨138, rfl, rfl⟩, ⟨_, rfl, (sx_r32 _).1, (sx_r32 _).2⟩, trivial⟩ (show (0 : Int) + 0 ≤ ((1199 : Nat) : Int) by decide) (by decide) (by omega) (by rw [jn_214]; rfl) (by decide +kernel) (fun nn => wl_mono (uc_214 (d := 1199) C hx) (fun v h1 R => ⟨R.2, R.1 ▸ C⟩))
