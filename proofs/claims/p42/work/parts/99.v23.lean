/-! -/
/-! questions at the law, and what they leave as it was; laid by program (wp_v23.py) -/
theorem FQ_q {s s1 : sg_} (f : ∀ (b : Nat) (j : Int), b ∉ qY → s1 b j = s b j) : FQ s s1 := fun b j hb => f b j (fun z => by
  have z : b = 10 ∨ b = 64 ∨ b = 68 ∨ b = 86 ∨ b = 90 ∨ b = 144 ∨ b = 145 ∨ b = 146 ∨ b = 148 ∨ b = 149 ∨ b = 150 ∨ b = 151 := by simpa [qY] using z
  omega)
theorem ws_f2 {sl : List Value} {h : mj_H} {B : Int} {s : sg_} {tc : tcs} {tr : Int → crs} {M : Int} (L : LAWS tc tr s M) (W : WS sl h B s) {d c n : Nat} {K : sx_K} (hM : sx_M sx_PP d c K) {vs : List Value} {lv0 : mj_L} (ha : sx_ag sx_tau K.1 vs) (hd : sx_lev K vs ≤ d) (hc : sx_cost K.2.2.2 = n) (hB : B + n ≤ 2147483647) (hn : mj_ent (mj_nl c) vs = some lv0) (hm : mo_ok K.2.2.2 = true) (hq : ∀ k ∈ K.2.2.2, k ∈ qM) {lo hi : Int} (hr : K.2.1 = some (0, lo, hi)) : wp_R d c 0 lv0 [] h (fun v h1 => ∃ y : Int, v = some (wp_i y) ∧ wp_r y ∧ ∃ s1, WS sl h1 (B + n) s1 ∧ LAWS tc tr s1 M ∧ FQ s s1) := by
  refine wp_mono (ws_q W hM ha hd hc hB hn hm hq) ?_
  rintro v h1 ⟨a, s1, W1, f⟩
  rw [hr] at a
  obtain ⟨y, e, r⟩ := an_i a
  exact ⟨y, e, r, s1, W1, LAWS_q L f, FQ_q f⟩
theorem tg_97 (AM : lw_AM) {sl : List Value} {h : mj_H} {B : Int} {s : sg_} {tc : tcs} {tr : Int → crs} {M : Int} (L : LAWS tc tr s M) {a b : Int} (W : WS sl h B s) (hB : 0 ≤ B ∧ B ≤ 130000000) : wp_R 1199 97 0 [some (.ref 9), some (wp_i a), some (wp_i b), none] [] h (fun v h1 => ∃ y : Int, v = some (wp_i y) ∧ wp_r y ∧ ∃ s1, WS sl h1 (B + (0 : Nat)) s1 ∧ LAWS tc tr s1 M ∧ FQ s s1) :=
  ws_f2 (n := 0) L W (AM 1199 97 sx_K97 rfl) (vs := [.ref 9, wp_i a, wp_i b]) ⟨⟨9, rfl, rfl⟩, ⟨_, rfl, (sx_r32 _).1, (sx_r32 _).2⟩, ⟨_, rfl, (sx_r32 _).1, (sx_r32 _).2⟩, trivial⟩ (show (1 : Int) + 0 ≤ ((1199 : Nat) : Int) by decide) (by decide) (by omega) (by rw [jn_97]; rfl) (by decide +kernel) (by decide) rfl
theorem tg_98 (AM : lw_AM) {sl : List Value} {h : mj_H} {B : Int} {s : sg_} {tc : tcs} {tr : Int → crs} {M : Int} (L : LAWS tc tr s M) {a b : Int} (W : WS sl h B s) (hB : 0 ≤ B ∧ B ≤ 130000000) : wp_R 1199 98 0 [some (.ref 9), some (wp_i a), some (wp_i b), none] [] h (fun v h1 => ∃ y : Int, v = some (wp_i y) ∧ wp_r y ∧ ∃ s1, WS sl h1 (B + (0 : Nat)) s1 ∧ LAWS tc tr s1 M ∧ FQ s s1) :=
  ws_f2 (n := 0) L W (AM 1199 98 sx_K98 rfl) (vs := [.ref 9, wp_i a, wp_i b]) ⟨⟨9, rfl, rfl⟩, ⟨_, rfl, (sx_r32 _).1, (sx_r32 _).2⟩, ⟨_, rfl, (sx_r32 _).1, (sx_r32 _).2⟩, trivial⟩ (show (1 : Int) + 0 ≤ ((1199 : Nat) : Int) by decide) (by decide) (by omega) (by rw [jn_98]; rfl) (by decide +kernel) (by decide) rfl
theorem tg_101 (AM : lw_AM) {sl : List Value} {h : mj_H} {B : Int} {s : sg_} {tc : tcs} {tr : Int → crs} {M : Int} (L : LAWS tc tr s M) {a b c : Int} (W : WS sl h B s) (hB : 0 ≤ B ∧ B ≤ 130000000) : wp_R 1199 101 0 [some (.ref 9), some (wp_i a), some (wp_i b), some (wp_i c), none, none] [] h (fun v h1 => ∃ y : Int, v = some (wp_i y) ∧ wp_r y ∧ ∃ s1, WS sl h1 (B + (0 : Nat)) s1 ∧ LAWS tc tr s1 M ∧ FQ s s1) :=
  ws_f2 (n := 0) L W (AM 1199 101 sx_K101 rfl) (vs := [.ref 9, wp_i a, wp_i b, wp_i c]) ⟨⟨9, rfl, rfl⟩, ⟨_, rfl, (sx_r32 _).1, (sx_r32 _).2⟩, ⟨_, rfl, (sx_r32 _).1, (sx_r32 _).2⟩, ⟨_, rfl, (sx_r32 _).1, (sx_r32 _).2⟩, trivial⟩ (show (3 : Int) + 0 ≤ ((1199 : Nat) : Int) by decide) (by decide) (by omega) (by rw [jn_101]; rfl) (by decide +kernel) (by decide) rfl
theorem tg_102 (AM : lw_AM) {sl : List Value} {h : mj_H} {B : Int} {s : sg_} {tc : tcs} {tr : Int → crs} {M : Int} (L : LAWS tc tr s M) {a : Int} (W : WS sl h B s) (hB : 0 ≤ B ∧ B ≤ 130000000) : wp_R 1199 102 0 [some (.ref 9), some (wp_i a)] [] h (fun v h1 => ∃ y : Int, v = some (wp_i y) ∧ wp_r y ∧ ∃ s1, WS sl h1 (B + (0 : Nat)) s1 ∧ LAWS tc tr s1 M ∧ FQ s s1) :=
  ws_f2 (n := 0) L W (AM 1199 102 sx_K102 rfl) (vs := [.ref 9, wp_i a]) ⟨⟨9, rfl, rfl⟩, ⟨_, rfl, (sx_r32 _).1, (sx_r32 _).2⟩, trivial⟩ (show (0 : Int) + 0 ≤ ((1199 : Nat) : Int) by decide) (by decide) (by omega) (by rw [jn_102]; rfl) (by decide +kernel) (by decide) rfl
theorem tg_103 (AM : lw_AM) {sl : List Value} {h : mj_H} {B : Int} {s : sg_} {tc : tcs} {tr : Int → crs} {M : Int} (L : LAWS tc tr s M) {a b : Int} (W : WS sl h B s) (hB : 0 ≤ B ∧ B ≤ 130000000) : wp_R 1199 103 0 [some (.ref 9), some (wp_i a), some (wp_i b), none] [] h (fun v h1 => ∃ y : Int, v = some (wp_i y) ∧ wp_r y ∧ ∃ s1, WS sl h1 (B + (0 : Nat)) s1 ∧ LAWS tc tr s1 M ∧ FQ s s1) :=
  ws_f2 (n := 0) L W (AM 1199 103 sx_K103 rfl) (vs := [.ref 9, wp_i a, wp_i b]) ⟨⟨9, rfl, rfl⟩, ⟨_, rfl, (sx_r32 _).1, (sx_r32 _).2⟩, ⟨_, rfl, (sx_r32 _).1, (sx_r32 _).2⟩, trivial⟩ (show (0 : Int) + 0 ≤ ((1199 : Nat) : Int) by decide) (by decide) (by omega) (by rw [jn_103]; rfl) (by decide +kernel) (by decide) rfl
theorem tg_110 (AM : lw_AM) {sl : List Value} {h : mj_H} {B : Int} {s : sg_} {tc : tcs} {tr : Int → crs} {M : Int} (L : LAWS tc tr s M) {a : Int} (W : WS sl h B s) (hB : 0 ≤ B ∧ B ≤ 130000000) : wp_R 1199 110 0 [some (.ref 9), some (wp_i a)] [] h (fun v h1 => ∃ y : Int, v = some (wp_i y) ∧ wp_r y ∧ ∃ s1, WS sl h1 (B + (0 : Nat)) s1 ∧ LAWS tc tr s1 M ∧ FQ s s1) :=
  ws_f2 (n := 0) L W (AM 1199 110 sx_K110 rfl) (vs := [.ref 9, wp_i a]) ⟨⟨9, rfl, rfl⟩, ⟨_, rfl, (sx_r32 _).1, (sx_r32 _).2⟩, trivial⟩ (show (1 : Int) + 0 ≤ ((1199 : Nat) : Int) by decide) (by decide) (by omega) (by rw [jn_110]; rfl) (by decide +kernel) (by decide) rfl
theorem tg_112 (AM : lw_AM) {sl : List Value} {h : mj_H} {B : Int} {s : sg_} {tc : tcs} {tr : Int → crs} {M : Int} (L : LAWS tc tr s M) {a : Int} (W : WS sl h B s) (hB : 0 ≤ B ∧ B ≤ 130000000) : wp_R 1199 112 0 [some (.ref 9), some (wp_i a)] [] h (fun v h1 => ∃ y : Int, v = some (wp_i y) ∧ wp_r y ∧ ∃ s1, WS sl h1 (B + (0 : Nat)) s1 ∧ LAWS tc tr s1 M ∧ FQ s s1) :=
  ws_f2 (n := 0) L W (AM 1199 112 sx_K112 rfl) (vs := [.ref 9, wp_i a]) ⟨⟨9, rfl, rfl⟩, ⟨_, rfl, (sx_r32 _).1, (sx_r32 _).2⟩, trivial⟩ (show (1 : Int) + 0 ≤ ((1199 : Nat) : Int) by decide) (by decide) (by omega) (by rw [jn_112]; rfl) (by decide +kernel) (by decide) rfl
theorem tg_121 (AM : lw_AM) {sl : List Value} {h : mj_H} {B : Int} {s : sg_} {tc : tcs} {tr : Int → crs} {M : Int} (L : LAWS tc tr s M) {a : Int} (W : WS sl h B s) (hB : 0 ≤ B ∧ B ≤ 130000000) : wp_R 1199 121 0 [some (.ref 9), some (wp_i a)] [] h (fun v h1 => ∃ y : Int, v = some (wp_i y) ∧ wp_r y ∧ ∃ s1, WS sl h1 (B + (0 : Nat)) s1 ∧ LAWS tc tr s1 M ∧ FQ s s1) :=
  ws_f2 (n := 0) L W (AM 1199 121 sx_K121 rfl) (vs := [.ref 9, wp_i a]) ⟨⟨9, rfl, rfl⟩, ⟨_, rfl, (sx_r32 _).1, (sx_r32 _).2⟩, trivial⟩ (show (2 : Int) + 0 ≤ ((1199 : Nat) : Int) by decide) (by decide) (by omega) (by rw [jn_121]; rfl) (by decide +kernel) (by decide) rfl
theorem tg_126 (AM : lw_AM) {sl : List Value} {h : mj_H} {B : Int} {s : sg_} {tc : tcs} {tr : Int → crs} {M : Int} (L : LAWS tc tr s M) {a : Int} (W : WS sl h B s) (hB : 0 ≤ B ∧ B ≤ 130000000) : wp_R 1199 126 0 [some (.ref 9), some (wp_i a)] [] h (fun v h1 => ∃ y : Int, v = some (wp_i y) ∧ wp_r y ∧ ∃ s1, WS sl h1 (B + (0 : Nat)) s1 ∧ LAWS tc tr s1 M ∧ FQ s s1) :=
  ws_f2 (n := 0) L W (AM 1199 126 sx_K126 rfl) (vs := [.ref 9, wp_i a]) ⟨⟨9, rfl, rfl⟩, ⟨_, rfl, (sx_r32 _).1, (sx_r32 _).2⟩, trivial⟩ (show (2 : Int) + 0 ≤ ((1199 : Nat) : Int) by decide) (by decide) (by omega) (by rw [jn_126]; rfl) (by decide +kernel) (by decide) rfl
theorem tg_129 (AM : lw_AM) {sl : List Value} {h : mj_H} {B : Int} {s : sg_} {tc : tcs} {tr : Int → crs} {M : Int} (L : LAWS tc tr s M) {a : Int} (W : WS sl h B s) (hB : 0 ≤ B ∧ B ≤ 130000000) : wp_R 1199 129 0 [some (.ref 9), some (wp_i a)] [] h (fun v h1 => ∃ y : Int, v = some (wp_i y) ∧ wp_r y ∧ ∃ s1, WS sl h1 (B + (0 : Nat)) s1 ∧ LAWS tc tr s1 M ∧ FQ s s1) :=
  ws_f2 (n := 0) L W (AM 1199 129 sx_K129 rfl) (vs := [.ref 9, wp_i a]) ⟨⟨9, rfl, rfl⟩, ⟨_, rfl, (sx_r32 _).1, (sx_r32 _).2⟩, trivial⟩ (show (1 : Int) + 0 ≤ ((1199 : Nat) : Int) by decide) (by decide) (by omega) (by rw [jn_129]; rfl) (by decide +kernel) (by decide) rfl
theorem tg_131 (AM : lw_AM) {sl : List Value} {h : mj_H} {B : Int} {s : sg_} {tc : tcs} {tr : Int → crs} {M : Int} (L : LAWS tc tr s M) (W : WS sl h B s) (hB : 0 ≤ B ∧ B ≤ 130000000) : wp_R 1199 131 0 [some (.ref 9)] [] h (fun v h1 => ∃ y : Int, v = some (wp_i y) ∧ wp_r y ∧ ∃ s1, WS sl h1 (B + (0 : Nat)) s1 ∧ LAWS tc tr s1 M ∧ FQ s s1) :=
  ws_f2 (n := 0) L W (AM 1199 131 sx_K131 rfl) (vs := [.ref 9]) ⟨⟨9, rfl, rfl⟩, trivial⟩ (show (3 : Int) + 0 ≤ ((1199 : Nat) : Int) by decide) (by decide) (by omega) (by rw [jn_131]; rfl) (by decide +kernel) (by decide) rfl
theorem tg_134 (AM : lw_AM) {sl : List Value} {h : mj_H} {B : Int} {s : sg_} {tc : tcs} {tr : Int → crs} {M : Int} (L : LAWS tc tr s M) {a b c : Int} (hc : c = 0 ∨ c = 1) (W : WS sl h B s) (hB : 0 ≤ B ∧ B ≤ 130000000) : wp_R 1199 134 0 [some (.ref 9), some (wp_i a), some (wp_i b), some (wp_i c), none] [] h (fun v h1 => ∃ y : Int, v = some (wp_i y) ∧ wp_r y ∧ ∃ s1, WS sl h1 (B + (0 : Nat)) s1 ∧ LAWS tc tr s1 M ∧ FQ s s1) :=
  ws_f2 (n := 0) L W (AM 1199 134 sx_K134 rfl) (vs := [.ref 9, wp_i a, wp_i b, wp_i c]) ⟨⟨9, rfl, rfl⟩, ⟨_, rfl, (sx_r32 _).1, (sx_r32 _).2⟩, ⟨_, rfl, (sx_r32 _).1, (sx_r32 _).2⟩, ⟨_, rfl, (by rcases hc with rfl | rfl <;> decide), (by rcases hc with rfl | rfl <;> decide)⟩, trivial⟩ (show (2 : Int) + 0 ≤ ((1199 : Nat) : Int) by decide) (by decide) (by omega) (by rw [jn_134]; rfl) (by decide +kernel) (by decide) rfl
theorem tg_138 (AM : lw_AM) {sl : List Value} {h : mj_H} {B : Int} {s : sg_} {tc : tcs} {tr : Int → crs} {M : Int} (L : LAWS tc tr s M) {a : Int} (W : WS sl h B s) (hB : 0 ≤ B ∧ B ≤ 130000000) : wp_R 1199 138 0 [some (.ref 9), some (wp_i a)] [] h (fun v h1 => ∃ y : Int, v = some (wp_i y) ∧ wp_r y ∧ ∃ s1, WS sl h1 (B + (0 : Nat)) s1 ∧ LAWS tc tr s1 M ∧ FQ s s1) :=
  ws_f2 (n := 0) L W (AM 1199 138 sx_K138 rfl) (vs := [.ref 9, wp_i a]) ⟨⟨9, rfl, rfl⟩, ⟨_, rfl, (sx_r32 _).1, (sx_r32 _).2⟩, trivial⟩ (show (2 : Int) + 0 ≤ ((1199 : Nat) : Int) by decide) (by decide) (by omega) (by rw [jn_138]; rfl) (by decide +kernel) (by decide) rfl
theorem tg_140 (AM : lw_AM) {sl : List Value} {h : mj_H} {B : Int} {s : sg_} {tc : tcs} {tr : Int → crs} {M : Int} (L : LAWS tc tr s M) {a b c : Int} (W : WS sl h B s) (hB : 0 ≤ B ∧ B ≤ 130000000) : wp_R 1199 140 0 [some (.ref 9), some (wp_i a), some (wp_i b), some (wp_i c)] [] h (fun v h1 => ∃ y : Int, v = some (wp_i y) ∧ wp_r y ∧ ∃ s1, WS sl h1 (B + (0 : Nat)) s1 ∧ LAWS tc tr s1 M ∧ FQ s s1) :=
  ws_f2 (n := 0) L W (AM 1199 140 sx_K140 rfl) (vs := [.ref 9, wp_i a, wp_i b, wp_i c]) ⟨⟨9, rfl, rfl⟩, ⟨_, rfl, (sx_r32 _).1, (sx_r32 _).2⟩, ⟨_, rfl, (sx_r32 _).1, (sx_r32 _).2⟩, ⟨_, rfl, (sx_r32 _).1, (sx_r32 _).2⟩, trivial⟩ (show (3 : Int) + 0 ≤ ((1199 : Nat) : Int) by decide) (by decide) (by omega) (by rw [jn_140]; rfl) (by decide +kernel) (by decide) rfl
theorem tg_142 (AM : lw_AM) {sl : List Value} {h : mj_H} {B : Int} {s : sg_} {tc : tcs} {tr : Int → crs} {M : Int} (L : LAWS tc tr s M) {a b c : Int} (W : WS sl h B s) (hB : 0 ≤ B ∧ B ≤ 130000000) : wp_R 1199 142 0 [some (.ref 9), some (wp_i a), some (wp_i b), some (wp_i c), none, none, none, none] [] h (fun v h1 => ∃ y : Int, v = some (wp_i y) ∧ wp_r y ∧ ∃ s1, WS sl h1 (B + (0 : Nat)) s1 ∧ LAWS tc tr s1 M ∧ FQ s s1) :=
  ws_f2 (n := 0) L W (AM 1199 142 sx_K142 rfl) (vs := [.ref 9, wp_i a, wp_i b, wp_i c]) ⟨⟨9, rfl, rfl⟩, ⟨_, rfl, (sx_r32 _).1, (sx_r32 _).2⟩, ⟨_, rfl, (sx_r32 _).1, (sx_r32 _).2⟩, ⟨_, rfl, (sx_r32 _).1, (sx_r32 _).2⟩, trivial⟩ (show (9 : Int) + 0 ≤ ((1199 : Nat) : Int) by decide) (by decide) (by omega) (by rw [jn_142]; rfl) (by decide +kernel) (by decide) rfl
theorem tg_145 (AM : lw_AM) {sl : List Value} {h : mj_H} {B : Int} {s : sg_} {tc : tcs} {tr : Int → crs} {M : Int} (L : LAWS tc tr s M) {a : Int} (ha : a = 0 ∨ a = 1) (W : WS sl h B s) (hB : 0 ≤ B ∧ B ≤ 130000000) : wp_R 1199 145 0 [some (.ref 9), some (wp_i a)] [] h (fun v h1 => ∃ y : Int, v = some (wp_i y) ∧ wp_r y ∧ ∃ s1, WS sl h1 (B + (0 : Nat)) s1 ∧ LAWS tc tr s1 M ∧ FQ s s1) :=
  ws_f2 (n := 0) L W (AM 1199 145 sx_K145 rfl) (vs := [.ref 9, wp_i a]) ⟨⟨9, rfl, rfl⟩, ⟨_, rfl, (by rcases ha with rfl | rfl <;> decide), (by rcases ha with rfl | rfl <;> decide)⟩, trivial⟩ (show (3 : Int) + 0 ≤ ((1199 : Nat) : Int) by decide) (by decide) (by omega) (by rw [jn_145]; rfl) (by decide +kernel) (by decide) rfl
theorem tg_153 (AM : lw_AM) {sl : List Value} {h : mj_H} {B : Int} {s : sg_} {tc : tcs} {tr : Int → crs} {M : Int} (L : LAWS tc tr s M) {a : Int} (W : WS sl h B s) (hB : 0 ≤ B ∧ B ≤ 130000000) : wp_R 1199 153 0 [some (.ref 9), some (wp_i a), none, none] [] h (fun v h1 => ∃ y : Int, v = some (wp_i y) ∧ wp_r y ∧ ∃ s1, WS sl h1 (B + (0 : Nat)) s1 ∧ LAWS tc tr s1 M ∧ FQ s s1) :=
  ws_f2 (n := 0) L W (AM 1199 153 sx_K153 rfl) (vs := [.ref 9, wp_i a]) ⟨⟨9, rfl, rfl⟩, ⟨_, rfl, (sx_r32 _).1, (sx_r32 _).2⟩, trivial⟩ (show (3 : Int) + 0 ≤ ((1199 : Nat) : Int) by decide) (by decide) (by omega) (by rw [jn_153]; rfl) (by decide +kernel) (by decide) rfl
theorem tg_158 (AM : lw_AM) {sl : List Value} {h : mj_H} {B : Int} {s : sg_} {tc : tcs} {tr : Int → crs} {M : Int} (L : LAWS tc tr s M) {a b : Int} (W : WS sl h B s) (hB : 0 ≤ B ∧ B ≤ 130000000) : wp_R 1199 158 0 [some (.ref 9), some (wp_i a), some (wp_i b), none] [] h (fun v h1 => ∃ y : Int, v = some (wp_i y) ∧ wp_r y ∧ ∃ s1, WS sl h1 (B + (0 : Nat)) s1 ∧ LAWS tc tr s1 M ∧ FQ s s1) :=
  ws_f2 (n := 0) L W (AM 1199 158 sx_K158 rfl) (vs := [.ref 9, wp_i a, wp_i b]) ⟨⟨9, rfl, rfl⟩, ⟨_, rfl, (sx_r32 _).1, (sx_r32 _).2⟩, ⟨_, rfl, (sx_r32 _).1, (sx_r32 _).2⟩, trivial⟩ (show (2 : Int) + 0 ≤ ((1199 : Nat) : Int) by decide) (by decide) (by omega) (by rw [jn_158]; rfl) (by decide +kernel) (by decide) rfl
theorem tg_167 (AM : lw_AM) {sl : List Value} {h : mj_H} {B : Int} {s : sg_} {tc : tcs} {tr : Int → crs} {M : Int} (L : LAWS tc tr s M) {a : Int} (W : WS sl h B s) (hB : 0 ≤ B ∧ B ≤ 130000000) : wp_R 1199 167 0 [some (.ref 9), some (wp_i a)] [] h (fun v h1 => ∃ y : Int, v = some (wp_i y) ∧ wp_r y ∧ ∃ s1, WS sl h1 (B + (0 : Nat)) s1 ∧ LAWS tc tr s1 M ∧ FQ s s1) :=
  ws_f2 (n := 0) L W (AM 1199 167 sx_K167 rfl) (vs := [.ref 9, wp_i a]) ⟨⟨9, rfl, rfl⟩, ⟨_, rfl, (sx_r32 _).1, (sx_r32 _).2⟩, trivial⟩ (show (0 : Int) + 0 ≤ ((1199 : Nat) : Int) by decide) (by decide) (by omega) (by rw [jn_167]; rfl) (by decide +kernel) (by decide) rfl
theorem tg_259 (AM : lw_AM) {sl : List Value} {h : mj_H} {B : Int} {s : sg_} {tc : tcs} {tr : Int → crs} {M : Int} (L : LAWS tc tr s M) {a b : Int} (W : WS sl h B s) (hB : 0 ≤ B ∧ B ≤ 130000000) : wp_R 1199 259 0 [some (.ref 138), some (wp_i a), some (wp_i b)] [] h (fun v h1 => ∃ y : Int, v = some (wp_i y) ∧ wp_r y ∧ ∃ s1, WS sl h1 (B + (0 : Nat)) s1 ∧ LAWS tc tr s1 M ∧ FQ s s1) :=
  ws_f2 (n := 0) L W (AM 1199 259 sx_K259 rfl) (vs := [.ref 138, wp_i a, wp_i b]) ⟨⟨138, rfl, rfl⟩, ⟨_, rfl, (sx_r32 _).1, (sx_r32 _).2⟩, ⟨_, rfl, (sx_r32 _).1, (sx_r32 _).2⟩, trivial⟩ (show (3 : Int) + 0 ≤ ((1199 : Nat) : Int) by decide) (by decide) (by omega) (by rw [jn_259]; rfl) (by decide +kernel) (by decide) rfl
theorem tg_260 (AM : lw_AM) {sl : List Value} {h : mj_H} {B : Int} {s : sg_} {tc : tcs} {tr : Int → crs} {M : Int} (L : LAWS tc tr s M) {a b : Int} (W : WS sl h B s) (hB : 0 ≤ B ∧ B ≤ 130000000) : wp_R 1199 260 0 [some (.ref 138), some (wp_i a), some (wp_i b)] [] h (fun v h1 => ∃ y : Int, v = some (wp_i y) ∧ wp_r y ∧ ∃ s1, WS sl h1 (B + (0 : Nat)) s1 ∧ LAWS tc tr s1 M ∧ FQ s s1) :=
  ws_f2 (n := 0) L W (AM 1199 260 sx_K260 rfl) (vs := [.ref 138, wp_i a, wp_i b]) ⟨⟨138, rfl, rfl⟩, ⟨_, rfl, (sx_r32 _).1, (sx_r32 _).2⟩, ⟨_, rfl, (sx_r32 _).1, (sx_r32 _).2⟩, trivial⟩ (show (3 : Int) + 0 ≤ ((1199 : Nat) : Int) by decide) (by decide) (by omega) (by rw [jn_260]; rfl) (by decide +kernel) (by decide) rfl
theorem tg_264 (AM : lw_AM) {sl : List Value} {h : mj_H} {B : Int} {s : sg_} {tc : tcs} {tr : Int → crs} {M : Int} (L : LAWS tc tr s M) {a b c : Int} (W : WS sl h B s) (hB : 0 ≤ B ∧ B ≤ 130000000) : wp_R 1199 264 0 [some (.ref 138), some (wp_i a), some (wp_i b), some (wp_i c)] [] h (fun v h1 => ∃ y : Int, v = some (wp_i y) ∧ wp_r y ∧ ∃ s1, WS sl h1 (B + (0 : Nat)) s1 ∧ LAWS tc tr s1 M ∧ FQ s s1) :=
  ws_f2 (n := 0) L W (AM 1199 264 sx_K264 rfl) (vs := [.ref 138, wp_i a, wp_i b, wp_i c]) ⟨⟨138, rfl, rfl⟩, ⟨_, rfl, (sx_r32 _).1, (sx_r32 _).2⟩, ⟨_, rfl, (sx_r32 _).1, (sx_r32 _).2⟩, ⟨_, rfl, (sx_r32 _).1, (sx_r32 _).2⟩, trivial⟩ (show (11 : Int) + 0 ≤ ((1199 : Nat) : Int) by decide) (by decide) (by omega) (by rw [jn_264]; rfl) (by decide +kernel) (by decide) rfl
theorem tg_265 (AM : lw_AM) {sl : List Value} {h : mj_H} {B : Int} {s : sg_} {tc : tcs} {tr : Int → crs} {M : Int} (L : LAWS tc tr s M) {a : Int} (W : WS sl h B s) (hB : 0 ≤ B ∧ B ≤ 130000000) : wp_R 1199 265 0 [some (.ref 138), some (wp_i a)] [] h (fun v h1 => ∃ y : Int, v = some (wp_i y) ∧ wp_r y ∧ ∃ s1, WS sl h1 (B + (0 : Nat)) s1 ∧ LAWS tc tr s1 M ∧ FQ s s1) :=
  ws_f2 (n := 0) L W (AM 1199 265 sx_K265 rfl) (vs := [.ref 138, wp_i a]) ⟨⟨138, rfl, rfl⟩, ⟨_, rfl, (sx_r32 _).1, (sx_r32 _).2⟩, trivial⟩ (show (1 : Int) + 0 ≤ ((1199 : Nat) : Int) by decide) (by decide) (by omega) (by rw [jn_265]; rfl) (by decide +kernel) (by decide) rfl
theorem tg_266 (AM : lw_AM) {sl : List Value} {h : mj_H} {B : Int} {s : sg_} {tc : tcs} {tr : Int → crs} {M : Int} (L : LAWS tc tr s M) {a b : Int} (W : WS sl h B s) (hB : 0 ≤ B ∧ B ≤ 130000000) : wp_R 1199 266 0 [some (.ref 138), some (wp_i a), some (wp_i b)] [] h (fun v h1 => ∃ y : Int, v = some (wp_i y) ∧ wp_r y ∧ ∃ s1, WS sl h1 (B + (0 : Nat)) s1 ∧ LAWS tc tr s1 M ∧ FQ s s1) :=
  ws_f2 (n := 0) L W (AM 1199 266 sx_K266 rfl) (vs := [.ref 138, wp_i a, wp_i b]) ⟨⟨138, rfl, rfl⟩, ⟨_, rfl, (sx_r32 _).1, (sx_r32 _).2⟩, ⟨_, rfl, (sx_r32 _).1, (sx_r32 _).2⟩, trivial⟩ (show (2 : Int) + 0 ≤ ((1199 : Nat) : Int) by decide) (by decide) (by omega) (by rw [jn_266]; rfl) (by decide +kernel) (by decide) rfl
theorem tg_269 (AM : lw_AM) {sl : List Value} {h : mj_H} {B : Int} {s : sg_} {tc : tcs} {tr : Int → crs} {M : Int} (L : LAWS tc tr s M) {a : Int} (W : WS sl h B s) (hB : 0 ≤ B ∧ B ≤ 130000000) : wp_R 1199 269 0 [some (.ref 138), some (wp_i a), none, none, none] [] h (fun v h1 => ∃ y : Int, v = some (wp_i y) ∧ wp_r y ∧ ∃ s1, WS sl h1 (B + (0 : Nat)) s1 ∧ LAWS tc tr s1 M ∧ FQ s s1) :=
  ws_f2 (n := 0) L W (AM 1199 269 sx_K269 rfl) (vs := [.ref 138, wp_i a]) ⟨⟨138, rfl, rfl⟩, ⟨_, rfl, (sx_r32 _).1, (sx_r32 _).2⟩, trivial⟩ (show (2 : Int) + 0 ≤ ((1199 : Nat) : Int) by decide) (by decide) (by omega) (by rw [jn_269]; rfl) (by decide +kernel) (by decide) rfl
theorem tg_270 (AM : lw_AM) {sl : List Value} {h : mj_H} {B : Int} {s : sg_} {tc : tcs} {tr : Int → crs} {M : Int} (L : LAWS tc tr s M) {a : Int} (W : WS sl h B s) (hB : 0 ≤ B ∧ B ≤ 130000000) : wp_R 1199 270 0 [some (.ref 138), some (wp_i a), none, none, none, none] [] h (fun v h1 => ∃ y : Int, v = some (wp_i y) ∧ wp_r y ∧ ∃ s1, WS sl h1 (B + (0 : Nat)) s1 ∧ LAWS tc tr s1 M ∧ FQ s s1) :=
  ws_f2 (n := 0) L W (AM 1199 270 sx_K270 rfl) (vs := [.ref 138, wp_i a]) ⟨⟨138, rfl, rfl⟩, ⟨_, rfl, (sx_r32 _).1, (sx_r32 _).2⟩, trivial⟩ (show (2 : Int) + 0 ≤ ((1199 : Nat) : Int) by decide) (by decide) (by omega) (by rw [jn_270]; rfl) (by decide +kernel) (by decide) rfl
theorem tg_285 (AM : lw_AM) {sl : List Value} {h : mj_H} {B : Int} {s : sg_} {tc : tcs} {tr : Int → crs} {M : Int} (L : LAWS tc tr s M) {a : Int} (W : WS sl h B s) (hB : 0 ≤ B ∧ B ≤ 130000000) : wp_R 1199 285 0 [some (.ref 138), some (wp_i a), none, none, none, none, none, none] [] h (fun v h1 => ∃ y : Int, v = some (wp_i y) ∧ wp_r y ∧ ∃ s1, WS sl h1 (B + (0 : Nat)) s1 ∧ LAWS tc tr s1 M ∧ FQ s s1) :=
  ws_f2 (n := 0) L W (AM 1199 285 sx_K285 rfl) (vs := [.ref 138, wp_i a]) ⟨⟨138, rfl, rfl⟩, ⟨_, rfl, (sx_r32 _).1, (sx_r32 _).2⟩, trivial⟩ (show (3 : Int) + 0 ≤ ((1199 : Nat) : Int) by decide) (by decide) (by omega) (by rw [jn_285]; rfl) (by decide +kernel) (by decide) rfl
theorem tg_288 (AM : lw_AM) {sl : List Value} {h : mj_H} {B : Int} {s : sg_} {tc : tcs} {tr : Int → crs} {M : Int} (L : LAWS tc tr s M) {a : Int} (W : WS sl h B s) (hB : 0 ≤ B ∧ B ≤ 130000000) : wp_R 1199 288 0 [some (.ref 138), some (wp_i a), none, none] [] h (fun v h1 => ∃ y : Int, v = some (wp_i y) ∧ wp_r y ∧ ∃ s1, WS sl h1 (B + (0 : Nat)) s1 ∧ LAWS tc tr s1 M ∧ FQ s s1) :=
  ws_f2 (n := 0) L W (AM 1199 288 sx_K288 rfl) (vs := [.ref 138, wp_i a]) ⟨⟨138, rfl, rfl⟩, ⟨_, rfl, (sx_r32 _).1, (sx_r32 _).2⟩, trivial⟩ (show (2 : Int) + 0 ≤ ((1199 : Nat) : Int) by decide) (by decide) (by omega) (by rw [jn_288]; rfl) (by decide +kernel) (by decide) rfl
theorem tg_290 (AM : lw_AM) {sl : List Value} {h : mj_H} {B : Int} {s : sg_} {tc : tcs} {tr : Int → crs} {M : Int} (L : LAWS tc tr s M) {a : Int} (W : WS sl h B s) (hB : 0 ≤ B ∧ B ≤ 130000000) : wp_R 1199 290 0 [some (.ref 138), some (wp_i a), none] [] h (fun v h1 => ∃ y : Int, v = some (wp_i y) ∧ wp_r y ∧ ∃ s1, WS sl h1 (B + (0 : Nat)) s1 ∧ LAWS tc tr s1 M ∧ FQ s s1) :=
  ws_f2 (n := 0) L W (AM 1199 290 sx_K290 rfl) (vs := [.ref 138, wp_i a]) ⟨⟨138, rfl, rfl⟩, ⟨_, rfl, (sx_r32 _).1, (sx_r32 _).2⟩, trivial⟩ (show (2 : Int) + 0 ≤ ((1199 : Nat) : Int) by decide) (by decide) (by omega) (by rw [jn_290]; rfl) (by decide +kernel) (by decide) rfl
theorem tg_292 (AM : lw_AM) {sl : List Value} {h : mj_H} {B : Int} {s : sg_} {tc : tcs} {tr : Int → crs} {M : Int} (L : LAWS tc tr s M) (W : WS sl h B s) (hB : 0 ≤ B ∧ B ≤ 130000000) : wp_R 1199 292 0 [some (.ref 138), none, none, none, none, none] [] h (fun v h1 => ∃ y : Int, v = some (wp_i y) ∧ wp_r y ∧ ∃ s1, WS sl h1 (B + (0 : Nat)) s1 ∧ LAWS tc tr s1 M ∧ FQ s s1) :=
  ws_f2 (n := 0) L W (AM 1199 292 sx_K292 rfl) (vs := [.ref 138]) ⟨⟨138, rfl, rfl⟩, trivial⟩ (show (1 : Int) + 0 ≤ ((1199 : Nat) : Int) by decide) (by decide) (by omega) (by rw [jn_292]; rfl) (by decide +kernel) (by decide) rfl
theorem tg_293 (AM : lw_AM) {sl : List Value} {h : mj_H} {B : Int} {s : sg_} {tc : tcs} {tr : Int → crs} {M : Int} (L : LAWS tc tr s M) {a b c : Int} (hc : c = 0 ∨ c = 1) (W : WS sl h B s) (hB : 0 ≤ B ∧ B ≤ 130000000) : wp_R 1199 293 0 [some (.ref 138), some (wp_i a), some (wp_i b), some (wp_i c), none] [] h (fun v h1 => ∃ y : Int, v = some (wp_i y) ∧ wp_r y ∧ ∃ s1, WS sl h1 (B + (0 : Nat)) s1 ∧ LAWS tc tr s1 M ∧ FQ s s1) :=
  ws_f2 (n := 0) L W (AM 1199 293 sx_K293 rfl) (vs := [.ref 138, wp_i a, wp_i b, wp_i c]) ⟨⟨138, rfl, rfl⟩, ⟨_, rfl, (sx_r32 _).1, (sx_r32 _).2⟩, ⟨_, rfl, (sx_r32 _).1, (sx_r32 _).2⟩, ⟨_, rfl, (by rcases hc with rfl | rfl <;> decide), (by rcases hc with rfl | rfl <;> decide)⟩, trivial⟩ (show (10 : Int) + 0 ≤ ((1199 : Nat) : Int) by decide) (by decide) (by omega) (by rw [jn_293]; rfl) (by decide +kernel) (by decide) rfl
theorem tg_297 (AM : lw_AM) {sl : List Value} {h : mj_H} {B : Int} {s : sg_} {tc : tcs} {tr : Int → crs} {M : Int} (L : LAWS tc tr s M) {a : Int} (W : WS sl h B s) (hB : 0 ≤ B ∧ B ≤ 130000000) : wp_R 1199 297 0 [some (.ref 138), some (wp_i a), none, none, none] [] h (fun v h1 => ∃ y : Int, v = some (wp_i y) ∧ wp_r y ∧ ∃ s1, WS sl h1 (B + (0 : Nat)) s1 ∧ LAWS tc tr s1 M ∧ FQ s s1) :=
  ws_f2 (n := 0) L W (AM 1199 297 sx_K297 rfl) (vs := [.ref 138, wp_i a]) ⟨⟨138, rfl, rfl⟩, ⟨_, rfl, (sx_r32 _).1, (sx_r32 _).2⟩, trivial⟩ (show (1 : Int) + 0 ≤ ((1199 : Nat) : Int) by decide) (by decide) (by omega) (by rw [jn_297]; rfl) (by decide +kernel) (by decide) rfl
theorem tg_298 (AM : lw_AM) {sl : List Value} {h : mj_H} {B : Int} {s : sg_} {tc : tcs} {tr : Int → crs} {M : Int} (L : LAWS tc tr s M) {a b c : Int} (W : WS sl h B s) (hB : 0 ≤ B ∧ B ≤ 130000000) : wp_R 1199 298 0 [some (.ref 138), some (wp_i a), some (wp_i b), some (wp_i c), none, none, none, none, none, none] [] h (fun v h1 => ∃ y : Int, v = some (wp_i y) ∧ wp_r y ∧ ∃ s1, WS sl h1 (B + (0 : Nat)) s1 ∧ LAWS tc tr s1 M ∧ FQ s s1) :=
  ws_f2 (n := 0) L W (AM 1199 298 sx_K298 rfl) (vs := [.ref 138, wp_i a, wp_i b, wp_i c]) ⟨⟨138, rfl, rfl⟩, ⟨_, rfl, (sx_r32 _).1, (sx_r32 _).2⟩, ⟨_, rfl, (sx_r32 _).1, (sx_r32 _).2⟩, ⟨_, rfl, (sx_r32 _).1, (sx_r32 _).2⟩, trivial⟩ (show (10 : Int) + 0 ≤ ((1199 : Nat) : Int) by decide) (by decide) (by omega) (by rw [jn_298]; rfl) (by decide +kernel) (by decide) rfl
theorem tg_299 (AM : lw_AM) {sl : List Value} {h : mj_H} {B : Int} {s : sg_} {tc : tcs} {tr : Int → crs} {M : Int} (L : LAWS tc tr s M) {a b c : Int} (W : WS sl h B s) (hB : 0 ≤ B ∧ B ≤ 130000000) : wp_R 1199 299 0 [some (.ref 138), some (wp_i a), some (wp_i b), some (wp_i c), none, none, none, none] [] h (fun v h1 => ∃ y : Int, v = some (wp_i y) ∧ wp_r y ∧ ∃ s1, WS sl h1 (B + (0 : Nat)) s1 ∧ LAWS tc tr s1 M ∧ FQ s s1) :=
  ws_f2 (n := 0) L W (AM 1199 299 sx_K299 rfl) (vs := [.ref 138, wp_i a, wp_i b, wp_i c]) ⟨⟨138, rfl, rfl⟩, ⟨_, rfl, (sx_r32 _).1, (sx_r32 _).2⟩, ⟨_, rfl, (sx_r32 _).1, (sx_r32 _).2⟩, ⟨_, rfl, (sx_r32 _).1, (sx_r32 _).2⟩, trivial⟩ (show (9 : Int) + 0 ≤ ((1199 : Nat) : Int) by decide) (by decide) (by omega) (by rw [jn_299]; rfl) (by decide +kernel) (by decide) rfl
theorem tg_301 (AM : lw_AM) {sl : List Value} {h : mj_H} {B : Int} {s : sg_} {tc : tcs} {tr : Int → crs} {M : Int} (L : LAWS tc tr s M) {a : Int} (ha : a = 0 ∨ a = 1) (W : WS sl h B s) (hB : 0 ≤ B ∧ B ≤ 130000000) : wp_R 1199 301 0 [some (.ref 138), some (wp_i a), none, none, none, none, none] [] h (fun v h1 => ∃ y : Int, v = some (wp_i y) ∧ wp_r y ∧ ∃ s1, WS sl h1 (B + (0 : Nat)) s1 ∧ LAWS tc tr s1 M ∧ FQ s s1) :=
  ws_f2 (n := 0) L W (AM 1199 301 sx_K301 rfl) (vs := [.ref 138, wp_i a]) ⟨⟨138, rfl, rfl⟩, ⟨_, rfl, (by rcases ha with rfl | rfl <;> decide), (by rcases ha with rfl | rfl <;> decide)⟩, trivial⟩ (show (3 : Int) + 0 ≤ ((1199 : Nat) : Int) by decide) (by decide) (by omega) (by rw [jn_301]; rfl) (by decide +kernel) (by decide) rfl
theorem tg_307 (AM : lw_AM) {sl : List Value} {h : mj_H} {B : Int} {s : sg_} {tc : tcs} {tr : Int → crs} {M : Int} (L : LAWS tc tr s M) {a : Int} (W : WS sl h B s) (hB : 0 ≤ B ∧ B ≤ 130000000) : wp_R 1199 307 0 [some (.ref 138), some (wp_i a), none] [] h (fun v h1 => ∃ y : Int, v = some (wp_i y) ∧ wp_r y ∧ ∃ s1, WS sl h1 (B + (0 : Nat)) s1 ∧ LAWS tc tr s1 M ∧ FQ s s1) :=
  ws_f2 (n := 0) L W (AM 1199 307 sx_K307 rfl) (vs := [.ref 138, wp_i a]) ⟨⟨138, rfl, rfl⟩, ⟨_, rfl, (sx_r32 _).1, (sx_r32 _).2⟩, trivial⟩ (show (10 : Int) + 0 ≤ ((1199 : Nat) : Int) by decide) (by decide) (by omega) (by rw [jn_307]; rfl) (by decide +kernel) (by decide) rfl
theorem tg_311 (AM : lw_AM) {sl : List Value} {h : mj_H} {B : Int} {s : sg_} {tc : tcs} {tr : Int → crs} {M : Int} (L : LAWS tc tr s M) {a b : Int} (W : WS sl h B s) (hB : 0 ≤ B ∧ B ≤ 130000000) : wp_R 1199 311 0 [some (.ref 138), some (wp_i a), some (wp_i b), none] [] h (fun v h1 => ∃ y : Int, v = some (wp_i y) ∧ wp_r y ∧ ∃ s1, WS sl h1 (B + (0 : Nat)) s1 ∧ LAWS tc tr s1 M ∧ FQ s s1) :=
  ws_f2 (n := 0) L W (AM 1199 311 sx_K311 rfl) (vs := [.ref 138, wp_i a, wp_i b]) ⟨⟨138, rfl, rfl⟩, ⟨_, rfl, (sx_r32 _).1, (sx_r32 _).2⟩, ⟨_, rfl, (sx_r32 _).1, (sx_r32 _).2⟩, trivial⟩ (show (9 : Int) + 0 ≤ ((1199 : Nat) : Int) by decide) (by decide) (by omega) (by rw [jn_311]; rfl) (by decide +kernel) (by decide) rfl
theorem tg_314 (AM : lw_AM) {sl : List Value} {h : mj_H} {B : Int} {s : sg_} {tc : tcs} {tr : Int → crs} {M : Int} (L : LAWS tc tr s M) {a : Int} (W : WS sl h B s) (hB : 0 ≤ B ∧ B ≤ 130000000) : wp_R 1199 314 0 [some (.ref 138), some (wp_i a)] [] h (fun v h1 => ∃ y : Int, v = some (wp_i y) ∧ wp_r y ∧ ∃ s1, WS sl h1 (B + (0 : Nat)) s1 ∧ LAWS tc tr s1 M ∧ FQ s s1) :=
  ws_f2 (n := 0) L W (AM 1199 314 sx_K314 rfl) (vs := [.ref 138, wp_i a]) ⟨⟨138, rfl, rfl⟩, ⟨_, rfl, (sx_r32 _).1, (sx_r32 _).2⟩, trivial⟩ (show (1 : Int) + 0 ≤ ((1199 : Nat) : Int) by decide) (by decide) (by omega) (by rw [jn_314]; rfl) (by decide +kernel) (by decide) rfl
theorem tg_104 (AM : lw_AM) {sl : List Value} {h : mj_H} {B : Int} {s : sg_} {tc : tcs} {tr : Int → crs} {M : Int} (L : LAWS tc tr s M) {a : Int} (ra : wp_r a) (hMM : M ≤ 900000000) (W : WS sl h B s) (hB : 0 ≤ B ∧ B ≤ 130000000) : wp_R 1199 104 0 [some (.ref 9), some (wp_i a)] [] h (fun v h1 => ∃ y : Int, v = some (wp_i y) ∧ wp_r y ∧ ∃ s1, WS sl h1 (B + (0 : Nat)) s1 ∧ LAWS tc tr s1 M ∧ FQ s s1) := by
  have N := INV_NV L.1
  have T := INV_RT L.1
  have C := W.2.2.2
  refine wp_mono (ws_g (n := 0) (P := fun _ t => LAWS tc tr t M ∧ FQ s t) W (AM 1199 104 sx_K104 rfl) (vs := [.ref 9, wp_i a]) ⟨⟨9, rfl, rfl⟩, ⟨_, rfl, (sx_r32 _).1, (sx_r32 _).2⟩, trivial⟩ (show (6 : Int) + 0 ≤ ((1199 : Nat) : Int) by decide) (by decide) (by omega) (by rw [jn_104]; rfl) (by decide +kernel) (fun nn => wl_mono (uc_104 (d := 1193) C N ra) (fun v h1 R => ?_))) ?_
  · rcases R with ⟨-, -, C⟩ | ⟨-, t, -, fr, -, C⟩
    · exact ⟨s, C, ⟨L, fun _ _ _ => rfl⟩⟩
    · have e : ∀ (b : Nat) (j : Int), ¬ (95 ≤ b ∧ b ≤ 137) → lkC (tc (rulT s)) 98 t a.toNat b j = s b j := fun b j hb => (lkC_fr (by omega) (by omega) (by omega) _).trans (fr b j (by omega))
      exact ⟨_, C, LAWS_l L e, fun b j hb => e b j (by omega)⟩
  · rintro v h1 ⟨k, s1, W1, L1⟩
    obtain ⟨y, e, r⟩ := an_i k
    exact ⟨y, e, r, s1, W1, L1⟩
theorem tg_109 (AM : lw_AM) {sl : List Value} {h : mj_H} {B : Int} {s : sg_} {tc : tcs} {tr : Int → crs} {M : Int} (L : LAWS tc tr s M) {a : Int} (ra : wp_r a) (hMM : M ≤ 900000000) (W : WS sl h B s) (hB : 0 ≤ B ∧ B ≤ 130000000) : wp_R 1199 109 0 [some (.ref 9), some (wp_i a)] [] h (fun v h1 => ∃ y : Int, v = some (wp_i y) ∧ wp_r y ∧ ∃ s1, WS sl h1 (B + (0 : Nat)) s1 ∧ LAWS tc tr s1 M ∧ FQ s s1) := by
  have N := INV_NV L.1
  have T := INV_RT L.1
  have C := W.2.2.2
  refine wp_mono (ws_g (n := 0) (P := fun _ t => LAWS tc tr t M ∧ FQ s t) W (AM 1199 109 sx_K109 rfl) (vs := [.ref 9, wp_i a]) ⟨⟨9, rfl, rfl⟩, ⟨_, rfl, (sx_r32 _).1, (sx_r32 _).2⟩, trivial⟩ (show (6 : Int) + 0 ≤ ((1199 : Nat) : Int) by decide) (by decide) (by omega) (by rw [jn_109]; rfl) (by decide +kernel) (fun nn => wl_mono (uc_109 (d := 1193) C N ra) (fun v h1 R => ?_))) ?_
  · rcases R with ⟨-, -, C⟩ | ⟨-, t, -, fr, -, C⟩
    · exact ⟨s, C, ⟨L, fun _ _ _ => rfl⟩⟩
    · have e : ∀ (b : Nat) (j : Int), ¬ (95 ≤ b ∧ b ≤ 137) → lkC (tc (rulT s)) 98 t a.toNat b j = s b j := fun b j hb => (lkC_fr (by omega) (by omega) (by omega) _).trans (fr b j (by omega))
      exact ⟨_, C, LAWS_l L e, fun b j hb => e b j (by omega)⟩
  · rintro v h1 ⟨k, s1, W1, L1⟩
    obtain ⟨y, e, r⟩ := an_i k
    exact ⟨y, e, r, s1, W1, L1⟩
theorem tg_108 (AM : lw_AM) {sl : List Value} {h : mj_H} {B : Int} {s : sg_} {tc : tcs} {tr : Int → crs} {M : Int} (L : LAWS tc tr s M) {a b c : Int} (ra : wp_r a) (rb : wp_r b) (rc : wp_r c) (hMM : M ≤ 900000000) (W : WS sl h B s) (hB : 0 ≤ B ∧ B ≤ 130000000) : wp_R 1199 108 0 [some (.ref 9), some (wp_i a), some (wp_i b), some (wp_i c)] [] h (fun v h1 => ∃ y : Int, v = some (wp_i y) ∧ wp_r y ∧ ∃ s1, WS sl h1 (B + (0 : Nat)) s1 ∧ LAWS tc tr s1 M ∧ FQ s s1) := by
  have N := INV_NV L.1
  have T := INV_RT L.1
  have C := W.2.2.2
  refine wp_mono (ws_g (n := 0) (P := fun _ t => LAWS tc tr t M ∧ FQ s t) W (AM 1199 108 sx_K108 rfl) (vs := [.ref 9, wp_i a, wp_i b, wp_i c]) ⟨⟨9, rfl, rfl⟩, ⟨_, rfl, (sx_r32 _).1, (sx_r32 _).2⟩, ⟨_, rfl, (sx_r32 _).1, (sx_r32 _).2⟩, ⟨_, rfl, (sx_r32 _).1, (sx_r32 _).2⟩, trivial⟩ (show (6 : Int) + 0 ≤ ((1199 : Nat) : Int) by decide) (by decide) (by omega) (by rw [jn_108]; rfl) (by decide +kernel) (fun nn => wl_mono (uc_108 (d := 1193) C N ra rb rc) (fun v h1 R => ?_))) ?_
  · rcases R with ⟨-, -, C⟩ | ⟨-, t, -, fr, -, C⟩
    · exact ⟨s, C, ⟨L, fun _ _ _ => rfl⟩⟩
    · have e : ∀ (b : Nat) (j : Int), ¬ (95 ≤ b ∧ b ≤ 137) → lkC (tc (rulT s)) 98 t a.toNat b j = s b j := fun b j hb => (lkC_fr (by omega) (by omega) (by omega) _).trans (fr b j (by omega))
      exact ⟨_, C, LAWS_l L e, fun b j hb => e b j (by omega)⟩
  · rintro v h1 ⟨k, s1, W1, L1⟩
    obtain ⟨y, e, r⟩ := an_i k
    exact ⟨y, e, r, s1, W1, L1⟩
theorem tg_114 (AM : lw_AM) {sl : List Value} {h : mj_H} {B : Int} {s : sg_} {tc : tcs} {tr : Int → crs} {M : Int} (L : LAWS tc tr s M) {a b c : Int} (hc : c = 0 ∨ c = 1) (ra : wp_r a) (rb : wp_r b) (hMM : M ≤ 900000000) (W : WS sl h B s) (hB : 0 ≤ B ∧ B ≤ 130000000) : wp_R 1199 114 0 [some (.ref 9), some (wp_i a), some (wp_i b), some (wp_i c), none, none] [] h (fun v h1 => ∃ y : Int, v = some (wl_L y) ∧ ∃ s1, WS sl h1 (B + (0 : Nat)) s1 ∧ LAWS tc tr s1 M ∧ FQ s s1) := by
  have N := INV_NV L.1
  have T := INV_RT L.1
  have C := W.2.2.2
  refine wp_mono (ws_g (n := 0) (P := fun _ t => LAWS tc tr t M ∧ FQ s t) W (AM 1199 114 sx_K114 rfl) (vs := [.ref 9, wp_i a, wp_i b, wp_i c]) ⟨⟨9, rfl, rfl⟩, ⟨_, rfl, (sx_r32 _).1, (sx_r32 _).2⟩, ⟨_, rfl, (sx_r32 _).1, (sx_r32 _).2⟩, ⟨_, rfl, (by rcases hc with rfl | rfl <;> decide), (by rcases hc with rfl | rfl <;> decide)⟩, trivial⟩ (show (9 : Int) + 0 ≤ ((1199 : Nat) : Int) by decide) (by decide) (by omega) (by rw [jn_114]; rfl) (by decide +kernel) (fun nn => wl_mono (uc_114 (d := 1190) (r := s) C N T.2 T.1.rs.2.2.2.2.2.2 ra rb hc L.1.1.2.1 T.1.rs.g T.1.b.1) (fun v h1 R => ?_))) ?_
  · rcases R with ⟨-, -, C⟩ | ⟨-, -, t, fr, C⟩
    · exact ⟨s, C, ⟨L, fun _ _ _ => rfl⟩⟩
    · have e : ∀ (b : Nat) (j : Int), ¬ (95 ≤ b ∧ b ≤ 137) → t b j = s b j := fun b j hb => fr b j (by omega) (by omega)
      exact ⟨_, C, LAWS_l L e, fun b j hb => e b j (by omega)⟩
  · rintro v h1 ⟨k, s1, W1, L1⟩
    obtain ⟨y, e⟩ := an_l k
    exact ⟨y, e, s1, W1, L1⟩
theorem tg_118 (AM : lw_AM) {sl : List Value} {h : mj_H} {B : Int} {s : sg_} {tc : tcs} {tr : Int → crs} {M : Int} (L : LAWS tc tr s M) {a b c : Int} (ra : wp_r a) (rb : wp_r b) (rc : wp_r c) (hMM : M ≤ 900000000) (W : WS sl h B s) (hB : 0 ≤ B ∧ B ≤ 130000000) : wp_R 1199 118 0 [some (.ref 9), some (wp_i a), some (wp_i b), some (wp_i c), none] [] h (fun v h1 => ∃ y : Int, v = some (wp_i y) ∧ wp_r y ∧ ∃ s1, WS sl h1 (B + (0 : Nat)) s1 ∧ LAWS tc tr s1 M ∧ FQ s s1) := by
  have N := INV_NV L.1
  have T := INV_RT L.1
  have C := W.2.2.2
  refine wp_mono (ws_g (n := 0) (P := fun _ t => LAWS tc tr t M ∧ FQ s t) W (AM 1199 118 sx_K118 rfl) (vs := [.ref 9, wp_i a, wp_i b, wp_i c]) ⟨⟨9, rfl, rfl⟩, ⟨_, rfl, (sx_r32 _).1, (sx_r32 _).2⟩, ⟨_, rfl, (sx_r32 _).1, (sx_r32 _).2⟩, ⟨_, rfl, (sx_r32 _).1, (sx_r32 _).2⟩, trivial⟩ (show (11 : Int) + 0 ≤ ((1199 : Nat) : Int) by decide) (by decide) (by omega) (by rw [jn_118]; rfl) (by decide +kernel) (fun nn => wl_mono (uc_118 (d := 1189) C N ra rb rc) (fun v h1 R => ?_))) ?_
  · obtain ⟨yy, -, t, C, fr⟩ := R
    · have e : ∀ (b : Nat) (j : Int), ¬ (95 ≤ b ∧ b ≤ 137) → t b j = s b j := fun b j hb => fr b j (by omega)
      exact ⟨_, C, LAWS_l L e, fun b j hb => e b j (by omega)⟩
  · rintro v h1 ⟨k, s1, W1, L1⟩
    obtain ⟨y, e, r⟩ := an_i k
    exact ⟨y, e, r, s1, W1, L1⟩
theorem tg_124 (AM : lw_AM) {sl : List Value} {h : mj_H} {B : Int} {s : sg_} {tc : tcs} {tr : Int → crs} {M : Int} (L : LAWS tc tr s M) {a : Int} (ra : wp_r a) (hMM : M ≤ 900000000) (W : WS sl h B s) (hB : 0 ≤ B ∧ B ≤ 130000000) : wp_R 1199 124 0 [some (.ref 9), some (wp_i a)] [] h (fun v h1 => ∃ y : Int, v = some (wp_i y) ∧ wp_r y ∧ ∃ s1, WS sl h1 (B + (0 : Nat)) s1 ∧ LAWS tc tr s1 M ∧ FQ s s1) := by
  have N := INV_NV L.1
  have T := INV_RT L.1
  have C := W.2.2.2
  refine wp_mono (ws_g (n := 0) (P := fun _ t => LAWS tc tr t M ∧ FQ s t) W (AM 1199 124 sx_K124 rfl) (vs := [.ref 9, wp_i a]) ⟨⟨9, rfl, rfl⟩, ⟨_, rfl, (sx_r32 _).1, (sx_r32 _).2⟩, trivial⟩ (show (5 : Int) + 0 ≤ ((1199 : Nat) : Int) by decide) (by decide) (by omega) (by rw [jn_124]; rfl) (by decide +kernel) (fun nn => wl_mono (uc_124 (d := 1194) C N ra) (fun v h1 R => ?_))) ?_
  · rcases R with ⟨-, -, C⟩ | ⟨-, t, -, fr, -, k, C⟩
    · exact ⟨s, C, ⟨L, fun _ _ _ => rfl⟩⟩
    · have e : ∀ (b : Nat) (j : Int), ¬ (95 ≤ b ∧ b ≤ 137) → pulN 98 a t k b j = s b j := fun b j hb => (pulN_fr (by omega) (by omega) k).trans (fr b j (by omega))
      exact ⟨_, C, LAWS_l L e, fun b j hb => e b j (by omega)⟩
  · rintro v h1 ⟨k, s1, W1, L1⟩
    obtain ⟨y, e, r⟩ := an_i k
    exact ⟨y, e, r, s1, W1, L1⟩
theorem tg_271 (AM : lw_AM) {sl : List Value} {h : mj_H} {B : Int} {s : sg_} {tc : tcs} {tr : Int → crs} {M : Int} (L : LAWS tc tr s M) {a : Int} (ra : wp_r a) (hMM : M ≤ 900000000) (W : WS sl h B s) (hB : 0 ≤ B ∧ B ≤ 130000000) : wp_R 1199 271 0 [some (.ref 138), some (wp_i a)] [] h (fun v h1 => ∃ y : Int, v = some (wp_i y) ∧ wp_r y ∧ ∃ s1, WS sl h1 (B + (60 : Nat)) s1 ∧ LAWS tc tr s1 M ∧ FQ s s1) := by
  have N := INV_NV L.1
  have T := INV_RT L.1
  have C := W.2.2.2
  refine wp_mono (ws_g (n := 60) (P := fun _ t => LAWS tc tr t M ∧ FQ s t) W (AM 1199 271 sx_K271 rfl) (vs := [.ref 138, wp_i a]) ⟨⟨138, rfl, rfl⟩, ⟨_, rfl, (sx_r32 _).1, (sx_r32 _).2⟩, trivial⟩ (show (15 : Int) + 0 ≤ ((1199 : Nat) : Int) by decide) (by decide) (by omega) (by rw [jn_271]; rfl) (by decide +kernel) (fun nn => wl_mono (uc_271 (d := 1189) C (by omega) T.1 ra) (fun v h1 R => ?_))) ?_
  · rcases R with ⟨-, -, C⟩ | ⟨-, -, t, C, fr⟩
    · exact ⟨s, C, ⟨L, fun _ _ _ => rfl⟩⟩
    · exact ⟨t, C, LAWS_b L fr, fun b j hb => fr b j (by omega) (by omega)⟩
  · rintro v h1 ⟨k, s1, W1, L1⟩
    obtain ⟨y, e, r⟩ := an_i k
    exact ⟨y, e, r, s1, W1, L1⟩
theorem tg_276 (AM : lw_AM) {sl : List Value} {h : mj_H} {B : Int} {s : sg_} {tc : tcs} {tr : Int → crs} {M : Int} (L : LAWS tc tr s M) {a : Int} (ra : wp_r a) (hMM : M ≤ 900000000) (W : WS sl h B s) (hB : 0 ≤ B ∧ B ≤ 130000000) : wp_R 1199 276 0 [some (.ref 138), some (wp_i a)] [] h (fun v h1 => ∃ y : Int, v = some (wp_i y) ∧ wp_r y ∧ ∃ s1, WS sl h1 (B + (60 : Nat)) s1 ∧ LAWS tc tr s1 M ∧ FQ s s1) := by
  have N := INV_NV L.1
  have T := INV_RT L.1
  have C := W.2.2.2
  refine wp_mono (ws_g (n := 60) (P := fun _ t => LAWS tc tr t M ∧ FQ s t) W (AM 1199 276 sx_K276 rfl) (vs := [.ref 138, wp_i a]) ⟨⟨138, rfl, rfl⟩, ⟨_, rfl, (sx_r32 _).1, (sx_r32 _).2⟩, trivial⟩ (show (15 : Int) + 0 ≤ ((1199 : Nat) : Int) by decide) (by decide) (by omega) (by rw [jn_276]; rfl) (by decide +kernel) (fun nn => wl_mono (uc_276 (d := 1189) C (by omega) T.1 ra) (fun v h1 R => ?_))) ?_
  · rcases R with ⟨-, -, C⟩ | ⟨-, -, t, C, fr⟩
    · exact ⟨s, C, ⟨L, fun _ _ _ => rfl⟩⟩
    · exact ⟨t, C, LAWS_b L fr, fun b j hb => fr b j (by omega) (by omega)⟩
  · rintro v h1 ⟨k, s1, W1, L1⟩
    obtain ⟨y, e, r⟩ := an_i k
    exact ⟨y, e, r, s1, W1, L1⟩
theorem tg_275 (AM : lw_AM) {sl : List Value} {h : mj_H} {B : Int} {s : sg_} {tc : tcs} {tr : Int → crs} {M : Int} (L : LAWS tc tr s M) {a b c : Int} (ra : wp_r a) (rb : wp_r b) (rc : wp_r c) (hMM : M ≤ 900000000) (W : WS sl h B s) (hB : 0 ≤ B ∧ B ≤ 130000000) : wp_R 1199 275 0 [some (.ref 138), some (wp_i a), some (wp_i b), some (wp_i c)] [] h (fun v h1 => ∃ y : Int, v = some (wp_i y) ∧ wp_r y ∧ ∃ s1, WS sl h1 (B + (60 : Nat)) s1 ∧ LAWS tc tr s1 M ∧ FQ s s1) := by
  have N := INV_NV L.1
  have T := INV_RT L.1
  have C := W.2.2.2
  refine wp_mono (ws_g (n := 60) (P := fun _ t => LAWS tc tr t M ∧ FQ s t) W (AM 1199 275 sx_K275 rfl) (vs := [.ref 138, wp_i a, wp_i b, wp_i c]) ⟨⟨138, rfl, rfl⟩, ⟨_, rfl, (sx_r32 _).1, (sx_r32 _).2⟩, ⟨_, rfl, (sx_r32 _).1, (sx_r32 _).2⟩, ⟨_, rfl, (sx_r32 _).1, (sx_r32 _).2⟩, trivial⟩ (show (15 : Int) + 0 ≤ ((1199 : Nat) : Int) by decide) (by decide) (by omega) (by rw [jn_275]; rfl) (by decide +kernel) (fun nn => wl_mono (uc_275 (d := 1189) C (by omega) T.1 ra rb rc) (fun v h1 R => ?_))) ?_
  · rcases R with ⟨-, -, C⟩ | ⟨-, -, t, C, fr⟩
    · exact ⟨s, C, ⟨L, fun _ _ _ => rfl⟩⟩
    · exact ⟨t, C, LAWS_b L fr, fun b j hb => fr b j (by omega) (by omega)⟩
  · rintro v h1 ⟨k, s1, W1, L1⟩
    obtain ⟨y, e, r⟩ := an_i k
    exact ⟨y, e, r, s1, W1, L1⟩
theorem tg_277 (AM : lw_AM) {sl : List Value} {h : mj_H} {B : Int} {s : sg_} {tc : tcs} {tr : Int → crs} {M : Int} (L : LAWS tc tr s M) {a b c : Int} (hc : c = 0 ∨ c = 1) (ra : wp_r a) (rb : wp_r b) (hMM : M ≤ 900000000) (W : WS sl h B s) (hB : 0 ≤ B ∧ B ≤ 130000000) : wp_R 1199 277 0 [some (.ref 138), some (wp_i a), some (wp_i b), some (wp_i c), none, none, none] [] h (fun v h1 => ∃ y : Int, v = some (wl_L y) ∧ ∃ s1, WS sl h1 (B + (3000 : Nat)) s1 ∧ LAWS tc tr s1 M ∧ FQ s s1) := by
  have N := INV_NV L.1
  have T := INV_RT L.1
  have C := W.2.2.2
  refine wp_mono (ws_g (n := 3000) (P := fun _ t => LAWS tc tr t M ∧ FQ s t) W (AM 1199 277 sx_K277 rfl) (vs := [.ref 138, wp_i a, wp_i b, wp_i c]) ⟨⟨138, rfl, rfl⟩, ⟨_, rfl, (sx_r32 _).1, (sx_r32 _).2⟩, ⟨_, rfl, (sx_r32 _).1, (sx_r32 _).2⟩, ⟨_, rfl, (by rcases hc with rfl | rfl <;> decide), (by rcases hc with rfl | rfl <;> decide)⟩, trivial⟩ (show (14 : Int) + 0 ≤ ((1199 : Nat) : Int) by decide) (by decide) (by omega) (by rw [jn_277]; rfl) (by decide +kernel) (fun nn => wl_mono (uc_277 (d := 1190) C (by omega) T.1 ra rb hc) (fun v h1 R => ?_))) ?_
  · rcases R with ⟨-, -, C⟩ | ⟨-, -, t, C, fr⟩
    · exact ⟨s, C, ⟨L, fun _ _ _ => rfl⟩⟩
    · exact ⟨t, C, LAWS_b L fr, fun b j hb => fr b j (by omega) (by omega)⟩
  · rintro v h1 ⟨k, s1, W1, L1⟩
    obtain ⟨y, e⟩ := an_l k
    exact ⟨y, e, s1, W1, L1⟩
theorem tg_281 (AM : lw_AM) {sl : List Value} {h : mj_H} {B : Int} {s : sg_} {tc : tcs} {tr : Int → crs} {M : Int} (L : LAWS tc tr s M) {a b c : Int} (ra : wp_r a) (rb : wp_r b) (rc : wp_r c) (hMM : M ≤ 900000000) (W : WS sl h B s) (hB : 0 ≤ B ∧ B ≤ 130000000) : wp_R 1199 281 0 [some (.ref 138), some (wp_i a), some (wp_i b), some (wp_i c), none, none, none, none] [] h (fun v h1 => ∃ y : Int, v = some (wp_i y) ∧ wp_r y ∧ ∃ s1, WS sl h1 (B + (26244 : Nat)) s1 ∧ LAWS tc tr s1 M ∧ FQ s s1) := by
  have N := INV_NV L.1
  have T := INV_RT L.1
  have C := W.2.2.2
  refine wp_mono (ws_g (n := 26244) (P := fun _ t => LAWS tc tr t M ∧ FQ s t) W (AM 1199 281 sx_K281 rfl) (vs := [.ref 138, wp_i a, wp_i b, wp_i c]) ⟨⟨138, rfl, rfl⟩, ⟨_, rfl, (sx_r32 _).1, (sx_r32 _).2⟩, ⟨_, rfl, (sx_r32 _).1, (sx_r32 _).2⟩, ⟨_, rfl, (sx_r32 _).1, (sx_r32 _).2⟩, trivial⟩ (show (15 : Int) + 0 ≤ ((1199 : Nat) : Int) by decide) (by decide) (by omega) (by rw [jn_281]; rfl) (by decide +kernel) (fun nn => wl_mono (uc_281 (d := 1189) C (by omega) T.1 ra rb rc) (fun v h1 R => ?_))) ?_
  · rcases R with ⟨-, -, C⟩ | ⟨-, -, t, C, fr⟩
    · exact ⟨s, C, ⟨L, fun _ _ _ => rfl⟩⟩
    · exact ⟨t, C, LAWS_b L fr, fun b j hb => fr b j (by omega) (by omega)⟩
  · rintro v h1 ⟨k, s1, W1, L1⟩
    obtain ⟨y, e, r⟩ := an_i k
    exact ⟨y, e, r, s1, W1, L1⟩
theorem tg_287 (AM : lw_AM) {sl : List Value} {h : mj_H} {B : Int} {s : sg_} {tc : tcs} {tr : Int → crs} {M : Int} (L : LAWS tc tr s M) {a : Int} (ra : wp_r a) (hMM : M ≤ 900000000) (W : WS sl h B s) (hB : 0 ≤ B ∧ B ≤ 130000000) : wp_R 1199 287 0 [some (.ref 138), some (wp_i a), none, none] [] h (fun v h1 => ∃ y : Int, v = some (wp_i y) ∧ wp_r y ∧ ∃ s1, WS sl h1 (B + (0 : Nat)) s1 ∧ LAWS tc tr s1 M ∧ FQ s s1) := by
  have N := INV_NV L.1
  have T := INV_RT L.1
  have C := W.2.2.2
  refine wp_mono (ws_g (n := 0) (P := fun _ t => LAWS tc tr t M ∧ FQ s t) W (AM 1199 287 sx_K287 rfl) (vs := [.ref 138, wp_i a]) ⟨⟨138, rfl, rfl⟩, ⟨_, rfl, (sx_r32 _).1, (sx_r32 _).2⟩, trivial⟩ (show (12 : Int) + 0 ≤ ((1199 : Nat) : Int) by decide) (by decide) (by omega) (by rw [jn_287]; rfl) (by decide +kernel) (fun nn => wl_mono (uc_287 (d := 1192) C T.1 ra) (fun v h1 R => ?_))) ?_
  · rcases R with ⟨-, -, C⟩ | ⟨-, -, t, C, fr⟩
    · exact ⟨s, C, ⟨L, fun _ _ _ => rfl⟩⟩
    · exact ⟨t, C, LAWS_b L fr, fun b j hb => fr b j (by omega) (by omega)⟩
  · rintro v h1 ⟨k, s1, W1, L1⟩
    obtain ⟨y, e, r⟩ := an_i k
    exact ⟨y, e, r, s1, W1, L1⟩
