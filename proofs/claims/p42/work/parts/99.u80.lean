/-! -/
/-! a call at the law: its contract gives the end and the types, what is exact comes beside -/
/-- the heap at the law: typed, and its numbers are s -/
def WS (sl : List Value) (h : mj_H) (B : Int) (s : sg_) : Prop := lw_I sl h B ∧ fd_P h ∧ fs_S h ∧ CS h s
theorem WS_le {sl : List Value} {h : mj_H} {B B1 : Int} {s : sg_} (W : WS sl h B s) (hB : B ≤ B1) : WS sl h B1 s := ⟨lw_le W.1 hB, W.2⟩
/-- a call whose answer and state are known -/
theorem ws_c {sl : List Value} {h : mj_H} {B : Int} {s : sg_} (W : WS sl h B s) {d c n : Nat} {K : sx_K} (hM : sx_M sx_PP d c K) {vs : List Value} {lv0 : mj_L} (ha : sx_ag sx_tau K.1 vs) (hd : sx_lev K vs ≤ d) (hc : sx_cost K.2.2.2 = n) (hB : B + n ≤ 2147483647) (hn : mj_ent (mj_nl c) vs = some lv0) (hm : mo_ok K.2.2.2 = true) {y : Option Value} {s1 : sg_} (hq : ∀ nn, wl_R nn d c 0 lv0 [] h (fun v h1 => v = y ∧ CS h1 s1)) : wp_R d c 0 lv0 [] h (fun v h1 => v = y ∧ WS sl h1 (B + n) s1) := by
  refine wp_mono (wl_wp (lw_K0 W.1 W.2.1 W.2.2.1 hM ha hd hc hB hn hm) hq) ?_
  rintro v h1 ⟨⟨-, k2, k3, k4, -⟩, e, C⟩
  exact ⟨e, k2, k3, k4, C⟩
/-- a call whose state is known to be one of some -/
theorem ws_e {sl : List Value} {h : mj_H} {B : Int} {s : sg_} (W : WS sl h B s) {d c n : Nat} {K : sx_K} (hM : sx_M sx_PP d c K) {vs : List Value} {lv0 : mj_L} (ha : sx_ag sx_tau K.1 vs) (hd : sx_lev K vs ≤ d) (hc : sx_cost K.2.2.2 = n) (hB : B + n ≤ 2147483647) (hn : mj_ent (mj_nl c) vs = some lv0) (hm : mo_ok K.2.2.2 = true) {y : Option Value} {P : sg_ → Prop} (hq : ∀ nn, wl_R nn d c 0 lv0 [] h (fun v h1 => v = y ∧ ∃ t, CS h1 t ∧ P t)) : wp_R d c 0 lv0 [] h (fun v h1 => v = y ∧ ∃ t, WS sl h1 (B + n) t ∧ P t) := by
  refine wp_mono (wl_wp (lw_K0 W.1 W.2.1 W.2.2.1 hM ha hd hc hB hn hm) hq) ?_
  rintro v h1 ⟨⟨-, k2, k3, k4, -⟩, e, t, C, p⟩
  exact ⟨e, t, ⟨k2, k3, k4, C⟩, p⟩
/-- a question: what it may write doesn't count -/
theorem ws_q {sl : List Value} {h : mj_H} {B : Int} {s : sg_} (W : WS sl h B s) {d c n : Nat} {K : sx_K} (hM : sx_M sx_PP d c K) {vs : List Value} {lv0 : mj_L} (ha : sx_ag sx_tau K.1 vs) (hd : sx_lev K vs ≤ d) (hc : sx_cost K.2.2.2 = n) (hB : B + n ≤ 2147483647) (hn : mj_ent (mj_nl c) vs = some lv0) (hm : mo_ok K.2.2.2 = true) (hq : ∀ k ∈ K.2.2.2, k ∈ qM) : wp_R d c 0 lv0 [] h (fun v h1 => sx_an sx_tau K.2.1 v ∧ ∃ s1, WS sl h1 (B + n) s1 ∧ ∀ (b : Nat) (j : Int), b ∉ qY → s1 b j = s b j) := by
  refine wp_mono (lw_K0 W.1 W.2.1 W.2.2.1 hM ha hd hc hB hn hm) ?_
  rintro v h1 ⟨k1, k2, k3, k4, k5⟩
  obtain ⟨s1, C1, f⟩ := CS_q hq W.2.2.2 k2.1 k5
  exact ⟨k1, s1, ⟨k2, k3, k4, C1⟩, f⟩
/-- a question with what it answers -/
theorem ws_qv {sl : List Value} {h : mj_H} {B : Int} {s : sg_} (W : WS sl h B s) {d c n : Nat} {K : sx_K} (hM : sx_M sx_PP d c K) {vs : List Value} {lv0 : mj_L} (ha : sx_ag sx_tau K.1 vs) (hd : sx_lev K vs ≤ d) (hc : sx_cost K.2.2.2 = n) (hB : B + n ≤ 2147483647) (hn : mj_ent (mj_nl c) vs = some lv0) (hm : mo_ok K.2.2.2 = true) (hq : ∀ k ∈ K.2.2.2, k ∈ qM) {y : Option Value} (hv : ∀ nn, wl_R nn d c 0 lv0 [] h (fun v _ => v = y)) : wp_R d c 0 lv0 [] h (fun v h1 => v = y ∧ ∃ s1, WS sl h1 (B + n) s1 ∧ ∀ (b : Nat) (j : Int), b ∉ qY → s1 b j = s b j) := by
  refine wp_mono (wl_wp (ws_q W hM ha hd hc hB hn hm hq) hv) ?_
  rintro v h1 ⟨⟨-, q⟩, e⟩
  exact ⟨e, q⟩
