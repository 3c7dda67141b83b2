/-! -/
theorem lk_eq {cd : cds} {cr : crs} (E : eqLaw cd cr) (A : askR (cr 2)) {c r : sg_} {F : Nat} (H : relF c r F 139) (R : RS r cr) (G : IG c F) (h12 : 0 ≤ r 139 12) (h25 : r 138 25 = 0) : ∀ n : Nat, r 139 8 + n ≤ 20000 → relF (lkC cd F c n) (hiR cr r n) F 139
  | 0, _ => H
  | n + 1, q => by
    have K := hiR_ok R h12 h25 n (by omega)
    have ih := lk_eq E A H R G h12 h25 n (by omega)
    have e8 : r 139 8 = c F 10 := H.2.2.2.2.1
    have G1 := lkC_IG (cd := cd) G n (by omega)
    exact draw_eq (pass_eq E A ih K.1.g G1 (by rw [K.2.2.2]; exact h12))
/-- what the class looks at on its own forest is what the reference looks at on what it put aside -/
theorem eq_lk {tc : tcs} {tr : Int → crs} {s t0 t : sg_} {M : Int} (L : LAWS tc tr s M) (f : FCP s t0 48 98) (e : ∀ (b : Nat) (j : Int), ¬ (95 ≤ b ∧ b ≤ 137) → t b j = s b j) {n : Int} (hn : 0 ≤ n ∧ n ≤ 60) : relF (lkC (tc (rulT s)) 98 t0 n.toNat) (hiR (tr (s 139 3)) (bgR t) n.toNat) 98 139 := by
  have T := INV_RT L.1
  have T1 := (INV_RT (LAWS_l L e).1).1
  rw [e 139 3 (by omega)] at T1
  have N := INV_NV L.1
  have er : ∀ j : Int, bgR t 139 j = s 139 j := fun j => (bgR_fr (by omega) (by omega)).trans (e 139 j (by omega))
  have H : relF t0 (bgR t) 98 139 := relF_t (F := 48) (R := 139) L.1.1.2.1 f (fun j _ _ => er j)
  have b := T.1.b
  have o := T.1.o9
  exact lk_eq T.2 T.1.rs.2.2.2.2.2.2 H (RS_bg T1.rs) (IG_t N.g f) (by rw [er]; exact b.1) bgR_25 n.toNat (by rw [er]; omega)
/-- what the reference answers of hours to come -/
def q_104 (tr : Int → crs) (s : sg_) (n : Int) : Int := if 1 ≤ n ∧ n ≤ 60 then hiR (tr (s 139 3)) (bgR s) n.toNat 139 10 else -2
def q_109 (tr : Int → crs) (s : sg_) (n : Int) : Int := if 1 ≤ n ∧ n ≤ 60 then hiR (tr (s 139 3)) (bgR s) n.toNat 139 9 else -2
def q_108 (tr : Int → crs) (s : sg_) (n w p : Int) : Int := if (1 ≤ n ∧ n ≤ 60) ∧ (0 ≤ w ∧ w < s 139 1) ∧ 0 ≤ p ∧ p < s 139 0 then hiR (tr (s 139 3)) (bgR s) n.toNat 139 (52 + 2 * (8 * w + p)) else -2
theorem dm_ {tc : tcs} {tr : Int → crs} {s : sg_} {M : Int} (L : LAWS tc tr s M) : s 139 0 = s 48 0 ∧ s 139 1 = s 48 1 ∧ (0 ≤ s 48 0 ∧ s 48 0 ≤ 8) ∧ 0 ≤ s 48 1 ∧ s 48 1 ≤ 6 := ⟨L.1.1.2.1.1.1, L.1.1.2.1.1.2, (INV_NV L.1).g.1.1, (INV_NV L.1).g.1.2.1⟩
theorem tq_104 (AM : lw_AM) {sl : List Value} {h : mj_H} {B : Int} {s : sg_} {tc : tcs} {tr : Int → crs} {M : Int} (L : LAWS tc tr s M) {a : Int} (ra : wp_r a) (hMM : M ≤ 900000000) (W : WS sl h B s) (hB : 0 ≤ B ∧ B ≤ 130000000) : wp_R 1199 104 0 [some (.ref 9), some (wp_i a)] [] h (fun v h1 => ∃ s1, v = some (wp_i (q_104 tr s1 a)) ∧ WS sl h1 (B + (0 : Nat)) s1 ∧ LAWS tc tr s1 M) := by
  have N := INV_NV L.1
  have T := INV_RT L.1
  have C := W.2.2.2
  refine wp_mono (ws_g (n := 0) (P := fun v t => v = some (wp_i (q_104 tr t a)) ∧ LAWS tc tr t M) W (AM 1199 104 sx_K104 rfl) (vs := [.ref 9, wp_i a]) ⟨⟨9, rfl, rfl⟩, ⟨_, rfl, (sx_r32 _).1, (sx_r32 _).2⟩, trivial⟩ (show (6 : Int) + 0 ≤ ((1199 : Nat) : Int) by decide) (by decide) (by omega) (by rw [jn_104]; rfl) (by decide +kernel) (fun nn => wl_mono (uc_104 (d := 1193) C N ra) (fun v h1 R => ?_))) ?_
  · rcases R with ⟨c, rfl, C⟩ | ⟨c, t, f, fr, rfl, C⟩
    · exact ⟨s, C, congrArg (fun z => some (wp_i z)) (if_neg c).symm, L⟩
    · have e : ∀ (b : Nat) (j : Int), ¬ (95 ≤ b ∧ b ≤ 137) → lkC (tc (rulT s)) 98 t a.toNat b j = s b j := fun b j hb => (lkC_fr (by omega) (by omega) (by omega) _).trans (fr b j (by omega))
      refine ⟨_, C, congrArg (fun z => some (wp_i z)) ?_, LAWS_l L e⟩
      have H := eq_lk L f e (n := a) ⟨by omega, by omega⟩
      unfold q_104
      rw [e 139 3 (by omega), if_pos c]
      exact H.2.2.2.2.2.2.1.symm
  · rintro v h1 ⟨-, s1, W1, e1, L1⟩
    exact ⟨s1, e1, W1, L1⟩
theorem tq_109 (AM : lw_AM) {sl : List Value} {h : mj_H} {B : Int} {s : sg_} {tc : tcs} {tr : Int → crs} {M : Int} (L : LAWS tc tr s M) {a : Int} (ra : wp_r a) (hMM : M ≤ 900000000) (W : WS sl h B s) (hB : 0 ≤ B ∧ B ≤ 130000000) : wp_R 1199 109 0 [some (.ref 9), some (wp_i a)] [] h (fun v h1 => ∃ s1, v = some (wp_i (q_109 tr s1 a)) ∧ WS sl h1 (B + (0 : Nat)) s1 ∧ LAWS tc tr s1 M) := by
  have N := INV_NV L.1
  have T := INV_RT L.1
  have C := W.2.2.2
  refine wp_mono (ws_g (n := 0) (P := fun v t => v = some (wp_i (q_109 tr t a)) ∧ LAWS tc tr t M) W (AM 1199 109 sx_K109 rfl) (vs := [.ref 9, wp_i a]) ⟨⟨9, rfl, rfl⟩, ⟨_, rfl, (sx_r32 _).1, (sx_r32 _).2⟩, trivial⟩ (show (6 : Int) + 0 ≤ ((1199 : Nat) : Int) by decide) (by decide) (by omega) (by rw [jn_109]; rfl) (by decide +kernel) (fun nn => wl_mono (uc_109 (d := 1193) C N ra) (fun v h1 R => ?_))) ?_
  · rcases R with ⟨c, rfl, C⟩ | ⟨c, t, f, fr, rfl, C⟩
    · exact ⟨s, C, congrArg (fun z => some (wp_i z)) (if_neg c).symm, L⟩
    · have e : ∀ (b : Nat) (j : Int), ¬ (95 ≤ b ∧ b ≤ 137) → lkC (tc (rulT s)) 98 t a.toNat b j = s b j := fun b j hb => (lkC_fr (by omega) (by omega) (by omega) _).trans (fr b j (by omega))
      refine ⟨_, C, congrArg (fun z => some (wp_i z)) ?_, LAWS_l L e⟩
      have H := eq_lk L f e (n := a) ⟨by omega, by omega⟩
      unfold q_109
      rw [e 139 3 (by omega), if_pos c]
      exact H.2.2.2.2.2.1.symm
  · rintro v h1 ⟨-, s1, W1, e1, L1⟩
    exact ⟨s1, e1, W1, L1⟩
theorem tq_108 (AM : lw_AM) {sl : List Value} {h : mj_H} {B : Int} {s : sg_} {tc : tcs} {tr : Int → crs} {M : Int} (L : LAWS tc tr s M) {a b c : Int} (ra : wp_r a) (rb : wp_r b) (rc : wp_r c) (hMM : M ≤ 900000000) (W : WS sl h B s) (hB : 0 ≤ B ∧ B ≤ 130000000) : wp_R 1199 108 0 [some (.ref 9), some (wp_i a), some (wp_i b), some (wp_i c)] [] h (fun v h1 => ∃ s1, v = some (wp_i (q_108 tr s1 a b c)) ∧ WS sl h1 (B + (0 : Nat)) s1 ∧ LAWS tc tr s1 M) := by
  have N := INV_NV L.1
  have T := INV_RT L.1
  have C := W.2.2.2
  refine wp_mono (ws_g (n := 0) (P := fun v t => v = some (wp_i (q_108 tr t a b c)) ∧ LAWS tc tr t M) W (AM 1199 108 sx_K108 rfl) (vs := [.ref 9, wp_i a, wp_i b, wp_i c]) ⟨⟨9, rfl, rfl⟩, ⟨_, rfl, (sx_r32 _).1, (sx_r32 _).2⟩, ⟨_, rfl, (sx_r32 _).1, (sx_r32 _).2⟩, ⟨_, rfl, (sx_r32 _).1, (sx_r32 _).2⟩, trivial⟩ (show (6 : Int) + 0 ≤ ((1199 : Nat) : Int) by decide) (by decide) (by omega) (by rw [jn_108]; rfl) (by decide +kernel) (fun nn => wl_mono (uc_108 (d := 1193) C N ra rb rc) (fun v h1 R => ?_))) ?_
  · have dm := dm_ L
    rcases R with ⟨q0, rfl, C⟩ | ⟨q0, t, f, fr, rfl, C⟩
    · exact ⟨s, C, congrArg (fun z => some (wp_i z)) (show q_108 tr s a b c = -2 by unfold q_108; rw [dm.1, dm.2.1]; exact if_neg q0).symm, L⟩
    · have e : ∀ (b : Nat) (j : Int), ¬ (95 ≤ b ∧ b ≤ 137) → lkC (tc (rulT s)) 98 t a.toNat b j = s b j := fun b j hb => (lkC_fr (by omega) (by omega) (by omega) _).trans (fr b j (by omega))
      refine ⟨_, C, congrArg (fun z => some (wp_i z)) ?_, LAWS_l L e⟩
      have H := eq_lk L f e (n := a) ⟨by omega, by omega⟩
      have k := (H.2.2.2.1 b c (by omega) (by omega)).1
      rw [Int.add_zero] at k
      unfold q_108
      rw [e 139 3 (by omega), e 139 0 (by omega), e 139 1 (by omega), dm.1, dm.2.1, if_pos q0]
      exact k.symm
  · rintro v h1 ⟨-, s1, W1, e1, L1⟩
    exact ⟨s1, e1, W1, L1⟩
theorem tq_271 (AM : lw_AM) {sl : List Value} {h : mj_H} {B : Int} {s : sg_} {tc : tcs} {tr : Int → crs} {M : Int} (L : LAWS tc tr s M) {a : Int} (ra : wp_r a) (hMM : M ≤ 900000000) (W : WS sl h B s) (hB : 0 ≤ B ∧ B ≤ 130000000) : wp_R 1199 271 0 [some (.ref 138), some (wp_i a)] [] h (fun v h1 => v = some (wp_i (q_104 tr s a)) ∧ ∃ s1, WS sl h1 (B + (60 : Nat)) s1 ∧ LAWS tc tr s1 M) := by
  have N := INV_NV L.1
  have T := INV_RT L.1
  have C := W.2.2.2
  refine wp_mono (ws_g (n := 60) (P := fun v t => v = some (wp_i (q_104 tr s a)) ∧ LAWS tc tr t M) W (AM 1199 271 sx_K271 rfl) (vs := [.ref 138, wp_i a]) ⟨⟨138, rfl, rfl⟩, ⟨_, rfl, (sx_r32 _).1, (sx_r32 _).2⟩, trivial⟩ (show (15 : Int) + 0 ≤ ((1199 : Nat) : Int) by decide) (by decide) (by omega) (by rw [jn_271]; rfl) (by decide +kernel) (fun nn => wl_mono (uc_271 (d := 1189) C (by omega) T.1 ra) (fun v h1 R => ?_))) ?_
  · rcases R with ⟨q0, rfl, C⟩ | ⟨q0, rfl, t, C, fr⟩
    · exact ⟨s, C, congrArg (fun z => some (wp_i z)) (if_neg q0).symm, L⟩
    · exact ⟨t, C, congrArg (fun z => some (wp_i z)) (if_pos q0).symm, LAWS_b L fr⟩
  · rintro v h1 ⟨-, s1, W1, e1, L1⟩
    exact ⟨e1, s1, W1, L1⟩
theorem tq_276 (AM : lw_AM) {sl : List Value} {h : mj_H} {B : Int} {s : sg_} {tc : tcs} {tr : Int → crs} {M : Int} (L : LAWS tc tr s M) {a : Int} (ra : wp_r a) (hMM : M ≤ 900000000) (W : WS sl h B s) (hB : 0 ≤ B ∧ B ≤ 130000000) : wp_R 1199 276 0 [some (.ref 138), some (wp_i a)] [] h (fun v h1 => v = some (wp_i (q_109 tr s a)) ∧ ∃ s1, WS sl h1 (B + (60 : Nat)) s1 ∧ LAWS tc tr s1 M) := by
  have N := INV_NV L.1
  have T := INV_RT L.1
  have C := W.2.2.2
  refine wp_mono (ws_g (n := 60) (P := fun v t => v = some (wp_i (q_109 tr s a)) ∧ LAWS tc tr t M) W (AM 1199 276 sx_K276 rfl) (vs := [.ref 138, wp_i a]) ⟨⟨138, rfl, rfl⟩, ⟨_, rfl, (sx_r32 _).1, (sx_r32 _).2⟩, trivial⟩ (show (15 : Int) + 0 ≤ ((1199 : Nat) : Int) by decide) (by decide) (by omega) (by rw [jn_276]; rfl) (by decide +kernel) (fun nn => wl_mono (uc_276 (d := 1189) C (by omega) T.1 ra) (fun v h1 R => ?_))) ?_
  · rcases R with ⟨q0, rfl, C⟩ | ⟨q0, rfl, t, C, fr⟩
    · exact ⟨s, C, congrArg (fun z => some (wp_i z)) (if_neg q0).symm, L⟩
    · exact ⟨t, C, congrArg (fun z => some (wp_i z)) (if_pos q0).symm, LAWS_b L fr⟩
  · rintro v h1 ⟨-, s1, W1, e1, L1⟩
    exact ⟨e1, s1, W1, L1⟩
theorem tq_275 (AM : lw_AM) {sl : List Value} {h : mj_H} {B : Int} {s : sg_} {tc : tcs} {tr : Int → crs} {M : Int} (L : LAWS tc tr s M) {a b c : Int} (ra : wp_r a) (rb : wp_r b) (rc : wp_r c) (hMM : M ≤ 900000000) (W : WS sl h B s) (hB : 0 ≤ B ∧ B ≤ 130000000) : wp_R 1199 275 0 [some (.ref 138), some (wp_i a), some (wp_i b), some (wp_i c)] [] h (fun v h1 => v = some (wp_i (q_108 tr s a b c)) ∧ ∃ s1, WS sl h1 (B + (60 : Nat)) s1 ∧ LAWS tc tr s1 M) := by
  have N := INV_NV L.1
  have T := INV_RT L.1
  have C := W.2.2.2
  refine wp_mono (ws_g (n := 60) (P := fun v t => v = some (wp_i (q_108 tr s a b c)) ∧ LAWS tc tr t M) W (AM 1199 275 sx_K275 rfl) (vs := [.ref 138, wp_i a, wp_i b, wp_i c]) ⟨⟨138, rfl, rfl⟩, ⟨_, rfl, (sx_r32 _).1, (sx_r32 _).2⟩, ⟨_, rfl, (sx_r32 _).1, (sx_r32 _).2⟩, ⟨_, rfl, (sx_r32 _).1, (sx_r32 _).2⟩, trivial⟩ (show (15 : Int) + 0 ≤ ((1199 : Nat) : Int) by decide) (by decide) (by omega) (by rw [jn_275]; rfl) (by decide +kernel) (fun nn => wl_mono (uc_275 (d := 1189) C (by omega) T.1 ra rb rc) (fun v h1 R => ?_))) ?_
  · rcases R with ⟨q0, rfl, C⟩ | ⟨q0, rfl, t, C, fr⟩
    · exact ⟨s, C, congrArg (fun z => some (wp_i z)) (if_neg q0).symm, L⟩
    · exact ⟨t, C, congrArg (fun z => some (wp_i z)) (if_pos q0).symm, LAWS_b L fr⟩
  · rintro v h1 ⟨-, s1, W1, e1, L1⟩
    exact ⟨e1, s1, W1, L1⟩
