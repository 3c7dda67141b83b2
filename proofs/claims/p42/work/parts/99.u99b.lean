/-! -/
/-! a text at the law: what the reference's reader leaves -/
def RK : List Nat := [0, 1, 2, 3, 15, 22, 23, 24, 25, 26, 27, 28, 29, 30]
/-- what the reference's reader may write -/
def YR (x0 a k : Nat) : Bool := decide ((a = 141 ∧ x0 ≤ k) ∨ a = 143 ∨ (a = 139 ∧ k = 2) ∨ (a = 138 ∧ k ∉ RK))
theorem hck_G {Y : Nat → Nat → Bool} {h h1 : mj_H} {a : Nat} (K : hcok h1 a) (f : ∀ kd vs0 vs, h[a]? = some (kd, vs0) → h1[a]? = some (kd, vs) → ∀ k, Y a k = false → vs[k]? = vs0[k]?) : hck Y h h1 a := by
  intro q hq vs0 e0 l0
  obtain ⟨vs, e1, e2, e3⟩ := K q hq
  refine ⟨vs, e1, e2.trans l0.symm, fun k hk => ?_⟩
  cases y : Y a k with
  | true => exact Or.inl ⟨rfl, e3 k hk⟩
  | false => exact Or.inr ⟨rfl, f q.1 vs0 vs e0 e1 k y⟩
theorem hcok_N {h1 : mj_H} (H : sx_H sx_TT 20 sx_tau h1) {a t n : Nat} {ty : sx_Ty} (e1 : sx_tau[a]? = some t) (e2 : sx_TT[t]? = some ty) (e3 : sh_T[a]? = some (1000, [], n, 0)) (k1 : ty.1 = 1000) (k2 : ty.2.1 = n) (ck : (ty.2.2.all (fun g => g.2.2.all (fun d => decide (d.1 = 0)))) = true) : hcok h1 a := by
  intro q1 hq1
  rw [e3] at hq1
  cases hq1
  obtain ⟨-, vs, v1, v2, v3, -⟩ := H a t ty e1 e2
  rw [k1] at v1
  refine ⟨vs, v1, by rw [v2, k2]; show n = 0 + n; omega, fun k hk => ?_⟩
  have hv : vs[k]? = some vs[k] := List.getElem?_eq_getElem hk
  obtain ⟨d, d1, d2⟩ := v3 k _ hv
  have m := fd_all ck d1
  obtain ⟨x, lo, hi⟩ := d
  have m : x = 0 := m
  subst m
  obtain ⟨z, hz, -⟩ := d2
  rw [hv, hz]
  exact ⟨z.toInt, congrArg some (congrArg Value.int (Int32.ofInt_toInt z).symm)⟩
theorem cs_w {h : mj_H} {s : sg_} (C : CS h s) {fs : List Value} (e : h[138]? = some (11, fs)) : fs[11]? = some (.long (Int64.ofInt (s 138 11))) := by
  obtain ⟨s0, C0, g⟩ := C
  obtain ⟨v0, a1, a2, a3⟩ := C0 138 (11, [142, 143, 144, 145, 0, 0, 0, 0, 0, 0, 0, 1, 0, 0, 0, 146, 0, 0, 0, 0, 0, 0, 147, 148, 149, 0, 150, 151, 152, 153, 154], 0, 0) (by decide) rfl
  rw [e] at a1
  injection a1 with a1
  injection a1 with _ a1
  have b := (a3 11 (by rw [a2]; decide)).1
  rw [← a1] at b
  rw [← g 138 11 (by decide)]
  exact b
/-- what the reference's reader leaves: s before, s1 after -/
def rTx (s s1 : sg_) (c f q : Int) : Prop :=
  (∃ (k v p r : Int) (m : Nat), tok (tapB (s 142) (s 138 4)) 0 k v p r ∧ tr (tapB (s 142) (s 138 4)) m nof 0 0 k v p r f q) ∧
  (∀ (b : Nat) (j : Int), ¬ b = 141 → ¬ b = 143 → ¬ (b = 139 ∧ j = 2) → ¬ b = 138 → s1 b j = s b j) ∧
  (∀ j : Int, j < 705 * c → s1 141 j = s 141 j) ∧
  (s1 138 4 = 0 ∧ s1 138 5 = vnn (some (wp_i f)) ∧ s1 138 6 = vnn (some (wp_i q)) ∧ (0 ≤ s1 138 11 ∧ s1 138 11 ≤ 1152921504606846976) ∧ s1 139 2 = if f = 0 then c + 1 else c) ∧
  s1 138 25 = s 138 25 ∧
  (f = 0 → ∃ (k v p r : Int) (m : Nat) (Cs : List KC) (T : List Value), tok (tapB (s 142) (s 138 4)) 0 k v p r ∧ tre (tapB (s 142) (s 138 4)) m nof 0 0 k v p r Cs 0 (-1) ∧ T.length = 2820 ∧ T[(705 * c).toNat]? = some (wp_i 0) ∧ ∀ j : Nat, 705 * c ≤ (j : Int) → s1 141 (j : Int) = vnn ((akRs (705 * c) T 0 0 Cs).1[j]?))
theorem tr_Text (AM : lw_AM) {sl : List Value} {h : mj_H} {B : Int} {s : sg_} (hc : 0 ≤ s 139 2 ∧ s 139 2 ≤ 4) (hL : 0 ≤ s 138 4 ∧ s 138 4 ≤ 300) (hT : ∀ j : Int, 0 ≤ j → j < 300 → 0 ≤ s 142 j ∧ s 142 j ≤ 255) (hw : 0 ≤ s 138 11 ∧ s 138 11 ≤ 1152921504606846976) (W : WS sl h B s) (hB : 0 ≤ B ∧ B ≤ 130000000) : wp_R 1199 176 0 [some (.ref 138)] [] h (fun v h1 => (s 139 2 = 4 ∧ v = some (wp_i (-1)) ∧ WS sl h1 (B + (0 : Nat)) s) ∨ (¬ s 139 2 = 4 ∧ ∃ (f q : Int) (s1 : sg_), rTx s s1 (s 139 2) f q ∧ v = some (wp_i (if f = 0 then s 139 2 else -1)) ∧ WS sl h1 (B + (0 : Nat)) s1)) := by
  obtain ⟨I, P, S, C⟩ := W
  obtain ⟨fs, e138, fl, fi, fam⟩ := fd_mod I.1
  obtain ⟨as, a1, a2, -⟩ := fd_21 I.1 (a := 139) rfl
  have p139 := (cs_v C (a := 139) (k := 2) (kI := 2) (q := (1000, [], 6044, 0)) (by decide) (by decide) rfl rfl rfl (by decide) a1).1
  have p4 := (cs_v C (a := 138) (k := 4) (kI := 4) (q := (11, [142, 143, 144, 145, 0, 0, 0, 0, 0, 0, 0, 1, 0, 0, 0, 146, 0, 0, 0, 0, 0, 0, 147, 148, 149, 0, 150, 151, 152, 153, 154], 0, 0)) (by decide) (by decide) rfl rfl rfl (by decide) e138).1
  have p11 := cs_w C e138
  obtain ⟨w, ew⟩ : ∃ w : Nat, (w : Int) = s 138 11 := ⟨(s 138 11).toNat, by omega⟩
  rw [← ew, Int64.ofInt_eq_ofNat] at p11
  obtain ⟨ts, t1, t2⟩ : ∃ ts, h[141]? = some (1000, ts) ∧ ts.length = 2820 := by
    obtain ⟨-, ts, w1, w2, -⟩ := I.1 141 20 sx_y20 rfl rfl
    exact ⟨ts, w1, w2⟩
  obtain ⟨pl, pl1⟩ : ∃ pl, h[143]? = some (1000, pl) := by
    obtain ⟨pl, w1⟩ := fd_cell I.1 (a := 143) (t := 65) rfl (show sx_TT[65]? = some sx_y65 from rfl)
    exact ⟨pl, w1⟩
  obtain ⟨bl, e142⟩ := cs_c C (a := 142) (q := (1000, [], 300, 0)) (by decide) rfl
  obtain ⟨D, ebt⟩ := tB_T C (Or.inr rfl) e142 hT
  have h60 : (2 : Nat) ^ 60 = 1152921504606846976 := by decide
  have hw60 : w ≤ 2 ^ 60 := by omega
  refine wp_mono (wl_wp (lw_K0 (n := 0) I P S (AM 1199 176 sx_K176 rfl) (vs := [.ref 138]) ⟨⟨138, rfl, rfl⟩, trivial⟩ (show (20 : Int) + 0 ≤ ((1199 : Nat) : Int) by decide) (by decide) (by omega) (by rw [jn_176]; rfl) (by decide)) (fun n => wq_tx (d := 1187) (ls := 0) ⟨e138, fl, ⟨fd_at (P (138, 11, 0, 139) (by decide)) e138, fd_at (P (138, 11, 2, 141) (by decide)) e138, fd_at (P (138, 11, 3, 142) (by decide)) e138, fd_at (P (138, 11, 15, 143) (by decide)) e138, p4, p11⟩, fi, a1, p139, t1, t2, e142, pl1⟩ D hL hc hw60 fam (by decide))) ?_
  rintro v h1 ⟨⟨-, k2, k3, k4, k5⟩, ⟨y, rfl, rfl⟩ | ⟨y, k', v', q', r', f', q9, tk, ⟨m, TR⟩, hf, ⟨ts1, z141, zk, zE⟩, rfl, ⟨fs1, w', z138, zl, ⟨z4, z5, z6, z11, zw⟩, zR⟩, z139, zf⟩⟩
  · exact Or.inl ⟨y, rfl, lw_le I (by omega), P, S, C⟩
  · rw [ebt _ hL.2] at tk TR
    have z139' : h1[139]? = some (1000, as.set 2 (wp_i (if f' = 0 then s 139 2 + 1 else s 139 2))) := by
      rw [z139]
      by_cases q : f' = 0
      · rw [if_pos q, if_pos q]
      · rw [if_neg q, if_neg q, set_sf p139]
    have Y1 : ∀ k, ¬ (705 * s 139 2).toNat ≤ k → YR (705 * s 139 2).toNat 141 k = false := fun k hk => decide_eq_false (fun z => by omega)
    have C1 : CS h1 (mkS (YR (705 * s 139 2).toNat) h1 s) := CS_mk C (fun a ha0 ha => by
      by_cases c1 : a = 141
      · subst c1
        refine hck_G (hcok_N k2.1 rfl (show sx_TT[20]? = some sx_y20 from rfl) rfl rfl rfl (by decide +kernel)) (fun kd vs0 vs e0 e1 k hk => ?_)
        rw [t1] at e0
        rw [z141] at e1
        cases e0
        cases e1
        refine zk k ?_
        have : ¬ (705 * s 139 2).toNat ≤ k := fun z => by
          rw [show YR (705 * s 139 2).toNat 141 k = true from decide_eq_true (Or.inl ⟨rfl, z⟩)] at hk
          cases hk
        omega
      · by_cases c2 : a = 143
        · subst c2
          exact hck_A (hcok_N k2.1 rfl (show sx_TT[65]? = some sx_y65 from rfl) rfl rfl rfl (by decide +kernel)) (fun k => decide_eq_true (Or.inr (Or.inl rfl)))
        · by_cases c3 : a = 138
          · subst c3
            refine hck_G (hcok_O C k2.1 (by decide) rfl (show sx_TT[63]? = some sx_y63 from rfl) rfl (by decide +kernel) (fun vs0 vs e0 e1 => ?_)) (fun kd vs0 vs e0 e1 k hk => ?_)
            · rw [e138] at e0
              rw [z138] at e1
              cases e0
              cases e1
              refine ⟨fl.trans zl.symm, fun k k3 kl => zR k ?_⟩
              rw [zl] at kl
              exact (by decide +kernel : ∀ k, k < 31 → 3 ≤ sh_k (11, [142, 143, 144, 145, 0, 0, 0, 0, 0, 0, 0, 1, 0, 0, 0, 146, 0, 0, 0, 0, 0, 0, 147, 148, 149, 0, 150, 151, 152, 153, 154], 0, 0) k → k ∈ RK) k kl k3
            · rw [e138] at e0
              rw [z138] at e1
              cases e0
              cases e1
              refine zR k ?_
              by_cases q : k ∈ RK
              · exact q
              · rw [show YR (705 * s 139 2).toNat 138 k = true from decide_eq_true (Or.inr (Or.inr (Or.inr ⟨rfl, q⟩)))] at hk
                cases hk
          · by_cases c5 : a = 139
            · subst c5
              exact hck_S a1 z139' (fun q hq => by cases hq; rfl) (fun k => by
                by_cases q : k = 2
                · rw [decide_eq_true q]
                  exact decide_eq_true (Or.inr (Or.inr (Or.inl ⟨rfl, q⟩)))
                · rw [decide_eq_false q]
                  exact decide_eq_false (by omega))
            · exact hck_0 (zf a c3 c5 c1 c2) (fun k => decide_eq_false (by omega)))
    have yR : ∀ k : Nat, k ∉ RK → YR (705 * s 139 2).toNat 138 k = true := fun k hk => decide_eq_true (Or.inr (Or.inr (Or.inr ⟨rfl, hk⟩)))
    have y25 : YR (705 * s 139 2).toNat 138 25 = false := by
      refine decide_eq_false (fun z => ?_)
      rcases z with z | z | z | z
      · omega
      · omega
      · omega
      · exact z.2 (by decide)
    refine Or.inr ⟨y, f', q9, mkS (YR (705 * s 139 2).toNat) h1 s, ⟨⟨k', v', q', r', m, tk, TR⟩, fun b j b1 b2 b3 b4 => mkS_o (fun hj => decide_eq_false (by omega)), fun j hj => mkS_o (fun hj0 => Y1 _ (by omega)), ⟨?_, ?_, ?_, ?_, ?_⟩, ?_, fun f0 => ?_⟩, rfl, lw_le k2 (by omega), k3, k4, C1⟩
    · exact mkS_v z138 (k := 4) (yR 4 (by decide)) rfl z4 (by decide)
    · exact (mkS_i z138 5 (yR 5 (by decide))).trans (by rw [z5])
    · exact (mkS_i z138 6 (yR 6 (by decide))).trans (by rw [z6])
    · have e : mkS (YR (705 * s 139 2).toNat) h1 s 138 11 = (w' : Int) := by
        refine (mkS_i z138 11 (yR 11 (by decide))).trans ?_
        rw [z11]
        exact Int64.toInt_ofNat_of_lt (by omega)
      omega
    · refine mkS_v z139' (k := 2) (decide_eq_true (Or.inr (Or.inr (Or.inl ⟨rfl, rfl⟩)))) rfl (List.getElem?_set_self (by omega)) ?_
      constructor <;> split <;> omega
    · exact mkS_o (fun _ => y25)
    · obtain ⟨m', Cs, TE, eA⟩ := zE f0
      rw [ebt _ hL.2] at TE
      refine ⟨k', v', q', r', m', Cs, ts.set (705 * s 139 2).toNat (wp_i 0), tk, TE, by rw [List.length_set]; exact t2, List.getElem?_set_self (by omega), fun j hj => ?_⟩
      rw [eA]
      exact mkS_i z141 j (decide_eq_true (Or.inl ⟨rfl, by omega⟩))
