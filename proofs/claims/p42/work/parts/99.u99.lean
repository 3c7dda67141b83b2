/-! -/
/-! a text at the law: what the class's reader leaves, what the reference's -/
def tapB (f : Int → Int) (L : Int) : Int → Int := fun k => if k < L then f (k.toNat : Int) else -1
theorem el_v {l : List Value} {k : Nat} {x : Int} (e : l[k]? = some (wp_i x)) (hx : wp_r x) : sx_el l k = x := by
  unfold sx_el
  rw [e]
  exact wp_ti hx
theorem tB_T {h : mj_H} {s : sg_} (C : CS h s) {a : Nat} (ha : a = 92 ∨ a = 142) {bl : List Value} (e : h[a]? = some (1000, bl)) (b : ∀ j : Int, 0 ≤ j → j < 300 → 0 ≤ s a j ∧ s a j ≤ 255) : tB bl ∧ ∀ L : Int, L ≤ 300 → bt bl L = tapB (s a) L := by
  have hq : sh_T[a]? = some (1000, [], 300, 0) := by rcases ha with rfl | rfl <;> rfl
  have v : ∀ j : Nat, j < 300 → bl[j]? = some (wp_i (s a (j : Int))) ∧ bl.length = 300 ∧ wp_r (s a (j : Int)) := fun j hj => cs_v C (q := (1000, [], 300, 0)) (by omega) (by show ¬ (a = 10 ∨ (144 ≤ a ∧ a ≤ 146)); omega) hq rfl rfl (by show j < 0 + 300; omega) e
  have w : ∀ j : Nat, j < 300 → sx_el bl j = s a (j : Int) := fun j hj => el_v (v j hj).1 (v j hj).2.2
  refine ⟨⟨(v 0 (by decide)).2.1, fun j hj => ?_⟩, fun L hL => ?_⟩
  · rw [w j hj]
    exact ⟨(v j hj).1, b j (by omega) (by omega)⟩
  · funext k
    unfold bt tapB
    by_cases q : k < L
    · rw [if_pos q, if_pos q]
      exact w k.toNat (by omega)
    · rw [if_neg q, if_neg q]
theorem fd_ln {h : mj_H} (H : sx_H sx_TT 20 sx_tau h) {a t : Nat} {ty : sx_Ty} {kd : Nat} {vs : List Value} (ht : sx_tau[a]? = some t) (hT : sx_TT[t]? = some ty) (e : h[a]? = some (kd, vs)) : vs.length = ty.2.1 := by
  obtain ⟨-, fs, e1, e2, -⟩ := H a t ty ht hT
  rw [e] at e1
  injection e1 with e1
  injection e1 with _ e1
  rw [e1]
  exact e2
theorem fd_txX {h : mj_H} (H : sx_H sx_TT 20 sx_tau h) (P : fd_P h) {t : Nat} (ht : t = 12 ∨ t = 19 ∨ t = 26 ∨ t = 33) : ∃ (cl : Int) (F : TD), tX h t cl F ∧ TDl F := by
  have ty : sx_tau[t]? = some 27 ∧ sx_tau[t + 1]? = some 28 ∧ sx_tau[t + 2]? = some 29 ∧ sx_tau[t + 3]? = some 30 ∧ sx_tau[t + 4]? = some 31 ∧ sx_tau[t + 5]? = some 32 ∧ sx_tau[t + 6]? = some 33 := by
    rcases ht with rfl | rfl | rfl | rfl <;> exact ⟨rfl, rfl, rfl, rfl, rfl, rfl, rfl⟩
  obtain ⟨cl, fr, ⟨a1, c1, c3, c4, c5, c6, e1, b, k1, k2, k3, k4, k5, k6⟩, l⟩ := fd_txt H P ht
  exact ⟨cl, ((a1, c1), (fr, c3), (c4, c5, c6)), ⟨e1, b, k1, k2, k3, k4, k5, k6⟩, fd_ln H ty.2.1 (show sx_TT[28]? = some sx_y28 from rfl) k1, ⟨l, fd_ln H ty.2.2.2.1 (show sx_TT[30]? = some sx_y30 from rfl) k3⟩, fd_ln H ty.2.2.2.2.1 (show sx_TT[31]? = some sx_y31 from rfl) k4, fd_ln H ty.2.2.2.2.2.1 (show sx_TT[32]? = some sx_y32 from rfl) k5, fd_ln H ty.2.2.2.2.2.2 (show sx_TT[33]? = some sx_y33 from rfl) k6⟩
set_option maxRecDepth 100000 in
theorem hcok_t {h1 : mj_H} (H : sx_H sx_TT 20 sx_tau h1) (P : fd_P h1) {t : Nat} (ht : t = 12 ∨ t = 19 ∨ t = 26 ∨ t = 33) {a : Nat} (ha : t ≤ a ∧ a ≤ t + 6) : hcok h1 a := by
  obtain ⟨k, rfl⟩ : ∃ k, a = t + k := ⟨a - t, by omega⟩
  have hk : k = 0 ∨ k = 1 ∨ k = 2 ∨ k = 3 ∨ k = 4 ∨ k = 5 ∨ k = 6 := by omega
  rcases ht with rfl | rfl | rfl | rfl
  all_goals
    rcases hk with rfl | rfl | rfl | rfl | rfl | rfl | rfl
    · exact hcok_P H P rfl (show sx_TT[27]? = some sx_y27 from rfl) rfl (by decide +kernel) (by decide +kernel)
    · exact hcok_A H rfl (show sx_TT[28]? = some sx_y28 from rfl) rfl (by decide +kernel)
    · exact hcok_A H rfl (show sx_TT[29]? = some sx_y29 from rfl) rfl (by decide +kernel)
    · exact hcok_A H rfl (show sx_TT[30]? = some sx_y30 from rfl) rfl (by decide +kernel)
    · exact hcok_A H rfl (show sx_TT[31]? = some sx_y31 from rfl) rfl (by decide +kernel)
    · exact hcok_A H rfl (show sx_TT[32]? = some sx_y32 from rfl) rfl (by decide +kernel)
    · exact hcok_A H rfl (show sx_TT[33]? = some sx_y33 from rfl) rfl (by decide +kernel)
/-- what the class's reader may write -/
def YC (t a k : Nat) : Bool := decide ((t ≤ a ∧ a ≤ t + 6) ∨ a = 91 ∨ a = 93 ∨ a = 94 ∨ (a = 47 ∧ k = 6))
/-- what it leaves: s before, c1 after -/
def cTx (s c1 : sg_) (c f q : Int) (Cs : List KC) : Prop :=
  (∃ (k v p r : Int) (m : Nat) (ls : Int), (0 ≤ ls ∧ ls ≤ 6) ∧ tok (tapB (s 92) (s 91 1)) 0 k v p r ∧ tre (tapB (s 92) (s 91 1)) m nof 0 ls k v p r Cs f q) ∧
  (∀ (b : Nat) (j : Int), ¬ (12 + 7 * c ≤ (b : Int) ∧ (b : Int) ≤ 12 + 7 * c + 6) → ¬ b = 91 → ¬ b = 93 → ¬ b = 94 → ¬ (b = 47 ∧ j = 6) → c1 b j = s b j) ∧
  (c1 91 1 = 0 ∧ c1 93 2 = 1 ∧ c1 93 3 = vnn (some (wp_i f)) ∧ c1 93 4 = vnn (some (wp_i q)) ∧ c1 47 6 = if f = 0 then c + 1 else c) ∧
  (f = 0 → ∃ (t : Nat) (F : TD), (t : Int) = 12 + 7 * c ∧ TDl F ∧ F.1.1 = 0 ∧ (∀ x : Nat, x < 3 → F.2.1.1[x]? = some (wp_i (-1))) ∧ c1 t 7 = (Cs.length : Int) ∧ ∀ k : Nat, c1 (t + 1) (k : Int) = vnn ((apKs F 0 Cs).1.2[k]?) ∧ c1 (t + 2) (k : Int) = vnn ((apKs F 0 Cs).2.1.1[k]?) ∧ c1 (t + 3) (k : Int) = vnn ((apKs F 0 Cs).2.1.2[k]?) ∧ c1 (t + 4) (k : Int) = vnn ((apKs F 0 Cs).2.2.1[k]?) ∧ c1 (t + 5) (k : Int) = vnn ((apKs F 0 Cs).2.2.2.1[k]?) ∧ c1 (t + 6) (k : Int) = vnn ((apKs F 0 Cs).2.2.2.2[k]?))
theorem tc_Text (AM : lw_AM) {sl : List Value} {h : mj_H} {B : Int} {s : sg_} {tc : tcs} {tr : Int → crs} {M : Int} (L : LAWS tc tr s M) (W : WS sl h B s) (hB : 0 ≤ B ∧ B ≤ 130000000) : wp_R 1199 19 0 [some (.ref 9)] [] h (fun v h1 => (s 47 6 = 4 ∧ v = some (wp_i (-1)) ∧ WS sl h1 (B + (0 : Nat)) s) ∨ (¬ s 47 6 = 4 ∧ ∃ (f q : Int) (Cs : List KC) (c1 : sg_), cTx s c1 (s 47 6) f q Cs ∧ v = some (wp_i (if f = 0 then s 47 6 else -1)) ∧ WS sl h1 (B + (0 : Nat)) c1)) := by
  obtain ⟨I, P, S, C⟩ := W
  have hc : 0 ≤ s 47 6 ∧ s 47 6 ≤ 4 := L.1.1.1.2.2.2.2.2.1
  obtain ⟨⟨hL0, hL1⟩, -, hT⟩ := L.2.1
  obtain ⟨v91, e91'⟩ := cs_c C (a := 91) (q := (8, [95, 0, 0, 0, 0, 0], 0, 0)) (by decide) rfl
  have p91 := (cs_v C (a := 91) (k := 1) (kI := 1) (q := (8, [95, 0, 0, 0, 0, 0], 0, 0)) (by decide) (by decide) rfl rfl rfl (by decide) e91').1
  obtain ⟨k, v, z, p, e91⟩ := fd_tap I.1 P ⟨v91, e91', p91⟩
  obtain ⟨bl, e92⟩ := cs_c C (a := 92) (q := (1000, [], 300, 0)) (by decide) rfl
  obtain ⟨D, ebt⟩ := tB_T C (Or.inl rfl) e92 (fun j a b => (hT j a b).1)
  obtain ⟨t0, a1, a2, a3, a4, a5, a6, a7, a8, a9, a10, e93, -, hls⟩ := fd_rdr I.1 P
  obtain ⟨g9, e9, q0⟩ := P (9, 0, 0, 47) (by decide)
  have q2 := fd_at (P (9, 0, 2, 91) (by decide)) e9
  have q3 := fd_at (P (9, 0, 3, 93) (by decide)) e9
  obtain ⟨s47, s1, s2, -⟩ := fd_34 I.1 (a := 47) rfl
  have p47 := (cs_v C (a := 47) (k := 6) (kI := 6) (q := (2, [51, 59, 62, 64, 68, 14, 0, 0], 0, 0)) (by decide) (by decide) rfl rfl rfl (by decide) s1).1
  obtain ⟨ws, w1, wl⟩ : ∃ ws, h[94]? = some (1000, ws) ∧ ws.length = 40 := by
    obtain ⟨-, ws, w1, w2, -⟩ := I.1 94 59 sx_y59 rfl rfl
    exact ⟨ws, w1, w2⟩
  obtain ⟨t, ht1, ht2⟩ : ∃ t : Nat, (t = 12 ∨ t = 19 ∨ t = 26 ∨ t = 33) ∧ ((t : Int) = 12 + 7 * s 47 6 ∨ s 47 6 = 4) := by
    obtain ⟨c, ec⟩ : ∃ c, s 47 6 = c := ⟨_, rfl⟩
    rw [ec] at hc ⊢
    have h5 : c = 0 ∨ c = 1 ∨ c = 2 ∨ c = 3 ∨ c = 4 := by omega
    rcases h5 with rfl | rfl | rfl | rfl | rfl
    · exact ⟨12, by decide, by decide⟩
    · exact ⟨19, by decide, by decide⟩
    · exact ⟨26, by decide, by decide⟩
    · exact ⟨33, by decide, by decide⟩
    · exact ⟨12, by decide, by decide⟩
  obtain ⟨cl, fr, X1, X2⟩ := fd_txX I.1 P ht1
  refine wp_mono (wl_wp (lw_K0 (n := 0) I P S (AM 1199 19 sx_K19 rfl) (vs := [.ref 9]) ⟨⟨9, rfl, rfl⟩, trivial⟩ (show (7 : Int) + 0 ≤ ((1199 : Nat) : Int) by decide) (by decide) (by omega) (by rw [jn_19]; rfl) (by decide)) (fun n => wk_tx (d := 1192) ⟨⟨e9, q0, q2, q3⟩, ⟨s1, s2, fd_at (P (47, 2, 5, 11) (by decide)) s1, p47⟩, S.2.2, e91, e92, e93, ⟨w1, wl⟩, X1, X2.2.1.1⟩ D ⟨hL0, hL1⟩ S.2.1 S.1 hc ht2 hls)) ?_
  rintro v h1 ⟨⟨-, k2, k3, k4, k5⟩, ⟨y, rfl, rfl⟩ | ⟨y, k', v', q', r', f', q9, Cs, tk, ⟨m, TR⟩, ⟨cl', fr', X', hX⟩, -, rfl, ⟨z1, z2, z3, z4, z91⟩, ⟨w1', w2', w3', w4', w5', w6', w7', z93⟩, z47, zf⟩⟩
  · exact Or.inl ⟨y, rfl, lw_le I (by omega), P, S, C⟩
  · rw [ebt _ hL1] at tk TR
    have ht : (t : Int) = 12 + 7 * s 47 6 := by omega
    have t33 : 12 ≤ t ∧ t ≤ 33 := by omega
    have z47' : h1[47]? = some (2, s47.set 6 (wp_i (if f' = 0 then s 47 6 + 1 else s 47 6))) := by
      rw [z47]
      by_cases q : f' = 0
      · rw [if_pos q, if_pos q]
      · rw [if_neg q, if_neg q, set_sf p47]
    have C1 : CS h1 (mkS (YC t) h1 s) := CS_mk C (fun a ha0 ha => by
      by_cases c1 : t ≤ a ∧ a ≤ t + 6
      · exact hck_A (hcok_t k2.1 k3 ht1 c1) (fun k => decide_eq_true (Or.inl c1))
      · by_cases c2 : a = 91
        · subst c2
          exact hck_A (hcok_P k2.1 k3 rfl (show sx_TT[56]? = some sx_y56 from rfl) rfl (by decide +kernel) (by decide +kernel)) (fun k => decide_eq_true (Or.inr (Or.inl rfl)))
        · by_cases c3 : a = 93
          · subst c3
            exact hck_A (hcok_P k2.1 k3 rfl (show sx_TT[58]? = some sx_y58 from rfl) rfl (by decide +kernel) (by decide +kernel)) (fun k => decide_eq_true (Or.inr (Or.inr (Or.inl rfl))))
          · by_cases c4 : a = 94
            · subst c4
              exact hck_A (hcok_A k2.1 rfl (show sx_TT[59]? = some sx_y59 from rfl) rfl (by decide +kernel)) (fun k => decide_eq_true (Or.inr (Or.inr (Or.inr (Or.inl rfl)))))
            · by_cases c5 : a = 47
              · subst c5
                exact hck_S s1 z47' (fun q hq => by cases hq; rfl) (fun k => by
                  by_cases q : k = 6
                  · rw [decide_eq_true q]
                    exact decide_eq_true (Or.inr (Or.inr (Or.inr (Or.inr ⟨rfl, q⟩))))
                  · rw [decide_eq_false q]
                    exact decide_eq_false (by omega))
              · exact hck_0 (zf a c1 c2 c3 c4 c5) (fun k => decide_eq_false (by omega)))
    refine Or.inr ⟨y, f', q9, Cs, mkS (YC t) h1 s, ⟨⟨k', v', q', r', m, a9, hls, tk, TR⟩, fun b j b1 b2 b3 b4 b5 => mkS_o (fun hj => decide_eq_false (by omega)), ⟨?_, ?_, ?_, ?_, ?_⟩, fun f0 => ?_⟩, rfl, lw_le k2 (by omega), k3, k4, C1⟩
    · exact mkS_v z91 (k := 1) (decide_eq_true (Or.inr (Or.inl rfl))) rfl rfl (by decide)
    · exact mkS_v z93 (k := 2) (decide_eq_true (Or.inr (Or.inr (Or.inl rfl)))) rfl rfl (by decide)
    · exact mkS_i z93 3 (decide_eq_true (Or.inr (Or.inr (Or.inl rfl))))
    · exact mkS_i z93 4 (decide_eq_true (Or.inr (Or.inr (Or.inl rfl))))
    · refine mkS_v z47' (k := 6) (decide_eq_true (Or.inr (Or.inr (Or.inr (Or.inr ⟨rfl, rfl⟩))))) rfl (List.getElem?_set_self (by omega)) ?_
      constructor <;> split <;> omega
    · obtain ⟨h1a, h2a⟩ := hX f0
      subst f0
      obtain ⟨x0, x1, x2, x3, x4, x5, x6, x7⟩ := X'
      have K := (tre_ok TR (by decide)).2
      have yt : ∀ i k : Nat, i ≤ 6 → YC t (t + i) k = true := fun i k hi => decide_eq_true (Or.inl (by omega))
      refine ⟨t, ((0, fr.1.2), ([wp_i (-1), wp_i (-1), wp_i (-1)], fr.2.1.2), fr.2.2), ht, ⟨X2.1, ⟨rfl, X2.2.1.2⟩, X2.2.2⟩, rfl, fun x hx => ?_, ?_, fun k => ?_⟩
      · match x, hx with
        | 0, _ => rfl
        | 1, _ => rfl
        | 2, _ => rfl
      · exact mkS_v x0 (k := 7) (yt 0 7 (by decide)) rfl (by rw [← h1a]; rfl) (by constructor <;> omega)
      · rw [← h2a]
        exact ⟨mkS_i x2 k (yt 1 k (by decide)), mkS_i x3 k (yt 2 k (by decide)), mkS_i x4 k (yt 3 k (by decide)), mkS_i x5 k (yt 4 k (by decide)), mkS_i x6 k (yt 5 k (by decide)), mkS_i x7 k (yt 6 k (by decide))⟩
