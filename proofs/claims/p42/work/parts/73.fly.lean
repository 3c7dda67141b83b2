/-! shown by hand: a step of the machine -/
theorem mj_run_s {f d m pc : Nat} {i : Instr} {lv : mj_L} {st : List Value} {h : mj_H} {pc' : Nat} {lv' : mj_L} {st' : List Value} {h' : mj_H} {q : Option Value × mj_H} (hi : mj_ins m pc = some i) (he : mj_end m i st = none) (hc : mj_call m i st h = none) (hs : mj_st m pc i lv st h = some (pc', lv', st', h')) (hr : mj_run f d m pc' lv' st' h' = some q) : mj_run (f + 1) d m pc lv st h = some q := by
  unfold mj_run
  rw [hi]
  dsimp only
  rw [he]
  dsimp only
  rw [hc]
  dsimp only
  rw [hs]
  exact hr
theorem sx_ef_ax {tau mods : List Nat} {h : mj_H} {b t kd : Nat} {vs ws : List Value} (hb : h[b]? = some (kd, vs)) (ht : tau[b]? = some t) (hk1 : ∀ key, key ∉ mods → sx_at tau b (kd, ws) key = sx_at tau b (kd, vs) key) (hk2 : 900 ≤ kd → 10000 + t ∉ mods → ∀ j, (t = 21 → 16 ≤ j) → ws[j]? = vs[j]?) (hw : 1000000000 ∉ mods → ∀ B, sx_W tau h B → sx_W tau (h.set b (kd, ws)) B) : sx_ef tau mods h (h.set b (kd, ws)) := by
  have hlb := (List.getElem?_eq_some_iff.mp hb).1
  refine ⟨fun a ka us ha => ?_, fun a u ka us hu hka ha hm2 => ?_, hw⟩
  · by_cases e : b = a
    · subst e
      rw [hb] at ha
      cases ha
      exact ⟨ws, List.getElem?_set_self hlb, hk1⟩
    · exact ⟨us, by rw [List.getElem?_set_ne e]; exact ha, fun _ _ => rfl⟩
  · by_cases e : b = a
    · subst e
      rw [hb] at ha
      cases ha
      rw [ht] at hu
      cases hu
      exact ⟨ws, List.getElem?_set_self hlb, hk2 hka hm2⟩
    · exact ⟨us, by rw [List.getElem?_set_ne e]; exact ha, fun _ _ => rfl⟩
/-- the reference's own cell -/
theorem sx_rf {h : mj_H} (hH : sx_H sx_TT 20 sx_tau h) {a : Nat} (ha : sx_tau[a]? = some 63) {k : Nat} {d : sx_D} (hk : k < 31) (hd : sx_fd sx_y63.2.2 k = some d) : ∃ vs v, h[a]? = some (11, vs) ∧ vs.length = 31 ∧ vs[k]? = some v ∧ sx_dr sx_tau d v := by
  obtain ⟨-, vs, c1, c2, c3, -⟩ := hH a 63 sx_y63 ha rfl
  have c2 : vs.length = 31 := c2
  have hv : vs[k]? = some vs[k] := List.getElem?_eq_getElem (by omega)
  obtain ⟨d', d1, d2⟩ := c3 _ _ hv
  rw [hd] at d1
  cases d1
  exact ⟨vs, _, c1, c2, hv, d2⟩
/-- the reference's state -/
theorem sx_ra {h : mj_H} (hH : sx_H sx_TT 20 sx_tau h) {a : Nat} (ha : sx_tau[a]? = some 21) {k : Nat} {d : sx_D} (hk : k < 6044) (hd : sx_fd sx_y21.2.2 k = some d) : mj_n0 ≤ a ∧ ∃ vs v, h[a]? = some (1000, vs) ∧ vs.length = 6044 ∧ vs[k]? = some v ∧ sx_dr sx_tau d v := by
  obtain ⟨c0, vs, c1, c2, c3, -⟩ := hH a 21 sx_y21 ha rfl
  have c2 : vs.length = 6044 := c2
  have hv : vs[k]? = some vs[k] := List.getElem?_eq_getElem (by omega)
  obtain ⟨d', d1, d2⟩ := c3 _ _ hv
  rw [hd] at d1
  cases d1
  exact ⟨c0 (by decide), vs, _, c1, c2, hv, d2⟩
set_option maxRecDepth 100000 in
theorem sx_k222e : sx_ch0 sx_PP 222 sx_K222 sx_c222 3000 = true := by decide +kernel
set_option maxRecDepth 100000 in
theorem sx_k222c : ((sx_c222.filter fun T => !(T.1 == 211)).all (sx_ck1 sx_PP 222 sx_K222 sx_c222 3000)) = true := by decide +kernel
def sx_T211 : sx_T := (211, [some (2, (63, [(0, 0)])), none, none, none], [], 1, [], [], [0], (2, []), (0, []))
def sx_T222 : sx_T := (222, [some (2, (63, [(0, 0)])), none, none, none], [], 1, [], [], [0], (0, []), (1, []))
set_option maxRecDepth 100000 in
theorem sx_fly_i : mj_ins 222 211 = some (.aload_n 0) ∧ mj_ins 222 212 = some (.getfield 7) ∧ mj_ins 222 215 = some (.bipush 12) ∧ mj_ins 222 217 = some .dup2 ∧ mj_ins 222 218 = some .iaload ∧ mj_ins 222 219 = some (.iconst 1) ∧ mj_ins 222 220 = some .iadd ∧ mj_ins 222 221 = some .iastore ∧ mj_fld 222 7 = some (11, 0, .array .int, false) := by decide +kernel
theorem sx_fly_hd {d : Nat} : sx_hd sx_PP d 222 sx_K222 sx_c222 sx_T211 := by
  intro B r g lv h hB hg hX hW hU
  obtain ⟨hl, -, hE, hC, hH⟩ := hg
  have hc : sx_cost sx_K222.2.2.2 = 1 := by decide
  rw [hc] at hB
  obtain ⟨v, l1, rfl, l2⟩ := hl.2 0 _ rfl
  obtain ⟨vs, v, f1, f2, f3, A, rfl, f4⟩ := sx_rf hH l2 (k := 0) (d := (2, 21, 0)) (by decide) rfl
  obtain ⟨n0, ws, v, a1, a2, a3, z, rfl, a4, a5⟩ := sx_ra hH f4 (k := 12) (d := (0, 0, 2147483647)) (by decide) (by decide)
  have hz : z.toInt ≤ B := by
    have := hW A 21 1000 ws 12 z f4 a1 (by decide) a3
    have e0 : sx_ev r sx_T211.2.2.2.2.2.2.2.2 = 0 := rfl
    rw [e0, Int.add_zero] at this
    exact this
  have hz1 : (z + Int32.ofInt 1).toInt = z.toInt + 1 := by
    have e1 : (Int32.ofInt 1).toInt = 1 := by decide
    have hmx : sx_mx = 2147483647 := rfl
    have hmn : sx_mn = -2147483648 := rfl
    have := sx_r32 z
    rw [sx_iadd (by rw [e1]; omega), e1]
  obtain ⟨i1, i2, i3, i4, i5, i6, i7, i8, i9⟩ := sx_fly_i
  have hlA := sx_lt_of a1
  have hel : mj_el h A 1000 (Int8.ofInt 12).toInt32 = some (.int z) := by
    unfold mj_el
    rw [a1]
    dsimp only
    rw [if_pos rfl, a2, show mj_ix (Int8.ofInt 12).toInt32 6044 = some 12 from by decide]
    exact a3
  have hes : mj_es mj_n0 h A 1000 (Int8.ofInt 12).toInt32 (.int (z + Int32.ofInt 1)) = some (h.set A (1000, ws.set 12 (.int (z + Int32.ofInt 1)))) := by
    unfold mj_es
    rw [a1]
    dsimp only
    rw [if_pos ⟨rfl, n0⟩, a2, show mj_ix (Int8.ofInt 12).toInt32 6044 = some 12 from by decide]
  have hH' : sx_H sx_TT 20 sx_tau (h.set A (1000, ws.set 12 (.int (z + Int32.ofInt 1)))) := by
    refine sx_H_set (P := sx_PP) hH f4 (t := 21) (kd := sx_y21.1) (len := sx_y21.2.1) (l := sx_y21.2.2) rfl (by rw [List.length_set]; exact a2) hlA (fun k w hw => ?_) (fun e => by cases e)
    obtain ⟨-, ws', c1, -, c3, -⟩ := hH A 21 sx_y21 f4 rfl
    rw [a1] at c1
    cases c1
    by_cases e : 12 = k
    · subst e
      rw [List.getElem?_set_self (by omega)] at hw
      cases hw
      refine ⟨(0, 0, 2147483647), by decide, _, rfl, ?_, ?_⟩
      · rw [hz1]; omega
      · rw [hz1]
        have hmx : sx_mx = 2147483647 := rfl
        omega
    · rw [List.getElem?_set_ne e] at hw
      exact c3 k w hw
  have hW' : sx_W sx_tau (h.set A (1000, ws.set 12 (.int (z + Int32.ofInt 1)))) (B + 1) := by
    intro b u kb us k y h1 h2 h3 h4
    have e0 : sx_ev r sx_T211.2.2.2.2.2.2.2.2 = 0 := rfl
    rw [e0, Int.add_zero] at hW
    by_cases e : A = b
    · subst e
      rw [List.getElem?_set_self hlA] at h2
      cases h2
      by_cases e2 : 12 = k
      · subst e2
        rw [List.getElem?_set_self (by omega)] at h4
        cases h4
        rw [hz1]
        omega
      · rw [List.getElem?_set_ne e2] at h4
        have := hW A u _ ws k y h1 a1 h3 h4
        omega
    · rw [List.getElem?_set_ne e] at h2
      have := hW b u kb us k y h1 h2 h3 h4
      omega
  obtain ⟨f, w, h2, q1, q2, q3, q4, q5, q6⟩ := hU sx_T222 (List.mem_of_getElem? (i := 3) rfl) r g lv _ ⟨hl, trivial, hE, (fun q hq => by cases hq), hH'⟩ (fun _ _ => rfl) (show (0 : Int) + 0 + 1 ≤ 2 + 0 by decide) hW'
  refine ⟨f + 8, w, h2, ?_, q2, q3, sx_ef_tr ?_ q4, q5.trans (List.length_set ..), q6⟩
  · show mj_run (f + 8) d 222 211 lv [] h = some (w, h2)
    refine mj_run_s i1 rfl rfl (show mj_la 211 lv [] h 0 1 = some (212, lv, [.ref (g 0)], h) by unfold mj_la; rw [l1]) ?_
    refine mj_run_s i2 rfl rfl (by simp only [mj_st, i9, f1, if_true, f3]; rfl) ?_
    refine mj_run_s i3 rfl rfl rfl ?_
    refine mj_run_s i4 rfl rfl rfl ?_
    refine mj_run_s i5 rfl rfl (by simp only [mj_st, hel, Option.map_some]; rfl) ?_
    refine mj_run_s i6 rfl rfl rfl ?_
    refine mj_run_s i7 rfl rfl rfl ?_
    refine mj_run_s i8 rfl rfl (by simp only [mj_st, hes, Option.map_some]; rfl) ?_
    exact q1
  · refine sx_ef_ax (t := 21) a1 f4 (fun key hk => sx_at_as (by decide) (fun _ _ e => hk ?_)) (fun _ hn => absurd (by decide) hn) (fun hn => absurd (by decide) hn)
    rw [e]
    decide
theorem sx_M222 {d : Nat} (IH : sx_IH sx_PP d) : sx_M sx_PP d 222 sx_K222 := by
  refine sx_ch0_ok IH sx_k222e (fun T hT => ?_)
  by_cases e : T.1 = 211
  · refine Or.inr ?_
    have : T = sx_T211 := by
      simp only [sx_c222, List.mem_cons, List.not_mem_nil, or_false] at hT
      rcases hT with rfl | rfl | rfl | rfl
      · cases e
      · cases e
      · rfl
      · cases e
    subst this
    exact ⟨by decide, sx_fly_hd⟩
  · refine Or.inl (List.all_eq_true.mp sx_k222c T (List.mem_filter.mpr ⟨hT, ?_⟩))
    simpa using e
