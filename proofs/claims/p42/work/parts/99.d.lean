/-! the reference's reader: clauses, texts -/
def fz (φ φ' : Nat → Int) : Prop := φ' 4 = φ 4 ∧ φ' 12 = φ 12 ∧ φ' 14 = φ 14 ∧ φ' 21 = φ 21 ∧ φ 7 ≤ φ' 7
/-- the reader within the clause at x of text s -/
def cq (t0 : List Value) (φ : Nat → Int) (ts : List Value) (s x : Nat) : Prop := ∃ w : Nat, φ 12 = ((705 * s : Nat) : Int) ∧ s < 4 ∧ φ 13 = (w : Int) ∧ jw ts s w ∧ φ 13 ≤ φ 7 ∧ (¬ φ 9 = 0 → φ 13 + 1 ≤ φ 7) ∧ ∀ j, (j < 705 * s + 97 ∨ 705 * s + 705 ≤ j) → j ≠ x + 1 → j ≠ x + 2 → sx_el ts j = sx_el t0 j
def bR (h0 : mj_H) (a P T : Nat) (t0 : List Value) (s x : Nat) (sort : Int) (φ : Nat → Int) : Option Value → mj_H → Prop := fun v h1 => ∃ y : Int, v = some (wp_i y) ∧ 0 ≤ y ∧ y ≤ 7 ∧ ∃ φ' pl' ts', pv h0 h1 a P T φ' pl' ts' ∧ cq t0 φ' ts' s x ∧ fz φ φ' ∧ (y = 0 → sort ≤ 2 → ∃ (c0 w' : Nat) (q : Nat × Nat), sx_el ts' (x + 1) = (c0 : Int) ∧ sx_el ts' (x + 2) = (w' : Int) ∧ c0 ≤ w' ∧ φ' 13 = (w' : Int) ∧ we ts' (705 * s + 97) c0 (w' - c0) (0, 0) = some q)
set_option maxRecDepth 100000 in
theorem hd_k : ((List.range 24).all fun k => decide (sx_p20[1 + 4 * k]? = some (0, 0, 9)) && (decide (sx_p20[2 + 4 * k]? = some (0, 0, 303)) && decide (sx_p20[3 + 4 * k]? = some (0, 0, 303)))) = true ∧ sx_p20[0]? = some (0, 0, 24) := by decide +kernel
theorem hd_p {s k : Nat} (hk : k < 24) : sx_p20[(705 * s + 1 + 4 * k) % 705]? = some (0, 0, 9) ∧ sx_p20[(705 * s + 1 + 4 * k + 1) % 705]? = some (0, 0, 303) ∧ sx_p20[(705 * s + 1 + 4 * k + 2) % 705]? = some (0, 0, 303) := by
  have h := List.all_eq_true.mp hd_k.1 k (List.mem_range.mpr hk)
  simp only [Bool.and_eq_true, decide_eq_true_eq] at h
  rw [show (705 * s + 1 + 4 * k) % 705 = 1 + 4 * k by omega, show (705 * s + 1 + 4 * k + 1) % 705 = 2 + 4 * k by omega, show (705 * s + 1 + 4 * k + 2) % 705 = 3 + 4 * k by omega]
  exact h
theorem hd_0 {s : Nat} : sx_p20[(705 * s) % 705]? = some (0, 0, 24) := by
  rw [show (705 * s) % 705 = 0 by omega]
  exact hd_k.2
/-- the head of a clause that isn't counted -/
theorem jw_hdr {ts : List Value} {s w k i : Nat} {y : Int} (hj : jw ts s w) (hs : s < 4) (hk : k < 24) (hi : i < 4) (hn : sx_el ts (705 * s) ≤ (k : Int)) (hl : ts.length = 2820) (hy : wp_r y) : jw (ts.set (705 * s + 1 + 4 * k + i) (wp_i y)) s w := by
  have ne : ∀ j, j ≠ 705 * s + 1 + 4 * k + i → sx_el (ts.set (705 * s + 1 + 4 * k + i) (wp_i y)) j = sx_el ts j := fun j hj => by rw [pv_el_set (by omega) hy, if_neg hj]
  refine jw_fr hj (fun r hr => ne _ (by rcases Nat.lt_trichotomy r s with h | h | h <;> omega)) (fun r k2 j hr hk2 hn2 hj2 => ne _ ?_) (fun r i2 hr hrs hi2 => ⟨ne _ (by omega), ne _ (by omega)⟩) (fun i2 hi2 => ⟨ne _ (by omega), ne _ (by omega)⟩) hs
  rcases Nat.lt_trichotomy r s with h | h | h
  · omega
  · subst h
    omega
  · omega
/-- a clause is counted -/
theorem jw_cnt {ts : List Value} {s w k : Nat} {sort : Int} (hj : jw ts s w) (hs : s < 4) (hk : k < 24) (hn : sx_el ts (705 * s) = (k : Int)) (hl : ts.length = 2820) (hw : w ≤ 303) (hso : sx_el ts (705 * s + 1 + 4 * k) = sort) (hlaw : sort ≤ 2 → ∃ (c0 w' : Nat) (q : Nat × Nat), sx_el ts (705 * s + 1 + 4 * k + 1) = (c0 : Int) ∧ sx_el ts (705 * s + 1 + 4 * k + 2) = (w' : Int) ∧ c0 ≤ w' ∧ w' = w ∧ we ts (705 * s + 97) c0 (w' - c0) (0, 0) = some q) : jw (ts.set (705 * s) (wp_i ((k : Int) + 1))) s w := by
  have ne : ∀ j, j ≠ 705 * s → sx_el (ts.set (705 * s) (wp_i ((k : Int) + 1))) j = sx_el ts j := fun j hj => by rw [pv_el_set (by omega) (by omega), if_neg hj]
  have eq : sx_el (ts.set (705 * s) (wp_i ((k : Int) + 1))) (705 * s) = (k : Int) + 1 := by rw [pv_el_set (by omega) (by omega), if_pos rfl]
  have hnew : sort ≤ 2 → ∃ p q : Nat, sx_el (ts.set (705 * s) (wp_i ((k : Int) + 1))) (705 * s + 1 + 4 * k + 1) = (p : Int) ∧ sx_el (ts.set (705 * s) (wp_i ((k : Int) + 1))) (705 * s + 1 + 4 * k + 2) = (q : Int) ∧ q ≤ 303 ∧ q = w ∧ sx_wf (ts.set (705 * s) (wp_i ((k : Int) + 1))) (705 * s + 97) p (q - p) 0 0 = true := by
    intro h2
    obtain ⟨c0, w', q, e1, e2, e3, e4, e5⟩ := hlaw h2
    refine ⟨c0, w', by rw [ne _ (by omega)]; exact e1, by rw [ne _ (by omega)]; exact e2, by omega, e4, ?_⟩
    rw [sx_wf_fr (vs := ts) (fun i i1 i2 => ⟨ne _ (by omega), ne _ (by omega)⟩)]
    exact we_wf e5
  refine ⟨fun r k2 hr hk2 hn2 hl2 => ?_, fun k2 hk2 hn2 hl2 => ?_⟩
  · rw [ne _ (by omega)] at hl2
    by_cases e : r = s ∧ k2 = k
    · obtain ⟨rfl, rfl⟩ := e
      rw [hso] at hl2
      obtain ⟨p, q, a1, a2, a3, a4, a5⟩ := hnew hl2
      exact ⟨p, q, a1, a2, a3, a5⟩
    · have hn3 : (k2 : Int) < sx_el ts (705 * r) := by
        by_cases e2 : r = s
        · subst e2
          rw [eq] at hn2
          have : k2 ≠ k := fun q => e ⟨rfl, q⟩
          omega
        · rw [ne _ (by omega)] at hn2
          exact hn2
      obtain ⟨p, q, a1, a2, a3, a4⟩ := hj.1 r k2 hr hk2 hn3 hl2
      refine ⟨p, q, by rw [ne _ (by omega)]; exact a1, by rw [ne _ (by omega)]; exact a2, a3, ?_⟩
      rw [sx_wf_fr (vs := ts) (fun i i1 i2 => ⟨ne _ (by omega), ne _ (by omega)⟩)]
      exact a4
  · rw [ne _ (by omega)] at hl2
    rw [eq] at hn2
    by_cases e : k2 = k
    · subst e
      rw [hso] at hl2
      obtain ⟨p, q, a1, a2, a3, a4, a5⟩ := hnew hl2
      omega
    · rw [ne _ (by omega)]
      exact hj.2 k2 hk2 (by omega) hl2
/-- how many texts there are, as at the beginning -/
def a2v (h0 : mj_H) (a : Nat) : Int := match (h0[a]? : Option mj_C) with
  | some (_, fs) => match fs[0]? with
    | some (Value.ref X) => match (h0[X]? : Option mj_C) with
      | some (_, tl) => sx_el tl 2
      | none => 0
    | _ => 0
  | none => 0
theorem pv_a2 {h0 h : mj_H} {a P T : Nat} {φ : Nat → Int} {pl ts : List Value} (V : pv h0 h a P T φ pl ts) : ∃ A fs as, sx_tau[A]? = some 21 ∧ h[a]? = some (11, fs) ∧ fs[0]? = some (.ref A) ∧ h[A]? = some (1000, as) ∧ as.length = 6044 ∧ as[2]? = some (wp_i (a2v h0 a)) ∧ 0 ≤ a2v h0 a ∧ a2v h0 a ≤ 4 := by
  obtain ⟨hH, hef, hln, ta, -, -, fs, f1, -⟩ := V
  obtain ⟨vs, v, g1, g2, g3, X, rfl, tX⟩ := sx_rf hH ta (k := 0) (d := (2, 21, 0)) (by decide) (by decide)
  rw [f1] at g1
  cases g1
  have tX : sx_tau[X]? = some 21 := tX
  obtain ⟨-, tl, c1, c2, c3, -⟩ := hH X 21 sx_y21 tX rfl
  have c1 : h[X]? = some (1000, tl) := c1
  have c2 : tl.length = 6044 := c2
  have la := sx_lt_of f1
  have lX := sx_lt_of c1
  have ea : h0[a]? = some h0[a] := List.getElem?_eq_getElem (by omega)
  have eX : h0[X]? = some h0[X] := List.getElem?_eq_getElem (by omega)
  obtain ⟨us, u1, u2⟩ := hef.1 a h0[a].1 h0[a].2 ea
  rw [f1] at u1
  have ek : h0[a].1 = 11 := (congrArg Prod.fst (Option.some.inj u1)).symm
  have eu : us = fs := (congrArg Prod.snd (Option.some.inj u1)).symm
  subst eu
  have u3 := u2 (100 * 11 + 0) (by decide)
  rw [ek, sx_at_f (by decide) (by decide), sx_at_f (by decide) (by decide), g3] at u3
  obtain ⟨ws, w1, w2⟩ := hef.1 X h0[X].1 h0[X].2 eX
  rw [c1] at w1
  have ekX : h0[X].1 = 1000 := (congrArg Prod.fst (Option.some.inj w1)).symm
  have exs : ws = tl := (congrArg Prod.snd (Option.some.inj w1)).symm
  subst exs
  have w3 := w2 (20000 + 2) (by decide)
  rw [ekX, sx_at_a (by decide) tX (by decide), sx_at_a (by decide) tX (by decide)] at w3
  have hv : ws[2]? = some ws[2] := List.getElem?_eq_getElem (by omega)
  obtain ⟨d', d1, d2⟩ := c3 _ _ hv
  have d1 : some ((0, 0, 4) : sx_D) = some d' := d1
  cases d1
  obtain ⟨z, ez, z1, z2⟩ := d2
  have e2 : a2v h0 a = z.toInt := by
    unfold a2v
    rw [ea]
    dsimp only
    rw [← u3]
    dsimp only
    rw [eX]
    dsimp only
    unfold sx_el
    rw [← w3, hv, ez]
  rw [e2]
  exact ⟨X, us, ws, tX, f1, g3, c1, c2, by rw [hv, ez, wp_iz], z1, z2⟩
theorem or_sh {o s : Int} (ho : 0 ≤ o ∧ o ≤ 7) (hs : 0 ≤ s ∧ s ≤ 2) : ∃ r : Int, (0 ≤ r ∧ r ≤ 7) ∧ Int32.ofInt o ||| (Int32.ofInt 1 <<< (Int32.ofInt s &&& 31)) = Int32.ofInt r := by
  have h1 : o = 0 ∨ o = 1 ∨ o = 2 ∨ o = 3 ∨ o = 4 ∨ o = 5 ∨ o = 6 ∨ o = 7 := by omega
  have h2 : s = 0 ∨ s = 1 ∨ s = 2 := by omega
  rcases h2 with rfl | rfl | rfl
  · rcases h1 with rfl | rfl | rfl | rfl | rfl | rfl | rfl | rfl
    · exact ⟨1, by decide, by decide⟩
    · exact ⟨1, by decide, by decide⟩
    · exact ⟨3, by decide, by decide⟩
    · exact ⟨3, by decide, by decide⟩
    · exact ⟨5, by decide, by decide⟩
    · exact ⟨5, by decide, by decide⟩
    · exact ⟨7, by decide, by decide⟩
    · exact ⟨7, by decide, by decide⟩
  · rcases h1 with rfl | rfl | rfl | rfl | rfl | rfl | rfl | rfl
    · exact ⟨2, by decide, by decide⟩
    · exact ⟨3, by decide, by decide⟩
    · exact ⟨2, by decide, by decide⟩
    · exact ⟨3, by decide, by decide⟩
    · exact ⟨6, by decide, by decide⟩
    · exact ⟨7, by decide, by decide⟩
    · exact ⟨6, by decide, by decide⟩
    · exact ⟨7, by decide, by decide⟩
  · rcases h1 with rfl | rfl | rfl | rfl | rfl | rfl | rfl | rfl
    · exact ⟨4, by decide, by decide⟩
    · exact ⟨5, by decide, by decide⟩
    · exact ⟨6, by decide, by decide⟩
    · exact ⟨7, by decide, by decide⟩
    · exact ⟨4, by decide, by decide⟩
    · exact ⟨5, by decide, by decide⟩
    · exact ⟨6, by decide, by decide⟩
    · exact ⟨7, by decide, by decide⟩
set_option maxRecDepth 100000 in
theorem ji_193_0 : mj_ins 193 0 = some (.aload_n 0) := by decide +kernel
set_option maxRecDepth 100000 in
theorem ji_193_1 : mj_ins 193 1 = some (.getfield 16) := by decide +kernel
set_option maxRecDepth 100000 in
theorem jf_193_16 : mj_fld 193 16 = some (11, 2, (.array .int), false) := by decide +kernel
set_option maxRecDepth 100000 in
theorem ji_193_4 : mj_ins 193 4 = some (.iload_n 1) := by decide +kernel
set_option maxRecDepth 100000 in
theorem ji_193_5 : mj_ins 193 5 = some (.iconst 1) := by decide +kernel
set_option maxRecDepth 100000 in
theorem ji_193_6 : mj_ins 193 6 = some (.iadd) := by decide +kernel
set_option maxRecDepth 100000 in
theorem ji_193_7 : mj_ins 193 7 = some (.aload_n 0) := by decide +kernel
set_option maxRecDepth 100000 in
theorem ji_193_8 : mj_ins 193 8 = some (.getfield 137) := by decide +kernel
set_option maxRecDepth 100000 in
theorem jf_193_137 : mj_fld 193 137 = some (11, 13, .int, true) := by decide +kernel
set_option maxRecDepth 100000 in
theorem ji_193_11 : mj_ins 193 11 = some (.iastore) := by decide +kernel
set_option maxRecDepth 100000 in
theorem ji_193_12 : mj_ins 193 12 = some (.aload_n 0) := by decide +kernel
set_option maxRecDepth 100000 in
theorem ji_193_13 : mj_ins 193 13 = some (.iload_n 2) := by decide +kernel
set_option maxRecDepth 100000 in
theorem ji_193_14 : mj_ins 193 14 = some (.invokevirtual 223) := by decide +kernel
set_option maxRecDepth 100000 in
theorem jc_193_223 : mj_cal 193 223 = some (2, 194, 1) := by decide +kernel
set_option maxRecDepth 100000 in
theorem jk_194 : mj_cls 194 = 11 := by decide +kernel
set_option maxRecDepth 100000 in
theorem jn_194 : mj_nl 194 = 3 := by decide +kernel
set_option maxRecDepth 100000 in
theorem ji_193_17 : mj_ins 193 17 = some (.istore_n 3) := by decide +kernel
set_option maxRecDepth 100000 in
theorem ji_193_18 : mj_ins 193 18 = some (.aload_n 0) := by decide +kernel
set_option maxRecDepth 100000 in
theorem ji_193_19 : mj_ins 193 19 = some (.getfield 16) := by decide +kernel
set_option maxRecDepth 100000 in
theorem ji_193_22 : mj_ins 193 22 = some (.iload_n 1) := by decide +kernel
set_option maxRecDepth 100000 in
theorem ji_193_23 : mj_ins 193 23 = some (.iconst 2) := by decide +kernel
set_option maxRecDepth 100000 in
theorem ji_193_24 : mj_ins 193 24 = some (.iadd) := by decide +kernel
set_option maxRecDepth 100000 in
theorem ji_193_25 : mj_ins 193 25 = some (.aload_n 0) := by decide +kernel
set_option maxRecDepth 100000 in
theorem ji_193_26 : mj_ins 193 26 = some (.getfield 137) := by decide +kernel
set_option maxRecDepth 100000 in
theorem ji_193_29 : mj_ins 193 29 = some (.iastore) := by decide +kernel
set_option maxRecDepth 100000 in
theorem ji_193_30 : mj_ins 193 30 = some (.iload_n 3) := by decide +kernel
set_option maxRecDepth 100000 in
theorem ji_193_31 : mj_ins 193 31 = some (.ireturn) := by decide +kernel
set_option maxRecDepth 100000 in
theorem jr_193 : mj_ret 193 = some .int := by decide +kernel
set_option maxRecDepth 100000 in
theorem ji_213_0 : mj_ins 213 0 = some (.aload_n 0) := by decide +kernel
set_option maxRecDepth 100000 in
theorem ji_213_1 : mj_ins 213 1 = some (.getfield 95) := by decide +kernel
set_option maxRecDepth 100000 in
theorem jf_213_95 : mj_fld 213 95 = some (11, 9, .int, true) := by decide +kernel
set_option maxRecDepth 100000 in
theorem ji_213_4 : mj_ins 213 4 = some (.iconst 1) := by decide +kernel
set_option maxRecDepth 100000 in
theorem ji_213_5 : mj_ins 213 5 = some (.if_icmp .eq 5) := by decide +kernel
set_option maxRecDepth 100000 in
theorem ji_213_10 : mj_ins 213 10 = some (.aload_n 0) := by decide +kernel
set_option maxRecDepth 100000 in
theorem ji_213_11 : mj_ins 213 11 = some (.getfield 102) := by decide +kernel
set_option maxRecDepth 100000 in
theorem jf_213_102 : mj_fld 213 102 = some (11, 10, .int, true) := by decide +kernel
set_option maxRecDepth 100000 in
theorem ji_213_14 : mj_ins 213 14 = some (.iload_n 2) := by decide +kernel
set_option maxRecDepth 100000 in
theorem ji_213_15 : mj_ins 213 15 = some (.iload_n 3) := by decide +kernel
set_option maxRecDepth 100000 in
theorem ji_213_16 : mj_ins 213 16 = some (.invokestatic 66) := by decide +kernel
set_option maxRecDepth 100000 in
theorem jc_213_66 : mj_cal 213 66 = some (1, 171, 3) := by decide +kernel
set_option maxRecDepth 100000 in
theorem ji_213_19 : mj_ins 213 19 = some (.ifCond .ne 5) := by decide +kernel
set_option maxRecDepth 100000 in
theorem ji_213_24 : mj_ins 213 24 = some (.aload_n 0) := by decide +kernel
set_option maxRecDepth 100000 in
theorem ji_213_25 : mj_ins 213 25 = some (.getfield 16) := by decide +kernel
set_option maxRecDepth 100000 in
theorem jf_213_16 : mj_fld 213 16 = some (11, 2, (.array .int), false) := by decide +kernel
set_option maxRecDepth 100000 in
theorem ji_213_28 : mj_ins 213 28 = some (.iload_n 1) := by decide +kernel
set_option maxRecDepth 100000 in
theorem ji_213_29 : mj_ins 213 29 = some (.aload_n 0) := by decide +kernel
set_option maxRecDepth 100000 in
theorem ji_213_30 : mj_ins 213 30 = some (.getfield 102) := by decide +kernel
set_option maxRecDepth 100000 in
theorem ji_213_33 : mj_ins 213 33 = some (.iastore) := by decide +kernel
set_option maxRecDepth 100000 in
theorem ji_213_34 : mj_ins 213 34 = some (.aload_n 0) := by decide +kernel
set_option maxRecDepth 100000 in
theorem ji_213_35 : mj_ins 213 35 = some (.invokevirtual 171) := by decide +kernel
set_option maxRecDepth 100000 in
theorem jc_213_171 : mj_cal 213 171 = some (2, 178, 0) := by decide +kernel
set_option maxRecDepth 100000 in
theorem ji_213_38 : mj_ins 213 38 = some (.iconst 0) := by decide +kernel
set_option maxRecDepth 100000 in
theorem ji_213_39 : mj_ins 213 39 = some (.ireturn) := by decide +kernel
set_option maxRecDepth 100000 in
theorem jr_213 : mj_ret 213 = some .int := by decide +kernel
set_option maxRecDepth 100000 in
theorem ji_213_22 : mj_ins 213 22 = some (.iconst 2) := by decide +kernel
set_option maxRecDepth 100000 in
theorem ji_213_23 : mj_ins 213 23 = some (.ireturn) := by decide +kernel
set_option maxRecDepth 100000 in
theorem ji_213_8 : mj_ins 213 8 = some (.iconst 1) := by decide +kernel
set_option maxRecDepth 100000 in
theorem ji_213_9 : mj_ins 213 9 = some (.ireturn) := by decide +kernel
set_option maxRecDepth 100000 in
theorem ji_212_0 : mj_ins 212 0 = some (.aload_n 0) := by decide +kernel
set_option maxRecDepth 100000 in
theorem ji_212_1 : mj_ins 212 1 = some (.iload_n 1) := by decide +kernel
set_option maxRecDepth 100000 in
theorem ji_212_2 : mj_ins 212 2 = some (.iconst 1) := by decide +kernel
set_option maxRecDepth 100000 in
theorem ji_212_3 : mj_ins 212 3 = some (.iadd) := by decide +kernel
set_option maxRecDepth 100000 in
theorem ji_212_4 : mj_ins 212 4 = some (.iload_n 2) := by decide +kernel
set_option maxRecDepth 100000 in
theorem ji_212_5 : mj_ins 212 5 = some (.iload_n 3) := by decide +kernel
set_option maxRecDepth 100000 in
theorem ji_212_6 : mj_ins 212 6 = some (.invokevirtual 227) := by decide +kernel
set_option maxRecDepth 100000 in
theorem jc_212_227 : mj_cal 212 227 = some (2, 213, 3) := by decide +kernel
set_option maxRecDepth 100000 in
theorem jk_213 : mj_cls 213 = 11 := by decide +kernel
set_option maxRecDepth 100000 in
theorem jn_213 : mj_nl 213 = 4 := by decide +kernel
set_option maxRecDepth 100000 in
theorem ji_212_9 : mj_ins 212 9 = some (.istore 8) := by decide +kernel
set_option maxRecDepth 100000 in
theorem ji_212_11 : mj_ins 212 11 = some (.iload 8) := by decide +kernel
set_option maxRecDepth 100000 in
theorem ji_212_13 : mj_ins 212 13 = some (.ifCond .eq 6) := by decide +kernel
set_option maxRecDepth 100000 in
theorem ji_212_19 : mj_ins 212 19 = some (.aload_n 0) := by decide +kernel
set_option maxRecDepth 100000 in
theorem ji_212_20 : mj_ins 212 20 = some (.lload 4) := by decide +kernel
set_option maxRecDepth 100000 in
theorem ji_212_22 : mj_ins 212 22 = some (.invokevirtual 189) := by decide +kernel
set_option maxRecDepth 100000 in
theorem jc_212_189 : mj_cal 212 189 = some (2, 190, 1) := by decide +kernel
set_option maxRecDepth 100000 in
theorem ji_212_25 : mj_ins 212 25 = some (.ifCond .ne 5) := by decide +kernel
set_option maxRecDepth 100000 in
theorem ji_212_30 : mj_ins 212 30 = some (.aload_n 0) := by decide +kernel
set_option maxRecDepth 100000 in
theorem ji_212_31 : mj_ins 212 31 = some (.invokevirtual 171) := by decide +kernel
set_option maxRecDepth 100000 in
theorem jc_212_171 : mj_cal 212 171 = some (2, 178, 0) := by decide +kernel
set_option maxRecDepth 100000 in
theorem ji_212_34 : mj_ins 212 34 = some (.aload_n 0) := by decide +kernel
set_option maxRecDepth 100000 in
theorem ji_212_35 : mj_ins 212 35 = some (.iload_n 1) := by decide +kernel
set_option maxRecDepth 100000 in
theorem ji_212_36 : mj_ins 212 36 = some (.iconst 2) := by decide +kernel
set_option maxRecDepth 100000 in
theorem ji_212_37 : mj_ins 212 37 = some (.iadd) := by decide +kernel
set_option maxRecDepth 100000 in
theorem ji_212_38 : mj_ins 212 38 = some (.iload 6) := by decide +kernel
set_option maxRecDepth 100000 in
theorem ji_212_40 : mj_ins 212 40 = some (.iload 7) := by decide +kernel
set_option maxRecDepth 100000 in
theorem ji_212_42 : mj_ins 212 42 = some (.invokevirtual 227) := by decide +kernel
set_option maxRecDepth 100000 in
theorem ji_212_45 : mj_ins 212 45 = some (.ireturn) := by decide +kernel
set_option maxRecDepth 100000 in
theorem jr_212 : mj_ret 212 = some .int := by decide +kernel
set_option maxRecDepth 100000 in
theorem ji_212_28 : mj_ins 212 28 = some (.iconst 1) := by decide +kernel
set_option maxRecDepth 100000 in
theorem ji_212_29 : mj_ins 212 29 = some (.ireturn) := by decide +kernel
set_option maxRecDepth 100000 in
theorem ji_212_16 : mj_ins 212 16 = some (.iload 8) := by decide +kernel
set_option maxRecDepth 100000 in
theorem ji_212_18 : mj_ins 212 18 = some (.ireturn) := by decide +kernel
set_option maxRecDepth 100000 in
theorem ji_192_0 : mj_ins 192 0 = some (.iload_n 1) := by decide +kernel
set_option maxRecDepth 100000 in
theorem ji_192_1 : mj_ins 192 1 = some (.tableswitch 147 0 9 #[55, 62, 69, 76, 95, 147, 147, 106, 125, 136]) := by decide +kernel
set_option maxRecDepth 100000 in
theorem ji_192_56 : mj_ins 192 56 = some (.aload_n 0) := by decide +kernel
set_option maxRecDepth 100000 in
theorem ji_192_57 : mj_ins 192 57 = some (.iload_n 2) := by decide +kernel
set_option maxRecDepth 100000 in
theorem ji_192_58 : mj_ins 192 58 = some (.iconst 0) := by decide +kernel
set_option maxRecDepth 100000 in
theorem ji_192_59 : mj_ins 192 59 = some (.invokevirtual 230) := by decide +kernel
set_option maxRecDepth 100000 in
theorem jc_192_230 : mj_cal 192 230 = some (2, 193, 2) := by decide +kernel
set_option maxRecDepth 100000 in
theorem jk_193 : mj_cls 193 = 11 := by decide +kernel
set_option maxRecDepth 100000 in
theorem jn_193 : mj_nl 193 = 4 := by decide +kernel
set_option maxRecDepth 100000 in
theorem ji_192_62 : mj_ins 192 62 = some (.ireturn) := by decide +kernel
set_option maxRecDepth 100000 in
theorem jr_192 : mj_ret 192 = some .int := by decide +kernel
set_option maxRecDepth 100000 in
theorem ji_192_63 : mj_ins 192 63 = some (.aload_n 0) := by decide +kernel
set_option maxRecDepth 100000 in
theorem ji_192_64 : mj_ins 192 64 = some (.iload_n 2) := by decide +kernel
set_option maxRecDepth 100000 in
theorem ji_192_65 : mj_ins 192 65 = some (.iconst 0) := by decide +kernel
set_option maxRecDepth 100000 in
theorem ji_192_66 : mj_ins 192 66 = some (.invokevirtual 230) := by decide +kernel
set_option maxRecDepth 100000 in
theorem ji_192_69 : mj_ins 192 69 = some (.ireturn) := by decide +kernel
set_option maxRecDepth 100000 in
theorem ji_192_70 : mj_ins 192 70 = some (.aload_n 0) := by decide +kernel
set_option maxRecDepth 100000 in
theorem ji_192_71 : mj_ins 192 71 = some (.iload_n 2) := by decide +kernel
set_option maxRecDepth 100000 in
theorem ji_192_72 : mj_ins 192 72 = some (.iconst 1) := by decide +kernel
set_option maxRecDepth 100000 in
theorem ji_192_73 : mj_ins 192 73 = some (.invokevirtual 230) := by decide +kernel
set_option maxRecDepth 100000 in
theorem ji_192_76 : mj_ins 192 76 = some (.ireturn) := by decide +kernel
set_option maxRecDepth 100000 in
theorem ji_192_77 : mj_ins 192 77 = some (.aload_n 0) := by decide +kernel
set_option maxRecDepth 100000 in
theorem ji_192_78 : mj_ins 192 78 = some (.iload_n 2) := by decide +kernel
set_option maxRecDepth 100000 in
theorem ji_192_79 : mj_ins 192 79 = some (.iconst 1) := by decide +kernel
set_option maxRecDepth 100000 in
theorem ji_192_80 : mj_ins 192 80 = some (.bipush 99) := by decide +kernel
set_option maxRecDepth 100000 in
theorem ji_192_82 : mj_ins 192 82 = some (.bipush 97) := by decide +kernel
set_option maxRecDepth 100000 in
theorem ji_192_84 : mj_ins 192 84 = some (.bipush 116) := by decide +kernel
set_option maxRecDepth 100000 in
theorem ji_192_86 : mj_ins 192 86 = some (.invokestatic 118) := by decide +kernel
set_option maxRecDepth 100000 in
theorem jc_192_118 : mj_cal 192 118 = some (1, 189, 2) := by decide +kernel
set_option maxRecDepth 100000 in
theorem ji_192_89 : mj_ins 192 89 = some (.iconst 0) := by decide +kernel
set_option maxRecDepth 100000 in
theorem ji_192_90 : mj_ins 192 90 = some (.bipush 99) := by decide +kernel
set_option maxRecDepth 100000 in
theorem ji_192_92 : mj_ins 192 92 = some (.invokevirtual 234) := by decide +kernel
set_option maxRecDepth 100000 in
theorem jc_192_234 : mj_cal 192 234 = some (2, 212, 6) := by decide +kernel
set_option maxRecDepth 100000 in
theorem jk_212 : mj_cls 212 = 11 := by decide +kernel
set_option maxRecDepth 100000 in
theorem jn_212 : mj_nl 212 = 9 := by decide +kernel
set_option maxRecDepth 100000 in
theorem ji_192_95 : mj_ins 192 95 = some (.ireturn) := by decide +kernel
set_option maxRecDepth 100000 in
theorem ji_192_96 : mj_ins 192 96 = some (.aload_n 0) := by decide +kernel
set_option maxRecDepth 100000 in
theorem ji_192_97 : mj_ins 192 97 = some (.iload_n 2) := by decide +kernel
set_option maxRecDepth 100000 in
theorem ji_192_98 : mj_ins 192 98 = some (.iconst 1) := by decide +kernel
set_option maxRecDepth 100000 in
theorem ji_192_99 : mj_ins 192 99 = some (.iadd) := by decide +kernel
set_option maxRecDepth 100000 in
theorem ji_192_100 : mj_ins 192 100 = some (.iconst 1) := by decide +kernel
set_option maxRecDepth 100000 in
theorem ji_192_101 : mj_ins 192 101 = some (.bipush 9) := by decide +kernel
set_option maxRecDepth 100000 in
theorem ji_192_103 : mj_ins 192 103 = some (.invokevirtual 227) := by decide +kernel
set_option maxRecDepth 100000 in
theorem jc_192_227 : mj_cal 192 227 = some (2, 213, 3) := by decide +kernel
set_option maxRecDepth 100000 in
theorem ji_192_106 : mj_ins 192 106 = some (.ireturn) := by decide +kernel
set_option maxRecDepth 100000 in
theorem ji_192_148 : mj_ins 192 148 = some (.aload_n 0) := by decide +kernel
set_option maxRecDepth 100000 in
theorem ji_192_149 : mj_ins 192 149 = some (.iload_n 2) := by decide +kernel
set_option maxRecDepth 100000 in
theorem ji_192_150 : mj_ins 192 150 = some (.iconst 0) := by decide +kernel
set_option maxRecDepth 100000 in
theorem ji_192_151 : mj_ins 192 151 = some (.iconst 5) := by decide +kernel
set_option maxRecDepth 100000 in
theorem ji_192_152 : mj_ins 192 152 = some (.bipush 111) := by decide +kernel
set_option maxRecDepth 100000 in
theorem ji_192_154 : mj_ins 192 154 = some (.bipush 110) := by decide +kernel
set_option maxRecDepth 100000 in
theorem ji_192_156 : mj_ins 192 156 = some (.invokestatic 118) := by decide +kernel
set_option maxRecDepth 100000 in
theorem ji_192_159 : mj_ins 192 159 = some (.iconst 0) := by decide +kernel
set_option maxRecDepth 100000 in
theorem ji_192_160 : mj_ins 192 160 = some (.bipush 7) := by decide +kernel
set_option maxRecDepth 100000 in
theorem ji_192_162 : mj_ins 192 162 = some (.invokevirtual 234) := by decide +kernel
set_option maxRecDepth 100000 in
theorem ji_192_165 : mj_ins 192 165 = some (.ireturn) := by decide +kernel
set_option maxRecDepth 100000 in
theorem ji_192_107 : mj_ins 192 107 = some (.aload_n 0) := by decide +kernel
set_option maxRecDepth 100000 in
theorem ji_192_108 : mj_ins 192 108 = some (.iload_n 2) := by decide +kernel
set_option maxRecDepth 100000 in
theorem ji_192_109 : mj_ins 192 109 = some (.iconst 0) := by decide +kernel
set_option maxRecDepth 100000 in
theorem ji_192_110 : mj_ins 192 110 = some (.bipush 7) := by decide +kernel
set_option maxRecDepth 100000 in
theorem ji_192_112 : mj_ins 192 112 = some (.bipush 98) := by decide +kernel
set_option maxRecDepth 100000 in
theorem ji_192_114 : mj_ins 192 114 = some (.bipush 121) := by decide +kernel
set_option maxRecDepth 100000 in
theorem ji_192_116 : mj_ins 192 116 = some (.invokestatic 118) := by decide +kernel
set_option maxRecDepth 100000 in
theorem ji_192_119 : mj_ins 192 119 = some (.iconst 1) := by decide +kernel
set_option maxRecDepth 100000 in
theorem ji_192_120 : mj_ins 192 120 = some (.bipush 99) := by decide +kernel
set_option maxRecDepth 100000 in
theorem ji_192_122 : mj_ins 192 122 = some (.invokevirtual 234) := by decide +kernel
set_option maxRecDepth 100000 in
theorem ji_192_125 : mj_ins 192 125 = some (.ireturn) := by decide +kernel
set_option maxRecDepth 100000 in
theorem ji_192_126 : mj_ins 192 126 = some (.aload_n 0) := by decide +kernel
set_option maxRecDepth 100000 in
theorem ji_192_127 : mj_ins 192 127 = some (.iload_n 2) := by decide +kernel
set_option maxRecDepth 100000 in
theorem ji_192_128 : mj_ins 192 128 = some (.iconst 1) := by decide +kernel
set_option maxRecDepth 100000 in
theorem ji_192_129 : mj_ins 192 129 = some (.iadd) := by decide +kernel
set_option maxRecDepth 100000 in
theorem ji_192_130 : mj_ins 192 130 = some (.iconst 0) := by decide +kernel
set_option maxRecDepth 100000 in
theorem ji_192_131 : mj_ins 192 131 = some (.bipush 9) := by decide +kernel
set_option maxRecDepth 100000 in
theorem ji_192_133 : mj_ins 192 133 = some (.invokevirtual 227) := by decide +kernel
set_option maxRecDepth 100000 in
theorem ji_192_136 : mj_ins 192 136 = some (.ireturn) := by decide +kernel
set_option maxRecDepth 100000 in
theorem ji_192_137 : mj_ins 192 137 = some (.aload_n 0) := by decide +kernel
set_option maxRecDepth 100000 in
theorem ji_192_138 : mj_ins 192 138 = some (.iload_n 2) := by decide +kernel
set_option maxRecDepth 100000 in
theorem ji_192_139 : mj_ins 192 139 = some (.iconst 1) := by decide +kernel
set_option maxRecDepth 100000 in
theorem ji_192_140 : mj_ins 192 140 = some (.iadd) := by decide +kernel
set_option maxRecDepth 100000 in
theorem ji_192_141 : mj_ins 192 141 = some (.iconst 1) := by decide +kernel
set_option maxRecDepth 100000 in
theorem ji_192_142 : mj_ins 192 142 = some (.bipush 60) := by decide +kernel
set_option maxRecDepth 100000 in
theorem ji_192_144 : mj_ins 192 144 = some (.invokevirtual 227) := by decide +kernel
set_option maxRecDepth 100000 in
theorem ji_192_147 : mj_ins 192 147 = some (.ireturn) := by decide +kernel
theorem ws_law {d : Nat} {h0 h : mj_H} {a P T : Nat} {φ : Nat → Int} {pl ts t0 : List Value} {s x k : Nat} {e : Int} {sort : Int} (IH : sx_IH sx_PP (d + 1 + 1 + 1 + 1)) (hd : 2 ≤ d) (he : e = 0 ∨ e = 1) (V : pv h0 h a P T φ pl ts) (hcq : cq t0 φ ts s x) (hx : x = 705 * s + 1 + 4 * k) (hk : k < 24) (hkn : sx_el t0 (705 * s) ≤ (k : Int)) : wp_R (d + 1 + 1 + 1 + 1 + 1 + 1) 193 0 [some (.ref a), some (wp_i (x : Int)), some (wp_i e), none] [] h (bR h0 a P T t0 s x sort φ) := by
  have hcq9 := hcq
  obtain ⟨w, h12, hs, hw, hj, hb1, hb2, hfr⟩ := hcq9
  have htl := (pv_aP V).2.2.2.2.1
  have hn0 : sx_el ts (705 * s) = sx_el t0 (705 * s) := hfr _ (by omega) (by omega) (by omega)
  have b7 := pv_b V (k := 7) (lo := 0) (hi := 300) (by decide) (by decide)
  have b13 := pv_b V (k := 13) (lo := 0) (hi := 303) (by decide) (by decide)
  have b16 := pv_b V (k := 16) (lo := 0) (hi := 160) (by decide) (by decide)
  have b17 := pv_b V (k := 17) (lo := 0) (hi := 8) (by decide) (by decide)
  have b18 := pv_b V (k := 18) (lo := 0) (hi := 6) (by decide) (by decide)
  refine wp_s (pc' := 1) ji_193_0 rfl rfl rfl ?_
  refine pv_gt V ji_193_1 jf_193_16 ?_
  refine wp_s (pc' := 5) ji_193_4 rfl rfl rfl ?_
  refine wp_s (pc' := 6) ji_193_5 rfl rfl rfl ?_
  refine wp_iadd (x := (x : Int)) (y := 1) (z := ((x + 1 : Nat) : Int)) ji_193_6 (by omega) ?_
  refine wp_s (pc' := 8) ji_193_7 rfl rfl rfl ?_
  refine pv_gi V ji_193_8 jf_193_137 (by decide) pf_13 (y := φ 13) rfl (fun l1 u2 => ?_)
  refine pv_st V (x := ((x + 1 : Nat) : Int)) (y := φ 13) ji_193_11 (by omega) (by omega) (by rw [hx]; exact (hd_p hk).2.1) (by omega) (by omega) (by omega) (by rw [hx]; exact (jw_hdr (i := 1) hj hs hk (by omega) (by omega) htl (by omega)).1) (fun h V => ?_)
  have V : pv h0 h a P T _ _ (ts.set (x + 1) (wp_i (φ 13))) := V
  refine wp_s (pc' := 13) ji_193_12 rfl rfl rfl ?_
  refine wp_s (pc' := 14) ji_193_13 rfl rfl rfl ?_
  have hj0 : jw (ts.set (x + 1) (wp_i (φ 13))) s w := by rw [hx]; exact jw_hdr (i := 1) hj hs hk (by omega) (by omega) htl (by omega)
  refine pv_vc V ji_193_14 jc_193_223 jk_194 (rest := []) rfl (Nat.le_of_ble_eq_true rfl) rfl (by rw [jn_194]; rfl) (ws_parsed (s := s) (w := w) IH hd he V hw h12 hs hj0 hb1 hb2) (fun v h R => ?_)
  obtain ⟨y, rfl, y0, y7, φ9, pl9, ts9, V, k4, k12, k14, k21, k7, kb1, kb2, w9, kw, kc, hj1, hfr1, hlaw⟩ := R
  have htl1 := (pv_aP V).2.2.2.2.1
  have hel1 : ∀ j, sx_el (ts.set (x + 1) (wp_i (φ 13))) j = if j = x + 1 then φ 13 else sx_el ts j := fun j => pv_el_set (by omega) (by omega)
  have hn1 : sx_el ts9 (705 * s) = sx_el t0 (705 * s) := by rw [hfr1 _ (by omega), hel1, if_neg (by omega)]; exact hfr _ (by omega) (by omega) (by omega)
  have b139 := pv_b V (k := 13) (lo := 0) (hi := 303) (by decide) (by decide)
  show wp_R (d + 1 + 1 + 1 + 1 + 1 + 1) 193 17 [some (.ref a), some (wp_i ((x : Int))), some (wp_i e), none] [wp_i y] h _
  refine wp_s (pc' := 18) (lv' := [some (.ref a), some (wp_i ((x : Int))), some (wp_i e), some (wp_i y)]) ji_193_17 rfl rfl rfl ?_
  refine wp_s (pc' := 19) ji_193_18 rfl rfl rfl ?_
  refine pv_gt V ji_193_19 jf_193_16 ?_
  refine wp_s (pc' := 23) ji_193_22 rfl rfl rfl ?_
  refine wp_s (pc' := 24) ji_193_23 rfl rfl rfl ?_
  refine wp_iadd (x := (x : Int)) (y := 2) (z := ((x + 2 : Nat) : Int)) ji_193_24 (by omega) ?_
  refine wp_s (pc' := 26) ji_193_25 rfl rfl rfl ?_
  refine pv_gi V ji_193_26 jf_193_137 (by decide) pf_13 (y := φ9 13) rfl (fun l3 u4 => ?_)
  refine pv_st V (x := ((x + 2 : Nat) : Int)) (y := φ9 13) ji_193_29 (by omega) (by omega) (by rw [hx]; exact (hd_p hk).2.2) (by omega) (by omega) (by omega) (by rw [hx]; exact (jw_hdr (i := 2) hj1 hs hk (by omega) (by omega) htl1 (by omega)).1) (fun h V => ?_)
  have V : pv h0 h a P T _ _ (ts9.set (x + 2) (wp_i (φ9 13))) := V
  refine wp_s (pc' := 31) ji_193_30 rfl rfl rfl ?_
  have hel2 : ∀ j, sx_el (ts9.set (x + 2) (wp_i (φ9 13))) j = if j = x + 2 then φ9 13 else sx_el ts9 j := fun j => pv_el_set (by omega) (by omega)
  refine wp_ri ji_193_31 jr_193 rfl ⟨y, rfl, y0, y7, φ9, pl9, _, V, ⟨w9, by omega, hs, kw, by rw [hx]; exact jw_hdr (i := 2) hj1 hs hk (by omega) (by omega) htl1 (by omega), kb1, kb2, fun j hj9 hja hjb => ?_⟩, ⟨k4, k12, k14, k21, k7⟩, fun e1 _ => ?_⟩
  · show sx_el (ts9.set (x + 2) (wp_i (φ9 13))) j = _
    rw [hel2, if_neg hjb, hfr1 j hj9, hel1, if_neg hja]
    exact hfr j hj9 hja hjb
  · obtain ⟨q, hq⟩ := hlaw e1
    refine ⟨w, w9, q, ?_, ?_, kc, kw, ?_⟩
    · show sx_el (ts9.set (x + 2) (wp_i (φ9 13))) _ = _
      rw [hel2, if_neg (by omega), hfr1 _ (by omega), hel1, if_pos rfl]; exact hw
    · show sx_el (ts9.set (x + 2) (wp_i (φ9 13))) _ = _
      rw [hel2, if_pos rfl]; exact kw
    · show we (ts9.set (x + 2) (wp_i (φ9 13))) _ _ _ _ = _
      rw [we_fr (vs := ts9) (fun i i1 i2 => ⟨by rw [hel2, if_neg (by omega)], by rw [hel2, if_neg (by omega)]⟩)]
      exact hq
theorem ws_figure {d : Nat} {h0 h : mj_H} {a P T : Nat} {φ : Nat → Int} {pl ts t0 : List Value} {s x k : Nat} {i xi : Nat} {lo hi : Int} (hi12 : i = 1 ∨ i = 2) (hxi : xi = x + i) (hlo : 0 ≤ lo ∧ lo ≤ 99) (hhi : 0 ≤ hi ∧ hi ≤ 99) (V : pv h0 h a P T φ pl ts) (hcq : cq t0 φ ts s x) (hx : x = 705 * s + 1 + 4 * k) (hk : k < 24) (hkn : sx_el t0 (705 * s) ≤ (k : Int)) : wp_R (d + 1 + 1) 213 0 [some (.ref a), some (wp_i (xi : Int)), some (wp_i lo), some (wp_i hi)] [] h (fun v h1 => ∃ y : Int, v = some (wp_i y) ∧ 0 ≤ y ∧ y ≤ 7 ∧ ∃ φ' ts', pv h0 h1 a P T φ' pl ts' ∧ cq t0 φ' ts' s x ∧ fz φ φ') := by
  have hcq9 := hcq
  obtain ⟨w, h12, hs, hw, hj, hb1, hb2, hfr⟩ := hcq9
  have htl := (pv_aP V).2.2.2.2.1
  have hn0 : sx_el ts (705 * s) = sx_el t0 (705 * s) := hfr _ (by omega) (by omega) (by omega)
  have b7 := pv_b V (k := 7) (lo := 0) (hi := 300) (by decide) (by decide)
  have b13 := pv_b V (k := 13) (lo := 0) (hi := 303) (by decide) (by decide)
  have b16 := pv_b V (k := 16) (lo := 0) (hi := 160) (by decide) (by decide)
  have b17 := pv_b V (k := 17) (lo := 0) (hi := 8) (by decide) (by decide)
  have b18 := pv_b V (k := 18) (lo := 0) (hi := 6) (by decide) (by decide)
  have hdf : sx_p20[xi % 705]? = some (0, 0, 303) := by
    rw [hxi, hx]
    rcases hi12 with e | e
    · rw [e]; exact (hd_p hk).2.1
    · rw [e]; exact (hd_p hk).2.2
  refine wp_s (pc' := 1) ji_213_0 rfl rfl rfl ?_
  refine pv_gi V ji_213_1 jf_213_95 (by decide) pf_9 (y := φ 9) rfl (fun l1 u2 => ?_)
  refine wp_s (pc' := 5) ji_213_4 rfl rfl rfl ?_
  refine wp_icmp (t := 10) ji_213_5 rfl (by omega) (by omega) (fun (hb3 : (φ 9 : Int) = 1) => ?_) (fun (hb3 : ¬ ((φ 9 : Int) = 1)) => ?_)
  · refine wp_s (pc' := 11) ji_213_10 rfl rfl rfl ?_
    refine pv_gi V ji_213_11 jf_213_102 (by decide) pf_10 (y := φ 10) rfl (fun l4 u5 => ?_)
    refine wp_s (pc' := 15) ji_213_14 rfl rfl rfl ?_
    refine wp_s (pc' := 16) ji_213_15 rfl rfl rfl ?_
    refine wp_sc (as := [wp_i (φ 10), wp_i lo, wp_i hi]) (rest := []) ji_213_16 jc_213_66 (Nat.le_of_ble_eq_true rfl) rfl (Nat.le_of_ble_eq_true rfl) rfl (by rw [jn_171]; rfl) (ws_isIn (by omega) (by omega) (by omega)) (fun v h R => ?_)
    obtain ⟨rfl, rfl⟩ := R
    obtain ⟨yy, hyy⟩ : ∃ y : Int, y = (if lo ≤ φ 10 ∧ φ 10 ≤ hi then 1 else 0) := ⟨_, rfl⟩
    rw [← hyy]
    show wp_R (d + 1 + 1) 213 19 [some (.ref a), some (wp_i ((xi : Int))), some (wp_i lo), some (wp_i hi)] [wp_i yy] h _
    have hy2 : (yy = 0 ∨ yy = 1) ∧ (yy = 1 → lo ≤ φ 10 ∧ φ 10 ≤ hi) := by rw [hyy]; split <;> omega
    refine wp_if (t := 24) ji_213_19 rfl (by omega) (fun (hb6 : ¬ (yy : Int) = 0) => ?_) (fun (hb6 : ¬ (¬ (yy : Int) = 0)) => ?_)
    · refine wp_s (pc' := 25) ji_213_24 rfl rfl rfl ?_
      refine pv_gt V ji_213_25 jf_213_16 ?_
      refine wp_s (pc' := 29) ji_213_28 rfl rfl rfl ?_
      refine wp_s (pc' := 30) ji_213_29 rfl rfl rfl ?_
      refine pv_gi V ji_213_30 jf_213_102 (by decide) pf_10 (y := φ 10) rfl (fun l7 u8 => ?_)
      refine pv_st V (x := (xi : Int)) (y := φ 10) ji_213_33 (by omega) (by omega) hdf (by omega) (by omega) (by omega) (by rw [hxi, hx]; exact (jw_hdr (i := i) hj hs hk (by omega) (by omega) htl (by omega)).1) (fun h V => ?_)
      have V : pv h0 h a P T _ _ (ts.set (xi) (wp_i (φ 10))) := V
      refine wp_s (pc' := 35) ji_213_34 rfl rfl rfl ?_
      refine pv_vc V ji_213_35 jc_213_171 jk_178 (rest := []) rfl (Nat.le_of_ble_eq_true rfl) rfl (by rw [jn_178]; rfl) (ws_next (by omega) V) (fun v h R => ?_)
      obtain ⟨rfl, φ9, V, hf9, ha9, hb9⟩ := R
      have e9_4 : φ9 4 = φ 4 := hf9 4 (by decide) (by decide) (by decide) (by decide)
      have e9_12 : φ9 12 = φ 12 := hf9 12 (by decide) (by decide) (by decide) (by decide)
      have e9_13 : φ9 13 = φ 13 := hf9 13 (by decide) (by decide) (by decide) (by decide)
      have e9_14 : φ9 14 = φ 14 := hf9 14 (by decide) (by decide) (by decide) (by decide)
      have e9_16 : φ9 16 = φ 16 := hf9 16 (by decide) (by decide) (by decide) (by decide)
      have e9_17 : φ9 17 = φ 17 := hf9 17 (by decide) (by decide) (by decide) (by decide)
      have e9_18 : φ9 18 = φ 18 := hf9 18 (by decide) (by decide) (by decide) (by decide)
      have e9_19 : φ9 19 = φ 19 := hf9 19 (by decide) (by decide) (by decide) (by decide)
      have e9_20 : φ9 20 = φ 20 := hf9 20 (by decide) (by decide) (by decide) (by decide)
      have e9_21 : φ9 21 = φ 21 := hf9 21 (by decide) (by decide) (by decide) (by decide)
      have a9 : φ 7 ≤ φ9 7 := ha9
      have b9 : ¬ φ9 9 = 0 → φ 7 + 1 ≤ φ9 7 := hb9
      show wp_R (d + 1 + 1) 213 38 [some (.ref a), some (wp_i ((xi : Int))), some (wp_i lo), some (wp_i hi)] [] h _
      refine wp_s (pc' := 39) ji_213_38 rfl rfl rfl ?_
      have hel1 : ∀ j, sx_el (ts.set xi (wp_i (φ 10))) j = if j = xi then φ 10 else sx_el ts j := fun j => pv_el_set (by omega) (by omega)
      refine wp_ri ji_213_39 jr_213 rfl ⟨0, rfl, by omega, by omega, φ9, _, V, ⟨w, by omega, hs, by omega, by rw [hxi, hx]; exact jw_hdr (i := i) hj hs hk (by omega) (by omega) htl (by omega), by omega, fun q => by have := b9 q; omega, fun j hj9 hja hjb => ?_⟩, by omega, by omega, by omega, by omega, by omega⟩
      show sx_el (ts.set xi (wp_i (φ 10))) j = _
      rw [hel1, if_neg (by omega)]
      exact hfr j hj9 hja hjb
    · refine wp_s (pc' := 23) ji_213_22 rfl rfl rfl ?_
      exact wp_ri ji_213_23 jr_213 rfl ⟨2, rfl, by omega, by omega, φ, ts, V, hcq, rfl, rfl, rfl, rfl, Int.le_refl _⟩
  · refine wp_s (pc' := 9) ji_213_8 rfl rfl rfl ?_
    exact wp_ri ji_213_9 jr_213 rfl ⟨1, rfl, by omega, by omega, φ, ts, V, hcq, rfl, rfl, rfl, rfl, Int.le_refl _⟩
theorem ws_pair {d : Nat} {h0 h : mj_H} {a P T : Nat} {φ : Nat → Int} {pl ts t0 : List Value} {s x k : Nat} {z : Int64} {lo hi lo2 hi2 : Int} (hlo : 0 ≤ lo ∧ lo ≤ 99) (hhi : 0 ≤ hi ∧ hi ≤ 99) (hlo2 : 0 ≤ lo2 ∧ lo2 ≤ 99) (hhi2 : 0 ≤ hi2 ∧ hi2 ≤ 99) (V : pv h0 h a P T φ pl ts) (hcq : cq t0 φ ts s x) (hx : x = 705 * s + 1 + 4 * k) (hk : k < 24) (hkn : sx_el t0 (705 * s) ≤ (k : Int)) : wp_R (d + 1 + 1 + 1) 212 0 [some (.ref a), some (wp_i (x : Int)), some (wp_i lo), some (wp_i hi), some (.long z), none, some (wp_i lo2), some (wp_i hi2), none] [] h (fun v h1 => ∃ y : Int, v = some (wp_i y) ∧ 0 ≤ y ∧ y ≤ 7 ∧ ∃ φ' ts', pv h0 h1 a P T φ' pl ts' ∧ cq t0 φ' ts' s x ∧ fz φ φ') := by
  have b7 := pv_b V (k := 7) (lo := 0) (hi := 300) (by decide) (by decide)
  have b13 := pv_b V (k := 13) (lo := 0) (hi := 303) (by decide) (by decide)
  have b16 := pv_b V (k := 16) (lo := 0) (hi := 160) (by decide) (by decide)
  have b17 := pv_b V (k := 17) (lo := 0) (hi := 8) (by decide) (by decide)
  have b18 := pv_b V (k := 18) (lo := 0) (hi := 6) (by decide) (by decide)
  refine wp_s (pc' := 1) ji_212_0 rfl rfl rfl ?_
  refine wp_s (pc' := 2) ji_212_1 rfl rfl rfl ?_
  refine wp_s (pc' := 3) ji_212_2 rfl rfl rfl ?_
  refine wp_iadd (x := (x : Int)) (y := 1) (z := ((x + 1 : Nat) : Int)) ji_212_3 (by omega) ?_
  refine wp_s (pc' := 5) ji_212_4 rfl rfl rfl ?_
  refine wp_s (pc' := 6) ji_212_5 rfl rfl rfl ?_
  refine pv_vc V ji_212_6 jc_212_227 jk_213 (rest := []) rfl (Nat.le_of_ble_eq_true rfl) rfl (by rw [jn_213]; rfl) (ws_figure (i := 1) (xi := x + 1) (by omega) rfl (by omega) (by omega) V hcq hx hk hkn) (fun v h R => ?_)
  obtain ⟨y, rfl, y0, y7, φ1, ts1, V, hcq1, ⟨k4, k12, k14, k21, k7⟩⟩ := R
  show wp_R (d + 1 + 1 + 1) 212 9 [some (.ref a), some (wp_i ((x : Int))), some (wp_i lo), some (wp_i hi), some (.long z), none, some (wp_i lo2), some (wp_i hi2), none] [wp_i y] h _
  refine wp_s (pc' := 11) (lv' := [some (.ref a), some (wp_i ((x : Int))), some (wp_i lo), some (wp_i hi), some (.long z), none, some (wp_i lo2), some (wp_i hi2), some (wp_i y)]) ji_212_9 rfl rfl rfl ?_
  refine wp_s (pc' := 13) ji_212_11 rfl rfl rfl ?_
  refine wp_if (t := 19) ji_212_13 rfl (by omega) (fun (hb1 : (y : Int) = 0) => ?_) (fun (hb1 : ¬ ((y : Int) = 0)) => ?_)
  · refine wp_s (pc' := 20) ji_212_19 rfl rfl rfl ?_
    refine wp_s (pc' := 22) ji_212_20 rfl rfl rfl ?_
    refine pv_vc V ji_212_22 jc_212_189 jk_190 (rest := []) rfl (Nat.le_of_ble_eq_true rfl) rfl (by rw [jn_190]; rfl) (ws_isWord V) (fun v h R => ?_)
    obtain ⟨rfl, y2, rfl, q3, q4⟩ := R
    show wp_R (d + 1 + 1 + 1) 212 25 [some (.ref a), some (wp_i ((x : Int))), some (wp_i lo), some (wp_i hi), some (.long z), none, some (wp_i lo2), some (wp_i hi2), some (wp_i y)] [wp_i y2] h _
    refine wp_if (t := 30) ji_212_25 rfl (by omega) (fun (hb5 : ¬ (y2 : Int) = 0) => ?_) (fun (hb5 : ¬ (¬ (y2 : Int) = 0)) => ?_)
    · refine wp_s (pc' := 31) ji_212_30 rfl rfl rfl ?_
      refine pv_vc V ji_212_31 jc_212_171 jk_178 (rest := []) rfl (Nat.le_of_ble_eq_true rfl) rfl (by rw [jn_178]; rfl) (ws_next (by omega) V) (fun v h R => ?_)
      obtain ⟨rfl, φ6, V, hf6, ha6, hb6⟩ := R
      have e6_4 : φ6 4 = φ1 4 := hf6 4 (by decide) (by decide) (by decide) (by decide)
      have e6_12 : φ6 12 = φ1 12 := hf6 12 (by decide) (by decide) (by decide) (by decide)
      have e6_13 : φ6 13 = φ1 13 := hf6 13 (by decide) (by decide) (by decide) (by decide)
      have e6_14 : φ6 14 = φ1 14 := hf6 14 (by decide) (by decide) (by decide) (by decide)
      have e6_16 : φ6 16 = φ1 16 := hf6 16 (by decide) (by decide) (by decide) (by decide)
      have e6_17 : φ6 17 = φ1 17 := hf6 17 (by decide) (by decide) (by decide) (by decide)
      have e6_18 : φ6 18 = φ1 18 := hf6 18 (by decide) (by decide) (by decide) (by decide)
      have e6_19 : φ6 19 = φ1 19 := hf6 19 (by decide) (by decide) (by decide) (by decide)
      have e6_20 : φ6 20 = φ1 20 := hf6 20 (by decide) (by decide) (by decide) (by decide)
      have e6_21 : φ6 21 = φ1 21 := hf6 21 (by decide) (by decide) (by decide) (by decide)
      have a6 : φ1 7 ≤ φ6 7 := ha6
      have b6 : ¬ φ6 9 = 0 → φ1 7 + 1 ≤ φ6 7 := hb6
      show wp_R (d + 1 + 1 + 1) 212 34 [some (.ref a), some (wp_i ((x : Int))), some (wp_i lo), some (wp_i hi), some (.long z), none, some (wp_i lo2), some (wp_i hi2), some (wp_i y)] [] h _
      refine wp_s (pc' := 35) ji_212_34 rfl rfl rfl ?_
      refine wp_s (pc' := 36) ji_212_35 rfl rfl rfl ?_
      refine wp_s (pc' := 37) ji_212_36 rfl rfl rfl ?_
      refine wp_iadd (x := (x : Int)) (y := 2) (z := ((x + 2 : Nat) : Int)) ji_212_37 (by omega) ?_
      refine wp_s (pc' := 40) ji_212_38 rfl rfl rfl ?_
      refine wp_s (pc' := 42) ji_212_40 rfl rfl rfl ?_
      have hcqn : cq t0 φ6 ts1 s x := by
        obtain ⟨w, q1, q2, q3, q4, q5, q6, q7⟩ := hcq1
        exact ⟨w, by omega, q2, by omega, q4, by omega, fun q => by have := b6 q; omega, q7⟩
      refine pv_vc V ji_212_42 jc_212_227 jk_213 (rest := []) rfl (Nat.le_of_ble_eq_true rfl) rfl (by rw [jn_213]; rfl) (ws_figure (i := 2) (xi := x + 2) (by omega) rfl (by omega) (by omega) V hcqn hx hk hkn) (fun v h R => ?_)
      obtain ⟨y2, rfl, y20, y27, φ3, ts3, V, hcq3, ⟨j4, j12, j14, j21, j7⟩⟩ := R
      show wp_R (d + 1 + 1 + 1) 212 45 [some (.ref a), some (wp_i ((x : Int))), some (wp_i lo), some (wp_i hi), some (.long z), none, some (wp_i lo2), some (wp_i hi2), some (wp_i y)] [wp_i y2] h _
      exact wp_ri ji_212_45 jr_212 rfl ⟨y2, rfl, y20, y27, φ3, ts3, V, hcq3, by omega, by omega, by omega, by omega, by omega⟩
    · refine wp_s (pc' := 29) ji_212_28 rfl rfl rfl ?_
      exact wp_ri ji_212_29 jr_212 rfl ⟨1, rfl, by omega, by omega, φ1, ts1, V, hcq1, k4, k12, k14, k21, k7⟩
  · refine wp_s (pc' := 18) ji_212_16 rfl rfl rfl ?_
    exact wp_ri ji_212_18 jr_212 rfl ⟨y, rfl, by omega, by omega, φ1, ts1, V, hcq1, k4, k12, k14, k21, k7⟩
theorem ws_body {d : Nat} {h0 h : mj_H} {a P T : Nat} {φ : Nat → Int} {pl ts t0 : List Value} {s x k : Nat} {sort : Int} (IH : sx_IH sx_PP (d + 1 + 1 + 1 + 1)) (hd : 2 ≤ d) (hso : 0 ≤ sort ∧ sort ≤ 9) (V : pv h0 h a P T φ pl ts) (hcq : cq t0 φ ts s x) (hx : x = 705 * s + 1 + 4 * k) (hk : k < 24) (hkn : sx_el t0 (705 * s) ≤ (k : Int)) : wp_R (d + 1 + 1 + 1 + 1 + 1 + 1 + 1) 192 0 [some (.ref a), some (wp_i sort), some (wp_i (x : Int))] [] h (bR h0 a P T t0 s x sort φ) := by
  have hc : sort = 0 ∨ sort = 1 ∨ sort = 2 ∨ sort = 3 ∨ sort = 4 ∨ sort = 5 ∨ sort = 6 ∨ sort = 7 ∨ sort = 8 ∨ sort = 9 := by omega
  rcases hc with hv | hv | hv | hv | hv | hv | hv | hv | hv | hv
  · subst hv
    refine wp_s (pc' := 1) ji_192_0 rfl rfl rfl ?_
    refine wp_s (pc' := 56) (lv' := [some (.ref a), some (wp_i 0), some (wp_i ((x : Int)))]) (st' := []) (h' := h) ji_192_1 rfl rfl rfl ?_
    refine wp_s (pc' := 57) ji_192_56 rfl rfl rfl ?_
    refine wp_s (pc' := 58) ji_192_57 rfl rfl rfl ?_
    refine wp_s (pc' := 59) ji_192_58 rfl rfl rfl ?_
    refine pv_vc V ji_192_59 jc_192_230 jk_193 (rest := []) rfl (Nat.le_of_ble_eq_true rfl) rfl (by rw [jn_193]; rfl) (ws_law (d := d) (sort := (0 : Int)) IH hd (by omega) V hcq hx hk hkn) (fun v h R => ?_)
    obtain ⟨y, rfl, hR⟩ := R
    show wp_R (d + 1 + 1 + 1 + 1 + 1 + 1 + 1) 192 62 [some (.ref a), some (wp_i 0), some (wp_i ((x : Int)))] [wp_i y] h _
    exact wp_ri ji_192_62 jr_192 rfl ⟨y, rfl, hR⟩
  · subst hv
    refine wp_s (pc' := 1) ji_192_0 rfl rfl rfl ?_
    refine wp_s (pc' := 63) (lv' := [some (.ref a), some (wp_i 1), some (wp_i ((x : Int)))]) (st' := []) (h' := h) ji_192_1 rfl rfl rfl ?_
    refine wp_s (pc' := 64) ji_192_63 rfl rfl rfl ?_
    refine wp_s (pc' := 65) ji_192_64 rfl rfl rfl ?_
    refine wp_s (pc' := 66) ji_192_65 rfl rfl rfl ?_
    refine pv_vc V ji_192_66 jc_192_230 jk_193 (rest := []) rfl (Nat.le_of_ble_eq_true rfl) rfl (by rw [jn_193]; rfl) (ws_law (d := d) (sort := (1 : Int)) IH hd (by omega) V hcq hx hk hkn) (fun v h R => ?_)
    obtain ⟨y, rfl, hR⟩ := R
    show wp_R (d + 1 + 1 + 1 + 1 + 1 + 1 + 1) 192 69 [some (.ref a), some (wp_i 1), some (wp_i ((x : Int)))] [wp_i y] h _
    exact wp_ri ji_192_69 jr_192 rfl ⟨y, rfl, hR⟩
  · subst hv
    refine wp_s (pc' := 1) ji_192_0 rfl rfl rfl ?_
    refine wp_s (pc' := 70) (lv' := [some (.ref a), some (wp_i 2), some (wp_i ((x : Int)))]) (st' := []) (h' := h) ji_192_1 rfl rfl rfl ?_
    refine wp_s (pc' := 71) ji_192_70 rfl rfl rfl ?_
    refine wp_s (pc' := 72) ji_192_71 rfl rfl rfl ?_
    refine wp_s (pc' := 73) ji_192_72 rfl rfl rfl ?_
    refine pv_vc V ji_192_73 jc_192_230 jk_193 (rest := []) rfl (Nat.le_of_ble_eq_true rfl) rfl (by rw [jn_193]; rfl) (ws_law (d := d) (sort := (2 : Int)) IH hd (by omega) V hcq hx hk hkn) (fun v h R => ?_)
    obtain ⟨y, rfl, hR⟩ := R
    show wp_R (d + 1 + 1 + 1 + 1 + 1 + 1 + 1) 192 76 [some (.ref a), some (wp_i 2), some (wp_i ((x : Int)))] [wp_i y] h _
    exact wp_ri ji_192_76 jr_192 rfl ⟨y, rfl, hR⟩
  · subst hv
    refine wp_s (pc' := 1) ji_192_0 rfl rfl rfl ?_
    refine wp_s (pc' := 77) (lv' := [some (.ref a), some (wp_i 3), some (wp_i ((x : Int)))]) (st' := []) (h' := h) ji_192_1 rfl rfl rfl ?_
    refine wp_s (pc' := 78) ji_192_77 rfl rfl rfl ?_
    refine wp_s (pc' := 79) ji_192_78 rfl rfl rfl ?_
    refine wp_s (pc' := 80) ji_192_79 rfl rfl rfl ?_
    refine wp_bp ji_192_80 rfl ?_
    refine wp_bp ji_192_82 rfl ?_
    refine wp_bp ji_192_84 rfl ?_
    refine wp_sc (as := [wp_i 97, wp_i 116]) (rest := [wp_i 99, wp_i 1, wp_i ((x : Int)), .ref a]) ji_192_86 jc_192_118 (Nat.le_of_ble_eq_true rfl) rfl (Nat.le_of_ble_eq_true rfl) rfl (by rw [jn_189]; rfl) ws_w2 (fun v h R => ?_)
    obtain ⟨rfl, z1, rfl⟩ := R
    show wp_R (d + 1 + 1 + 1 + 1 + 1 + 1 + 1) 192 89 [some (.ref a), some (wp_i 3), some (wp_i ((x : Int)))] [.long z1, wp_i 99, wp_i 1, wp_i ((x : Int)), .ref a] h _
    refine wp_s (pc' := 90) ji_192_89 rfl rfl rfl ?_
    refine wp_bp ji_192_90 rfl ?_
    refine pv_vc V ji_192_92 jc_192_234 jk_212 (rest := []) rfl (Nat.le_of_ble_eq_true rfl) rfl (by rw [jn_212]; rfl) (wp_up (by omega) (ws_pair (d := d) (by omega) (by omega) (by omega) (by omega) V hcq hx hk hkn)) (fun v h R => ?_)
    obtain ⟨y, rfl, y0, y7, φ1, ts1, V, hcq1, hfz⟩ := R
    show wp_R (d + 1 + 1 + 1 + 1 + 1 + 1 + 1) 192 95 [some (.ref a), some (wp_i 3), some (wp_i ((x : Int)))] [wp_i y] h _
    exact wp_ri ji_192_95 jr_192 rfl ⟨y, rfl, y0, y7, φ1, pl, ts1, V, hcq1, hfz, fun _ q => by omega⟩
  · subst hv
    refine wp_s (pc' := 1) ji_192_0 rfl rfl rfl ?_
    refine wp_s (pc' := 96) (lv' := [some (.ref a), some (wp_i 4), some (wp_i ((x : Int)))]) (st' := []) (h' := h) ji_192_1 rfl rfl rfl ?_
    refine wp_s (pc' := 97) ji_192_96 rfl rfl rfl ?_
    refine wp_s (pc' := 98) ji_192_97 rfl rfl rfl ?_
    refine wp_s (pc' := 99) ji_192_98 rfl rfl rfl ?_
    refine wp_iadd (x := (x : Int)) (y := 1) (z := ((x + 1 : Nat) : Int)) ji_192_99 (by omega) ?_
    refine wp_s (pc' := 101) ji_192_100 rfl rfl rfl ?_
    refine wp_bp ji_192_101 rfl ?_
    refine pv_vc V ji_192_103 jc_192_227 jk_213 (rest := []) rfl (Nat.le_of_ble_eq_true rfl) rfl (by rw [jn_213]; rfl) (wp_up (by omega) (ws_figure (d := d) (i := 1) (xi := x + 1) (by omega) rfl (by omega) (by omega) V hcq hx hk hkn)) (fun v h R => ?_)
    obtain ⟨y, rfl, y0, y7, φ1, ts1, V, hcq1, hfz⟩ := R
    show wp_R (d + 1 + 1 + 1 + 1 + 1 + 1 + 1) 192 106 [some (.ref a), some (wp_i 4), some (wp_i ((x : Int)))] [wp_i y] h _
    exact wp_ri ji_192_106 jr_192 rfl ⟨y, rfl, y0, y7, φ1, pl, ts1, V, hcq1, hfz, fun _ q => by omega⟩
  · subst hv
    refine wp_s (pc' := 1) ji_192_0 rfl rfl rfl ?_
    refine wp_s (pc' := 148) (lv' := [some (.ref a), some (wp_i 5), some (wp_i ((x : Int)))]) (st' := []) (h' := h) ji_192_1 rfl rfl rfl ?_
    refine wp_s (pc' := 149) ji_192_148 rfl rfl rfl ?_
    refine wp_s (pc' := 150) ji_192_149 rfl rfl rfl ?_
    refine wp_s (pc' := 151) ji_192_150 rfl rfl rfl ?_
    refine wp_s (pc' := 152) ji_192_151 rfl rfl rfl ?_
    refine wp_bp ji_192_152 rfl ?_
    refine wp_bp ji_192_154 rfl ?_
    refine wp_sc (as := [wp_i 111, wp_i 110]) (rest := [wp_i 5, wp_i 0, wp_i ((x : Int)), .ref a]) ji_192_156 jc_192_118 (Nat.le_of_ble_eq_true rfl) rfl (Nat.le_of_ble_eq_true rfl) rfl (by rw [jn_189]; rfl) ws_w2 (fun v h R => ?_)
    obtain ⟨rfl, z1, rfl⟩ := R
    show wp_R (d + 1 + 1 + 1 + 1 + 1 + 1 + 1) 192 159 [some (.ref a), some (wp_i 5), some (wp_i ((x : Int)))] [.long z1, wp_i 5, wp_i 0, wp_i ((x : Int)), .ref a] h _
    refine wp_s (pc' := 160) ji_192_159 rfl rfl rfl ?_
    refine wp_bp ji_192_160 rfl ?_
    refine pv_vc V ji_192_162 jc_192_234 jk_212 (rest := []) rfl (Nat.le_of_ble_eq_true rfl) rfl (by rw [jn_212]; rfl) (wp_up (by omega) (ws_pair (d := d) (by omega) (by omega) (by omega) (by omega) V hcq hx hk hkn)) (fun v h R => ?_)
    obtain ⟨y, rfl, y0, y7, φ1, ts1, V, hcq1, hfz⟩ := R
    show wp_R (d + 1 + 1 + 1 + 1 + 1 + 1 + 1) 192 165 [some (.ref a), some (wp_i 5), some (wp_i ((x : Int)))] [wp_i y] h _
    exact wp_ri ji_192_165 jr_192 rfl ⟨y, rfl, y0, y7, φ1, pl, ts1, V, hcq1, hfz, fun _ q => by omega⟩
  · subst hv
    refine wp_s (pc' := 1) ji_192_0 rfl rfl rfl ?_
    refine wp_s (pc' := 148) (lv' := [some (.ref a), some (wp_i 6), some (wp_i ((x : Int)))]) (st' := []) (h' := h) ji_192_1 rfl rfl rfl ?_
    refine wp_s (pc' := 149) ji_192_148 rfl rfl rfl ?_
    refine wp_s (pc' := 150) ji_192_149 rfl rfl rfl ?_
    refine wp_s (pc' := 151) ji_192_150 rfl rfl rfl ?_
    refine wp_s (pc' := 152) ji_192_151 rfl rfl rfl ?_
    refine wp_bp ji_192_152 rfl ?_
    refine wp_bp ji_192_154 rfl ?_
    refine wp_sc (as := [wp_i 111, wp_i 110]) (rest := [wp_i 5, wp_i 0, wp_i ((x : Int)), .ref a]) ji_192_156 jc_192_118 (Nat.le_of_ble_eq_true rfl) rfl (Nat.le_of_ble_eq_true rfl) rfl (by rw [jn_189]; rfl) ws_w2 (fun v h R => ?_)
    obtain ⟨rfl, z1, rfl⟩ := R
    show wp_R (d + 1 + 1 + 1 + 1 + 1 + 1 + 1) 192 159 [some (.ref a), some (wp_i 6), some (wp_i ((x : Int)))] [.long z1, wp_i 5, wp_i 0, wp_i ((x : Int)), .ref a] h _
    refine wp_s (pc' := 160) ji_192_159 rfl rfl rfl ?_
    refine wp_bp ji_192_160 rfl ?_
    refine pv_vc V ji_192_162 jc_192_234 jk_212 (rest := []) rfl (Nat.le_of_ble_eq_true rfl) rfl (by rw [jn_212]; rfl) (wp_up (by omega) (ws_pair (d := d) (by omega) (by omega) (by omega) (by omega) V hcq hx hk hkn)) (fun v h R => ?_)
    obtain ⟨y, rfl, y0, y7, φ1, ts1, V, hcq1, hfz⟩ := R
    show wp_R (d + 1 + 1 + 1 + 1 + 1 + 1 + 1) 192 165 [some (.ref a), some (wp_i 6), some (wp_i ((x : Int)))] [wp_i y] h _
    exact wp_ri ji_192_165 jr_192 rfl ⟨y, rfl, y0, y7, φ1, pl, ts1, V, hcq1, hfz, fun _ q => by omega⟩
  · subst hv
    refine wp_s (pc' := 1) ji_192_0 rfl rfl rfl ?_
    refine wp_s (pc' := 107) (lv' := [some (.ref a), some (wp_i 7), some (wp_i ((x : Int)))]) (st' := []) (h' := h) ji_192_1 rfl rfl rfl ?_
    refine wp_s (pc' := 108) ji_192_107 rfl rfl rfl ?_
    refine wp_s (pc' := 109) ji_192_108 rfl rfl rfl ?_
    refine wp_s (pc' := 110) ji_192_109 rfl rfl rfl ?_
    refine wp_bp ji_192_110 rfl ?_
    refine wp_bp ji_192_112 rfl ?_
    refine wp_bp ji_192_114 rfl ?_
    refine wp_sc (as := [wp_i 98, wp_i 121]) (rest := [wp_i 7, wp_i 0, wp_i ((x : Int)), .ref a]) ji_192_116 jc_192_118 (Nat.le_of_ble_eq_true rfl) rfl (Nat.le_of_ble_eq_true rfl) rfl (by rw [jn_189]; rfl) ws_w2 (fun v h R => ?_)
    obtain ⟨rfl, z1, rfl⟩ := R
    show wp_R (d + 1 + 1 + 1 + 1 + 1 + 1 + 1) 192 119 [some (.ref a), some (wp_i 7), some (wp_i ((x : Int)))] [.long z1, wp_i 7, wp_i 0, wp_i ((x : Int)), .ref a] h _
    refine wp_s (pc' := 120) ji_192_119 rfl rfl rfl ?_
    refine wp_bp ji_192_120 rfl ?_
    refine pv_vc V ji_192_122 jc_192_234 jk_212 (rest := []) rfl (Nat.le_of_ble_eq_true rfl) rfl (by rw [jn_212]; rfl) (wp_up (by omega) (ws_pair (d := d) (by omega) (by omega) (by omega) (by omega) V hcq hx hk hkn)) (fun v h R => ?_)
    obtain ⟨y, rfl, y0, y7, φ1, ts1, V, hcq1, hfz⟩ := R
    show wp_R (d + 1 + 1 + 1 + 1 + 1 + 1 + 1) 192 125 [some (.ref a), some (wp_i 7), some (wp_i ((x : Int)))] [wp_i y] h _
    exact wp_ri ji_192_125 jr_192 rfl ⟨y, rfl, y0, y7, φ1, pl, ts1, V, hcq1, hfz, fun _ q => by omega⟩
  · subst hv
    refine wp_s (pc' := 1) ji_192_0 rfl rfl rfl ?_
    refine wp_s (pc' := 126) (lv' := [some (.ref a), some (wp_i 8), some (wp_i ((x : Int)))]) (st' := []) (h' := h) ji_192_1 rfl rfl rfl ?_
    refine wp_s (pc' := 127) ji_192_126 rfl rfl rfl ?_
    refine wp_s (pc' := 128) ji_192_127 rfl rfl rfl ?_
    refine wp_s (pc' := 129) ji_192_128 rfl rfl rfl ?_
    refine wp_iadd (x := (x : Int)) (y := 1) (z := ((x + 1 : Nat) : Int)) ji_192_129 (by omega) ?_
    refine wp_s (pc' := 131) ji_192_130 rfl rfl rfl ?_
    refine wp_bp ji_192_131 rfl ?_
    refine pv_vc V ji_192_133 jc_192_227 jk_213 (rest := []) rfl (Nat.le_of_ble_eq_true rfl) rfl (by rw [jn_213]; rfl) (wp_up (by omega) (ws_figure (d := d) (i := 1) (xi := x + 1) (by omega) rfl (by omega) (by omega) V hcq hx hk hkn)) (fun v h R => ?_)
    obtain ⟨y, rfl, y0, y7, φ1, ts1, V, hcq1, hfz⟩ := R
    show wp_R (d + 1 + 1 + 1 + 1 + 1 + 1 + 1) 192 136 [some (.ref a), some (wp_i 8), some (wp_i ((x : Int)))] [wp_i y] h _
    exact wp_ri ji_192_136 jr_192 rfl ⟨y, rfl, y0, y7, φ1, pl, ts1, V, hcq1, hfz, fun _ q => by omega⟩
  · subst hv
    refine wp_s (pc' := 1) ji_192_0 rfl rfl rfl ?_
    refine wp_s (pc' := 137) (lv' := [some (.ref a), some (wp_i 9), some (wp_i ((x : Int)))]) (st' := []) (h' := h) ji_192_1 rfl rfl rfl ?_
    refine wp_s (pc' := 138) ji_192_137 rfl rfl rfl ?_
    refine wp_s (pc' := 139) ji_192_138 rfl rfl rfl ?_
    refine wp_s (pc' := 140) ji_192_139 rfl rfl rfl ?_
    refine wp_iadd (x := (x : Int)) (y := 1) (z := ((x + 1 : Nat) : Int)) ji_192_140 (by omega) ?_
    refine wp_s (pc' := 142) ji_192_141 rfl rfl rfl ?_
    refine wp_bp ji_192_142 rfl ?_
    refine pv_vc V ji_192_144 jc_192_227 jk_213 (rest := []) rfl (Nat.le_of_ble_eq_true rfl) rfl (by rw [jn_213]; rfl) (wp_up (by omega) (ws_figure (d := d) (i := 1) (xi := x + 1) (by omega) rfl (by omega) (by omega) V hcq hx hk hkn)) (fun v h R => ?_)
    obtain ⟨y, rfl, y0, y7, φ1, ts1, V, hcq1, hfz⟩ := R
    show wp_R (d + 1 + 1 + 1 + 1 + 1 + 1 + 1) 192 147 [some (.ref a), some (wp_i 9), some (wp_i ((x : Int)))] [wp_i y] h _
    exact wp_ri ji_192_147 jr_192 rfl ⟨y, rfl, y0, y7, φ1, pl, ts1, V, hcq1, hfz, fun _ q => by omega⟩
