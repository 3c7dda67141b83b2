/-! the reference's reader: code is written, the pile is settled -/
theorem pv_p20 {w : Nat} (hw : w < 304) {s : Nat} : sx_p20[(705 * s + 97 + 2 * w) % 705]? = some (0, 0, 41) ∧ sx_p20[(705 * s + 97 + 2 * w + 1) % 705]? = some (0, -2147483648, 9999) := by
  have h := List.all_eq_true.mp sx_p20_k.2 w (List.mem_range.mpr hw)
  rw [Bool.and_eq_true, decide_eq_true_eq, decide_eq_true_eq] at h
  rw [show (705 * s + 97 + 2 * w) % 705 = 97 + 2 * w by omega, show (705 * s + 97 + 2 * w + 1) % 705 = 98 + 2 * w by omega]
  exact h
theorem jw_set {ts : List Value} {s w j : Nat} {y : Int} (hj : jw ts s w) (hs : s < 4) (h1 : 705 * s + 97 + 2 * w ≤ j) (h2 : j < 705 * s + 705) (hl : ts.length = 2820) (hy : wp_r y) : jw (ts.set j (wp_i y)) s w := by
  have ne : ∀ i, i ≠ j → sx_el (ts.set j (wp_i y)) i = sx_el ts i := fun i hi => by rw [pv_el_set (by omega) hy, if_neg hi]
  refine jw_fr hj (fun r hr => ne _ (by omega)) (fun r k q hr hk _ hq => ne _ (by rcases Nat.lt_trichotomy r s with h | h | h <;> omega)) (fun r i hr hrs hi => ⟨ne _ (by omega), ne _ (by omega)⟩) (fun i hi => ⟨ne _ (by omega), ne _ (by omega)⟩) hs
/-- the texts with one item more -/
def em_t (ts : List Value) (s w : Nat) (o v : Int) : List Value := (ts.set (705 * s + 97 + 2 * w) (wp_i o)).set (705 * s + 97 + 2 * w + 1) (wp_i v)
theorem em_el {ts : List Value} {s w j : Nat} {o v : Int} (hs : s < 4) (hw : w < 303) (hl : ts.length = 2820) (ho : wp_r o) (hv : wp_r v) : sx_el (em_t ts s w o v) j = if j = 705 * s + 97 + 2 * w + 1 then v else if j = 705 * s + 97 + 2 * w then o else sx_el ts j := by
  unfold em_t
  rw [pv_el_set (by rw [List.length_set]; omega) hv]
  split
  · rfl
  · rw [pv_el_set (by omega) ho]
theorem em_we {ts : List Value} {s w c0 : Nat} {o v : Int} {q q1 : Nat × Nat} (hs : s < 4) (hw : w < 303) (hc : c0 ≤ w) (hl : ts.length = 2820) (ho : wp_r o) (hv : wp_r v) (h : we ts (705 * s + 97) c0 (w - c0) (0, 0) = some q) (h1 : we_1 o v q = some q1) : we (em_t ts s w o v) (705 * s + 97) c0 (w + 1 - c0) (0, 0) = some q1 := by
  have e : w + 1 - c0 = (w - c0) + 1 := by omega
  rw [e]
  refine we_app (q1 := q) ?_ ?_
  · rw [← h]
    refine we_fr (fun k k1 k2 => ?_)
    rw [em_el hs hw hl ho hv, em_el hs hw hl ho hv, if_neg (by omega), if_neg (by omega), if_neg (by omega), if_neg (by omega)]
    exact ⟨rfl, rfl⟩
  · rw [show c0 + (w - c0) = w by omega, em_el hs hw hl ho hv, em_el hs hw hl ho hv, if_neg (by omega), if_pos rfl, if_pos rfl]
    exact h1
/-- the reader within a clause: the code since c0 leaves n values and t truths, the pile is l -/
def ps (t0 : List Value) (φ : Nat → Int) (pl ts : List Value) (s c0 : Nat) (l : List Int) (n t : Nat) : Prop := ∃ w p : Nat, φ 13 = w ∧ φ 16 = p ∧ φ 12 = ((705 * s : Nat) : Int) ∧ s < 4 ∧ c0 ≤ w ∧ jw ts s w ∧ we ts (705 * s + 97) c0 (w - c0) (0, 0) = some (n, t) ∧ pp pl p = l ∧ φ 17 = (po_o l : Int) ∧ ∀ j, (j < 705 * s + 97 ∨ 705 * s + 705 ≤ j) → sx_el ts j = sx_el t0 j
set_option maxRecDepth 100000 in
theorem ji_203_0 : mj_ins 203 0 = some (.aload_n 0) := by decide +kernel
set_option maxRecDepth 100000 in
theorem ji_203_1 : mj_ins 203 1 = some (.getfield 16) := by decide +kernel
set_option maxRecDepth 100000 in
theorem jf_203_16 : mj_fld 203 16 = some (11, 2, (.array .int), false) := by decide +kernel
set_option maxRecDepth 100000 in
theorem ji_203_4 : mj_ins 203 4 = some (.aload_n 0) := by decide +kernel
set_option maxRecDepth 100000 in
theorem ji_203_5 : mj_ins 203 5 = some (.getfield 134) := by decide +kernel
set_option maxRecDepth 100000 in
theorem jf_203_134 : mj_fld 203 134 = some (11, 12, .int, true) := by decide +kernel
set_option maxRecDepth 100000 in
theorem pf_12 : sx_fd sx_y63.2.2 12 = some (0, 0, 2820) := by decide +kernel
set_option maxRecDepth 100000 in
theorem ji_203_8 : mj_ins 203 8 = some (.bipush 97) := by decide +kernel
set_option maxRecDepth 100000 in
theorem ji_203_10 : mj_ins 203 10 = some (.iadd) := by decide +kernel
set_option maxRecDepth 100000 in
theorem ji_203_11 : mj_ins 203 11 = some (.iconst 2) := by decide +kernel
set_option maxRecDepth 100000 in
theorem ji_203_12 : mj_ins 203 12 = some (.aload_n 0) := by decide +kernel
set_option maxRecDepth 100000 in
theorem ji_203_13 : mj_ins 203 13 = some (.getfield 137) := by decide +kernel
set_option maxRecDepth 100000 in
theorem jf_203_137 : mj_fld 203 137 = some (11, 13, .int, true) := by decide +kernel
set_option maxRecDepth 100000 in
theorem pf_13 : sx_fd sx_y63.2.2 13 = some (0, 0, 303) := by decide +kernel
set_option maxRecDepth 100000 in
theorem ji_203_16 : mj_ins 203 16 = some (.imul) := by decide +kernel
set_option maxRecDepth 100000 in
theorem ji_203_17 : mj_ins 203 17 = some (.iadd) := by decide +kernel
set_option maxRecDepth 100000 in
theorem ji_203_18 : mj_ins 203 18 = some (.iload_n 1) := by decide +kernel
set_option maxRecDepth 100000 in
theorem ji_203_19 : mj_ins 203 19 = some (.iastore) := by decide +kernel
set_option maxRecDepth 100000 in
theorem ji_203_20 : mj_ins 203 20 = some (.aload_n 0) := by decide +kernel
set_option maxRecDepth 100000 in
theorem ji_203_21 : mj_ins 203 21 = some (.getfield 16) := by decide +kernel
set_option maxRecDepth 100000 in
theorem ji_203_24 : mj_ins 203 24 = some (.aload_n 0) := by decide +kernel
set_option maxRecDepth 100000 in
theorem ji_203_25 : mj_ins 203 25 = some (.getfield 134) := by decide +kernel
set_option maxRecDepth 100000 in
theorem ji_203_28 : mj_ins 203 28 = some (.bipush 97) := by decide +kernel
set_option maxRecDepth 100000 in
theorem ji_203_30 : mj_ins 203 30 = some (.iadd) := by decide +kernel
set_option maxRecDepth 100000 in
theorem ji_203_31 : mj_ins 203 31 = some (.iconst 2) := by decide +kernel
set_option maxRecDepth 100000 in
theorem ji_203_32 : mj_ins 203 32 = some (.aload_n 0) := by decide +kernel
set_option maxRecDepth 100000 in
theorem ji_203_33 : mj_ins 203 33 = some (.getfield 137) := by decide +kernel
set_option maxRecDepth 100000 in
theorem ji_203_36 : mj_ins 203 36 = some (.imul) := by decide +kernel
set_option maxRecDepth 100000 in
theorem ji_203_37 : mj_ins 203 37 = some (.iadd) := by decide +kernel
set_option maxRecDepth 100000 in
theorem ji_203_38 : mj_ins 203 38 = some (.iconst 1) := by decide +kernel
set_option maxRecDepth 100000 in
theorem ji_203_39 : mj_ins 203 39 = some (.iadd) := by decide +kernel
set_option maxRecDepth 100000 in
theorem ji_203_40 : mj_ins 203 40 = some (.iload_n 2) := by decide +kernel
set_option maxRecDepth 100000 in
theorem ji_203_41 : mj_ins 203 41 = some (.iastore) := by decide +kernel
set_option maxRecDepth 100000 in
theorem ji_203_42 : mj_ins 203 42 = some (.aload_n 0) := by decide +kernel
set_option maxRecDepth 100000 in
theorem ji_203_43 : mj_ins 203 43 = some (.dup) := by decide +kernel
set_option maxRecDepth 100000 in
theorem ji_203_44 : mj_ins 203 44 = some (.getfield 137) := by decide +kernel
set_option maxRecDepth 100000 in
theorem ji_203_47 : mj_ins 203 47 = some (.iconst 1) := by decide +kernel
set_option maxRecDepth 100000 in
theorem ji_203_48 : mj_ins 203 48 = some (.iadd) := by decide +kernel
set_option maxRecDepth 100000 in
theorem ji_203_49 : mj_ins 203 49 = some (.putfield 137) := by decide +kernel
set_option maxRecDepth 100000 in
theorem ji_203_52 : mj_ins 203 52 = some (.return_) := by decide +kernel
set_option maxRecDepth 100000 in
theorem jr_203 : mj_ret 203 = none := by decide +kernel
set_option maxRecDepth 100000 in
theorem jr_202 : mj_ret 202 = none := by decide +kernel
set_option maxRecDepth 100000 in
theorem ji_202_0 : mj_ins 202 0 = some (.aload_n 0) := by decide +kernel
set_option maxRecDepth 100000 in
theorem ji_202_1 : mj_ins 202 1 = some (.getfield 147) := by decide +kernel
set_option maxRecDepth 100000 in
theorem jf_202_147 : mj_fld 202 147 = some (11, 16, .int, true) := by decide +kernel
set_option maxRecDepth 100000 in
theorem pf_16 : sx_fd sx_y63.2.2 16 = some (0, 0, 160) := by decide +kernel
set_option maxRecDepth 100000 in
theorem ji_202_4 : mj_ins 202 4 = some (.ifCond .le 99) := by decide +kernel
set_option maxRecDepth 100000 in
theorem ji_202_7 : mj_ins 202 7 = some (.aload_n 0) := by decide +kernel
set_option maxRecDepth 100000 in
theorem ji_202_8 : mj_ins 202 8 = some (.getfield 29) := by decide +kernel
set_option maxRecDepth 100000 in
theorem jf_202_29 : mj_fld 202 29 = some (11, 15, (.array .int), false) := by decide +kernel
set_option maxRecDepth 100000 in
theorem ji_202_11 : mj_ins 202 11 = some (.aload_n 0) := by decide +kernel
set_option maxRecDepth 100000 in
theorem ji_202_12 : mj_ins 202 12 = some (.getfield 147) := by decide +kernel
set_option maxRecDepth 100000 in
theorem ji_202_15 : mj_ins 202 15 = some (.iconst 1) := by decide +kernel
set_option maxRecDepth 100000 in
theorem ji_202_16 : mj_ins 202 16 = some (.isub) := by decide +kernel
set_option maxRecDepth 100000 in
theorem ji_202_17 : mj_ins 202 17 = some (.iaload) := by decide +kernel
set_option maxRecDepth 100000 in
theorem ji_202_18 : mj_ins 202 18 = some (.invokestatic 150) := by decide +kernel
set_option maxRecDepth 100000 in
theorem jc_202_150 : mj_cal 202 150 = some (1, 200, 1) := by decide +kernel
set_option maxRecDepth 100000 in
theorem jn_200 : mj_nl 200 = 1 := by decide +kernel
set_option maxRecDepth 100000 in
theorem ji_202_21 : mj_ins 202 21 = some (.iload_n 1) := by decide +kernel
set_option maxRecDepth 100000 in
theorem ji_202_22 : mj_ins 202 22 = some (.if_icmp .lt 81) := by decide +kernel
set_option maxRecDepth 100000 in
theorem ji_202_25 : mj_ins 202 25 = some (.aload_n 0) := by decide +kernel
set_option maxRecDepth 100000 in
theorem ji_202_26 : mj_ins 202 26 = some (.dup) := by decide +kernel
set_option maxRecDepth 100000 in
theorem ji_202_27 : mj_ins 202 27 = some (.getfield 147) := by decide +kernel
set_option maxRecDepth 100000 in
theorem ji_202_30 : mj_ins 202 30 = some (.iconst 1) := by decide +kernel
set_option maxRecDepth 100000 in
theorem ji_202_31 : mj_ins 202 31 = some (.isub) := by decide +kernel
set_option maxRecDepth 100000 in
theorem ji_202_32 : mj_ins 202 32 = some (.putfield 147) := by decide +kernel
set_option maxRecDepth 100000 in
theorem ji_202_35 : mj_ins 202 35 = some (.aload_n 0) := by decide +kernel
set_option maxRecDepth 100000 in
theorem ji_202_36 : mj_ins 202 36 = some (.getfield 29) := by decide +kernel
set_option maxRecDepth 100000 in
theorem ji_202_39 : mj_ins 202 39 = some (.aload_n 0) := by decide +kernel
set_option maxRecDepth 100000 in
theorem ji_202_40 : mj_ins 202 40 = some (.getfield 147) := by decide +kernel
set_option maxRecDepth 100000 in
theorem ji_202_43 : mj_ins 202 43 = some (.iaload) := by decide +kernel
set_option maxRecDepth 100000 in
theorem ji_202_44 : mj_ins 202 44 = some (.bipush 16) := by decide +kernel
set_option maxRecDepth 100000 in
theorem ji_202_46 : mj_ins 202 46 = some (.if_icmp .eq 17) := by decide +kernel
set_option maxRecDepth 100000 in
theorem ji_202_63 : mj_ins 202 63 = some (.aload_n 0) := by decide +kernel
set_option maxRecDepth 100000 in
theorem ji_202_64 : mj_ins 202 64 = some (.getfield 29) := by decide +kernel
set_option maxRecDepth 100000 in
theorem ji_202_67 : mj_ins 202 67 = some (.aload_n 0) := by decide +kernel
set_option maxRecDepth 100000 in
theorem ji_202_68 : mj_ins 202 68 = some (.getfield 147) := by decide +kernel
set_option maxRecDepth 100000 in
theorem ji_202_71 : mj_ins 202 71 = some (.iaload) := by decide +kernel
set_option maxRecDepth 100000 in
theorem ji_202_72 : mj_ins 202 72 = some (.iconst 3) := by decide +kernel
set_option maxRecDepth 100000 in
theorem ji_202_73 : mj_ins 202 73 = some (.if_icmp .eq 17) := by decide +kernel
set_option maxRecDepth 100000 in
theorem ji_202_76 : mj_ins 202 76 = some (.aload_n 0) := by decide +kernel
set_option maxRecDepth 100000 in
theorem ji_202_77 : mj_ins 202 77 = some (.getfield 29) := by decide +kernel
set_option maxRecDepth 100000 in
theorem ji_202_80 : mj_ins 202 80 = some (.aload_n 0) := by decide +kernel
set_option maxRecDepth 100000 in
theorem ji_202_81 : mj_ins 202 81 = some (.getfield 147) := by decide +kernel
set_option maxRecDepth 100000 in
theorem ji_202_84 : mj_ins 202 84 = some (.iaload) := by decide +kernel
set_option maxRecDepth 100000 in
theorem ji_202_85 : mj_ins 202 85 = some (.bipush 20) := by decide +kernel
set_option maxRecDepth 100000 in
theorem ji_202_87 : mj_ins 202 87 = some (.if_icmp .ne (-87)) := by decide +kernel
set_option maxRecDepth 100000 in
theorem ji_202_49 : mj_ins 202 49 = some (.aload_n 0) := by decide +kernel
set_option maxRecDepth 100000 in
theorem ji_202_50 : mj_ins 202 50 = some (.aload_n 0) := by decide +kernel
set_option maxRecDepth 100000 in
theorem ji_202_51 : mj_ins 202 51 = some (.getfield 29) := by decide +kernel
set_option maxRecDepth 100000 in
theorem ji_202_54 : mj_ins 202 54 = some (.aload_n 0) := by decide +kernel
set_option maxRecDepth 100000 in
theorem ji_202_55 : mj_ins 202 55 = some (.getfield 147) := by decide +kernel
set_option maxRecDepth 100000 in
theorem ji_202_58 : mj_ins 202 58 = some (.iaload) := by decide +kernel
set_option maxRecDepth 100000 in
theorem ji_202_59 : mj_ins 202 59 = some (.iconst 0) := by decide +kernel
set_option maxRecDepth 100000 in
theorem ji_202_60 : mj_ins 202 60 = some (.invokevirtual 153) := by decide +kernel
set_option maxRecDepth 100000 in
theorem jc_202_153 : mj_cal 202 153 = some (2, 203, 2) := by decide +kernel
set_option maxRecDepth 100000 in
theorem jk_203 : mj_cls 203 = 11 := by decide +kernel
set_option maxRecDepth 100000 in
theorem jn_203 : mj_nl 203 = 3 := by decide +kernel
set_option maxRecDepth 100000 in
theorem ji_202_90 : mj_ins 202 90 = some (.aload_n 0) := by decide +kernel
set_option maxRecDepth 100000 in
theorem ji_202_91 : mj_ins 202 91 = some (.dup) := by decide +kernel
set_option maxRecDepth 100000 in
theorem ji_202_92 : mj_ins 202 92 = some (.getfield 157) := by decide +kernel
set_option maxRecDepth 100000 in
theorem jf_202_157 : mj_fld 202 157 = some (11, 17, .int, true) := by decide +kernel
set_option maxRecDepth 100000 in
theorem pf_17 : sx_fd sx_y63.2.2 17 = some (0, 0, 8) := by decide +kernel
set_option maxRecDepth 100000 in
theorem ji_202_95 : mj_ins 202 95 = some (.iconst 1) := by decide +kernel
set_option maxRecDepth 100000 in
theorem ji_202_96 : mj_ins 202 96 = some (.isub) := by decide +kernel
set_option maxRecDepth 100000 in
theorem ji_202_97 : mj_ins 202 97 = some (.putfield 157) := by decide +kernel
set_option maxRecDepth 100000 in
theorem ji_202_100 : mj_ins 202 100 = some (.goto (-100)) := by decide +kernel
set_option maxRecDepth 100000 in
theorem ji_202_103 : mj_ins 202 103 = some (.return_) := by decide +kernel
theorem pv_pb {h0 h : mj_H} {a P T : Nat} {φ : Nat → Int} {pl ts : List Value} (V : pv h0 h a P T φ pl ts) {j : Nat} {x : Int} (hx : x = sx_el pl j) (hj : j < 160) : 0 ≤ x ∧ x ≤ 41 := by
  obtain ⟨-, -, -, q4, -⟩ := pv_aP V
  obtain ⟨hH, -, -, -, tP, -, fs, -, -, -, -, g5, -⟩ := V
  obtain ⟨-, vs, c1, c2, c3, -⟩ := hH P 65 sx_y65 tP rfl
  have c1 : h[P]? = some (1000, vs) := c1
  rw [g5] at c1
  cases c1
  have hv : pl[j]? = some pl[j] := List.getElem?_eq_getElem (by omega)
  obtain ⟨d', d1, d2⟩ := c3 _ _ hv
  rw [pv_fd65 hj] at d1
  cases d1
  obtain ⟨z, ez, z1, z2⟩ := d2
  have e : sx_el pl j = z.toInt := by
    unfold sx_el
    rw [hv, ez]
  omega
theorem ws_emit {d : Nat} {h0 h : mj_H} {a P T : Nat} {φ : Nat → Int} {pl ts : List Value} (V : pv h0 h a P T φ pl ts) {s w : Nat} {o v : Int} (hw : φ 13 = (w : Int)) (h12 : φ 12 = ((705 * s : Nat) : Int)) (hs : s < 4) (w3 : w < 303) (ho : 0 ≤ o ∧ o ≤ 41) (hv : -2147483648 ≤ v ∧ v ≤ 9999) (hj : jw ts s w) : wp_R d 203 0 [some (.ref a), some (wp_i o), some (wp_i v)] [] h (fun r h1 => r = none ∧ pv h0 h1 a P T (pv_u φ 13 (w + 1)) pl (em_t ts s w o v) ∧ jw (em_t ts s w o v) s (w + 1)) := by
  have hl := (pv_aP V).2.2.2.2.1
  refine wp_s (pc' := 1) ji_203_0 rfl rfl rfl ?_
  refine pv_gt V ji_203_1 jf_203_16 ?_
  refine wp_s (pc' := 5) ji_203_4 rfl rfl rfl ?_
  refine pv_gi V ji_203_5 jf_203_134 (by decide) pf_12 (y := φ 12) rfl (fun l1 u2 => ?_)
  refine wp_bp ji_203_8 rfl ?_
  refine wp_iadd (x := φ 12) (y := 97) (z := φ 12 + 97) ji_203_10 (by omega) ?_
  refine wp_s (pc' := 12) ji_203_11 rfl rfl rfl ?_
  refine wp_s (pc' := 13) ji_203_12 rfl rfl rfl ?_
  refine pv_gi V ji_203_13 jf_203_137 (by decide) pf_13 (y := φ 13) rfl (fun l3 u4 => ?_)
  refine wp_imul (x := 2) (y := φ 13) (z := 2 * (φ 13)) ji_203_16 (by omega) ?_
  refine wp_iadd (x := φ 12 + 97) (y := 2 * (φ 13)) (z := ((705 * s + 97 + 2 * w : Nat) : Int)) ji_203_17 (by omega) ?_
  refine wp_s (pc' := 19) ji_203_18 rfl rfl rfl ?_
  refine pv_st V (x := ((705 * s + 97 + 2 * w : Nat) : Int)) (y := o) ji_203_19 (by omega) (by omega) (pv_p20 (by omega)).1 (by omega) (by omega) (by omega) (jw_set hj hs (Nat.le_refl _) (by omega) hl (by omega)).1 (fun h V => ?_)
  have V : pv h0 h a P T _ _ (ts.set (705 * s + 97 + 2 * w) (wp_i o)) := V
  refine wp_s (pc' := 21) ji_203_20 rfl rfl rfl ?_
  refine pv_gt V ji_203_21 jf_203_16 ?_
  refine wp_s (pc' := 25) ji_203_24 rfl rfl rfl ?_
  refine pv_gi V ji_203_25 jf_203_134 (by decide) pf_12 (y := φ 12) rfl (fun l5 u6 => ?_)
  refine wp_bp ji_203_28 rfl ?_
  refine wp_iadd (x := φ 12) (y := 97) (z := φ 12 + 97) ji_203_30 (by omega) ?_
  refine wp_s (pc' := 32) ji_203_31 rfl rfl rfl ?_
  refine wp_s (pc' := 33) ji_203_32 rfl rfl rfl ?_
  refine pv_gi V ji_203_33 jf_203_137 (by decide) pf_13 (y := φ 13) rfl (fun l7 u8 => ?_)
  refine wp_imul (x := 2) (y := φ 13) (z := 2 * (φ 13)) ji_203_36 (by omega) ?_
  refine wp_iadd (x := φ 12 + 97) (y := 2 * (φ 13)) (z := ((705 * s + 97 + 2 * w : Nat) : Int)) ji_203_37 (by omega) ?_
  refine wp_s (pc' := 39) ji_203_38 rfl rfl rfl ?_
  refine wp_iadd (x := ((705 * s + 97 + 2 * w : Nat) : Int)) (y := 1) (z := ((705 * s + 97 + 2 * w + 1 : Nat) : Int)) ji_203_39 (by omega) ?_
  refine wp_s (pc' := 41) ji_203_40 rfl rfl rfl ?_
  refine pv_st V (x := ((705 * s + 97 + 2 * w + 1 : Nat) : Int)) (y := v) ji_203_41 (by omega) (by omega) (pv_p20 (by omega)).2 (by omega) (by omega) (by omega) (jw_set (jw_set hj hs (Nat.le_refl _) (by omega) hl (by omega)) hs (Nat.le_succ _) (by omega) (by rw [List.length_set]; exact hl) (by omega)).1 (fun h V => ?_)
  have V : pv h0 h a P T _ _ ((ts.set (705 * s + 97 + 2 * w) (wp_i o)).set (705 * s + 97 + 2 * w + 1) (wp_i v)) := V
  refine wp_s (pc' := 43) ji_203_42 rfl rfl rfl ?_
  refine wp_s (pc' := 44) ji_203_43 rfl rfl rfl ?_
  refine pv_gi V ji_203_44 jf_203_137 (by decide) pf_13 (y := φ 13) rfl (fun l9 u10 => ?_)
  refine wp_s (pc' := 48) ji_203_47 rfl rfl rfl ?_
  refine wp_iadd (x := φ 13) (y := 1) (z := φ 13 + 1) ji_203_48 (by omega) ?_
  refine pv_pi V ji_203_49 jf_203_137 (by decide) pf_13 (by decide) (by decide) (by decide) (by omega) (by omega) (by omega) rfl rfl (fun h V => ?_)
  exact wp_rv ji_203_52 jr_203 ⟨rfl, by rw [← hw]; exact V, jw_le (jw_set (jw_set hj hs (Nat.le_refl _) (by omega) hl (by omega)) hs (Nat.le_succ _) (by omega) (by rw [List.length_set]; exact hl) (by omega)) (Nat.le_succ _)⟩
theorem pr_rb (x : Int) : 0 ≤ pr_rank x ∧ pr_rank x ≤ 7 := by
  unfold pr_rank
  repeat (first | split | omega)
theorem ws_settle {d : Nat} {h0 : mj_H} {a P T s c0 : Nat} {t0 pl : List Value} {least : Int} (hle : 1 ≤ least ∧ least ≤ 7) {l' : List Int} {q' : Nat × Nat} : ∀ (l : List Int) (h : mj_H) (φ : Nat → Int) (ts : List Value) (n t : Nat), pv h0 h a P T φ pl ts → ps t0 φ pl ts s c0 l n t → φ 13 + φ 16 ≤ 300 → se least l (n, t) = some (l', q') → wp_R (d + 1) 202 0 [some (.ref a), some (wp_i least)] [] h (fun v h1 => v = none ∧ ∃ φ' ts', pv h0 h1 a P T φ' pl ts' ∧ ps t0 φ' pl ts' s c0 l' q'.1 q'.2 ∧ (∀ k, k ≠ 13 → k ≠ 16 → k ≠ 17 → φ' k = φ k) ∧ φ' 13 + φ' 16 ≤ φ 13 + φ 16) := by
  intro l
  induction l with
  | nil =>
    intro h φ ts n t V hp hb hse
    have hp' := hp
    obtain ⟨w, p, hw, h16, h12, hs, hc, hj, hwe, hpp, h17, hfr⟩ := hp
    have hp0 : p = 0 := by have := pp_len (pl := pl) p; rw [hpp] at this; exact this.symm
    unfold se at hse
    cases hse
    refine wp_s (pc' := 1) ji_202_0 rfl rfl rfl ?_
    refine pv_gi V ji_202_1 jf_202_147 (by decide) pf_16 (y := φ 16) rfl (fun l1 u2 => ?_)
    refine wp_if (t := 103) ji_202_4 rfl (by omega) (fun _ => ?_) (fun (hb : ¬ (φ 16 : Int) ≤ 0) => by exfalso; omega)
    exact wp_rv ji_202_103 jr_202 ⟨rfl, φ, ts, V, hp', fun _ _ _ _ => rfl, Int.le_refl _⟩
  | cons x l ih =>
    intro h φ ts n t V hp hb hse
    have hp' := hp
    have hl := (pv_aP V).2.2.2.2.1
    obtain ⟨w, p1, hw, h16, h12, hs, hc, hj, hwe, hpp, h17, hfr⟩ := hp
    obtain ⟨p, rfl⟩ : ∃ p, p1 = p + 1 := ⟨p1 - 1, by have := pp_len (pl := pl) p1; rw [hpp, List.length_cons] at this; omega⟩
    rw [pp] at hpp
    have hx0 : sx_el pl p = x := (List.cons.inj hpp).1
    have hpl : pp pl p = l := (List.cons.inj hpp).2
    subst hpl
    have hx : sx_el pl (φ 16 - 1).toNat = x := by rw [← hx0]; congr 1; omega
    have hxb : 0 ≤ x ∧ x ≤ 41 := pv_pb V (by rw [← hx0]) (by have := pv_b V (k := 16) (lo := 0) (hi := 160) (by decide) (by decide); omega)
    unfold po_o at h17
    unfold se at hse
    by_cases hr : least ≤ pr_rank x
    · rw [if_pos hr] at hse
      by_cases h16x : x = 16
      · rw [if_pos h16x] at hse
        rw [if_neg (by omega)] at h17
        refine wp_s (pc' := 1) ji_202_0 rfl rfl rfl ?_
        refine pv_gi V ji_202_1 jf_202_147 (by decide) pf_16 (y := φ 16) rfl (fun l104 u105 => ?_)
        refine wp_if (t := 103) ji_202_4 rfl (by omega) (fun (hb106 : (φ 16 : Int) ≤ 0) => (by exfalso; omega)) (fun (hb106 : ¬ ((φ 16 : Int) ≤ 0)) => ?_)
        refine wp_s (pc' := 8) ji_202_7 rfl rfl rfl ?_
        refine pv_gp V ji_202_8 jf_202_29 ?_
        refine wp_s (pc' := 12) ji_202_11 rfl rfl rfl ?_
        refine pv_gi V ji_202_12 jf_202_147 (by decide) pf_16 (y := φ 16) rfl (fun l107 u108 => ?_)
        refine wp_s (pc' := 16) ji_202_15 rfl rfl rfl ?_
        refine wp_isub (x := φ 16) (y := 1) (z := φ 16 - 1) ji_202_16 (by omega) ?_
        refine pv_lp V (x := φ 16 - 1) (y := x) ji_202_17 (by omega) (by omega) hx (fun l109 u110 => ?_)
        refine wp_sc (as := [wp_i x]) (rest := []) ji_202_18 jc_202_150 (Nat.le_of_ble_eq_true rfl) rfl (Nat.le_of_ble_eq_true rfl) rfl (by rw [jn_200]; rfl) (ws_rank (o := x) (by omega)) (fun v h R => ?_)
        obtain ⟨rfl, rfl⟩ := R
        show wp_R (d + 1) 202 21 [some (.ref a), some (wp_i least)] [wp_i (pr_rank x)] h _
        have q111 := pr_rb x
        refine wp_s (pc' := 22) ji_202_21 rfl rfl rfl ?_
        refine wp_icmp (t := 103) ji_202_22 rfl (by omega) (by omega) (fun (hb112 : (pr_rank x : Int) < least) => (by exfalso; omega)) (fun (hb112 : ¬ ((pr_rank x : Int) < least)) => ?_)
        refine wp_s (pc' := 26) ji_202_25 rfl rfl rfl ?_
        refine wp_s (pc' := 27) ji_202_26 rfl rfl rfl ?_
        refine pv_gi V ji_202_27 jf_202_147 (by decide) pf_16 (y := φ 16) rfl (fun l113 u114 => ?_)
        refine wp_s (pc' := 31) ji_202_30 rfl rfl rfl ?_
        refine wp_isub (x := φ 16) (y := 1) (z := φ 16 - 1) ji_202_31 (by omega) ?_
        refine pv_pi V ji_202_32 jf_202_147 (by decide) pf_16 (by decide) (by decide) (by decide) (by omega) (by omega) (by omega) rfl rfl (fun h V => ?_)
        refine wp_s (pc' := 36) ji_202_35 rfl rfl rfl ?_
        refine pv_gp V ji_202_36 jf_202_29 ?_
        refine wp_s (pc' := 40) ji_202_39 rfl rfl rfl ?_
        refine pv_gi V ji_202_40 jf_202_147 (by decide) pf_16 (y := φ 16 - 1) rfl (fun l115 u116 => ?_)
        refine pv_lp V (x := φ 16 - 1) (y := x) ji_202_43 (by omega) (by omega) hx (fun l117 u118 => ?_)
        refine wp_bp ji_202_44 rfl ?_
        refine wp_icmp (t := 63) ji_202_46 rfl (by omega) (by omega) (fun (hb119 : (x : Int) = 16) => ?_) (fun (hb119 : ¬ ((x : Int) = 16)) => (by exfalso; omega))
        refine wp_s (pc' := 64) ji_202_63 rfl rfl rfl ?_
        refine pv_gp V ji_202_64 jf_202_29 ?_
        refine wp_s (pc' := 68) ji_202_67 rfl rfl rfl ?_
        refine pv_gi V ji_202_68 jf_202_147 (by decide) pf_16 (y := φ 16 - 1) rfl (fun l120 u121 => ?_)
        refine pv_lp V (x := φ 16 - 1) (y := x) ji_202_71 (by omega) (by omega) hx (fun l122 u123 => ?_)
        refine wp_s (pc' := 73) ji_202_72 rfl rfl rfl ?_
        refine wp_icmp (t := 90) ji_202_73 rfl (by omega) (by omega) (fun (hb124 : (x : Int) = 3) => (by exfalso; omega)) (fun (hb124 : ¬ ((x : Int) = 3)) => ?_)
        refine wp_s (pc' := 77) ji_202_76 rfl rfl rfl ?_
        refine pv_gp V ji_202_77 jf_202_29 ?_
        refine wp_s (pc' := 81) ji_202_80 rfl rfl rfl ?_
        refine pv_gi V ji_202_81 jf_202_147 (by decide) pf_16 (y := φ 16 - 1) rfl (fun l125 u126 => ?_)
        refine pv_lp V (x := φ 16 - 1) (y := x) ji_202_84 (by omega) (by omega) hx (fun l127 u128 => ?_)
        refine wp_bp ji_202_85 rfl ?_
        refine wp_icmp (t := 0) ji_202_87 rfl (by omega) (by omega) (fun (hb129 : ¬ (x : Int) = 20) => ?_) (fun (hb129 : ¬ (¬ (x : Int) = 20)) => (by exfalso; omega))
        refine wp_mono (ih _ _ _ _ _ V ⟨w, p, hw, show (φ 16 - 1 : Int) = p by omega, h12, hs, by omega, hj, hwe, rfl, show φ 17 = _ by omega, hfr⟩ ?_ ?_) ?_
        · show (φ 13 + (φ 16 - 1) : Int) ≤ 300; omega
        · exact hse
        · rintro v h1 ⟨r1, φ2, ts2, r2, r3, r4, r5⟩
          refine ⟨r1, φ2, ts2, r2, r3, fun k h13 h16 h17 => (r4 k h13 h16 h17).trans (by simp only [pv_u, h13, h16, h17, if_false]), Int.le_trans r5 ?_⟩
          show (φ 13 + (φ 16 - 1) : Int) ≤ φ 13 + φ 16
          omega
      · rw [if_neg h16x] at hse
        split at hse
        · rename_i q1 hq1
          obtain ⟨n1, t1⟩ := q1
          by_cases h3 : x = 3 ∨ x = 20
          · rw [if_pos (by omega)] at h17
            refine wp_s (pc' := 1) ji_202_0 rfl rfl rfl ?_
            refine pv_gi V ji_202_1 jf_202_147 (by decide) pf_16 (y := φ 16) rfl (fun l130 u131 => ?_)
            refine wp_if (t := 103) ji_202_4 rfl (by omega) (fun (hb132 : (φ 16 : Int) ≤ 0) => (by exfalso; omega)) (fun (hb132 : ¬ ((φ 16 : Int) ≤ 0)) => ?_)
            refine wp_s (pc' := 8) ji_202_7 rfl rfl rfl ?_
            refine pv_gp V ji_202_8 jf_202_29 ?_
            refine wp_s (pc' := 12) ji_202_11 rfl rfl rfl ?_
            refine pv_gi V ji_202_12 jf_202_147 (by decide) pf_16 (y := φ 16) rfl (fun l133 u134 => ?_)
            refine wp_s (pc' := 16) ji_202_15 rfl rfl rfl ?_
            refine wp_isub (x := φ 16) (y := 1) (z := φ 16 - 1) ji_202_16 (by omega) ?_
            refine pv_lp V (x := φ 16 - 1) (y := x) ji_202_17 (by omega) (by omega) hx (fun l135 u136 => ?_)
            refine wp_sc (as := [wp_i x]) (rest := []) ji_202_18 jc_202_150 (Nat.le_of_ble_eq_true rfl) rfl (Nat.le_of_ble_eq_true rfl) rfl (by rw [jn_200]; rfl) (ws_rank (o := x) (by omega)) (fun v h R => ?_)
            obtain ⟨rfl, rfl⟩ := R
            show wp_R (d + 1) 202 21 [some (.ref a), some (wp_i least)] [wp_i (pr_rank x)] h _
            have q137 := pr_rb x
            refine wp_s (pc' := 22) ji_202_21 rfl rfl rfl ?_
            refine wp_icmp (t := 103) ji_202_22 rfl (by omega) (by omega) (fun (hb138 : (pr_rank x : Int) < least) => (by exfalso; omega)) (fun (hb138 : ¬ ((pr_rank x : Int) < least)) => ?_)
            refine wp_s (pc' := 26) ji_202_25 rfl rfl rfl ?_
            refine wp_s (pc' := 27) ji_202_26 rfl rfl rfl ?_
            refine pv_gi V ji_202_27 jf_202_147 (by decide) pf_16 (y := φ 16) rfl (fun l139 u140 => ?_)
            refine wp_s (pc' := 31) ji_202_30 rfl rfl rfl ?_
            refine wp_isub (x := φ 16) (y := 1) (z := φ 16 - 1) ji_202_31 (by omega) ?_
            refine pv_pi V ji_202_32 jf_202_147 (by decide) pf_16 (by decide) (by decide) (by decide) (by omega) (by omega) (by omega) rfl rfl (fun h V => ?_)
            refine wp_s (pc' := 36) ji_202_35 rfl rfl rfl ?_
            refine pv_gp V ji_202_36 jf_202_29 ?_
            refine wp_s (pc' := 40) ji_202_39 rfl rfl rfl ?_
            refine pv_gi V ji_202_40 jf_202_147 (by decide) pf_16 (y := φ 16 - 1) rfl (fun l141 u142 => ?_)
            refine pv_lp V (x := φ 16 - 1) (y := x) ji_202_43 (by omega) (by omega) hx (fun l143 u144 => ?_)
            refine wp_bp ji_202_44 rfl ?_
            refine wp_icmp (t := 63) ji_202_46 rfl (by omega) (by omega) (fun (hb145 : (x : Int) = 16) => (by exfalso; omega)) (fun (hb145 : ¬ ((x : Int) = 16)) => ?_)
            refine wp_s (pc' := 50) ji_202_49 rfl rfl rfl ?_
            refine wp_s (pc' := 51) ji_202_50 rfl rfl rfl ?_
            refine pv_gp V ji_202_51 jf_202_29 ?_
            refine wp_s (pc' := 55) ji_202_54 rfl rfl rfl ?_
            refine pv_gi V ji_202_55 jf_202_147 (by decide) pf_16 (y := φ 16 - 1) rfl (fun l146 u147 => ?_)
            refine pv_lp V (x := φ 16 - 1) (y := x) ji_202_58 (by omega) (by omega) hx (fun l148 u149 => ?_)
            refine wp_s (pc' := 60) ji_202_59 rfl rfl rfl ?_
            refine pv_vc V ji_202_60 jc_202_153 jk_203 (rest := []) rfl (Nat.le_of_ble_eq_true rfl) rfl (by rw [jn_203]; rfl) (ws_emit V (s := s) (w := w) (o := x) (v := 0) hw h12 hs (by omega) (by omega) (by omega) hj) (fun v h R => ?_)
            obtain ⟨rfl, V, hj2⟩ := R
            show wp_R (d + 1) 202 63 [some (.ref a), some (wp_i least)] [] h _
            refine wp_s (pc' := 64) ji_202_63 rfl rfl rfl ?_
            refine pv_gp V ji_202_64 jf_202_29 ?_
            refine wp_s (pc' := 68) ji_202_67 rfl rfl rfl ?_
            refine pv_gi V ji_202_68 jf_202_147 (by decide) pf_16 (y := φ 16 - 1) rfl (fun l150 u151 => ?_)
            refine pv_lp V (x := φ 16 - 1) (y := x) ji_202_71 (by omega) (by omega) hx (fun l152 u153 => ?_)
            refine wp_s (pc' := 73) ji_202_72 rfl rfl rfl ?_
            refine wp_icmp (t := 90) ji_202_73 rfl (by omega) (by omega) (fun (hb154 : (x : Int) = 3) => ?_) (fun (hb154 : ¬ ((x : Int) = 3)) => ?_)
            · refine wp_s (pc' := 91) ji_202_90 rfl rfl rfl ?_
              refine wp_s (pc' := 92) ji_202_91 rfl rfl rfl ?_
              refine pv_gi V ji_202_92 jf_202_157 (by decide) pf_17 (y := φ 17) rfl (fun l155 u156 => ?_)
              refine wp_s (pc' := 96) ji_202_95 rfl rfl rfl ?_
              refine wp_isub (x := φ 17) (y := 1) (z := φ 17 - 1) ji_202_96 (by omega) ?_
              refine pv_pi V ji_202_97 jf_202_157 (by decide) pf_17 (by decide) (by decide) (by decide) (by omega) (by omega) (by omega) rfl rfl (fun h V => ?_)
              refine wp_goto (t := 0) ji_202_100 rfl ?_
              refine wp_mono (ih _ _ _ _ _ V ⟨w + 1, p, (by show ((w : Int) + 1) = ((w + 1 : Nat) : Int); omega), show (φ 16 - 1 : Int) = p by omega, h12, hs, by omega, hj2, em_we hs (by omega) hc hl (by omega) (by omega) hwe hq1, rfl, show (φ 17 - 1 : Int) = _ by omega, fun j hj9 => by rw [em_el hs (by omega) hl (by omega) (by omega), if_neg (by omega), if_neg (by omega)]; exact hfr j hj9⟩ ?_ ?_) ?_
              · show (((w : Int) + 1) + (φ 16 - 1) : Int) ≤ 300; omega
              · exact hse
              · rintro v h1 ⟨r1, φ2, ts2, r2, r3, r4, r5⟩
                refine ⟨r1, φ2, ts2, r2, r3, fun k h13 h16 h17 => (r4 k h13 h16 h17).trans (by simp only [pv_u, h13, h16, h17, if_false]), Int.le_trans r5 ?_⟩
                show (((w : Int) + 1) + (φ 16 - 1) : Int) ≤ φ 13 + φ 16
                omega
            · refine wp_s (pc' := 77) ji_202_76 rfl rfl rfl ?_
              refine pv_gp V ji_202_77 jf_202_29 ?_
              refine wp_s (pc' := 81) ji_202_80 rfl rfl rfl ?_
              refine pv_gi V ji_202_81 jf_202_147 (by decide) pf_16 (y := φ 16 - 1) rfl (fun l157 u158 => ?_)
              refine pv_lp V (x := φ 16 - 1) (y := x) ji_202_84 (by omega) (by omega) hx (fun l159 u160 => ?_)
              refine wp_bp ji_202_85 rfl ?_
              refine wp_icmp (t := 0) ji_202_87 rfl (by omega) (by omega) (fun (hb161 : ¬ (x : Int) = 20) => ?_) (fun (hb161 : ¬ (¬ (x : Int) = 20)) => ?_)
              · refine wp_mono (ih _ _ _ _ _ V ⟨w + 1, p, (by show ((w : Int) + 1) = ((w + 1 : Nat) : Int); omega), show (φ 16 - 1 : Int) = p by omega, h12, hs, by omega, hj2, em_we hs (by omega) hc hl (by omega) (by omega) hwe hq1, rfl, show φ 17 = _ by omega, fun j hj9 => by rw [em_el hs (by omega) hl (by omega) (by omega), if_neg (by omega), if_neg (by omega)]; exact hfr j hj9⟩ ?_ ?_) ?_
                · show (((w : Int) + 1) + (φ 16 - 1) : Int) ≤ 300; omega
                · exact hse
                · rintro v h1 ⟨r1, φ2, ts2, r2, r3, r4, r5⟩
                  refine ⟨r1, φ2, ts2, r2, r3, fun k h13 h16 h17 => (r4 k h13 h16 h17).trans (by simp only [pv_u, h13, h16, h17, if_false]), Int.le_trans r5 ?_⟩
                  show (((w : Int) + 1) + (φ 16 - 1) : Int) ≤ φ 13 + φ 16
                  omega
              · refine wp_s (pc' := 91) ji_202_90 rfl rfl rfl ?_
                refine wp_s (pc' := 92) ji_202_91 rfl rfl rfl ?_
                refine pv_gi V ji_202_92 jf_202_157 (by decide) pf_17 (y := φ 17) rfl (fun l162 u163 => ?_)
                refine wp_s (pc' := 96) ji_202_95 rfl rfl rfl ?_
                refine wp_isub (x := φ 17) (y := 1) (z := φ 17 - 1) ji_202_96 (by omega) ?_
                refine pv_pi V ji_202_97 jf_202_157 (by decide) pf_17 (by decide) (by decide) (by decide) (by omega) (by omega) (by omega) rfl rfl (fun h V => ?_)
                refine wp_goto (t := 0) ji_202_100 rfl ?_
                refine wp_mono (ih _ _ _ _ _ V ⟨w + 1, p, (by show ((w : Int) + 1) = ((w + 1 : Nat) : Int); omega), show (φ 16 - 1 : Int) = p by omega, h12, hs, by omega, hj2, em_we hs (by omega) hc hl (by omega) (by omega) hwe hq1, rfl, show (φ 17 - 1 : Int) = _ by omega, fun j hj9 => by rw [em_el hs (by omega) hl (by omega) (by omega), if_neg (by omega), if_neg (by omega)]; exact hfr j hj9⟩ ?_ ?_) ?_
                · show (((w : Int) + 1) + (φ 16 - 1) : Int) ≤ 300; omega
                · exact hse
                · rintro v h1 ⟨r1, φ2, ts2, r2, r3, r4, r5⟩
                  refine ⟨r1, φ2, ts2, r2, r3, fun k h13 h16 h17 => (r4 k h13 h16 h17).trans (by simp only [pv_u, h13, h16, h17, if_false]), Int.le_trans r5 ?_⟩
                  show (((w : Int) + 1) + (φ 16 - 1) : Int) ≤ φ 13 + φ 16
                  omega
          · have hno : pr_rank x ≠ 0 := by omega
            have hno2 : x < 40 := by
              by_cases q : x < 40
              · exact q
              · rw [rk_40 (by omega)] at hno
                exact absurd rfl hno
            rw [if_neg (by omega)] at h17
            refine wp_s (pc' := 1) ji_202_0 rfl rfl rfl ?_
            refine pv_gi V ji_202_1 jf_202_147 (by decide) pf_16 (y := φ 16) rfl (fun l164 u165 => ?_)
            refine wp_if (t := 103) ji_202_4 rfl (by omega) (fun (hb166 : (φ 16 : Int) ≤ 0) => (by exfalso; omega)) (fun (hb166 : ¬ ((φ 16 : Int) ≤ 0)) => ?_)
            refine wp_s (pc' := 8) ji_202_7 rfl rfl rfl ?_
            refine pv_gp V ji_202_8 jf_202_29 ?_
            refine wp_s (pc' := 12) ji_202_11 rfl rfl rfl ?_
            refine pv_gi V ji_202_12 jf_202_147 (by decide) pf_16 (y := φ 16) rfl (fun l167 u168 => ?_)
            refine wp_s (pc' := 16) ji_202_15 rfl rfl rfl ?_
            refine wp_isub (x := φ 16) (y := 1) (z := φ 16 - 1) ji_202_16 (by omega) ?_
            refine pv_lp V (x := φ 16 - 1) (y := x) ji_202_17 (by omega) (by omega) hx (fun l169 u170 => ?_)
            refine wp_sc (as := [wp_i x]) (rest := []) ji_202_18 jc_202_150 (Nat.le_of_ble_eq_true rfl) rfl (Nat.le_of_ble_eq_true rfl) rfl (by rw [jn_200]; rfl) (ws_rank (o := x) (by omega)) (fun v h R => ?_)
            obtain ⟨rfl, rfl⟩ := R
            show wp_R (d + 1) 202 21 [some (.ref a), some (wp_i least)] [wp_i (pr_rank x)] h _
            have q171 := pr_rb x
            refine wp_s (pc' := 22) ji_202_21 rfl rfl rfl ?_
            refine wp_icmp (t := 103) ji_202_22 rfl (by omega) (by omega) (fun (hb172 : (pr_rank x : Int) < least) => (by exfalso; omega)) (fun (hb172 : ¬ ((pr_rank x : Int) < least)) => ?_)
            refine wp_s (pc' := 26) ji_202_25 rfl rfl rfl ?_
            refine wp_s (pc' := 27) ji_202_26 rfl rfl rfl ?_
            refine pv_gi V ji_202_27 jf_202_147 (by decide) pf_16 (y := φ 16) rfl (fun l173 u174 => ?_)
            refine wp_s (pc' := 31) ji_202_30 rfl rfl rfl ?_
            refine wp_isub (x := φ 16) (y := 1) (z := φ 16 - 1) ji_202_31 (by omega) ?_
            refine pv_pi V ji_202_32 jf_202_147 (by decide) pf_16 (by decide) (by decide) (by decide) (by omega) (by omega) (by omega) rfl rfl (fun h V => ?_)
            refine wp_s (pc' := 36) ji_202_35 rfl rfl rfl ?_
            refine pv_gp V ji_202_36 jf_202_29 ?_
            refine wp_s (pc' := 40) ji_202_39 rfl rfl rfl ?_
            refine pv_gi V ji_202_40 jf_202_147 (by decide) pf_16 (y := φ 16 - 1) rfl (fun l175 u176 => ?_)
            refine pv_lp V (x := φ 16 - 1) (y := x) ji_202_43 (by omega) (by omega) hx (fun l177 u178 => ?_)
            refine wp_bp ji_202_44 rfl ?_
            refine wp_icmp (t := 63) ji_202_46 rfl (by omega) (by omega) (fun (hb179 : (x : Int) = 16) => (by exfalso; omega)) (fun (hb179 : ¬ ((x : Int) = 16)) => ?_)
            refine wp_s (pc' := 50) ji_202_49 rfl rfl rfl ?_
            refine wp_s (pc' := 51) ji_202_50 rfl rfl rfl ?_
            refine pv_gp V ji_202_51 jf_202_29 ?_
            refine wp_s (pc' := 55) ji_202_54 rfl rfl rfl ?_
            refine pv_gi V ji_202_55 jf_202_147 (by decide) pf_16 (y := φ 16 - 1) rfl (fun l180 u181 => ?_)
            refine pv_lp V (x := φ 16 - 1) (y := x) ji_202_58 (by omega) (by omega) hx (fun l182 u183 => ?_)
            refine wp_s (pc' := 60) ji_202_59 rfl rfl rfl ?_
            refine pv_vc V ji_202_60 jc_202_153 jk_203 (rest := []) rfl (Nat.le_of_ble_eq_true rfl) rfl (by rw [jn_203]; rfl) (ws_emit V (s := s) (w := w) (o := x) (v := 0) hw h12 hs (by omega) (by omega) (by omega) hj) (fun v h R => ?_)
            obtain ⟨rfl, V, hj2⟩ := R
            show wp_R (d + 1) 202 63 [some (.ref a), some (wp_i least)] [] h _
            refine wp_s (pc' := 64) ji_202_63 rfl rfl rfl ?_
            refine pv_gp V ji_202_64 jf_202_29 ?_
            refine wp_s (pc' := 68) ji_202_67 rfl rfl rfl ?_
            refine pv_gi V ji_202_68 jf_202_147 (by decide) pf_16 (y := φ 16 - 1) rfl (fun l184 u185 => ?_)
            refine pv_lp V (x := φ 16 - 1) (y := x) ji_202_71 (by omega) (by omega) hx (fun l186 u187 => ?_)
            refine wp_s (pc' := 73) ji_202_72 rfl rfl rfl ?_
            refine wp_icmp (t := 90) ji_202_73 rfl (by omega) (by omega) (fun (hb188 : (x : Int) = 3) => (by exfalso; omega)) (fun (hb188 : ¬ ((x : Int) = 3)) => ?_)
            refine wp_s (pc' := 77) ji_202_76 rfl rfl rfl ?_
            refine pv_gp V ji_202_77 jf_202_29 ?_
            refine wp_s (pc' := 81) ji_202_80 rfl rfl rfl ?_
            refine pv_gi V ji_202_81 jf_202_147 (by decide) pf_16 (y := φ 16 - 1) rfl (fun l189 u190 => ?_)
            refine pv_lp V (x := φ 16 - 1) (y := x) ji_202_84 (by omega) (by omega) hx (fun l191 u192 => ?_)
            refine wp_bp ji_202_85 rfl ?_
            refine wp_icmp (t := 0) ji_202_87 rfl (by omega) (by omega) (fun (hb193 : ¬ (x : Int) = 20) => ?_) (fun (hb193 : ¬ (¬ (x : Int) = 20)) => (by exfalso; omega))
            refine wp_mono (ih _ _ _ _ _ V ⟨w + 1, p, (by show ((w : Int) + 1) = ((w + 1 : Nat) : Int); omega), show (φ 16 - 1 : Int) = p by omega, h12, hs, by omega, hj2, em_we hs (by omega) hc hl (by omega) (by omega) hwe hq1, rfl, show φ 17 = _ by omega, fun j hj9 => by rw [em_el hs (by omega) hl (by omega) (by omega), if_neg (by omega), if_neg (by omega)]; exact hfr j hj9⟩ ?_ ?_) ?_
            · show (((w : Int) + 1) + (φ 16 - 1) : Int) ≤ 300; omega
            · exact hse
            · rintro v h1 ⟨r1, φ2, ts2, r2, r3, r4, r5⟩
              refine ⟨r1, φ2, ts2, r2, r3, fun k h13 h16 h17 => (r4 k h13 h16 h17).trans (by simp only [pv_u, h13, h16, h17, if_false]), Int.le_trans r5 ?_⟩
              show (((w : Int) + 1) + (φ 16 - 1) : Int) ≤ φ 13 + φ 16
              omega
        · cases hse
    · rw [if_neg hr] at hse
      cases hse
      refine wp_s (pc' := 1) ji_202_0 rfl rfl rfl ?_
      refine pv_gi V ji_202_1 jf_202_147 (by decide) pf_16 (y := φ 16) rfl (fun l95 u96 => ?_)
      refine wp_if (t := 103) ji_202_4 rfl (by omega) (fun (hb97 : (φ 16 : Int) ≤ 0) => (by exfalso; omega)) (fun (hb97 : ¬ ((φ 16 : Int) ≤ 0)) => ?_)
      refine wp_s (pc' := 8) ji_202_7 rfl rfl rfl ?_
      refine pv_gp V ji_202_8 jf_202_29 ?_
      refine wp_s (pc' := 12) ji_202_11 rfl rfl rfl ?_
      refine pv_gi V ji_202_12 jf_202_147 (by decide) pf_16 (y := φ 16) rfl (fun l98 u99 => ?_)
      refine wp_s (pc' := 16) ji_202_15 rfl rfl rfl ?_
      refine wp_isub (x := φ 16) (y := 1) (z := φ 16 - 1) ji_202_16 (by omega) ?_
      refine pv_lp V (x := φ 16 - 1) (y := x) ji_202_17 (by omega) (by omega) hx (fun l100 u101 => ?_)
      refine wp_sc (as := [wp_i x]) (rest := []) ji_202_18 jc_202_150 (Nat.le_of_ble_eq_true rfl) rfl (Nat.le_of_ble_eq_true rfl) rfl (by rw [jn_200]; rfl) (ws_rank (o := x) (by omega)) (fun v h R => ?_)
      obtain ⟨rfl, rfl⟩ := R
      show wp_R (d + 1) 202 21 [some (.ref a), some (wp_i least)] [wp_i (pr_rank x)] h _
      have q102 := pr_rb x
      refine wp_s (pc' := 22) ji_202_21 rfl rfl rfl ?_
      refine wp_icmp (t := 103) ji_202_22 rfl (by omega) (by omega) (fun (hb103 : (pr_rank x : Int) < least) => ?_) (fun (hb103 : ¬ ((pr_rank x : Int) < least)) => (by exfalso; omega))
      exact wp_rv ji_202_103 jr_202 ⟨rfl, φ, ts, V, hp', fun _ _ _ _ => rfl, Int.le_refl _⟩
