/-! -/
/-! -/
set_option maxRecDepth 100000 in
theorem sq_47 : sh_T[47]? = some (2, [51, 59, 62, 64, 68, 14, 0, 0], 0, 0) := by decide +kernel
set_option maxRecDepth 100000 in
theorem ji_62_0 : mj_ins 62 0 = some (.aload_n 0) := by decide +kernel
set_option maxRecDepth 100000 in
theorem ji_62_1 : mj_ins 62 1 = some (.getfield 53) := by decide +kernel
set_option maxRecDepth 100000 in
theorem jf_62_53 : mj_fld 62 53 = some (2, 5, (.array (.object "ForestOfPoles$Text")), false) := by decide +kernel
set_option maxRecDepth 100000 in
theorem ji_62_4 : mj_ins 62 4 = some (.aload_n 0) := by decide +kernel
set_option maxRecDepth 100000 in
theorem ji_62_5 : mj_ins 62 5 = some (.aload_n 0) := by decide +kernel
set_option maxRecDepth 100000 in
theorem ji_62_6 : mj_ins 62 6 = some (.getfield 50) := by decide +kernel
set_option maxRecDepth 100000 in
theorem jf_62_50 : mj_fld 62 50 = some (2, 7, .int, true) := by decide +kernel
set_option maxRecDepth 100000 in
theorem ji_62_9 : mj_ins 62 9 = some (.invokevirtual 73) := by decide +kernel
set_option maxRecDepth 100000 in
theorem jc_62_73 : mj_cal 62 73 = some (2, 56, 1) := by decide +kernel
set_option maxRecDepth 100000 in
theorem ji_62_12 : mj_ins 62 12 = some (.ifCond .eq 10) := by decide +kernel
set_option maxRecDepth 100000 in
theorem ji_62_22 : mj_ins 62 22 = some (.iconst 4) := by decide +kernel
set_option maxRecDepth 100000 in
theorem ji_62_23 : mj_ins 62 23 = some (.aaload) := by decide +kernel
set_option maxRecDepth 100000 in
theorem sq_11 : sh_T[11]? = some (1101, [15, 22, 29, 36, 43], 0, 0) := by decide +kernel
set_option maxRecDepth 100000 in
theorem ji_62_24 : mj_ins 62 24 = some (.areturn) := by decide +kernel
set_option maxRecDepth 100000 in
theorem jr_62 : mj_ret 62 = some (.object "ForestOfPoles$Text") := by decide +kernel
set_option maxRecDepth 100000 in
theorem ji_62_15 : mj_ins 62 15 = some (.aload_n 0) := by decide +kernel
set_option maxRecDepth 100000 in
theorem ji_62_16 : mj_ins 62 16 = some (.getfield 50) := by decide +kernel
set_option maxRecDepth 100000 in
theorem ji_62_19 : mj_ins 62 19 = some (.goto 4) := by decide +kernel
set_option maxRecDepth 100000 in
theorem ji_76_0 : mj_ins 76 0 = some (.aload_n 0) := by decide +kernel
set_option maxRecDepth 100000 in
theorem ji_76_1 : mj_ins 76 1 = some (.getfield 16) := by decide +kernel
set_option maxRecDepth 100000 in
theorem sq_56 : sh_T[56]? = some (4, [60, 61, 0], 0, 0) := by decide +kernel
set_option maxRecDepth 100000 in
theorem jf_76_16 : mj_fld 76 16 = some (4, 2, .int, true) := by decide +kernel
set_option maxRecDepth 100000 in
theorem ji_76_4 : mj_ins 76 4 = some (.bipush 40) := by decide +kernel
set_option maxRecDepth 100000 in
theorem ji_76_6 : mj_ins 76 6 = some (.if_icmp .ne 43) := by decide +kernel
set_option maxRecDepth 100000 in
theorem ji_76_49 : mj_ins 76 49 = some (.aload_n 0) := by decide +kernel
set_option maxRecDepth 100000 in
theorem ji_76_50 : mj_ins 76 50 = some (.getfield 9) := by decide +kernel
set_option maxRecDepth 100000 in
theorem jf_76_9 : mj_fld 76 9 = some (4, 0, (.array .int), false) := by decide +kernel
set_option maxRecDepth 100000 in
theorem ji_76_53 : mj_ins 76 53 = some (.aload_n 0) := by decide +kernel
set_option maxRecDepth 100000 in
theorem ji_76_54 : mj_ins 76 54 = some (.getfield 16) := by decide +kernel
set_option maxRecDepth 100000 in
theorem ji_76_57 : mj_ins 76 57 = some (.iload_n 1) := by decide +kernel
set_option maxRecDepth 100000 in
theorem ji_76_58 : mj_ins 76 58 = some (.iastore) := by decide +kernel
set_option maxRecDepth 100000 in
theorem sq_57 : sh_T[57]? = some (1000, [], 40, 0) := by decide +kernel
set_option maxRecDepth 100000 in
theorem ji_76_59 : mj_ins 76 59 = some (.aload_n 0) := by decide +kernel
set_option maxRecDepth 100000 in
theorem ji_76_60 : mj_ins 76 60 = some (.getfield 13) := by decide +kernel
set_option maxRecDepth 100000 in
theorem jf_76_13 : mj_fld 76 13 = some (4, 1, (.array .int), false) := by decide +kernel
set_option maxRecDepth 100000 in
theorem ji_76_63 : mj_ins 76 63 = some (.aload_n 0) := by decide +kernel
set_option maxRecDepth 100000 in
theorem ji_76_64 : mj_ins 76 64 = some (.getfield 16) := by decide +kernel
set_option maxRecDepth 100000 in
theorem ji_76_67 : mj_ins 76 67 = some (.iload_n 2) := by decide +kernel
set_option maxRecDepth 100000 in
theorem ji_76_68 : mj_ins 76 68 = some (.iastore) := by decide +kernel
set_option maxRecDepth 100000 in
theorem sq_58 : sh_T[58]? = some (1000, [], 40, 0) := by decide +kernel
set_option maxRecDepth 100000 in
theorem ji_76_69 : mj_ins 76 69 = some (.aload_n 0) := by decide +kernel
set_option maxRecDepth 100000 in
theorem ji_76_70 : mj_ins 76 70 = some (.dup) := by decide +kernel
set_option maxRecDepth 100000 in
theorem ji_76_71 : mj_ins 76 71 = some (.getfield 16) := by decide +kernel
set_option maxRecDepth 100000 in
theorem ji_76_74 : mj_ins 76 74 = some (.iconst 1) := by decide +kernel
set_option maxRecDepth 100000 in
theorem ji_76_75 : mj_ins 76 75 = some (.iadd) := by decide +kernel
set_option maxRecDepth 100000 in
theorem ji_76_76 : mj_ins 76 76 = some (.putfield 16) := by decide +kernel
set_option maxRecDepth 100000 in
theorem ji_76_79 : mj_ins 76 79 = some (.return_) := by decide +kernel
set_option maxRecDepth 100000 in
theorem jr_76 : mj_ret 76 = none := by decide +kernel
set_option maxRecDepth 100000 in
theorem ji_76_9 : mj_ins 76 9 = some (.aload_n 0) := by decide +kernel
set_option maxRecDepth 100000 in
theorem ji_76_10 : mj_ins 76 10 = some (.getfield 9) := by decide +kernel
set_option maxRecDepth 100000 in
theorem ji_76_13 : mj_ins 76 13 = some (.iconst 1) := by decide +kernel
set_option maxRecDepth 100000 in
theorem ji_76_14 : mj_ins 76 14 = some (.aload_n 0) := by decide +kernel
set_option maxRecDepth 100000 in
theorem ji_76_15 : mj_ins 76 15 = some (.getfield 9) := by decide +kernel
set_option maxRecDepth 100000 in
theorem ji_76_18 : mj_ins 76 18 = some (.iconst 0) := by decide +kernel
set_option maxRecDepth 100000 in
theorem ji_76_19 : mj_ins 76 19 = some (.bipush 39) := by decide +kernel
set_option maxRecDepth 100000 in
theorem ji_76_21 : mj_ins 76 21 = some (.invokestatic 20) := by decide +kernel
set_option maxRecDepth 100000 in
theorem jc_76_20 : mj_cal 76 20 = some (20, 0, 0) := by decide +kernel
set_option maxRecDepth 100000 in
theorem ji_76_24 : mj_ins 76 24 = some (.aload_n 0) := by decide +kernel
set_option maxRecDepth 100000 in
theorem ji_76_25 : mj_ins 76 25 = some (.getfield 13) := by decide +kernel
set_option maxRecDepth 100000 in
theorem ji_76_28 : mj_ins 76 28 = some (.iconst 1) := by decide +kernel
set_option maxRecDepth 100000 in
theorem ji_76_29 : mj_ins 76 29 = some (.aload_n 0) := by decide +kernel
set_option maxRecDepth 100000 in
theorem ji_76_30 : mj_ins 76 30 = some (.getfield 13) := by decide +kernel
set_option maxRecDepth 100000 in
theorem ji_76_33 : mj_ins 76 33 = some (.iconst 0) := by decide +kernel
set_option maxRecDepth 100000 in
theorem ji_76_34 : mj_ins 76 34 = some (.bipush 39) := by decide +kernel
set_option maxRecDepth 100000 in
theorem ji_76_36 : mj_ins 76 36 = some (.invokestatic 20) := by decide +kernel
set_option maxRecDepth 100000 in
theorem ji_76_39 : mj_ins 76 39 = some (.aload_n 0) := by decide +kernel
set_option maxRecDepth 100000 in
theorem ji_76_40 : mj_ins 76 40 = some (.dup) := by decide +kernel
set_option maxRecDepth 100000 in
theorem ji_76_41 : mj_ins 76 41 = some (.getfield 16) := by decide +kernel
set_option maxRecDepth 100000 in
theorem ji_76_44 : mj_ins 76 44 = some (.iconst 1) := by decide +kernel
set_option maxRecDepth 100000 in
theorem ji_76_45 : mj_ins 76 45 = some (.isub) := by decide +kernel
set_option maxRecDepth 100000 in
theorem ji_76_46 : mj_ins 76 46 = some (.putfield 16) := by decide +kernel
/-! the state of the class: ruler, book, steps; laid by program (wp_u12.py) -/
section AA
variable {nn d m pc : Nat} {lv : mj_L} {st : List Value} {h : mj_H} {Q : Option Value → mj_H → Prop} {s : sg_}
/-- an array of references -/
theorem cs_aa {a kd r : Nat} {cs : List Nat} {x : Int} (C : CS h s) (ha : 0 < a) (hq : sh_T[a]? = some (kd, cs, 0, 0)) (hk : 1100 ≤ kd ∧ kd < 2000) (hx : 0 ≤ x) (hl : x < cs.length) (hn : cs.length ≤ 1000) (hc : cs[x.toNat]? = some (r + 3)) (hi : mj_ins m pc = some .aaload) (hr : wl_R nn d m (pc + 1) lv (.ref r :: st) h Q) : wl_R nn d m pc lv (wp_i x :: .ref a :: st) h Q := by
  obtain ⟨s1, C, -⟩ := C
  obtain ⟨vs, e1, e2, e3⟩ := C a _ ha hq
  have e2 : vs.length = cs.length + 0 := e2
  have e1 : h[a]? = some (kd, vs) := e1
  have hv := (e3 x.toNat (by omega)).1
  rw [show sh_k (kd, cs, 0, 0) x.toNat = r + 3 by unfold sh_k; dsimp only; rw [hc]] at hv
  refine wl_s (pc' := pc + 1) (lv' := lv) (st' := .ref r :: st) (h' := h) hi rfl rfl ?_ hr
  have e : mj_el h a kd (Int32.ofInt x) = some (.ref r) := by
    unfold mj_el
    rw [e1]
    dsimp only
    rw [if_pos rfl, wp_ix hx (by omega) (by omega)]
    exact hv
  simp only [mj_st, e1, if_pos hk, e, Option.map_some]
theorem wl_ra {a : Nat} {c : String} (hi : mj_ins m pc = some .areturn) (ht : mj_ret m = some (.object c)) (hq : Q (some (.ref a)) h) : wl_R nn d m pc lv [.ref a] h Q := by
  refine wl_e hi ?_ hq
  simp only [mj_end, ht]
end AA
/-- the ruler's text -/
def rulT (s : sg_) : Nat := if 0 ≤ s 47 7 ∧ s 47 7 < s 47 6 then 12 + 7 * (s 47 7).toNat else 40
theorem isT_19 : isT 19 := ⟨by decide, by decide +kernel, by decide +kernel, by decide +kernel, by decide +kernel, by decide +kernel, by decide +kernel, by decide +kernel, by decide⟩
theorem isT_26 : isT 26 := ⟨by decide, by decide +kernel, by decide +kernel, by decide +kernel, by decide +kernel, by decide +kernel, by decide +kernel, by decide +kernel, by decide⟩
theorem isT_33 : isT 33 := ⟨by decide, by decide +kernel, by decide +kernel, by decide +kernel, by decide +kernel, by decide +kernel, by decide +kernel, by decide +kernel, by decide⟩
theorem isT_40 : isT 40 := ⟨by decide, by decide +kernel, by decide +kernel, by decide +kernel, by decide +kernel, by decide +kernel, by decide +kernel, by decide +kernel, by decide⟩
theorem isT_k {k : Nat} (h : k ≤ 4) : isT (12 + 7 * k) := by
  have : k = 0 ∨ k = 1 ∨ k = 2 ∨ k = 3 ∨ k = 4 := by omega
  rcases this with rfl | rfl | rfl | rfl | rfl
  · exact isT_12
  · exact isT_19
  · exact isT_26
  · exact isT_33
  · exact isT_40
theorem rulT_i {s : sg_} (h : s 47 6 ≤ 4) : isT (rulT s) := by
  unfold rulT
  split
  · exact isT_k (by omega)
  · exact isT_40
theorem sh_11r {x : Int} (h : 0 ≤ x ∧ x ≤ 4) : ([15, 22, 29, 36, 43] : List Nat)[x.toNat]? = some (12 + 7 * x.toNat + 3) := by
  have : x.toNat = 0 ∨ x.toNat = 1 ∨ x.toNat = 2 ∨ x.toNat = 3 ∨ x.toNat = 4 := by omega
  rcases this with e | e | e | e | e <;> (rw [e]; rfl)
theorem uc_56 {nn d : Nat} {h : mj_H} {s : sg_} (C : CS h s) {i : Int} (hi : wp_r i) : wl_R nn d 56 0 [some (.ref 47), some (wp_i i)] [] h (fun v1 h1 => h1 = h ∧ ∃ y : Int, v1 = some (wp_i y) ∧ (y = 0 ∨ y = 1) ∧ (y = 1 ↔ 0 ≤ i ∧ i < s 47 6)) := by
  refine wl_s (pc' := 1) ji_56_0 rfl rfl rfl ?_
  refine wl_if (t := 16) ji_56_1 rfl (by omega) (fun (hb1 : (i : Int) < 0) => ?_) (fun (hb1 : ¬ ((i : Int) < 0)) => ?_)
  · refine wl_s (pc' := 17) ji_56_16 rfl rfl rfl ?_
    exact wl_ri ji_56_17 jr_56 (pv_nb (by omega)) (⟨rfl, 0, rfl, by omega, by omega⟩)
  · refine wl_s (pc' := 5) ji_56_4 rfl rfl rfl ?_
    refine wl_s (pc' := 6) ji_56_5 rfl rfl rfl ?_
    refine cs_gi (k := 6) (kI := 6) C (by decide) (by decide) sq_47 rfl rfl ji_56_6 jf_56_46 ?_
    have bd2 : wp_r (s 47 6) := cs_ri (k := 6) (kI := 6) C (by decide) (by decide) sq_47 rfl rfl (show 6 < 8 by decide)
    refine wl_icmp (t := 16) ji_56_9 rfl (by omega) (by omega) (fun (hb3 : (s 47 6 : Int) ≤ i) => ?_) (fun (hb3 : ¬ ((s 47 6 : Int) ≤ i)) => ?_)
    · refine wl_s (pc' := 17) ji_56_16 rfl rfl rfl ?_
      exact wl_ri ji_56_17 jr_56 (pv_nb (by omega)) (⟨rfl, 0, rfl, by omega, by omega⟩)
    · refine wl_s (pc' := 13) ji_56_12 rfl rfl rfl ?_
      refine wl_goto (t := 17) ji_56_13 rfl ?_
      exact wl_ri ji_56_17 jr_56 (pv_nb (by omega)) (⟨rfl, 1, rfl, by omega, by omega⟩)
theorem uc_62 {nn d : Nat} {h : mj_H} {s : sg_} (C : CS h s) (hx : s 47 6 ≤ 4) : wl_R nn (d + 1) 62 0 [some (.ref 47)] [] h (fun v1 h1 => v1 = some (.ref (rulT s)) ∧ h1 = h) := by
  refine wl_s (pc' := 1) ji_62_0 rfl rfl rfl ?_
  refine cs_gr (r := 11) (k := 5) C (by decide) sq_47 rfl ji_62_1 jf_62_53 ?_
  refine wl_s (pc' := 5) ji_62_4 rfl rfl rfl ?_
  refine wl_s (pc' := 6) ji_62_5 rfl rfl rfl ?_
  refine cs_gi (k := 7) (kI := 7) C (by decide) (by decide) sq_47 rfl rfl ji_62_6 jf_62_50 ?_
  have bd1 : wp_r (s 47 7) := cs_ri (k := 7) (kI := 7) C (by decide) (by decide) sq_47 rfl rfl (show 7 < 8 by decide)
  obtain ⟨q3, hq3⟩ := cs_c C (by decide) sq_47
  refine wl_vc (d := d) (as := [.ref 47, wp_i (s 47 7)]) (rest := [.ref 11]) ji_62_9 jc_62_73 rfl hq3 jk_56.symm (Nat.le_of_ble_eq_true rfl) rfl (by rw [jn_56]; rfl) (uc_56 (d := d) C (i := s 47 7) (by omega)) (fun v1 h2 R => ?_)
  obtain ⟨ee, y4, rfl, hy4a, hy4b⟩ := R
  rw [ee]
  clear ee
  show wl_R _ _ 62 12 [some (.ref 47)] [wp_i y4, .ref 11] _ _
  refine wl_if (t := 22) ji_62_12 rfl (by omega) (fun (hb5 : (y4 : Int) = 0) => ?_) (fun (hb5 : ¬ ((y4 : Int) = 0)) => ?_)
  · refine wl_s (pc' := 23) ji_62_22 rfl rfl rfl ?_
    refine cs_aa (r := 40) (x := 4) C (by decide) sq_11 (by decide) (by omega) (by show 4 < ((5 : Nat) : Int); omega) (by decide) (rfl) ji_62_23 ?_
    exact wl_ra ji_62_24 jr_62 ⟨by unfold rulT; rw [if_neg (by omega)], rfl⟩
  · refine wl_s (pc' := 16) ji_62_15 rfl rfl rfl ?_
    refine cs_gi (k := 7) (kI := 7) C (by decide) (by decide) sq_47 rfl rfl ji_62_16 jf_62_50 ?_
    refine wl_goto (t := 23) ji_62_19 rfl ?_
    refine cs_aa (r := 12 + 7 * (s 47 7).toNat) (x := s 47 7) C (by decide) sq_11 (by decide) (by omega) (by show (s 47 7) < ((5 : Nat) : Int); omega) (by decide) (sh_11r (by omega)) ji_62_23 ?_
    exact wl_ra ji_62_24 jr_62 ⟨by unfold rulT; rw [if_pos (by omega)], rfl⟩
/-- a holder written down -/
def bkC (s : sg_) (x z : Int) : sg_ :=
  let s1 := if s 56 2 = 40 then up (cpy (cpy s 57 1 57 0 39) 58 1 58 0 39) 56 2 39 else s
  up (up (up s1 57 (s1 56 2) x) 58 (s1 56 2) z) 56 2 (s1 56 2 + 1)
theorem uc_76 {nn d : Nat} {h : mj_H} {s : sg_} (C : CS h s) {x z : Int} (hx : wp_r x) (hz : wp_r z) (hc : 0 ≤ s 56 2 ∧ s 56 2 ≤ 40) : wl_R nn d 76 0 [some (.ref 56), some (wp_i x), some (wp_i z)] [] h (fun v1 h1 => v1 = none ∧ CS h1 (bkC s x z)) := by
  refine wl_s (pc' := 1) ji_76_0 rfl rfl rfl ?_
  refine cs_gi (k := 2) (kI := 2) C (by decide) (by decide) sq_56 rfl rfl ji_76_1 jf_76_16 ?_
  have bd1 : wp_r (s 56 2) := cs_ri (k := 2) (kI := 2) C (by decide) (by decide) sq_56 rfl rfl (show 2 < 3 by decide)
  refine wl_bp ji_76_4 rfl ?_
  refine wl_icmp (t := 49) ji_76_6 rfl (by omega) (by omega) (fun (hb2 : ¬ (s 56 2 : Int) = 40) => ?_) (fun (hb2 : ¬ (¬ (s 56 2 : Int) = 40)) => ?_)
  · refine wl_s (pc' := 50) ji_76_49 rfl rfl rfl ?_
    refine cs_gr (r := 57) (k := 0) C (by decide) sq_56 rfl ji_76_50 jf_76_9 ?_
    refine wl_s (pc' := 54) ji_76_53 rfl rfl rfl ?_
    refine cs_gi (k := 2) (kI := 2) C (by decide) (by decide) sq_56 rfl rfl ji_76_54 jf_76_16 ?_
    refine wl_s (pc' := 58) ji_76_57 rfl rfl rfl ?_
    refine cs_s (x := s 56 2) (y := x) C (by decide) sq_57 (by omega) (by omega) ji_76_58 (fun h st30 st31 C => ?_)
    obtain ⟨s4, es4⟩ : ∃ z9_, up s 57 (s 56 2) x = z9_ := ⟨_, rfl⟩
    rw [es4] at C
    refine wl_s (pc' := 60) ji_76_59 rfl rfl rfl ?_
    refine cs_gr (r := 58) (k := 1) C (by decide) sq_56 rfl ji_76_60 jf_76_13 ?_
    refine wl_s (pc' := 64) ji_76_63 rfl rfl rfl ?_
    refine cs_gi (k := 2) (kI := 2) C (by decide) (by decide) sq_56 rfl rfl ji_76_64 jf_76_16 ?_
    have rd5 : s4 56 2 = s 56 2 := by rw [← es4, up_a (by omega)]
    rw [rd5]
    refine wl_s (pc' := 68) ji_76_67 rfl rfl rfl ?_
    refine cs_s (x := s 56 2) (y := z) C (by decide) sq_58 (by omega) (by omega) ji_76_68 (fun h st60 st61 C => ?_)
    obtain ⟨s7, es7⟩ : ∃ z9_, up s4 58 (s 56 2) z = z9_ := ⟨_, rfl⟩
    rw [es7] at C
    refine wl_s (pc' := 70) ji_76_69 rfl rfl rfl ?_
    refine wl_s (pc' := 71) ji_76_70 rfl rfl rfl ?_
    refine cs_gi (k := 2) (kI := 2) C (by decide) (by decide) sq_56 rfl rfl ji_76_71 jf_76_16 ?_
    have rd8 : s7 56 2 = s 56 2 := by rw [← es7, up_a (by omega)]; rw [← es4, up_a (by omega)]
    rw [rd8]
    refine wl_s (pc' := 75) ji_76_74 rfl rfl rfl ?_
    refine wl_iadd (x := s 56 2) (y := 1) (z := s 56 2 + 1) ji_76_75 (by omega) ?_
    refine cs_pi (k := 2) (kI := 2) (y := s 56 2 + 1) C (by decide) sq_56 rfl rfl ji_76_76 jf_76_16 rfl rfl (by omega) (fun h C => ?_)
    obtain ⟨s9, es9⟩ : ∃ z9_, up s7 56 2 (s 56 2 + 1) = z9_ := ⟨_, rfl⟩
    rw [es9] at C
    exact wl_rv ji_76_79 jr_76 (⟨rfl, cs_mono C (by unfold bkC; rw [if_neg (by omega)]; dsimp only; rw [es4, es7, es9])⟩)
  · refine wl_s (pc' := 10) ji_76_9 rfl rfl rfl ?_
    refine cs_gr (r := 57) (k := 0) C (by decide) sq_56 rfl ji_76_10 jf_76_9 ?_
    refine wl_s (pc' := 14) ji_76_13 rfl rfl rfl ?_
    refine wl_s (pc' := 15) ji_76_14 rfl rfl rfl ?_
    refine cs_gr (r := 57) (k := 0) C (by decide) sq_56 rfl ji_76_15 jf_76_9 ?_
    refine wl_s (pc' := 19) ji_76_18 rfl rfl rfl ?_
    refine wl_bp ji_76_19 rfl ?_
    refine cs_cp (sp := 1) (dp := 0) (n := 39) C (by decide) sq_57 sq_57 (by decide) (by decide) (by omega) (by omega) (by omega) ji_76_21 jc_76_20 (fun h cp10 C => ?_)
    obtain ⟨s11, es11⟩ : ∃ z9_, cpy s 57 1 57 0 39 = z9_ := ⟨_, rfl⟩
    rw [es11] at C
    refine wl_s (pc' := 25) ji_76_24 rfl rfl rfl ?_
    refine cs_gr (r := 58) (k := 1) C (by decide) sq_56 rfl ji_76_25 jf_76_13 ?_
    refine wl_s (pc' := 29) ji_76_28 rfl rfl rfl ?_
    refine wl_s (pc' := 30) ji_76_29 rfl rfl rfl ?_
    refine cs_gr (r := 58) (k := 1) C (by decide) sq_56 rfl ji_76_30 jf_76_13 ?_
    refine wl_s (pc' := 34) ji_76_33 rfl rfl rfl ?_
    refine wl_bp ji_76_34 rfl ?_
    refine cs_cp (sp := 1) (dp := 0) (n := 39) C (by decide) sq_58 sq_58 (by decide) (by decide) (by omega) (by omega) (by omega) ji_76_36 jc_76_20 (fun h cp12 C => ?_)
    obtain ⟨s13, es13⟩ : ∃ z9_, cpy s11 58 1 58 0 39 = z9_ := ⟨_, rfl⟩
    rw [es13] at C
    refine wl_s (pc' := 40) ji_76_39 rfl rfl rfl ?_
    refine wl_s (pc' := 41) ji_76_40 rfl rfl rfl ?_
    refine cs_gi (k := 2) (kI := 2) C (by decide) (by decide) sq_56 rfl rfl ji_76_41 jf_76_16 ?_
    have rd14 : s13 56 2 = s 56 2 := by rw [← es13]; show (if _ then _ else _) = _; rw [if_neg (fun z9_ => absurd z9_.1 (by omega))]; rw [← es11]; show (if _ then _ else _) = _; rw [if_neg (fun z9_ => absurd z9_.1 (by omega))]
    rw [rd14]
    refine wl_s (pc' := 45) ji_76_44 rfl rfl rfl ?_
    refine wl_isub (x := s 56 2) (y := 1) (z := 39) ji_76_45 (by omega) ?_
    refine cs_pi (k := 2) (kI := 2) (y := 39) C (by decide) sq_56 rfl rfl ji_76_46 jf_76_16 rfl rfl (by omega) (fun h C => ?_)
    obtain ⟨s15, es15⟩ : ∃ z9_, up s13 56 2 39 = z9_ := ⟨_, rfl⟩
    rw [es15] at C
    refine wl_s (pc' := 50) ji_76_49 rfl rfl rfl ?_
    refine cs_gr (r := 57) (k := 0) C (by decide) sq_56 rfl ji_76_50 jf_76_9 ?_
    refine wl_s (pc' := 54) ji_76_53 rfl rfl rfl ?_
    refine cs_gi (k := 2) (kI := 2) C (by decide) (by decide) sq_56 rfl rfl ji_76_54 jf_76_16 ?_
    have rd16 : s15 56 2 = 39 := by rw [← es15, up_e]
    rw [rd16]
    refine wl_s (pc' := 58) ji_76_57 rfl rfl rfl ?_
    refine cs_s (x := 39) (y := x) C (by decide) sq_57 (by omega) (by omega) ji_76_58 (fun h st170 st171 C => ?_)
    obtain ⟨s18, es18⟩ : ∃ z9_, up s15 57 39 x = z9_ := ⟨_, rfl⟩
    rw [es18] at C
    refine wl_s (pc' := 60) ji_76_59 rfl rfl rfl ?_
    refine cs_gr (r := 58) (k := 1) C (by decide) sq_56 rfl ji_76_60 jf_76_13 ?_
    refine wl_s (pc' := 64) ji_76_63 rfl rfl rfl ?_
    refine cs_gi (k := 2) (kI := 2) C (by decide) (by decide) sq_56 rfl rfl ji_76_64 jf_76_16 ?_
    have rd19 : s18 56 2 = 39 := by rw [← es18, up_a (by omega)]; rw [← es15, up_e]
    rw [rd19]
    refine wl_s (pc' := 68) ji_76_67 rfl rfl rfl ?_
    refine cs_s (x := 39) (y := z) C (by decide) sq_58 (by omega) (by omega) ji_76_68 (fun h st200 st201 C => ?_)
    obtain ⟨s21, es21⟩ : ∃ z9_, up s18 58 39 z = z9_ := ⟨_, rfl⟩
    rw [es21] at C
    refine wl_s (pc' := 70) ji_76_69 rfl rfl rfl ?_
    refine wl_s (pc' := 71) ji_76_70 rfl rfl rfl ?_
    refine cs_gi (k := 2) (kI := 2) C (by decide) (by decide) sq_56 rfl rfl ji_76_71 jf_76_16 ?_
    have rd22 : s21 56 2 = 39 := by rw [← es21, up_a (by omega)]; rw [← es18, up_a (by omega)]; rw [← es15, up_e]
    rw [rd22]
    refine wl_s (pc' := 75) ji_76_74 rfl rfl rfl ?_
    refine wl_iadd (x := 39) (y := 1) (z := 40) ji_76_75 (by omega) ?_
    refine cs_pi (k := 2) (kI := 2) (y := 40) C (by decide) sq_56 rfl rfl ji_76_76 jf_76_16 rfl rfl (by omega) (fun h C => ?_)
    obtain ⟨s23, es23⟩ : ∃ z9_, up s21 56 2 40 = z9_ := ⟨_, rfl⟩
    rw [es23] at C
    exact wl_rv ji_76_79 jr_76 (⟨rfl, cs_mono C (by unfold bkC; rw [if_pos (by omega)]; dsimp only; rw [es11, es13, es15, show s15 56 2 = 39 by rw [← es15, up_e], es18, es21, show (39 : Int) + 1 = 40 from rfl, es23])⟩)
