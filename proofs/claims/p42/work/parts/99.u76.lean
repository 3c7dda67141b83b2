/-! -/
set_option maxRecDepth 100000 in
theorem ji_217_0 : mj_ins 217 0 = some (.iload_n 1) := by decide +kernel
set_option maxRecDepth 100000 in
theorem ji_217_1 : mj_ins 217 1 = some (.iconst 1) := by decide +kernel
set_option maxRecDepth 100000 in
theorem ji_217_2 : mj_ins 217 2 = some (.bipush 60) := by decide +kernel
set_option maxRecDepth 100000 in
theorem ji_217_4 : mj_ins 217 4 = some (.invokestatic 66) := by decide +kernel
set_option maxRecDepth 100000 in
theorem jc_217_66 : mj_cal 217 66 = some (1, 171, 3) := by decide +kernel
set_option maxRecDepth 100000 in
theorem ji_217_7 : mj_ins 217 7 = some (.ifCond .eq 36) := by decide +kernel
set_option maxRecDepth 100000 in
theorem ji_217_43 : mj_ins 217 43 = some (.bipush (-2)) := by decide +kernel
set_option maxRecDepth 100000 in
theorem ji_217_45 : mj_ins 217 45 = some (.ireturn) := by decide +kernel
set_option maxRecDepth 100000 in
theorem jr_217 : mj_ret 217 = some .int := by decide +kernel
set_option maxRecDepth 100000 in
theorem ji_217_10 : mj_ins 217 10 = some (.aload_n 0) := by decide +kernel
set_option maxRecDepth 100000 in
theorem ji_217_11 : mj_ins 217 11 = some (.getfield 7) := by decide +kernel
set_option maxRecDepth 100000 in
theorem jf_217_7 : mj_fld 217 7 = some (11, 0, (.array .int), false) := by decide +kernel
set_option maxRecDepth 100000 in
theorem ji_217_14 : mj_ins 217 14 = some (.bipush 8) := by decide +kernel
set_option maxRecDepth 100000 in
theorem ji_217_16 : mj_ins 217 16 = some (.iaload) := by decide +kernel
set_option maxRecDepth 100000 in
theorem ji_217_17 : mj_ins 217 17 = some (.iload_n 1) := by decide +kernel
set_option maxRecDepth 100000 in
theorem ji_217_18 : mj_ins 217 18 = some (.iadd) := by decide +kernel
set_option maxRecDepth 100000 in
theorem ji_217_19 : mj_ins 217 19 = some (.sipush 9999) := by decide +kernel
set_option maxRecDepth 100000 in
theorem ji_217_22 : mj_ins 217 22 = some (.if_icmp .gt 21) := by decide +kernel
set_option maxRecDepth 100000 in
theorem ji_217_25 : mj_ins 217 25 = some (.aload_n 0) := by decide +kernel
set_option maxRecDepth 100000 in
theorem ji_217_26 : mj_ins 217 26 = some (.iload_n 1) := by decide +kernel
set_option maxRecDepth 100000 in
theorem ji_217_27 : mj_ins 217 27 = some (.invokevirtual 342) := by decide +kernel
set_option maxRecDepth 100000 in
theorem jc_217_342 : mj_cal 217 342 = some (2, 218, 1) := by decide +kernel
set_option maxRecDepth 100000 in
theorem ji_217_30 : mj_ins 217 30 = some (.ifCond .eq 13) := by decide +kernel
set_option maxRecDepth 100000 in
theorem ji_217_33 : mj_ins 217 33 = some (.aload_n 0) := by decide +kernel
set_option maxRecDepth 100000 in
theorem ji_217_34 : mj_ins 217 34 = some (.getfield 7) := by decide +kernel
set_option maxRecDepth 100000 in
theorem ji_217_37 : mj_ins 217 37 = some (.bipush 10) := by decide +kernel
set_option maxRecDepth 100000 in
theorem ji_217_39 : mj_ins 217 39 = some (.iaload) := by decide +kernel
set_option maxRecDepth 100000 in
theorem ji_217_40 : mj_ins 217 40 = some (.goto 5) := by decide +kernel
/-! the reference's hours; calls as pairs of answer and state; laid by program (wp_u76.py) -/
theorem uc_217 {nn d : Nat} {h : mj_H} {s : sg_} (C : CS h s) {cr : crs} {M n : Int} (hM : M ≤ 1000000000) (T : RT s cr M) (hn : wp_r n) : wl_R nn (d + 10) 217 0 [some (.ref 138), some (wp_i n)] [] h (fun v1 h1 => v1 = some (wp_i (rHour cr s n).1) ∧ CS h1 (rHour cr s n).2) := by
  have o := T.rs.g.o
  refine wl_s (pc' := 1) ji_217_0 rfl rfl rfl ?_
  refine wl_s (pc' := 2) ji_217_1 rfl rfl rfl ?_
  refine wl_bp ji_217_2 rfl ?_
  refine wl_sc (d := d + 9) (as := [wp_i n, wp_i 1, wp_i 60]) (rest := []) ji_217_4 jc_217_66 (Nat.le_of_ble_eq_true rfl) rfl (Nat.le_of_ble_eq_true rfl) rfl (by rw [jn_171]; rfl) (uc_171 (d := d + 9) (x := n) (a := 1) (b := 60) (by omega) (by omega) (by omega)) (fun v1 h1 R => ?_)
  obtain ⟨ee, y2, rfl, hy2a, hy2b⟩ := R
  rw [ee]
  clear ee
  show wl_R _ _ 217 7 [some (.ref 138), some (wp_i n)] [wp_i y2] _ _
  refine wl_if (t := 43) ji_217_7 rfl (by omega) (fun (hb3 : (y2 : Int) = 0) => ?_) (fun (hb3 : ¬ ((y2 : Int) = 0)) => ?_)
  · refine wl_bp ji_217_43 rfl ?_
    exact wl_ri ji_217_45 jr_217 rfl ((by unfold rHour; rw [if_neg (by omega)]; exact ⟨rfl, C⟩))
  · refine wl_s (pc' := 11) ji_217_10 rfl rfl rfl ?_
    refine cs_gr (r := 139) (k := 0) C (by decide) sq_138 rfl ji_217_11 jf_217_7 ?_
    refine wl_bp ji_217_14 rfl ?_
    refine cs_l (x := 8) C (by decide) (by decide) sq_139 (by omega) ji_217_16 (fun ld40 ld41 ld42 => ?_)
    refine wl_s (pc' := 18) ji_217_17 rfl rfl rfl ?_
    refine wl_iadd (x := s 139 8) (y := n) (z := s 139 8 + n) ji_217_18 (by omega) ?_
    refine wl_sp ji_217_19 rfl ?_
    refine wl_icmp (t := 43) ji_217_22 rfl (by omega) (by omega) (fun (hb5 : (9999 : Int) < (s 139 8 + n)) => ?_) (fun (hb5 : ¬ ((9999 : Int) < (s 139 8 + n))) => ?_)
    · refine wl_bp ji_217_43 rfl ?_
      exact wl_ri ji_217_45 jr_217 rfl ((by unfold rHour; rw [if_neg (by omega)]; exact ⟨rfl, C⟩))
    · refine wl_s (pc' := 26) ji_217_25 rfl rfl rfl ?_
      refine wl_s (pc' := 27) ji_217_26 rfl rfl rfl ?_
      obtain ⟨q7, hq7⟩ := cs_c C (by decide) sq_138
      refine wl_vc (d := d + 9) (as := [.ref 138, wp_i n]) (rest := []) ji_217_27 jc_217_342 rfl hq7 jk_218.symm (Nat.le_of_ble_eq_true rfl) rfl (by rw [jn_218]; rfl) (uc_218 (d := d) C (n := n) (by omega) hM T) (fun v1 h6 R => ?_)
      obtain ⟨y, rfl, hya, hyb, C⟩ := R
      rw [show (min n (9999 - s 139 8)).toNat = n.toNat by omega] at C
      obtain ⟨t, et⟩ : ∃ z9_, hrsR cr s n.toNat = z9_ := ⟨_, rfl⟩
      rw [et] at C
      show wl_R _ _ 217 30 [some (.ref 138), some (wp_i n)] [wp_i y] h6 _
      refine wl_if (t := 43) ji_217_30 rfl (by omega) (fun (hb8 : (y : Int) = 0) => ?_) (fun (hb8 : ¬ ((y : Int) = 0)) => ?_)
      · refine wl_bp ji_217_43 rfl ?_
        exact wl_ri ji_217_45 jr_217 rfl ((by exfalso; omega))
      · refine wl_s (pc' := 34) ji_217_33 rfl rfl rfl ?_
        refine cs_gr (r := 139) (k := 0) C (by decide) sq_138 rfl ji_217_34 jf_217_7 ?_
        refine wl_bp ji_217_37 rfl ?_
        refine cs_l (x := 10) C (by decide) (by decide) sq_139 (by omega) ji_217_39 (fun ld90 ld91 ld92 => ?_)
        refine wl_goto (t := 45) ji_217_40 rfl ?_
        exact wl_ri ji_217_45 jr_217 rfl ((by unfold rHour; rw [if_pos ⟨by omega, by omega⟩]; exact ⟨by rw [et], cs_mono C et.symm⟩))
theorem pa {P : Prop} [Decidable P] {a b : Int × sg_} {v1 : Option Value} {h1 : mj_H} (R : (P ∧ v1 = some (wp_i a.1) ∧ CS h1 a.2) ∨ (¬ P ∧ v1 = some (wp_i b.1) ∧ CS h1 b.2)) : v1 = some (wp_i (if P then a else b).1) ∧ CS h1 (if P then a else b).2 := by
  rcases R with ⟨q, R⟩ | ⟨q, R⟩
  · rw [if_pos q]; exact R
  · rw [if_neg q]; exact R
theorem pb {P : Prop} [Decidable P] {a b : Int × sg_} {v1 : Option Value} {h1 : mj_H} (R : (v1 = some (wp_i a.1) ∧ P ∧ CS h1 a.2) ∨ (v1 = some (wp_i b.1) ∧ ¬ P ∧ CS h1 b.2)) : v1 = some (wp_i (if P then a else b).1) ∧ CS h1 (if P then a else b).2 := by
  rcases R with ⟨R, q, r⟩ | ⟨R, q, r⟩
  · rw [if_pos q]; exact ⟨R, r⟩
  · rw [if_neg q]; exact ⟨R, r⟩
theorem pan_ {P : Prop} [Decidable P] {a b : Int × sg_} {v1 : Option Value} {h1 : mj_H} (R : (¬ P ∧ v1 = some (wp_i b.1) ∧ CS h1 b.2) ∨ (P ∧ v1 = some (wp_i a.1) ∧ CS h1 a.2)) : v1 = some (wp_i (if P then a else b).1) ∧ CS h1 (if P then a else b).2 := by
  rcases R with ⟨q, R⟩ | ⟨q, R⟩
  · rw [if_neg q]; exact R
  · rw [if_pos q]; exact R
/-- the reference stands as it stood -/
def frC (c c1 : sg_) : Prop := ∀ (b : Nat) (j : Int), 91 ≤ b → c1 b j = c b j
theorem frC_r (c : sg_) : frC c c := fun _ _ _ => rfl
theorem frC_g {c c1 : sg_} (f : gmC c c1) : frC c c1 := fun b j h => f b j (by omega)
theorem frC_u {c c1 : sg_} {a : Nat} {k y : Int} (f : frC c c1) (h : a < 91) : frC c (up c1 a k y) := fun b j hb => (up_a (by omega)).trans (f b j hb)
theorem frC_i {P : Prop} [Decidable P] {s : sg_} {a b : Int × sg_} (f : frC s a.2) (g : frC s b.2) : frC s (if P then a else b).2 := by
  by_cases q : P
  · rw [if_pos q]; exact f
  · rw [if_neg q]; exact g
theorem INV_rt {tc : tcs} {tr : Int → crs} {s c1 : sg_} {M : Int} (I : INV tc tr s M) (f : frC s c1) : RT c1 (tr (s 139 3)) M := RT_r (INV_RT I).1 (fun b j h => f b j (by omega))
theorem INV_2 {tc : tcs} {tr : Int → crs} {s c1 : sg_} {M : Int} (I : INV tc tr s M) (f : frC s c1) : 0 ≤ c1 139 2 ∧ c1 139 2 ≤ 4 := by
  have a : s 139 2 = s 47 6 := I.1.2.2.2.1.1.1
  have b := I.1.1.2.2.2.2.2.1
  rw [f 139 2 (by decide), a]
  exact b
theorem cls_c {s : sg_} {T : Nat} {tx : Int} {n : Nat} (O : clsO (clsR s tx) n) (e : ∀ i : Nat, i < n → clE (clsC s T i) (clsR s tx i)) : clsO (clsC s T) n := fun k hk => by
  obtain ⟨a1, a2, a3⟩ := e k hk
  obtain ⟨o1, o2⟩ := O k hk
  exact ⟨by rw [a1]; exact o1, fun z => by rw [a2 (by omega)]; exact o2 (by rw [← a1]; exact z)⟩
theorem fr_cPole {s : sg_} {x z : Int} : frC s (cPole s x z).2 := by
  unfold cPole
  exact frC_i (frC_g (gm_pl _ _ _)) (frC_r s)
theorem dc_Pole {nn d : Nat} {h : mj_H} {s : sg_} {tc : tcs} {tr : Int → crs} {M : Int} (I : INV tc tr s M) (C : CS h s) {x z : Int}  (hx : wp_r x) (hz : wp_r z) : wl_R nn (d + 1) 12 0 [some (.ref 9), some (wp_i x), some (wp_i z)] [] h (fun v1 h1 => v1 = some (wp_i (cPole s x z).1) ∧ CS h1 (cPole s x z).2) := by
  unfold cPole
  exact wl_mono (uc_12 C (INV_NV I).g.1 hx hz) (fun v1 h1 R => pa R)
theorem dr_Pole {nn d : Nat} {h : mj_H} {s : sg_} {tc : tcs} {tr : Int → crs} {M : Int} (I : INV tc tr s M) (hM : M ≤ 900000000) {x z : Int} (C : CS h (cPole s x z).2) (hx : wp_r x) (hz : wp_r z) : wl_R nn (d + 1) 170 0 [some (.ref 138), some (wp_i x), some (wp_i z), none] [] h (fun v1 h1 => v1 = some (wp_i (rPole (cPole s x z).2 x z).1) ∧ CS h1 (rPole (cPole s x z).2 x z).2) := by
  have T := INV_rt I (fr_cPole (x := x) (z := z))
  unfold rPole
  exact wl_mono (uc_170 C T.rs.g.p0 hx hz) (fun v1 h1 R => pa R)
theorem fr_cPower {s : sg_} {x z : Int} : frC s (cPower s x z).2 := by
  unfold cPower
  exact frC_i (frC_g (gm_pw _ _ _)) (frC_r s)
theorem dc_Power {nn d : Nat} {h : mj_H} {s : sg_} {tc : tcs} {tr : Int → crs} {M : Int} (I : INV tc tr s M) (C : CS h s) {x z : Int}  (hx : wp_r x) (hz : wp_r z) : wl_R nn (d + 1) 14 0 [some (.ref 9), some (wp_i x), some (wp_i z)] [] h (fun v1 h1 => v1 = some (wp_i (cPower s x z).1) ∧ CS h1 (cPower s x z).2) := by
  unfold cPower
  exact wl_mono (uc_14 C (INV_NV I).g.1 hx hz) (fun v1 h1 R => pa R)
theorem dr_Power {nn d : Nat} {h : mj_H} {s : sg_} {tc : tcs} {tr : Int → crs} {M : Int} (I : INV tc tr s M) (hM : M ≤ 900000000) {x z : Int} (C : CS h (cPower s x z).2) (hx : wp_r x) (hz : wp_r z) : wl_R nn (d + 1) 172 0 [some (.ref 138), some (wp_i x), some (wp_i z)] [] h (fun v1 h1 => v1 = some (wp_i (rPower (cPower s x z).2 x z).1) ∧ CS h1 (rPower (cPower s x z).2 x z).2) := by
  have T := INV_rt I (fr_cPower (x := x) (z := z))
  unfold rPower
  exact wl_mono (uc_172 C T.rs.g.w0 hx hz) (fun v1 h1 R => pa R)
theorem fr_cHoist {s : sg_} {w p : Int} : frC s (cHoist s w p).2 := by
  unfold cHoist
  exact frC_i (frC_g (gmC_t (gm_keep s) (gm_rs _ _ _))) (frC_r s)
theorem dc_Hoist {nn d : Nat} {h : mj_H} {s : sg_} {tc : tcs} {tr : Int → crs} {M : Int} (I : INV tc tr s M) (C : CS h s) {w p : Int}  (hw : wp_r w) (hp : wp_r p) : wl_R nn (d + 3) 77 0 [some (.ref 9), some (wp_i w), some (wp_i p)] [] h (fun v1 h1 => v1 = some (wp_i (cHoist s w p).1) ∧ CS h1 (cHoist s w p).2) := by
  unfold cHoist
  exact wl_mono (uc_77 C (INV_NV I) hw hp) (fun v1 h1 R => pa R)
theorem dr_Hoist {nn d : Nat} {h : mj_H} {s : sg_} {tc : tcs} {tr : Int → crs} {M : Int} (I : INV tc tr s M) (hM : M ≤ 900000000) {w p : Int} (C : CS h (cHoist s w p).2) (hw : wp_r w) (hp : wp_r p) : wl_R nn (d + 4) 246 0 [some (.ref 138), some (wp_i w), some (wp_i p)] [] h (fun v1 h1 => v1 = some (wp_i (rHoist (cHoist s w p).2 w p).1) ∧ CS h1 (rHoist (cHoist s w p).2 w p).2) := by
  have T := INV_rt I (fr_cHoist (w := w) (p := p))
  unfold rHoist
  exact wl_mono (uc_246 C T hw hp) (fun v1 h1 R => pb R)
theorem fr_cLower {s : sg_} {w p : Int} : frC s (cLower s w p).2 := by
  unfold cLower
  exact frC_i (frC_g (gmC_t (gm_keep s) (gm_up (by decide)))) (frC_r s)
theorem dc_Lower {nn d : Nat} {h : mj_H} {s : sg_} {tc : tcs} {tr : Int → crs} {M : Int} (I : INV tc tr s M) (C : CS h s) {w p : Int}  (hw : wp_r w) (hp : wp_r p) : wl_R nn (d + 3) 83 0 [some (.ref 9), some (wp_i w), some (wp_i p)] [] h (fun v1 h1 => v1 = some (wp_i (cLower s w p).1) ∧ CS h1 (cLower s w p).2) := by
  unfold cLower
  exact wl_mono (uc_83 C (INV_NV I) hw hp) (fun v1 h1 R => pa R)
theorem dr_Lower {nn d : Nat} {h : mj_H} {s : sg_} {tc : tcs} {tr : Int → crs} {M : Int} (I : INV tc tr s M) (hM : M ≤ 900000000) {w p : Int} (C : CS h (cLower s w p).2) (hw : wp_r w) (hp : wp_r p) : wl_R nn (d + 2) 251 0 [some (.ref 138), some (wp_i w), some (wp_i p)] [] h (fun v1 h1 => v1 = some (wp_i (rLower (cLower s w p).2 w p).1) ∧ CS h1 (rLower (cLower s w p).2 w p).2) := by
  have T := INV_rt I (fr_cLower (w := w) (p := p))
  unfold rLower
  exact wl_mono (uc_251 C T hw hp) (fun v1 h1 R => pb R)
theorem fr_cPrune {s : sg_} {p n : Int} : frC s (cPrune s p n).2 := by
  unfold cPrune
  exact frC_i (frC_g (gmC_t (gm_keep s) (gm_cut _ _ _ _))) (frC_r s)
theorem dc_Prune {nn d : Nat} {h : mj_H} {s : sg_} {tc : tcs} {tr : Int → crs} {M : Int} (I : INV tc tr s M) (C : CS h s) {p n : Int}  (hp : wp_r p) (hn : wp_r n) : wl_R nn (d + 3) 86 0 [some (.ref 9), some (wp_i p), some (wp_i n)] [] h (fun v1 h1 => v1 = some (wp_i (cPrune s p n).1) ∧ CS h1 (cPrune s p n).2) := by
  unfold cPrune
  exact wl_mono (uc_86 C (INV_NV I) hp hn) (fun v1 h1 R => pa R)
theorem dr_Prune {nn d : Nat} {h : mj_H} {s : sg_} {tc : tcs} {tr : Int → crs} {M : Int} (I : INV tc tr s M) (hM : M ≤ 900000000) {p n : Int} (C : CS h (cPrune s p n).2) (hp : wp_r p) (hn : wp_r n) : wl_R nn (d + 2) 252 0 [some (.ref 138), some (wp_i p), some (wp_i n)] [] h (fun v1 h1 => v1 = some (wp_i (rPrune (cPrune s p n).2 p n).1) ∧ CS h1 (rPrune (cPrune s p n).2 p n).2) := by
  have T := INV_rt I (fr_cPrune (p := p) (n := n))
  unfold rPrune
  exact wl_mono (uc_252 C T hp hn) (fun v1 h1 R => pb R)
theorem fr_cBlow {s : sg_} {w : Int} : frC s (cBlow s w).2 := by
  unfold cBlow
  exact frC_i (frC_g (gmC_t (gm_keep s) (gm_up (by decide)))) (frC_r s)
theorem dc_Blow {nn d : Nat} {h : mj_H} {s : sg_} {tc : tcs} {tr : Int → crs} {M : Int} (I : INV tc tr s M) (C : CS h s) {w : Int}  (hw : wp_r w) : wl_R nn (d + 3) 90 0 [some (.ref 9), some (wp_i w)] [] h (fun v1 h1 => v1 = some (wp_i (cBlow s w).1) ∧ CS h1 (cBlow s w).2) := by
  unfold cBlow
  exact wl_mono (uc_90 C (INV_NV I) hw) (fun v1 h1 R => pa R)
theorem dr_Blow {nn d : Nat} {h : mj_H} {s : sg_} {tc : tcs} {tr : Int → crs} {M : Int} (I : INV tc tr s M) (hM : M ≤ 900000000) {w : Int} (C : CS h (cBlow s w).2) (hw : wp_r w) : wl_R nn (d + 2) 254 0 [some (.ref 138), some (wp_i w)] [] h (fun v1 h1 => v1 = some (wp_i (rBlow (cBlow s w).2 w).1) ∧ CS h1 (rBlow (cBlow s w).2 w).2) := by
  have T := INV_rt I (fr_cBlow (w := w))
  unfold rBlow
  exact wl_mono (uc_254 C T hw) (fun v1 h1 R => pb R)
theorem fr_cHour {s : sg_} {tc : tcs} {n : Int} : frC s (cHour tc s n).2 := by
  unfold cHour
  exact frC_i (frC_g (gm_hrs _ _ _)) (frC_r s)
theorem dc_Hour {nn d : Nat} {h : mj_H} {s : sg_} {tc : tcs} {tr : Int → crs} {M : Int} (I : INV tc tr s M) (C : CS h s) {n : Int}  (hn : wp_r n) : wl_R nn (d + 7) 57 0 [some (.ref 9), some (wp_i n)] [] h (fun v1 h1 => v1 = some (wp_i (cHour tc s n).1) ∧ CS h1 (cHour tc s n).2) := by
  unfold cHour
  exact wl_mono (uc_57 C (INV_NV I) hn) (fun v1 h1 R => pa R)
theorem dr_Hour {nn d : Nat} {h : mj_H} {s : sg_} {tc : tcs} {tr : Int → crs} {M : Int} (I : INV tc tr s M) (hM : M ≤ 900000000) {n : Int} (C : CS h (cHour tc s n).2) (hn : wp_r n) : wl_R nn (d + 10) 217 0 [some (.ref 138), some (wp_i n)] [] h (fun v1 h1 => v1 = some (wp_i (rHour (tr (s 139 3)) (cHour tc s n).2 n).1) ∧ CS h1 (rHour (tr (s 139 3)) (cHour tc s n).2 n).2) := by
  have T := INV_rt I (fr_cHour (tc := tc) (n := n))
  exact uc_217 C (by omega) T hn
theorem fr_cCent {s : sg_} {tc : tcs} {x n : Int} : frC s (cCent tc s x n).2 := by
  unfold cCent
  exact frC_i (frC_g (gm_ctw _ _ _ _)) (frC_r s)
theorem dc_Cent {nn d : Nat} {h : mj_H} {s : sg_} {tc : tcs} {tr : Int → crs} {M : Int} (I : INV tc tr s M) (C : CS h s) {x n : Int}  (hx : wp_r x) (hn : wp_r n) : wl_R nn (d + 7) 93 0 [some (.ref 9), some (wp_i x), some (wp_i n), none, none] [] h (fun v1 h1 => v1 = some (wp_i (cCent tc s x n).1) ∧ CS h1 (cCent tc s x n).2) := by
  unfold cCent
  exact wl_mono (uc_93 C (INV_NV I) hx hn) (fun v1 h1 R => pa R)
theorem dr_Cent {nn d : Nat} {h : mj_H} {s : sg_} {tc : tcs} {tr : Int → crs} {M : Int} (I : INV tc tr s M) (hM : M ≤ 900000000) {x n : Int} (C : CS h (cCent tc s x n).2) (hx : wp_r x) (hn : wp_r n) : wl_R nn (d + 10) 257 0 [some (.ref 138), some (wp_i x), some (wp_i n), none, none] [] h (fun v1 h1 => v1 = some (wp_i (rCent (tr (s 139 3)) (cCent tc s x n).2 x n).1) ∧ CS h1 (rCent (tr (s 139 3)) (cCent tc s x n).2 x n).2) := by
  have T := INV_rt I (fr_cCent (tc := tc) (x := x) (n := n))
  unfold rCent
  exact wl_mono (uc_257 C (by omega) T hx hn) (fun v1 h1 R => pa R)
theorem fr_cUndo {s : sg_} : frC s (cUndo s).2 := by
  unfold cUndo
  exact frC_i (frC_r s) (frC_g (gm_back s))
theorem dc_Undo {nn d : Nat} {h : mj_H} {s : sg_} {tc : tcs} {tr : Int → crs} {M : Int} (I : INV tc tr s M) (C : CS h s)  : wl_R nn (d + 1) 95 0 [some (.ref 9)] [] h (fun v1 h1 => v1 = some (wp_i (cUndo s).1) ∧ CS h1 (cUndo s).2) := by
  unfold cUndo
  have N := INV_NV I
  refine wl_mono (uc_95 C N.g.1.1 N.e N.c) (fun v1 h1 R => ?_)
  rcases R with ⟨q, R⟩ | ⟨q, R⟩
  · rw [if_neg q]; exact R
  · rw [if_pos q]; exact R
theorem dr_Undo {nn d : Nat} {h : mj_H} {s : sg_} {tc : tcs} {tr : Int → crs} {M : Int} (I : INV tc tr s M) (hM : M ≤ 900000000) (C : CS h (cUndo s).2) : wl_R nn (d + 1) 216 0 [some (.ref 138), none, none] [] h (fun v1 h1 => v1 = some (wp_i (rUndo (cUndo s).2).1) ∧ CS h1 (rUndo (cUndo s).2).2) := by
  have T := INV_rt I (fr_cUndo)
  unfold rUndo
  exact wl_mono (uc_216 C T.rs.g.p0 T.k) (fun v1 h1 R => pa R)
theorem fr_cBy {s : sg_} {x : Int} : frC s (cBy s x).2 := by
  unfold cBy
  exact frC_i (frC_u (frC_r s) (by decide)) (frC_r s)
theorem dc_By {nn d : Nat} {h : mj_H} {s : sg_} {tc : tcs} {tr : Int → crs} {M : Int} (I : INV tc tr s M) (C : CS h s) {x : Int}  (hx : wp_r x) : wl_R nn (d + 1) 55 0 [some (.ref 9), some (wp_i x)] [] h (fun v1 h1 => v1 = some (wp_i (cBy s x).1) ∧ CS h1 (cBy s x).2) := by
  unfold cBy
  exact wl_mono (uc_55 C hx I.1.1.2.2.2.2.2.1) (fun v1 h1 R => pa R)
theorem dr_By {nn d : Nat} {h : mj_H} {s : sg_} {tc : tcs} {tr : Int → crs} {M : Int} (I : INV tc tr s M) (hM : M ≤ 900000000) {x : Int} (C : CS h (cBy s x).2) (hx : wp_r x) : wl_R nn (d + 1) 215 0 [some (.ref 138), some (wp_i x)] [] h (fun v1 h1 => v1 = some (wp_i (rBy (cBy s x).2 x).1) ∧ CS h1 (rBy (cBy s x).2 x).2) := by
  have T := INV_rt I (fr_cBy (x := x))
  unfold rBy
  exact wl_mono (uc_215 C hx (INV_2 I (fr_cBy (x := x)))) (fun v1 h1 R => pa R)
theorem fr_cFound {s : sg_} {p b : Int} : frC s (fdC s p b).2 := by
  unfold fdC
  exact frC_i (frC_u (frC_r s) (by decide)) (frC_i (frC_u (frC_u (frC_u (frC_r s) (by decide)) (by decide)) (by decide)) (frC_r s))
theorem fr_cAhead {s : sg_} {x y : Int} : frC s (adC s x y).2 := by
  unfold adC clC
  exact frC_i (frC_u (frC_r s) (by decide)) (frC_i (frC_i (frC_r s) (frC_u (frC_u (frC_u (frC_r s) (by decide)) (by decide)) (by decide))) (frC_r s))
theorem dc_Found {nn d : Nat} {h : mj_H} {s : sg_} {tc : tcs} {tr : Int → crs} {M : Int} (I : INV tc tr s M) (C : CS h s) {p b : Int} (hp : wp_r p) (hb : b = 0 ∨ b = 1) : wl_R nn (d + 1) 143 0 [some (.ref 9), some (wp_i p), some (wp_i b)] [] h (fun v1 h1 => v1 = some (wp_i (fdC s p b).1) ∧ CS h1 (fdC s p b).2) := uc_143 C (INV_EXn I).1.1 hp hb
theorem dr_Found {nn d : Nat} {h : mj_H} {s : sg_} {tc : tcs} {tr : Int → crs} {M : Int} (I : INV tc tr s M) {p b : Int} (hp : wp_r p) (hb : b = 0 ∨ b = 1) (C : CS h (fdC s p b).2) : wl_R nn (d + 1) 300 0 [some (.ref 138), some (wp_i p), some (wp_i b)] [] h (fun v1 h1 => v1 = some (wp_i (fdR (fdC s p b).2 p b).1) ∧ CS h1 (fdR (fdC s p b).2 p b).2) :=
  uc_300 C (by
    have q : s 139 5 = s 61 3 := (relX_n I.1.2.2.2.1).2.1.1
    rw [fr_cFound 139 5 (by decide), q]
    exact (INV_EXn I).1.1) hp hb
theorem dc_Ahead {nn d : Nat} {h : mj_H} {s : sg_} {tc : tcs} {tr : Int → crs} {M : Int} (I : INV tc tr s M) (C : CS h s) {x y : Int} (hx : wp_r x) (hy : wp_r y) : wl_R nn (d + 1) 151 0 [some (.ref 9), some (wp_i x), some (wp_i y)] [] h (fun v1 h1 => v1 = some (wp_i (adC s x y).1) ∧ CS h1 (adC s x y).2) := uc_151 C (INV_EXn I).2.1 hx hy
theorem dr_Ahead {nn d : Nat} {h : mj_H} {s : sg_} {tc : tcs} {tr : Int → crs} {M : Int} (I : INV tc tr s M) {x y : Int} (hx : wp_r x) (hy : wp_r y) (C : CS h (adC s x y).2) : wl_R nn (d + 2) 306 0 [some (.ref 138), some (wp_i x), some (wp_i y)] [] h (fun v1 h1 => v1 = some (wp_i (adR (adC s x y).2 x y).1) ∧ CS h1 (adR (adC s x y).2 x y).2) :=
  uc_306 C (by
    have q : s 139 6 = s 65 3 := (relX_n I.1.2.2.2.1).2.2.1
    rw [fr_cAhead 139 6 (by decide), q]
    exact (INV_EXn I).2.1) (INV_rt I fr_cAhead).rs.g.w0 hx hy
theorem fr_cPlayed {s : sg_} {tc : tcs} {x : Int} : frC s (cPlayed tc s x).2 := by
  unfold cPlayed
  exact frC_i (frC_g (gm_py _ _ _ _ _)) (frC_r s)
theorem dc_Played {nn d : Nat} {h : mj_H} {s : sg_} {tc : tcs} {tr : Int → crs} {M : Int} (I : INV tc tr s M) (C : CS h s) {x : Int} (hx : wp_r x) : wl_R nn (d + 7) 92 0 [some (.ref 9), some (wp_i x), none, none, none, none, none] [] h (fun v1 h1 => v1 = some (wp_i (cPlayed tc s x).1) ∧ CS h1 (cPlayed tc s x).2) := by
  unfold cPlayed
  by_cases q : 0 ≤ x ∧ x < s 47 6
  · obtain ⟨t0, t1, t2, t3, -, -, -⟩ := I.2.2.2.2.2.1 x.toNat (by omega)
    have hk : ((x.toNat : Nat) : Int) = x := by omega
    rw [hk] at t0 t1 t2 t3
    have en : (s (12 + 7 * x.toNat) 7).toNat = (s 141 (705 * x)).toNat := by rw [t1]
    refine wl_mono (uc_92 C (INV_NV I) hx rfl (n := (s (12 + 7 * x.toNat) 7).toNat) (cl := clsC s (12 + 7 * x.toNat)) (by omega) (fun _ => by omega) (fun _ => rfl) (en ▸ cls_c t3 (fun i hi => t2 i (by omega)))) (fun v1 h1 R => pa R)
  · refine wl_mono (uc_92 C (INV_NV I) hx rfl (n := 0) (cl := clsC s (12 + 7 * x.toNat)) (by decide) (fun z => absurd z q) (fun _ => rfl) (fun k hk => absurd hk (by omega))) (fun v1 h1 R => ?_)
    rw [if_neg q]
    rcases R with ⟨z, R⟩ | ⟨z, R⟩
    · exact absurd z q
    · exact R
theorem dr_Played {nn d : Nat} {h : mj_H} {s : sg_} {tc : tcs} {tr : Int → crs} {M : Int} (I : INV tc tr s M) (hM : M ≤ 900000000) {x : Int} (hx : wp_r x) (C : CS h (cPlayed tc s x).2) : wl_R nn (d + 11) 255 0 [some (.ref 138), some (wp_i x), none] [] h (fun v1 h1 => v1 = some (wp_i (rPlayed (tr (s 139 3)) (cPlayed tc s x).2 x).1) ∧ CS h1 (rPlayed (tr (s 139 3)) (cPlayed tc s x).2 x).2) := by
  have f := fr_cPlayed (s := s) (tc := tc) (x := x)
  have T := INV_rt I f
  have X : s 139 2 = s 47 6 := I.1.2.2.2.1.1.1
  have e2 := f 139 2 (by decide)
  have i2 := INV_2 I f
  have e4 : ∀ j, (cPlayed tc s x).2 141 j = s 141 j := fun j => f 141 j (by decide)
  obtain ⟨c, ec⟩ : ∃ c, (cPlayed tc s x).2 = c := ⟨_, rfl⟩
  rw [ec] at C T e2 e4 i2 ⊢
  unfold rPlayed
  by_cases q : 0 ≤ x ∧ x < c 139 2
  · obtain ⟨t0, -, -, t3, -, -, -⟩ := I.2.2.2.2.2.1 x.toNat (by omega)
    have hk : ((x.toNat : Nat) : Int) = x := by omega
    rw [hk] at t0 t3
    have er : clsR c x = clsR s x := by
      funext i
      unfold clsR
      rw [e4, e4, e4]
    rw [← e4] at t0
    refine wl_mono (uc_255 C (by omega) T i2 hx (n := (c 141 (705 * x)).toNat) (cl := clsR c x) (by omega) (fun _ => by omega) (fun _ => rfl) (by rw [er, e4]; exact t3)) (fun v1 h1 R => pa R)
  · refine wl_mono (uc_255 C (by omega) T i2 hx (n := 0) (cl := clsR c x) (by decide) (fun z => absurd z q) (fun _ => rfl) (fun k hk => absurd hk (by omega))) (fun v1 h1 R => ?_)
    rw [if_neg q]
    rcases R with ⟨z, R⟩ | ⟨z, R⟩
    · exact absurd z q
    · exact R
theorem dc_Image {nn d : Nat} {h : mj_H} {s : sg_} {tc : tcs} {tr : Int → crs} {M : Int} (I : INV tc tr s M) (C : CS h s) : wl_R nn (d + 3) 160 0 [some (.ref 9)] [] h (fun v1 h1 => v1 = some (wp_i (s 48 10)) ∧ ∃ t, CS h1 t ∧ CPY s t 47 69) := uc_160 C (INV_EXn I).1.2
theorem dr_Image {nn d : Nat} {h : mj_H} {s : sg_} {tc : tcs} {tr : Int → crs} {M : Int} (I : INV tc tr s M) {t : sg_} (K : CPY s t 47 69) (C : CS h t) : wl_R nn (d + 1) 312 0 [some (.ref 138)] [] h (fun v1 h1 => v1 = some (wp_i (s 48 10)) ∧ CS h1 (cpy t 139 0 140 0 6044)) := by
  rw [← (in_Image I K).1]
  exact uc_312 C
theorem dc_Back {nn d : Nat} {h : mj_H} {s : sg_} {tc : tcs} {tr : Int → crs} {M : Int} (I : INV tc tr s M) (C : CS h s) : wl_R nn (d + 3) 166 0 [some (.ref 9)] [] h (fun v1 h1 => v1 = some (wp_i (s 70 10)) ∧ ∃ t, CS h1 t ∧ CPY s t 69 47) := uc_166 C (fun j a b => I.2.1.1.2.2.2.2.2.2.2.2.2.1.2 j a b)
theorem dr_Back {nn d : Nat} {h : mj_H} {s : sg_} {tc : tcs} {tr : Int → crs} {M : Int} (I : INV tc tr s M) {t : sg_} (K : CPY s t 69 47) (C : CS h t) : wl_R nn (d + 1) 313 0 [some (.ref 138)] [] h (fun v1 h1 => v1 = some (wp_i (s 70 10)) ∧ CS h1 (cpy t 140 0 139 0 6044)) := by
  rw [← (in_Back I K).1]
  exact uc_313 C
