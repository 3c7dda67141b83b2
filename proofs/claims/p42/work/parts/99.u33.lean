/-! -/
/-! -/
set_option maxRecDepth 100000 in
theorem ji_243_4 : mj_ins 243 4 = some (.iload_n 3) := by decide +kernel
set_option maxRecDepth 100000 in
theorem ji_243_5 : mj_ins 243 5 = some (.aload_n 0) := by decide +kernel
set_option maxRecDepth 100000 in
theorem ji_243_6 : mj_ins 243 6 = some (.getfield 7) := by decide +kernel
set_option maxRecDepth 100000 in
theorem jf_243_7 : mj_fld 243 7 = some (11, 0, (.array .int), false) := by decide +kernel
set_option maxRecDepth 100000 in
theorem ji_243_9 : mj_ins 243 9 = some (.iconst 0) := by decide +kernel
set_option maxRecDepth 100000 in
theorem ji_243_10 : mj_ins 243 10 = some (.iaload) := by decide +kernel
set_option maxRecDepth 100000 in
theorem ji_243_11 : mj_ins 243 11 = some (.if_icmp .ge 46) := by decide +kernel
set_option maxRecDepth 100000 in
theorem ji_243_57 : mj_ins 243 57 = some (.iload_n 2) := by decide +kernel
set_option maxRecDepth 100000 in
theorem ji_243_58 : mj_ins 243 58 = some (.ireturn) := by decide +kernel
set_option maxRecDepth 100000 in
theorem jr_243 : mj_ret 243 = some .int := by decide +kernel
set_option maxRecDepth 100000 in
theorem ji_243_14 : mj_ins 243 14 = some (.aload_n 0) := by decide +kernel
set_option maxRecDepth 100000 in
theorem ji_243_15 : mj_ins 243 15 = some (.iload_n 1) := by decide +kernel
set_option maxRecDepth 100000 in
theorem ji_243_16 : mj_ins 243 16 = some (.iload_n 3) := by decide +kernel
set_option maxRecDepth 100000 in
theorem ji_243_17 : mj_ins 243 17 = some (.invokevirtual 74) := by decide +kernel
set_option maxRecDepth 100000 in
theorem jc_243_74 : mj_cal 243 74 = some (2, 223, 2) := by decide +kernel
set_option maxRecDepth 100000 in
theorem ji_243_20 : mj_ins 243 20 = some (.ifCond .eq 31) := by decide +kernel
set_option maxRecDepth 100000 in
theorem ji_243_51 : mj_ins 243 51 = some (.iinc 3 1) := by decide +kernel
set_option maxRecDepth 100000 in
theorem ji_243_54 : mj_ins 243 54 = some (.goto (-50)) := by decide +kernel
set_option maxRecDepth 100000 in
theorem ji_243_23 : mj_ins 243 23 = some (.aload_n 0) := by decide +kernel
set_option maxRecDepth 100000 in
theorem ji_243_24 : mj_ins 243 24 = some (.iload_n 1) := by decide +kernel
set_option maxRecDepth 100000 in
theorem ji_243_25 : mj_ins 243 25 = some (.iload_n 3) := by decide +kernel
set_option maxRecDepth 100000 in
theorem ji_243_26 : mj_ins 243 26 = some (.iconst 0) := by decide +kernel
set_option maxRecDepth 100000 in
theorem ji_243_27 : mj_ins 243 27 = some (.invokevirtual 70) := by decide +kernel
set_option maxRecDepth 100000 in
theorem jc_243_70 : mj_cal 243 70 = some (2, 224, 3) := by decide +kernel
set_option maxRecDepth 100000 in
theorem ji_243_30 : mj_ins 243 30 = some (.iload_n 2) := by decide +kernel
set_option maxRecDepth 100000 in
theorem ji_243_31 : mj_ins 243 31 = some (.if_icmp .le 20) := by decide +kernel
set_option maxRecDepth 100000 in
theorem ji_243_34 : mj_ins 243 34 = some (.aload_n 0) := by decide +kernel
set_option maxRecDepth 100000 in
theorem ji_243_35 : mj_ins 243 35 = some (.iload_n 1) := by decide +kernel
set_option maxRecDepth 100000 in
theorem ji_243_36 : mj_ins 243 36 = some (.iload_n 3) := by decide +kernel
set_option maxRecDepth 100000 in
theorem ji_243_37 : mj_ins 243 37 = some (.invokevirtual 308) := by decide +kernel
set_option maxRecDepth 100000 in
theorem jc_243_308 : mj_cal 243 308 = some (2, 244, 2) := by decide +kernel
set_option maxRecDepth 100000 in
theorem jk_244 : mj_cls 244 = 11 := by decide +kernel
set_option maxRecDepth 100000 in
theorem ji_243_40 : mj_ins 243 40 = some (.ifCond .eq 11) := by decide +kernel
set_option maxRecDepth 100000 in
theorem ji_243_43 : mj_ins 243 43 = some (.aload_n 0) := by decide +kernel
set_option maxRecDepth 100000 in
theorem ji_243_44 : mj_ins 243 44 = some (.iload_n 1) := by decide +kernel
set_option maxRecDepth 100000 in
theorem ji_243_45 : mj_ins 243 45 = some (.iload_n 3) := by decide +kernel
set_option maxRecDepth 100000 in
theorem ji_243_46 : mj_ins 243 46 = some (.iconst 0) := by decide +kernel
set_option maxRecDepth 100000 in
theorem ji_243_47 : mj_ins 243 47 = some (.invokevirtual 70) := by decide +kernel
set_option maxRecDepth 100000 in
theorem ji_243_50 : mj_ins 243 50 = some (.istore_n 2) := by decide +kernel
set_option maxRecDepth 100000 in
theorem ji_243_0 : mj_ins 243 0 = some (.iconst (-1)) := by decide +kernel
set_option maxRecDepth 100000 in
theorem ji_243_1 : mj_ins 243 1 = some (.istore_n 2) := by decide +kernel
set_option maxRecDepth 100000 in
theorem ji_243_2 : mj_ins 243 2 = some (.iconst 0) := by decide +kernel
set_option maxRecDepth 100000 in
theorem ji_243_3 : mj_ins 243 3 = some (.istore_n 3) := by decide +kernel
/-! how high a power's flags count, in the reference; laid by program (wp_u33.py) -/
/-- what the reference asks of its ruler's laws -/
def RR (s : sg_) (cr : crs) : Prop := (0 ≤ s 139 0 ∧ s 139 0 ≤ 8) ∧ (0 ≤ s 139 1 ∧ s 139 1 ≤ 6) ∧ (-1 ≤ s 139 3 ∧ s 139 3 ≤ 3) ∧ (s 141 (705 * s 139 3) ≤ 24) ∧ (∀ l, 0 ≤ l ∧ l < 3 → TRl s (s 139 3) l (cr l)) ∧ (valR (cr 0)) ∧ (valR (cr 1)) ∧ (askR (cr 2)) ∧ (∀ w p, (0 ≤ w ∧ w < 6) → (0 ≤ p ∧ p < 8) → ∀ k, 0 ≤ k ∧ k < 10 → B6 (nmR s w p k)) ∧ (∀ w p, (0 ≤ w ∧ w < 6) → (0 ≤ p ∧ p < 8) → -1 ≤ s 139 (52 + 2 * (8 * w + p) + 0) ∧ s 139 (52 + 2 * (8 * w + p) + 0) ≤ 99)
theorem RR.p {s : sg_} {cr : crs} (H_ : RR s cr) : 0 ≤ s 139 0 ∧ s 139 0 ≤ 8 := H_.1
theorem RR.w {s : sg_} {cr : crs} (H_ : RR s cr) : 0 ≤ s 139 1 ∧ s 139 1 ≤ 6 := H_.2.1
theorem RR.r {s : sg_} {cr : crs} (H_ : RR s cr) : -1 ≤ s 139 3 ∧ s 139 3 ≤ 3 := H_.2.2.1
theorem RR.n {s : sg_} {cr : crs} (H_ : RR s cr) : s 141 (705 * s 139 3) ≤ 24 := H_.2.2.2.1
theorem RR.t {s : sg_} {cr : crs} (H_ : RR s cr) : ∀ l, 0 ≤ l ∧ l < 3 → TRl s (s 139 3) l (cr l) := H_.2.2.2.2.1
theorem RR.v0 {s : sg_} {cr : crs} (H_ : RR s cr) : valR (cr 0) := H_.2.2.2.2.2.1
theorem RR.v1 {s : sg_} {cr : crs} (H_ : RR s cr) : valR (cr 1) := H_.2.2.2.2.2.2.1
theorem RR.v2 {s : sg_} {cr : crs} (H_ : RR s cr) : askR (cr 2) := H_.2.2.2.2.2.2.2.1
theorem RR.b {s : sg_} {cr : crs} (H_ : RR s cr) : ∀ w p, (0 ≤ w ∧ w < 6) → (0 ≤ p ∧ p < 8) → ∀ k, 0 ≤ k ∧ k < 10 → B6 (nmR s w p k) := H_.2.2.2.2.2.2.2.2.1
theorem RR.h {s : sg_} {cr : crs} (H_ : RR s cr) : ∀ w p, (0 ≤ w ∧ w < 6) → (0 ≤ p ∧ p < 8) → -1 ≤ s 139 (52 + 2 * (8 * w + p) + 0) ∧ s 139 (52 + 2 * (8 * w + p) + 0) ≤ 99 := H_.2.2.2.2.2.2.2.2.2
theorem RR_mk {s : sg_} {cr : crs} (p_ : 0 ≤ s 139 0 ∧ s 139 0 ≤ 8) (w_ : 0 ≤ s 139 1 ∧ s 139 1 ≤ 6) (r_ : -1 ≤ s 139 3 ∧ s 139 3 ≤ 3) (n_ : s 141 (705 * s 139 3) ≤ 24) (t_ : ∀ l, 0 ≤ l ∧ l < 3 → TRl s (s 139 3) l (cr l)) (v0_ : valR (cr 0)) (v1_ : valR (cr 1)) (v2_ : askR (cr 2)) (b_ : ∀ w p, (0 ≤ w ∧ w < 6) → (0 ≤ p ∧ p < 8) → ∀ k, 0 ≤ k ∧ k < 10 → B6 (nmR s w p k)) (h_ : ∀ w p, (0 ≤ w ∧ w < 6) → (0 ≤ p ∧ p < 8) → -1 ≤ s 139 (52 + 2 * (8 * w + p) + 0) ∧ s 139 (52 + 2 * (8 * w + p) + 0) ≤ 99) : RR s cr := ⟨p_, w_, r_, n_, t_, v0_, v1_, v2_, b_, h_⟩
abbrev htR (s : sg_) (w p : Int) : Int := s 139 (52 + 2 * (8 * w + p) + 0)
def hg1 (s : sg_) (cr : crs) (w p best : Int) : Int := if ¬ htR s w p = -1 ∧ best < htR s w p ∧ ¬ cnR s w p (cr 2) = 0 then htR s w p else best
def hgR (s : sg_) (cr : crs) (w : Int) : Nat → Int
  | 0 => -1
  | n + 1 => hg1 s cr w n (hgR s cr w n)
theorem cnR_r {s : sg_} {cr : crs} (R9 : RR s cr) {w p : Int} (hw : 0 ≤ w ∧ w < 6) (hp : 0 ≤ p ∧ p < 8) : cnR s w p (cr 2) = 0 ∨ cnR s w p (cr 2) = 1 := by
  unfold cnR
  cases hc : cr 2 with
  | none =>
    dsimp only
    split <;> omega
  | some L =>
    obtain ⟨z, e, hz⟩ := R9.v2 L hc _ (R9.b w p hw hp)
    show vtR _ L = 0 ∨ vtR _ L = 1
    unfold vtR
    rw [e]
    exact hz
theorem uc_243l {d : Nat} {s : sg_} {cr : crs} (R9 : RR s cr) {w : Int} (hw : 0 ≤ w ∧ w < 6) : ∀ (nn p : Nat) (best : Int) (h : mj_H), CS h s → (p : Int) ≤ s 139 0 → hgR s cr w p = best → (-1 ≤ best ∧ best ≤ 99) → wl_R nn (d + 5) 243 4 [some (.ref 138), some (wp_i w), some (wp_i best), some (wp_i ((p : Int)))] [] h (fun v1 h1 => v1 = some (wp_i (hgR s cr w (s 139 0).toNat)) ∧ CS h1 s) := by
  intro nn
  induction nn with
  | zero => intros; exact wl_0
  | succ nn ih =>
    intro p best h C hp0 he hb0
    have hp1 := R9.p
    have rH : (p : Int) < 8 → -1 ≤ s 139 (52 + 2 * (8 * w + (p : Int)) + 0) ∧ s 139 (52 + 2 * (8 * w + (p : Int)) + 0) ≤ 99 := fun q => R9.h w p hw (by omega)
    obtain ⟨H, eH⟩ : ∃ H, s 139 (52 + 2 * (8 * w + (p : Int)) + 0) = H := ⟨_, rfl⟩
    rw [eH] at rH
    refine wl_s1 (pc' := 5) ji_243_4 rfl rfl rfl ?_
    refine wl_s (pc' := 6) ji_243_5 rfl rfl rfl ?_
    refine cs_gr (r := 139) (k := 0) C (by decide) sq_138 rfl ji_243_6 jf_243_7 ?_
    refine wl_s (pc' := 10) ji_243_9 rfl rfl rfl ?_
    refine cs_l (x := 0) C (by decide) (by decide) sq_139 (by omega) ji_243_10 (fun ld10 ld11 ld12 => ?_)
    refine wl_icmp (t := 57) ji_243_11 rfl (by omega) (by omega) (fun (hb2 : (s 139 0 : Int) ≤ ((p : Int))) => ?_) (fun (hb2 : ¬ ((s 139 0 : Int) ≤ ((p : Int)))) => ?_)
    · refine wl_s (pc' := 58) ji_243_57 rfl rfl rfl ?_
      exact wl_ri ji_243_58 jr_243 rfl (⟨by rw [← he, show p = (s 139 0).toNat by omega], C⟩)
    · refine wl_s (pc' := 15) ji_243_14 rfl rfl rfl ?_
      refine wl_s (pc' := 16) ji_243_15 rfl rfl rfl ?_
      refine wl_s (pc' := 17) ji_243_16 rfl rfl rfl ?_
      obtain ⟨q4, hq4⟩ := cs_c C (by decide) sq_138
      refine wl_vc (d := d + 4) (as := [.ref 138, wp_i w, wp_i ((p : Int))]) (rest := []) ji_243_17 jc_243_74 rfl hq4 jk_223.symm (Nat.le_of_ble_eq_true rfl) rfl (by rw [jn_223]; rfl) (uc_223 (d := d + 3) C (w := w) (p := (p : Int)) (by omega) (by omega)) (fun v1 h3 R => ?_)
      obtain ⟨ee, y5, rfl, hy5a, hy5b⟩ := R
      rw [ee]
      clear ee
      show wl_R _ _ 243 20 [some (.ref 138), some (wp_i w), some (wp_i best), some (wp_i ((p : Int)))] [wp_i y5] _ _
      rw [eH] at hy5b
      refine wl_if (t := 51) ji_243_20 rfl (by omega) (fun (hb6 : (y5 : Int) = 0) => ?_) (fun (hb6 : ¬ ((y5 : Int) = 0)) => ?_)
      · refine wl_iinc (x := (p : Int)) (z := (p : Int) + 1) (lv' := [some (.ref 138), some (wp_i w), some (wp_i best), some (wp_i ((p : Int) + 1))]) ji_243_51 rfl (Nat.le_of_ble_eq_true rfl) (by omega) rfl ?_
        refine wl_goto (t := 4) ji_243_54 rfl ?_
        have e1 : (p : Int) + 1 = ((p + 1 : Nat) : Int) := by omega
        rw [e1]
        exact ih (p + 1) best _ C (by omega) (by show hg1 s cr w p (hgR s cr w p) = _; rw [he]; unfold hg1; simp only [show htR s w p = H from eH]; rw [if_neg (fun z => by have := hy5b.mpr z.1; omega)]) (by omega)
      · refine wl_s (pc' := 24) ji_243_23 rfl rfl rfl ?_
        refine wl_s (pc' := 25) ji_243_24 rfl rfl rfl ?_
        refine wl_s (pc' := 26) ji_243_25 rfl rfl rfl ?_
        refine wl_s (pc' := 27) ji_243_26 rfl rfl rfl ?_
        obtain ⟨q8, hq8⟩ := cs_c C (by decide) sq_138
        refine wl_vc (d := d + 4) (as := [.ref 138, wp_i w, wp_i ((p : Int)), wp_i 0]) (rest := []) ji_243_27 jc_243_70 rfl hq8 jk_224.symm (Nat.le_of_ble_eq_true rfl) rfl (by rw [jn_224]; rfl) (uc_224 (d := d + 4) C (w := w) (p := (p : Int)) (k := 0) (by omega) (by omega) (by omega)) (fun v1 h7 R => ?_)
        obtain ⟨ee, rfl⟩ := R
        rw [ee]
        clear ee
        rw [eH]
        show wl_R _ _ 243 30 [some (.ref 138), some (wp_i w), some (wp_i best), some (wp_i ((p : Int)))] [wp_i H] _ _
        refine wl_s (pc' := 31) ji_243_30 rfl rfl rfl ?_
        refine wl_icmp (t := 51) ji_243_31 rfl (by omega) (by omega) (fun (hb9 : (H : Int) ≤ best) => ?_) (fun (hb9 : ¬ ((H : Int) ≤ best)) => ?_)
        · refine wl_iinc (x := (p : Int)) (z := (p : Int) + 1) (lv' := [some (.ref 138), some (wp_i w), some (wp_i best), some (wp_i ((p : Int) + 1))]) ji_243_51 rfl (Nat.le_of_ble_eq_true rfl) (by omega) rfl ?_
          refine wl_goto (t := 4) ji_243_54 rfl ?_
          have e1 : (p : Int) + 1 = ((p + 1 : Nat) : Int) := by omega
          rw [e1]
          exact ih (p + 1) best _ C (by omega) (by show hg1 s cr w p (hgR s cr w p) = _; rw [he]; unfold hg1; simp only [show htR s w p = H from eH]; rw [if_neg (fun z => by have := z.2.1; omega)]) (by omega)
        · refine wl_s (pc' := 35) ji_243_34 rfl rfl rfl ?_
          refine wl_s (pc' := 36) ji_243_35 rfl rfl rfl ?_
          refine wl_s (pc' := 37) ji_243_36 rfl rfl rfl ?_
          obtain ⟨q11, hq11⟩ := cs_c C (by decide) sq_138
          refine wl_vc (d := d + 4) (as := [.ref 138, wp_i w, wp_i ((p : Int))]) (rest := []) ji_243_37 jc_243_308 rfl hq11 jk_244.symm (Nat.le_of_ble_eq_true rfl) rfl (by rw [jn_244]; rfl) (uc_244 (d := d) C R9.w R9.r R9.n hw (p := (p : Int)) (by omega) (R9.b w p hw (by omega)) (R9.t 2 (by decide)) R9.v2) (fun v1 h10 R => ?_)
          obtain ⟨rfl, C⟩ := R
          obtain ⟨cv, ecv⟩ : ∃ z9_, cnR s w (p : Int) (cr 2) = z9_ := ⟨_, rfl⟩
          have rcv := cnR_r R9 hw (p := (p : Int)) (by omega)
          rw [ecv] at rcv ⊢
          show wl_R _ _ 243 40 [some (.ref 138), some (wp_i w), some (wp_i best), some (wp_i ((p : Int)))] [wp_i cv] h10 _
          refine wl_if (t := 51) ji_243_40 rfl (by omega) (fun (hb12 : (cv : Int) = 0) => ?_) (fun (hb12 : ¬ ((cv : Int) = 0)) => ?_)
          · refine wl_iinc (x := (p : Int)) (z := (p : Int) + 1) (lv' := [some (.ref 138), some (wp_i w), some (wp_i best), some (wp_i ((p : Int) + 1))]) ji_243_51 rfl (Nat.le_of_ble_eq_true rfl) (by omega) rfl ?_
            refine wl_goto (t := 4) ji_243_54 rfl ?_
            have e1 : (p : Int) + 1 = ((p + 1 : Nat) : Int) := by omega
            rw [e1]
            exact ih (p + 1) best _ C (by omega) (by show hg1 s cr w p (hgR s cr w p) = _; rw [he]; unfold hg1; simp only [show htR s w p = H from eH, ecv]; rw [if_neg (fun z => z.2.2 (by omega))]) (by omega)
          · refine wl_s (pc' := 44) ji_243_43 rfl rfl rfl ?_
            refine wl_s (pc' := 45) ji_243_44 rfl rfl rfl ?_
            refine wl_s (pc' := 46) ji_243_45 rfl rfl rfl ?_
            refine wl_s (pc' := 47) ji_243_46 rfl rfl rfl ?_
            obtain ⟨q14, hq14⟩ := cs_c C (by decide) sq_138
            refine wl_vc (d := d + 4) (as := [.ref 138, wp_i w, wp_i ((p : Int)), wp_i 0]) (rest := []) ji_243_47 jc_243_70 rfl hq14 jk_224.symm (Nat.le_of_ble_eq_true rfl) rfl (by rw [jn_224]; rfl) (uc_224 (d := d + 4) C (w := w) (p := (p : Int)) (k := 0) (by omega) (by omega) (by omega)) (fun v1 h13 R => ?_)
            obtain ⟨ee, rfl⟩ := R
            rw [ee]
            clear ee
            rw [eH]
            show wl_R _ _ 243 50 [some (.ref 138), some (wp_i w), some (wp_i best), some (wp_i ((p : Int)))] [wp_i H] _ _
            refine wl_s (pc' := 51) (lv' := [some (.ref 138), some (wp_i w), some (wp_i H), some (wp_i ((p : Int)))]) ji_243_50 rfl rfl rfl ?_
            refine wl_iinc (x := (p : Int)) (z := (p : Int) + 1) (lv' := [some (.ref 138), some (wp_i w), some (wp_i H), some (wp_i ((p : Int) + 1))]) ji_243_51 rfl (Nat.le_of_ble_eq_true rfl) (by omega) rfl ?_
            refine wl_goto (t := 4) ji_243_54 rfl ?_
            have e1 : (p : Int) + 1 = ((p + 1 : Nat) : Int) := by omega
            rw [e1]
            exact ih (p + 1) H _ C (by omega) (by show hg1 s cr w p (hgR s cr w p) = _; rw [he]; unfold hg1; simp only [show htR s w p = H from eH, ecv]; rw [if_pos ⟨hy5b.mp (by omega), by omega, by omega⟩]) (by omega)
theorem uc_243 {nn d : Nat} {h : mj_H} {s : sg_} (C : CS h s) {cr : crs} (R9 : RR s cr) {w : Int} (hw : 0 ≤ w ∧ w < 6) : wl_R nn (d + 5) 243 0 [some (.ref 138), some (wp_i w), none, none] [] h (fun v1 h1 => v1 = some (wp_i (hgR s cr w (s 139 0).toNat)) ∧ CS h1 s) := by
  refine wl_s (pc' := 1) ji_243_0 rfl rfl rfl ?_
  refine wl_s (pc' := 2) (lv' := [some (.ref 138), some (wp_i w), some (wp_i (-1)), none]) ji_243_1 rfl rfl rfl ?_
  refine wl_s (pc' := 3) ji_243_2 rfl rfl rfl ?_
  refine wl_s (pc' := 4) (lv' := [some (.ref 138), some (wp_i w), some (wp_i (-1)), some (wp_i 0)]) ji_243_3 rfl rfl rfl ?_
  exact uc_243l R9 hw nn 0 (-1) h C (by have := R9.p; omega) rfl (by omega)
