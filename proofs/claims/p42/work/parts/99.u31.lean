/-! -/
/-! -/
set_option maxRecDepth 100000 in
theorem ji_225_0 : mj_ins 225 0 = some (.aload_n 0) := by decide +kernel
set_option maxRecDepth 100000 in
theorem ji_225_1 : mj_ins 225 1 = some (.iload_n 1) := by decide +kernel
set_option maxRecDepth 100000 in
theorem ji_225_2 : mj_ins 225 2 = some (.iload_n 2) := by decide +kernel
set_option maxRecDepth 100000 in
theorem ji_225_3 : mj_ins 225 3 = some (.invokevirtual 301) := by decide +kernel
set_option maxRecDepth 100000 in
theorem jc_225_301 : mj_cal 225 301 = some (2, 226, 2) := by decide +kernel
set_option maxRecDepth 100000 in
theorem ji_225_6 : mj_ins 225 6 = some (.aload_n 0) := by decide +kernel
set_option maxRecDepth 100000 in
theorem ji_225_7 : mj_ins 225 7 = some (.iconst 0) := by decide +kernel
set_option maxRecDepth 100000 in
theorem ji_225_8 : mj_ins 225 8 = some (.aload_n 0) := by decide +kernel
set_option maxRecDepth 100000 in
theorem ji_225_9 : mj_ins 225 9 = some (.iload_n 1) := by decide +kernel
set_option maxRecDepth 100000 in
theorem ji_225_10 : mj_ins 225 10 = some (.invokevirtual 286) := by decide +kernel
set_option maxRecDepth 100000 in
theorem jc_225_286 : mj_cal 225 286 = some (2, 227, 1) := by decide +kernel
set_option maxRecDepth 100000 in
theorem ji_225_13 : mj_ins 225 13 = some (.bipush (-99)) := by decide +kernel
set_option maxRecDepth 100000 in
theorem ji_225_15 : mj_ins 225 15 = some (.bipush 99) := by decide +kernel
set_option maxRecDepth 100000 in
theorem ji_225_17 : mj_ins 225 17 = some (.invokevirtual 304) := by decide +kernel
set_option maxRecDepth 100000 in
theorem jc_225_304 : mj_cal 225 304 = some (2, 231, 4) := by decide +kernel
set_option maxRecDepth 100000 in
theorem jk_231 : mj_cls 231 = 11 := by decide +kernel
set_option maxRecDepth 100000 in
theorem ji_225_20 : mj_ins 225 20 = some (.ireturn) := by decide +kernel
set_option maxRecDepth 100000 in
theorem jr_225 : mj_ret 225 = some .int := by decide +kernel
set_option maxRecDepth 100000 in
theorem ji_240_0 : mj_ins 240 0 = some (.aload_n 0) := by decide +kernel
set_option maxRecDepth 100000 in
theorem ji_240_1 : mj_ins 240 1 = some (.iload_n 1) := by decide +kernel
set_option maxRecDepth 100000 in
theorem ji_240_2 : mj_ins 240 2 = some (.iload_n 2) := by decide +kernel
set_option maxRecDepth 100000 in
theorem ji_240_3 : mj_ins 240 3 = some (.invokevirtual 301) := by decide +kernel
set_option maxRecDepth 100000 in
theorem jc_240_301 : mj_cal 240 301 = some (2, 226, 2) := by decide +kernel
set_option maxRecDepth 100000 in
theorem ji_240_6 : mj_ins 240 6 = some (.aload_n 0) := by decide +kernel
set_option maxRecDepth 100000 in
theorem ji_240_7 : mj_ins 240 7 = some (.iconst 1) := by decide +kernel
set_option maxRecDepth 100000 in
theorem ji_240_8 : mj_ins 240 8 = some (.aload_n 0) := by decide +kernel
set_option maxRecDepth 100000 in
theorem ji_240_9 : mj_ins 240 9 = some (.getfield 7) := by decide +kernel
set_option maxRecDepth 100000 in
theorem jf_240_7 : mj_fld 240 7 = some (11, 0, (.array .int), false) := by decide +kernel
set_option maxRecDepth 100000 in
theorem ji_240_12 : mj_ins 240 12 = some (.bipush 9) := by decide +kernel
set_option maxRecDepth 100000 in
theorem ji_240_14 : mj_ins 240 14 = some (.iaload) := by decide +kernel
set_option maxRecDepth 100000 in
theorem ji_240_15 : mj_ins 240 15 = some (.iconst 0) := by decide +kernel
set_option maxRecDepth 100000 in
theorem ji_240_16 : mj_ins 240 16 = some (.bipush 100) := by decide +kernel
set_option maxRecDepth 100000 in
theorem ji_240_18 : mj_ins 240 18 = some (.invokevirtual 304) := by decide +kernel
set_option maxRecDepth 100000 in
theorem jc_240_304 : mj_cal 240 304 = some (2, 231, 4) := by decide +kernel
set_option maxRecDepth 100000 in
theorem ji_240_21 : mj_ins 240 21 = some (.ireturn) := by decide +kernel
set_option maxRecDepth 100000 in
theorem jr_240 : mj_ret 240 = some .int := by decide +kernel
/-! climbs and tears of the reference; laid by program (wp_u31.py) -/
theorem cs_tr {h : mj_H} {s s2 : sg_} (C : CS h s2) (f : off s2 s) : CS h s := by
  obtain ⟨s3, C, f3⟩ := C
  exact ⟨s3, C, fun b j q => (f3 b j q).trans (f b j q)⟩
theorem TRl_f {s s1 : sg_} (e : ∀ j, s1 141 j = s 141 j) {r l : Int} {o : Option (List (Int × Int))} (T : TRl s r l o) : TRl s1 r l o := by
  revert T
  cases o with
  | none =>
    unfold TRl
    simp only [e]
    exact fun z => z
  | some L =>
    unfold TRl
    simp only [e]
    exact fun z => z
theorem nmR_f {s s1 : sg_} (e : ∀ j, s1 139 j = s 139 j) (w p k : Int) : nmR s1 w p k = nmR s w p k := by
  unfold nmR
  simp only [e]
/-- a law that says a value, whatever names are -/
def valR (o : Option (List (Int × Int))) : Prop := ∀ L, o = some L → ∀ N, (∀ k, 0 ≤ k ∧ k < 10 → B6 (N k)) → ∃ x ts, evR N L [] [] = some ([x], ts) ∧ B6 x
/-- a law that says a truth -/
def askR (o : Option (List (Int × Int))) : Prop := ∀ L, o = some L → ∀ N, (∀ k, 0 ≤ k ∧ k < 10 → B6 (N k)) → ∃ z, evR N L [] [] = some ([], [z]) ∧ (z = 0 ∨ z = 1)
theorem uc_225 {nn d : Nat} {h : mj_H} {s : sg_} (C : CS h s) (h1 : 0 ≤ s 139 1 ∧ s 139 1 ≤ 6) (hr : -1 ≤ s 139 3 ∧ s 139 3 ≤ 3) (hcn : s 141 (705 * s 139 3) ≤ 24) {w p : Int} (hw : 0 ≤ w ∧ w < 6) (hp : 0 ≤ p ∧ p < 8) (hN : ∀ k, 0 ≤ k ∧ k < 10 → B6 (nmR s w p k)) {o : Option (List (Int × Int))} (T : TRl s (s 139 3) 0 o) (hv : valR o) : wl_R nn (d + 4) 225 0 [some (.ref 138), some (wp_i w), some (wp_i p)] [] h (fun v1 h1 => v1 = some (wp_i (sayR (nmR s w p) o (s 139 (40 + 2 * w)) (-99) 99)) ∧ CS h1 s) := by
  obtain ⟨s1, C, f⟩ := C
  refine wl_s (pc' := 1) ji_225_0 rfl rfl rfl ?_
  refine wl_s (pc' := 2) ji_225_1 rfl rfl rfl ?_
  refine wl_s (pc' := 3) ji_225_2 rfl rfl rfl ?_
  obtain ⟨q2, hq2⟩ := c0_c C (by decide) sq_138
  refine wl_vc (d := d + 3) (as := [.ref 138, wp_i w, wp_i p]) (rest := []) ji_225_3 jc_225_301 rfl hq2 jk_226.symm (Nat.le_of_ble_eq_true rfl) rfl (by rw [jn_226]; rfl) (uc_226 (d := d) C (by rw [f 139 1 (by decide)]; exact h1) hw hp) (fun v1 h1 R => ?_)
  obtain ⟨rfl, s2, C, f2, n2⟩ := R
  have e139 : ∀ j, s2 139 j = s 139 j := fun j => (f2 139 j (by decide)).trans (f 139 j (by decide))
  have e141 : ∀ j, s2 141 j = s 141 j := fun j => (f2 141 j (by decide)).trans (f 141 j (by decide))
  have o2 : off s2 s := fun b j q => (f2 b j (fun e => q (Or.inr (by omega)))).trans (f b j q)
  have n3 : ∀ k, 0 ≤ k ∧ k < 10 → s2 144 k = nmR s w p k := fun k hk => (n2 k hk).trans (nmR_f (fun j => f 139 j (by decide)) w p k)
  show wl_R _ _ 225 6 [some (.ref 138), some (wp_i w), some (wp_i p)] [] h1 _
  refine wl_s (pc' := 7) ji_225_6 rfl rfl rfl ?_
  refine wl_s (pc' := 8) ji_225_7 rfl rfl rfl ?_
  refine wl_s (pc' := 9) ji_225_8 rfl rfl rfl ?_
  refine wl_s (pc' := 10) ji_225_9 rfl rfl rfl ?_
  obtain ⟨q4, hq4⟩ := c0_c C (by decide) sq_138
  refine wl_vc (d := d + 3) (as := [.ref 138, wp_i w]) (rest := [wp_i 0, .ref 138]) ji_225_10 jc_225_286 rfl hq4 jk_227.symm (Nat.le_of_ble_eq_true rfl) rfl (by rw [jn_227]; rfl) (uc_227 (d := d + 3) (cs_of C) hw) (fun v1 h3 R => ?_)
  obtain ⟨ee, rfl⟩ := R
  rw [ee]
  clear ee
  show wl_R _ _ 225 13 [some (.ref 138), some (wp_i w), some (wp_i p)] [wp_i (s2 139 (40 + 2 * w)), wp_i 0, .ref 138] _ _
  have gr5 : wp_r (s2 139 (40 + 2 * w)) := cs_ri (k := (40 + 2 * w).toNat) (cs_of C) (by decide) (by decide) sq_139 (by omega) rfl (by show _ < 0 + 6044; omega)
  refine wl_bp ji_225_13 rfl ?_
  refine wl_bp ji_225_15 rfl ?_
  obtain ⟨q7, hq7⟩ := c0_c C (by decide) sq_138
  refine wl_vc (d := d + 3) (as := [.ref 138, wp_i 0, wp_i (s2 139 (40 + 2 * w)), wp_i (-99), wp_i 99]) (rest := []) ji_225_17 jc_225_304 rfl hq7 jk_231.symm (Nat.le_of_ble_eq_true rfl) rfl (by rw [jn_231]; rfl) (uc_231r (d := d) C (e139 3) hr (by omega) (z := s2 139 (40 + 2 * w)) (by omega) (lo := -99) (by omega) (hi := 99) (by omega) (by omega) (by rw [e141]; exact hcn) n3 hN (TRl_f e141 T) (fun L q => hv L q _ hN)) (fun v1 h6 R => ?_)
  obtain ⟨rfl, C2⟩ := R
  show wl_R _ _ 225 20 [some (.ref 138), some (wp_i w), some (wp_i p)] [wp_i (sayR (nmR s w p) o (s2 139 (40 + 2 * w)) (-99) (99))] h6 _
  exact wl_ri ji_225_20 jr_225 rfl (⟨by rw [e139], cs_tr C2 o2⟩)
theorem uc_240 {nn d : Nat} {h : mj_H} {s : sg_} (C : CS h s) (h1 : 0 ≤ s 139 1 ∧ s 139 1 ≤ 6) (hr : -1 ≤ s 139 3 ∧ s 139 3 ≤ 3) (hcn : s 141 (705 * s 139 3) ≤ 24) {w p : Int} (hw : 0 ≤ w ∧ w < 6) (hp : 0 ≤ p ∧ p < 8) (hN : ∀ k, 0 ≤ k ∧ k < 10 → B6 (nmR s w p k)) {o : Option (List (Int × Int))} (T : TRl s (s 139 3) 1 o) (hv : valR o) : wl_R nn (d + 4) 240 0 [some (.ref 138), some (wp_i w), some (wp_i p)] [] h (fun v1 h1 => v1 = some (wp_i (sayR (nmR s w p) o (s 139 9) (0) 100)) ∧ CS h1 s) := by
  obtain ⟨s1, C, f⟩ := C
  refine wl_s (pc' := 1) ji_240_0 rfl rfl rfl ?_
  refine wl_s (pc' := 2) ji_240_1 rfl rfl rfl ?_
  refine wl_s (pc' := 3) ji_240_2 rfl rfl rfl ?_
  obtain ⟨q2, hq2⟩ := c0_c C (by decide) sq_138
  refine wl_vc (d := d + 3) (as := [.ref 138, wp_i w, wp_i p]) (rest := []) ji_240_3 jc_240_301 rfl hq2 jk_226.symm (Nat.le_of_ble_eq_true rfl) rfl (by rw [jn_226]; rfl) (uc_226 (d := d) C (by rw [f 139 1 (by decide)]; exact h1) hw hp) (fun v1 h1 R => ?_)
  obtain ⟨rfl, s2, C, f2, n2⟩ := R
  have e139 : ∀ j, s2 139 j = s 139 j := fun j => (f2 139 j (by decide)).trans (f 139 j (by decide))
  have e141 : ∀ j, s2 141 j = s 141 j := fun j => (f2 141 j (by decide)).trans (f 141 j (by decide))
  have o2 : off s2 s := fun b j q => (f2 b j (fun e => q (Or.inr (by omega)))).trans (f b j q)
  have n3 : ∀ k, 0 ≤ k ∧ k < 10 → s2 144 k = nmR s w p k := fun k hk => (n2 k hk).trans (nmR_f (fun j => f 139 j (by decide)) w p k)
  show wl_R _ _ 240 6 [some (.ref 138), some (wp_i w), some (wp_i p)] [] h1 _
  refine wl_s (pc' := 7) ji_240_6 rfl rfl rfl ?_
  refine wl_s (pc' := 8) ji_240_7 rfl rfl rfl ?_
  refine wl_s (pc' := 9) ji_240_8 rfl rfl rfl ?_
  refine c0_gr (r := 139) (k := 0) C (by decide) sq_138 rfl ji_240_9 jf_240_7 ?_
  refine wl_bp ji_240_12 rfl ?_
  refine c0_l (x := 9) C (by decide) sq_139 (by omega) ji_240_14 (fun ld30 ld31 ld32 => ?_)
  refine wl_s (pc' := 16) ji_240_15 rfl rfl rfl ?_
  refine wl_bp ji_240_16 rfl ?_
  obtain ⟨q5, hq5⟩ := c0_c C (by decide) sq_138
  refine wl_vc (d := d + 3) (as := [.ref 138, wp_i 1, wp_i (s2 139 9), wp_i 0, wp_i 100]) (rest := []) ji_240_18 jc_240_304 rfl hq5 jk_231.symm (Nat.le_of_ble_eq_true rfl) rfl (by rw [jn_231]; rfl) (uc_231r (d := d) C (e139 3) hr (by omega) (z := s2 139 9) (by omega) (lo := 0) (by omega) (hi := 100) (by omega) (by omega) (by rw [e141]; exact hcn) n3 hN (TRl_f e141 T) (fun L q => hv L q _ hN)) (fun v1 h4 R => ?_)
  obtain ⟨rfl, C2⟩ := R
  show wl_R _ _ 240 21 [some (.ref 138), some (wp_i w), some (wp_i p)] [wp_i (sayR (nmR s w p) o (s2 139 9) (0) (100))] h4 _
  exact wl_ri ji_240_21 jr_240 rfl (⟨by rw [e139], cs_tr C2 o2⟩)
