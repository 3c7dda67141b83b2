/-! -/
/-! -/
set_option maxRecDepth 100000 in
theorem ji_221_0 : mj_ins 221 0 = some (.aload_n 0) := by decide +kernel
set_option maxRecDepth 100000 in
theorem ji_221_1 : mj_ins 221 1 = some (.invokevirtual 330) := by decide +kernel
set_option maxRecDepth 100000 in
theorem jc_221_330 : mj_cal 221 330 = some (2, 222, 0) := by decide +kernel
set_option maxRecDepth 100000 in
theorem jn_222 : mj_nl 222 = 4 := by decide +kernel
set_option maxRecDepth 100000 in
theorem jk_222 : mj_cls 222 = 11 := by decide +kernel
set_option maxRecDepth 100000 in
theorem ji_221_4 : mj_ins 221 4 = some (.aload_n 0) := by decide +kernel
set_option maxRecDepth 100000 in
theorem ji_221_5 : mj_ins 221 5 = some (.getfield 7) := by decide +kernel
set_option maxRecDepth 100000 in
theorem jf_221_7 : mj_fld 221 7 = some (11, 0, (.array .int), false) := by decide +kernel
set_option maxRecDepth 100000 in
theorem ji_221_8 : mj_ins 221 8 = some (.bipush 9) := by decide +kernel
set_option maxRecDepth 100000 in
theorem ji_221_10 : mj_ins 221 10 = some (.aload_n 0) := by decide +kernel
set_option maxRecDepth 100000 in
theorem ji_221_11 : mj_ins 221 11 = some (.getfield 7) := by decide +kernel
set_option maxRecDepth 100000 in
theorem ji_221_14 : mj_ins 221 14 = some (.bipush 11) := by decide +kernel
set_option maxRecDepth 100000 in
theorem ji_221_16 : mj_ins 221 16 = some (.iaload) := by decide +kernel
set_option maxRecDepth 100000 in
theorem ji_221_17 : mj_ins 221 17 = some (.bipush 10) := by decide +kernel
set_option maxRecDepth 100000 in
theorem ji_221_19 : mj_ins 221 19 = some (.irem) := by decide +kernel
set_option maxRecDepth 100000 in
theorem ji_221_20 : mj_ins 221 20 = some (.iastore) := by decide +kernel
set_option maxRecDepth 100000 in
theorem ji_221_21 : mj_ins 221 21 = some (.aload_n 0) := by decide +kernel
set_option maxRecDepth 100000 in
theorem ji_221_22 : mj_ins 221 22 = some (.invokevirtual 333) := by decide +kernel
set_option maxRecDepth 100000 in
theorem jc_221_333 : mj_cal 221 333 = some (2, 245, 0) := by decide +kernel
set_option maxRecDepth 100000 in
theorem jn_245 : mj_nl 245 = 1 := by decide +kernel
set_option maxRecDepth 100000 in
theorem jk_245 : mj_cls 245 = 11 := by decide +kernel
set_option maxRecDepth 100000 in
theorem ji_221_25 : mj_ins 221 25 = some (.return_) := by decide +kernel
set_option maxRecDepth 100000 in
theorem jr_221 : mj_ret 221 = none := by decide +kernel
/-! an hour of the reference; laid by program (wp_u40.py) -/
theorem endR_j {cr : crs} {t : sg_} {j : Int} (h8 : ¬ j = 8) (hA : ¬ j = 10) (hC : ¬ j = 12) (hj : j < 3484) (h12 : 0 ≤ t 139 12) : endR cr t 139 j = t 139 j := by
  unfold endR
  rw [up_k h8]
  split
  · rw [up_k hA]
  · rw [up_k hC, up_k (by omega), up_k (by omega), up_k hA]
/-- an hour -/
def hourR (cr : crs) (s : sg_) : sg_ :=
  let t := endR cr (flA cr s)
  up (up t 139 9 (t 139 11 % 10)) 139 11 ((t 139 11 * 283 + 181) % 30307)
theorem uc_221 {nn d : Nat} {h : mj_H} {s : sg_} (C : CS h s) {cr : crs} (H9 : RS s cr) (hB : 0 ≤ s 139 12 ∧ s 139 12 ≤ 2000000000) : wl_R nn (d + 8) 221 0 [some (.ref 138)] [] h (fun v1 h1 => v1 = none ∧ CS h1 (hourR cr s)) := by
  refine wl_s (pc' := 1) ji_221_0 rfl rfl rfl ?_
  obtain ⟨q2, hq2⟩ := cs_c C (by decide) sq_138
  refine wl_vc (d := d + 7) (as := [.ref 138]) (rest := []) ji_221_1 jc_221_330 rfl hq2 jk_222.symm (Nat.le_of_ble_eq_true rfl) rfl (by rw [jn_222]; rfl) (uc_222 (d := d) C H9 hB) (fun v1 h1 R => ?_)
  obtain ⟨rfl, C⟩ := R
  have q11 : endR cr (flA cr s) 139 11 = s 139 11 := by rw [endR_j (by decide) (by decide) (by decide) (by decide) (by unfold flA; rw [flPs_fr (Or.inr (by decide))]; exact hB.1)]; exact flPs_fr (Or.inr (by decide)) _
  obtain ⟨t, et⟩ : ∃ z9_, endR cr (flA cr s) = z9_ := ⟨_, rfl⟩
  rw [et] at C q11
  have rx : 0 ≤ t 139 11 ∧ t 139 11 ≤ 30306 := by rw [q11]; exact H9.g.x
  show wl_R _ _ 221 4 [some (.ref 138)] [] h1 _
  refine wl_s (pc' := 5) ji_221_4 rfl rfl rfl ?_
  refine cs_gr (r := 139) (k := 0) C (by decide) sq_138 rfl ji_221_5 jf_221_7 ?_
  refine wl_bp ji_221_8 rfl ?_
  refine wl_s (pc' := 11) ji_221_10 rfl rfl rfl ?_
  refine cs_gr (r := 139) (k := 0) C (by decide) sq_138 rfl ji_221_11 jf_221_7 ?_
  refine wl_bp ji_221_14 rfl ?_
  refine cs_l (x := 11) C (by decide) (by decide) sq_139 (by omega) ji_221_16 (fun ld30 ld31 ld32 => ?_)
  refine wl_bp ji_221_17 rfl ?_
  refine wl_irem (x := t 139 11) (y := 10) ji_221_19 (by omega) (by omega) ?_
  refine cs_s (x := 9) (y := (t 139 11) % 10) C (by decide) sq_139 (by omega) (by omega) ji_221_20 (fun h st40 st41 C => ?_)
  obtain ⟨s5, es5⟩ : ∃ z9_, up t 139 9 ((t 139 11) % 10) = z9_ := ⟨_, rfl⟩
  rw [es5] at C
  refine wl_s (pc' := 22) ji_221_21 rfl rfl rfl ?_
  obtain ⟨q7, hq7⟩ := cs_c C (by decide) sq_138
  refine wl_vc (d := d + 7) (as := [.ref 138]) (rest := []) ji_221_22 jc_221_333 rfl hq7 jk_245.symm (Nat.le_of_ble_eq_true rfl) rfl (by rw [jn_245]; rfl) (uc_245 (d := d + 7) C (by rw [← es5, up_k (by decide)]; exact rx)) (fun v1 h6 R => ?_)
  obtain ⟨rfl, C⟩ := R
  have q9 : s5 139 11 = t 139 11 := by rw [← es5, up_k (by decide)]
  rw [q9] at C
  show wl_R _ _ 221 25 [some (.ref 138)] [] h6 _
  exact wl_rv ji_221_25 jr_221 (⟨rfl, cs_mono C (by unfold hourR; (try dsimp only); rw [et, es5])⟩)
