/-! -/
/-! -/
set_option maxRecDepth 100000 in
theorem ji_222_0 : mj_ins 222 0 = some (.iconst 0) := by decide +kernel
set_option maxRecDepth 100000 in
theorem ji_222_1 : mj_ins 222 1 = some (.istore_n 1) := by decide +kernel
set_option maxRecDepth 100000 in
theorem ji_245_0 : mj_ins 245 0 = some (.aload_n 0) := by decide +kernel
set_option maxRecDepth 100000 in
theorem ji_245_1 : mj_ins 245 1 = some (.getfield 7) := by decide +kernel
set_option maxRecDepth 100000 in
theorem jf_245_7 : mj_fld 245 7 = some (11, 0, (.array .int), false) := by decide +kernel
set_option maxRecDepth 100000 in
theorem ji_245_4 : mj_ins 245 4 = some (.bipush 11) := by decide +kernel
set_option maxRecDepth 100000 in
theorem ji_245_6 : mj_ins 245 6 = some (.aload_n 0) := by decide +kernel
set_option maxRecDepth 100000 in
theorem ji_245_7 : mj_ins 245 7 = some (.getfield 7) := by decide +kernel
set_option maxRecDepth 100000 in
theorem ji_245_10 : mj_ins 245 10 = some (.bipush 11) := by decide +kernel
set_option maxRecDepth 100000 in
theorem ji_245_12 : mj_ins 245 12 = some (.iaload) := by decide +kernel
set_option maxRecDepth 100000 in
theorem ji_245_13 : mj_ins 245 13 = some (.sipush 283) := by decide +kernel
set_option maxRecDepth 100000 in
theorem ji_245_16 : mj_ins 245 16 = some (.imul) := by decide +kernel
set_option maxRecDepth 100000 in
theorem ji_245_17 : mj_ins 245 17 = some (.sipush 181) := by decide +kernel
set_option maxRecDepth 100000 in
theorem ji_245_20 : mj_ins 245 20 = some (.iadd) := by decide +kernel
set_option maxRecDepth 100000 in
theorem ji_245_21 : mj_ins 245 21 = some (.sipush 30307) := by decide +kernel
set_option maxRecDepth 100000 in
theorem ji_245_24 : mj_ins 245 24 = some (.irem) := by decide +kernel
set_option maxRecDepth 100000 in
theorem ji_245_25 : mj_ins 245 25 = some (.iastore) := by decide +kernel
set_option maxRecDepth 100000 in
theorem ji_245_26 : mj_ins 245 26 = some (.return_) := by decide +kernel
set_option maxRecDepth 100000 in
theorem jr_245 : mj_ret 245 = none := by decide +kernel
/-! the reference's flyOn, whole; laid by program (wp_u39.py) -/
def flA (cr : crs) (s : sg_) : sg_ := flPs cr (s 139 1).toNat (s 139 0).toNat s
theorem flWs_fr {cr : crs} {p : Int} {s : sg_} {b : Nat} {j : Int} (h : ¬ b = 139 ∨ j < 52) (hp : 0 ≤ p) : ∀ n : Nat, flWs cr p n s b j = s b j
  | 0 => rfl
  | n + 1 => (flW_fr (by rcases h with h | h; exact Or.inl h; exact Or.inr ⟨by omega, by omega⟩)).trans (flWs_fr h hp n)
theorem flPs_fr {cr : crs} {q : Nat} {s : sg_} {b : Nat} {j : Int} (h : ¬ b = 139 ∨ j < 52) : ∀ m : Nat, flPs cr q m s b j = s b j
  | 0 => rfl
  | m + 1 => (flWs_fr h (by omega) q).trans (flPs_fr h m)
theorem uc_222 {nn d : Nat} {h : mj_H} {s : sg_} (C : CS h s) {cr : crs} (H9 : RS s cr) (hB : 0 ≤ s 139 12 ∧ s 139 12 ≤ 2000000000) : wl_R nn (d + 7) 222 0 [some (.ref 138), none, none, none] [] h (fun v1 h1 => v1 = none ∧ CS h1 (endR cr (flA cr s))) := by
  have r0 := H9.g.p0
  refine wl_s (pc' := 1) ji_222_0 rfl rfl rfl ?_
  refine wl_s (pc' := 2) (lv' := [some (.ref 138), some (wp_i 0), none, none]) ji_222_1 rfl rfl rfl ?_
  refine wl_s (pc' := 3) ji_222_2 rfl rfl rfl ?_
  refine wl_s (pc' := 4) ji_222_3 rfl rfl rfl ?_
  refine cs_gr (r := 139) (k := 0) C (by decide) sq_138 rfl ji_222_4 jf_222_7 ?_
  refine wl_s (pc' := 8) ji_222_7 rfl rfl rfl ?_
  refine cs_l (x := 0) C (by decide) (by decide) sq_139 (by omega) ji_222_8 (fun ld10 ld11 ld12 => ?_)
  refine wl_icmp (t := 114) ji_222_9 rfl (by omega) (by omega) (fun (hb2 : (s 139 0 : Int) ≤ 0) => ?_) (fun (hb2 : ¬ ((s 139 0 : Int) ≤ 0)) => ?_)
  · have et : flA cr s = s := by unfold flA; rw [show (s 139 0).toNat = 0 by omega]; rfl
    rw [et]
    exact uc_222e C H9 hB
  · refine wl_s (pc' := 13) ji_222_12 rfl rfl rfl ?_
    refine wl_s (pc' := 14) (lv' := [some (.ref 138), some (wp_i 0), some (wp_i 0), none]) ji_222_13 rfl rfl rfl ?_
    refine uc_222l (d := d + 2) H9.g.p0 H9.g.w0 nn 0 0 s none _ C (by have := H9.g.p0; omega) (by have := H9.g.w0; omega) rfl H9 rfl rfl (fun p w t l3 h C H8 hp hw ht e0 e1 nn => ?_)
    have et : t = flA cr s := by rw [ht]; unfold flA; rw [show (s 139 0).toNat = p + 1 by omega, show (s 139 1).toNat = w by omega]; rfl
    rw [← et]
    exact uc_222e C H8 (by rw [et]; unfold flA; rw [flPs_fr (Or.inr (by decide))]; exact hB)
theorem uc_245 {nn d : Nat} {h : mj_H} {s : sg_} (C : CS h s) (hx : 0 ≤ s 139 11 ∧ s 139 11 ≤ 30306) : wl_R nn d 245 0 [some (.ref 138)] [] h (fun v1 h1 => v1 = none ∧ CS h1 (up s 139 11 ((s 139 11 * 283 + 181) % 30307))) := by
  refine wl_s (pc' := 1) ji_245_0 rfl rfl rfl ?_
  refine cs_gr (r := 139) (k := 0) C (by decide) sq_138 rfl ji_245_1 jf_245_7 ?_
  refine wl_bp ji_245_4 rfl ?_
  refine wl_s (pc' := 7) ji_245_6 rfl rfl rfl ?_
  refine cs_gr (r := 139) (k := 0) C (by decide) sq_138 rfl ji_245_7 jf_245_7 ?_
  refine wl_bp ji_245_10 rfl ?_
  refine cs_l (x := 11) C (by decide) (by decide) sq_139 (by omega) ji_245_12 (fun ld10 ld11 ld12 => ?_)
  refine wl_sp ji_245_13 rfl ?_
  refine wl_imul (x := s 139 11) (y := 283) (z := (s 139 11) * 283) ji_245_16 (by omega) ?_
  refine wl_sp ji_245_17 rfl ?_
  refine wl_iadd (x := (s 139 11) * 283) (y := 181) (z := (s 139 11) * 283 + 181) ji_245_20 (by omega) ?_
  refine wl_sp ji_245_21 rfl ?_
  refine wl_irem (x := (s 139 11) * 283 + 181) (y := 30307) ji_245_24 (by omega) (by omega) ?_
  refine cs_s (x := 11) (y := ((s 139 11) * 283 + 181) % 30307) C (by decide) sq_139 (by omega) (by omega) ji_245_25 (fun h st20 st21 C => ?_)
  obtain ⟨s3, es3⟩ : ∃ z9_, up s 139 11 (((s 139 11) * 283 + 181) % 30307) = z9_ := ⟨_, rfl⟩
  rw [es3] at C
  exact wl_rv ji_245_26 jr_245 (⟨rfl, cs_mono C (by rw [es3])⟩)
