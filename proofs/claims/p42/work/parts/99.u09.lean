/-! -/
/-! -/
set_option maxRecDepth 100000 in
theorem ji_64_0 : mj_ins 64 0 = some (.aload_n 0) := by decide +kernel
set_option maxRecDepth 100000 in
theorem ji_64_1 : mj_ins 64 1 = some (.iload_n 1) := by decide +kernel
set_option maxRecDepth 100000 in
theorem ji_64_2 : mj_ins 64 2 = some (.invokevirtual 42) := by decide +kernel
set_option maxRecDepth 100000 in
theorem jc_64_42 : mj_cal 64 42 = some (2, 32, 1) := by decide +kernel
set_option maxRecDepth 100000 in
theorem ji_64_5 : mj_ins 64 5 = some (.ifCond .ne 12) := by decide +kernel
set_option maxRecDepth 100000 in
theorem ji_64_8 : mj_ins 64 8 = some (.aload_n 2) := by decide +kernel
set_option maxRecDepth 100000 in
theorem ji_64_9 : mj_ins 64 9 = some (.iload_n 1) := by decide +kernel
set_option maxRecDepth 100000 in
theorem ji_64_10 : mj_ins 64 10 = some (.iload_n 3) := by decide +kernel
set_option maxRecDepth 100000 in
theorem ji_64_11 : mj_ins 64 11 = some (.iload 4) := by decide +kernel
set_option maxRecDepth 100000 in
theorem ji_64_13 : mj_ins 64 13 = some (.invokevirtual 46) := by decide +kernel
set_option maxRecDepth 100000 in
theorem jc_64_46 : mj_cal 64 46 = some (2, 65, 3) := by decide +kernel
set_option maxRecDepth 100000 in
theorem jn_65 : mj_nl 65 = 4 := by decide +kernel
set_option maxRecDepth 100000 in
theorem jk_65 : mj_cls 65 = 3 := by decide +kernel
set_option maxRecDepth 100000 in
theorem ji_64_16 : mj_ins 64 16 = some (.ireturn) := by decide +kernel
set_option maxRecDepth 100000 in
theorem ji_64_17 : mj_ins 64 17 = some (.iconst 0) := by decide +kernel
set_option maxRecDepth 100000 in
theorem ji_64_18 : mj_ins 64 18 = some (.istore 5) := by decide +kernel
set_option maxRecDepth 100000 in
theorem ji_64_20 : mj_ins 64 20 = some (.aload_n 0) := by decide +kernel
set_option maxRecDepth 100000 in
theorem ji_64_21 : mj_ins 64 21 = some (.getfield 21) := by decide +kernel
set_option maxRecDepth 100000 in
theorem jf_64_21 : mj_fld 64 21 = some (1, 2, (.array .int), false) := by decide +kernel
set_option maxRecDepth 100000 in
theorem ji_64_24 : mj_ins 64 24 = some (.iload_n 1) := by decide +kernel
set_option maxRecDepth 100000 in
theorem ji_64_25 : mj_ins 64 25 = some (.iaload) := by decide +kernel
set_option maxRecDepth 100000 in
theorem ji_64_26 : mj_ins 64 26 = some (.istore 6) := by decide +kernel
/-! says, in the class, whole; laid by program (wp_u9.py) -/
def loC (l : Int) : Int := if l = 0 then -99 else 0
def hiC (l : Int) : Int := if l = 0 then 99 else if l = 1 then 100 else 1
/-- a text's laws: none where it has none -/
abbrev cds : Type := Int → Option (List Int)
def sayC (cd : cds) (s : sg_) (F : Nat) (p w l : Int) : Int := match cd l with
  | none => csC s F p w l
  | some L => max (loC l) (min (hiC l) (((evC (nmC s F p w) L []).getD []).headD 0))
def codeC (L : List Int) : Prop := (∀ it ∈ L, itm it) ∧ ∀ N, ∃ st, evC N L [] = some st
def TXl (s : sg_) (T : Nat) (l : Int) : Option (List Int) → Prop
  | none => s (T + 2) l = -1
  | some L => (0 ≤ s (T + 2) l ∧ s (T + 2) l + (L.length : Int) = s (T + 3) l ∧ s (T + 3) l ≤ 300) ∧ (∀ k : Nat, k < L.length → L[k]? = some (s (T + 1) (s (T + 2) l + k))) ∧ codeC L
/-- the text at T has these laws -/
def TXC (s : sg_) (T : Nat) (cd : cds) : Prop := ∀ l, 0 ≤ l → l < 3 → TXl s T l (cd l)
/-- the bounds of what laws say -/
def SC (s : sg_) : Prop := (s 6 0 = -99 ∧ s 6 1 = 0 ∧ s 6 2 = 0) ∧ s 7 0 = 99 ∧ s 7 1 = 100 ∧ s 7 2 = 1
theorem SC_l {s : sg_} (H : SC s) {l : Int} (hl : 0 ≤ l ∧ l < 3) : s 6 l = loC l ∧ s 7 l = hiC l := by
  obtain ⟨⟨a0, a1, a2⟩, b0, b1, b2⟩ := H
  have : l = 0 ∨ l = 1 ∨ l = 2 := by omega
  rcases this with rfl | rfl | rfl
  · exact ⟨a0, b0⟩
  · exact ⟨a1, b1⟩
  · exact ⟨a2, b2⟩
theorem csC_f {s s1 : sg_} {F : Nat} (e : ∀ (b : Nat) (j : Int), F ≤ b → b ≤ F + 7 → s1 b j = s b j) (p w l : Int) : csC s1 F p w l = csC s F p w l := by
  have e0 : ∀ j, s1 F j = s F j := fun j => e F j (by omega) (by omega)
  have e4 : ∀ j, s1 (F + 4) j = s (F + 4) j := fun j => e _ j (by omega) (by omega)
  have e6 : ∀ j, s1 (F + 6) j = s (F + 6) j := fun j => e _ j (by omega) (by omega)
  unfold csC
  simp only [e0, e4, e6]
theorem sayC_f {s s1 : sg_} (f : off s1 s) {F : Nat} (hF : isF F) (cd : cds) (p w l : Int) : sayC cd s1 F p w l = sayC cd s F p w l := by
  have e : nmC s1 F p w = nmC s F p w := funext (nmC_f f hF p w)
  unfold sayC
  rw [e, csC_f (fun b j h1 _ => f b j (by have := isF_b hF; omega))]
theorem TXC_f {s s1 : sg_} {T : Nat} (e : ∀ (b : Nat) (j : Int), T + 1 ≤ b → b ≤ T + 3 → s1 b j = s b j) {cd : cds} (H : TXC s T cd) : TXC s1 T cd := by
  intro l l0 l3
  have := H l l0 l3
  have e1 : ∀ j, s1 (T + 1) j = s (T + 1) j := fun j => e _ j (by omega) (by omega)
  have e2 : ∀ j, s1 (T + 2) j = s (T + 2) j := fun j => e _ j (by omega) (by omega)
  have e3 : ∀ j, s1 (T + 3) j = s (T + 3) j := fun j => e _ j (by omega) (by omega)
  revert this
  cases cd l with
  | none =>
    unfold TXl
    rw [e2]
    exact fun z => z
  | some L =>
    unfold TXl
    simp only [e1, e2, e3]
    exact fun z => z
theorem uc_64r {nn d : Nat} {h : mj_H} {s : sg_} (C : CS0 h s) {T : Nat} (hT : isT T) {F : Nat} (hF : isF F) (I : IF s F) {cd : cds} (H : TXC s T cd) (H2 : SC s) {l p w : Int} (hl : 0 ≤ l ∧ l < 3) (hp : 0 ≤ p ∧ p < 8) (hw : 0 ≤ w ∧ w < 6) : wl_R nn (d + 2) 64 0 [some (.ref T), some (wp_i l), some (.ref F), some (wp_i p), some (wp_i w), none, none, none] [] h (fun v1 h1 => v1 = some (wp_i (sayC cd s F p w l)) ∧ CS h1 s) := by
  have hS := SC_l H2 hl
  have t := H l hl.1 hl.2
  cases hc : cd l with
  | none =>
    rw [hc] at t
    have t : s (T + 2) l = -1 := t
    refine wl_s (pc' := 1) ji_64_0 rfl rfl rfl ?_
    refine wl_s (pc' := 2) ji_64_1 rfl rfl rfl ?_
    obtain ⟨q2, hq2⟩ := c0_c C (Nat.lt_of_lt_of_le (by decide) hT.1) hT.2.1
    refine wl_vc (d := d + 1) (as := [.ref T, wp_i l]) (rest := []) ji_64_2 jc_64_42 rfl hq2 jk_32.symm (Nat.le_of_ble_eq_true rfl) rfl (by rw [jn_32]; rfl) (uc_32 (d := d + 1) C hT hl) (fun v1 h1 R => ?_)
    obtain ⟨ee, y3, rfl, hy3a, hy3b⟩ := R
    rw [ee]
    clear ee
    show wl_R _ _ 64 5 [some (.ref T), some (wp_i l), some (.ref F), some (wp_i p), some (wp_i w), none, none, none] [wp_i y3] _ _
    refine wl_if (t := 17) ji_64_5 rfl (by omega) (fun (hb4 : ¬ (y3 : Int) = 0) => (by exfalso; omega)) (fun (hb4 : ¬ (¬ (y3 : Int) = 0)) => ?_)
    refine wl_s (pc' := 9) ji_64_8 rfl rfl rfl ?_
    refine wl_s (pc' := 10) ji_64_9 rfl rfl rfl ?_
    refine wl_s (pc' := 11) ji_64_10 rfl rfl rfl ?_
    refine wl_s (pc' := 13) ji_64_11 rfl rfl rfl ?_
    obtain ⟨q6, hq6⟩ := c0_c C (Nat.lt_of_lt_of_le (by decide) hF.1) hF.2.1
    refine wl_vc (d := d + 1) (as := [.ref F, wp_i l, wp_i p, wp_i w]) (rest := []) ji_64_13 jc_64_46 rfl hq6 jk_65.symm (Nat.le_of_ble_eq_true rfl) rfl (by rw [jn_65]; rfl) (uc_65 (d := d + 1) (cs_of C) hF I (by omega) hp hw) (fun v1 h5 R => ?_)
    obtain ⟨ee, rfl⟩ := R
    rw [ee]
    clear ee
    show wl_R _ _ 64 16 [some (.ref T), some (wp_i l), some (.ref F), some (wp_i p), some (wp_i w), none, none, none] [wp_i (csC s F p w l)] _ _
    exact wl_ri ji_64_16 jr_64 rfl (⟨by unfold sayC; rw [hc], cs_of C⟩)
  | some L =>
    rw [hc] at t
    obtain ⟨t1, t2, t3⟩ : (0 ≤ s (T + 2) l ∧ s (T + 2) l + (L.length : Int) = s (T + 3) l ∧ s (T + 3) l ≤ 300) ∧ (∀ k : Nat, k < L.length → L[k]? = some (s (T + 1) (s (T + 2) l + k))) ∧ codeC L := t
    obtain ⟨st3, e9⟩ := t3.2 (nmC s F p w)
    refine wl_s (pc' := 1) ji_64_0 rfl rfl rfl ?_
    refine wl_s (pc' := 2) ji_64_1 rfl rfl rfl ?_
    obtain ⟨q2, hq2⟩ := c0_c C (Nat.lt_of_lt_of_le (by decide) hT.1) hT.2.1
    refine wl_vc (d := d + 1) (as := [.ref T, wp_i l]) (rest := []) ji_64_2 jc_64_42 rfl hq2 jk_32.symm (Nat.le_of_ble_eq_true rfl) rfl (by rw [jn_32]; rfl) (uc_32 (d := d + 1) C hT hl) (fun v1 h1 R => ?_)
    obtain ⟨ee, y3, rfl, hy3a, hy3b⟩ := R
    rw [ee]
    clear ee
    show wl_R _ _ 64 5 [some (.ref T), some (wp_i l), some (.ref F), some (wp_i p), some (wp_i w), none, none, none] [wp_i y3] _ _
    refine wl_if (t := 17) ji_64_5 rfl (by omega) (fun (hb4 : ¬ (y3 : Int) = 0) => ?_) (fun (hb4 : ¬ (¬ (y3 : Int) = 0)) => (by exfalso; omega))
    refine wl_s (pc' := 18) ji_64_17 rfl rfl rfl ?_
    refine wl_s (pc' := 20) (lv' := [some (.ref T), some (wp_i l), some (.ref F), some (wp_i p), some (wp_i w), some (wp_i 0), none, none]) ji_64_18 rfl rfl rfl ?_
    refine wl_s (pc' := 21) ji_64_20 rfl rfl rfl ?_
    refine c0_gr (r := T + 2) (k := 2) C (Nat.lt_of_lt_of_le (by decide) hT.1) hT.2.1 rfl ji_64_21 jf_64_21 ?_
    refine wl_s (pc' := 25) ji_64_24 rfl rfl rfl ?_
    refine c0_l (x := l) C (Nat.lt_of_lt_of_le (by decide) (Nat.le_trans hT.1 (Nat.le_add_right _ _))) hT.2.2.2.1 (by omega) ji_64_25 (fun ld50 ld51 ld52 => ?_)
    refine wl_s (pc' := 28) (lv' := [some (.ref T), some (wp_i l), some (.ref F), some (wp_i p), some (wp_i w), some (wp_i 0), some (wp_i (s (T + 2) l)), none]) ji_64_26 rfl rfl rfl ?_
    refine wl_mono (uc_64l hT hF I hl hp hw rfl nn L [] s _ _ none C (fun _ _ _ => rfl) trivial (by decide) t2 t3.1 e9 ⟨by omega, by omega, by omega⟩) (fun v1 h1 R => ?_)
    obtain ⟨R1, s1, C1, f1⟩ := R
    refine ⟨?_, cs_off C1 f1⟩
    rw [R1]; unfold sayC; rw [hc, hS.1, hS.2]; dsimp only; rw [e9]; rfl
theorem uc_64 {nn d : Nat} {h : mj_H} {s : sg_} (C : CS h s) {T : Nat} (hT : isT T) {F : Nat} (hF : isF F) (I : IF s F) {cd : cds} (H : TXC s T cd) (H2 : SC s) {l p w : Int} (hl : 0 ≤ l ∧ l < 3) (hp : 0 ≤ p ∧ p < 8) (hw : 0 ≤ w ∧ w < 6) : wl_R nn (d + 2) 64 0 [some (.ref T), some (wp_i l), some (.ref F), some (wp_i p), some (wp_i w), none, none, none] [] h (fun v1 h1 => v1 = some (wp_i (sayC cd s F p w l)) ∧ CS h1 s) := by
  obtain ⟨s1, C1, f⟩ := C
  have f6 : ∀ j, s1 6 j = s 6 j := fun j => f 6 j (by decide)
  have f7 : ∀ j, s1 7 j = s 7 j := fun j => f 7 j (by decide)
  have H3 : SC s1 := by
    unfold SC at H2 ⊢
    simp only [f6, f7]
    exact H2
  refine wl_mono (uc_64r C1 hT hF (IF_off hF f I) (TXC_f (fun b j h1 h2 => f b j (by have := isT_b hT; omega)) H) H3 hl hp hw) (fun v1 h1 R => ?_)
  obtain ⟨R1, s2, C2, f2⟩ := R
  exact ⟨by rw [R1, sayC_f f hF], s2, C2, fun b j hb => (f2 b j hb).trans (f b j hb)⟩
theorem sayC_r {s : sg_} {F : Nat} (I : IF s F) (cd : cds) {p w l : Int} (hl : 0 ≤ l ∧ l < 3) (hp : 0 ≤ p ∧ p < 8) (hw : 0 ≤ w ∧ w < 6) : (l = 0 → -99 ≤ sayC cd s F p w l ∧ sayC cd s F p w l ≤ 99) ∧ (l = 1 → 0 ≤ sayC cd s F p w l ∧ sayC cd s F p w l ≤ 100) ∧ (l = 2 → 0 ≤ sayC cd s F p w l ∧ sayC cd s F p w l ≤ 1) := by
  have h9 := I.2.2.2.2.2.2.1
  have h4 := I.2.2.2.1 w hw.1 hw.2
  unfold sayC
  cases cd l with
  | none =>
    unfold csC
    dsimp only
    refine ⟨fun e => ?_, fun e => ?_, fun e => ?_⟩
    · rw [if_pos e]; omega
    · rw [if_neg (by omega), if_pos e]; omega
    · rw [if_neg (by omega), if_neg (by omega)]; split <;> omega
  | some L =>
    dsimp only
    refine ⟨fun e => ?_, fun e => ?_, fun e => ?_⟩ <;> (subst e; simp [loC, hiC]; try omega)
