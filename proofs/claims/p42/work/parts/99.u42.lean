/-! -/
/-! -/
set_option maxRecDepth 100000 in
theorem ji_219_84 : mj_ins 219 84 = some (.iload_n 2) := by decide +kernel
set_option maxRecDepth 100000 in
theorem ji_219_85 : mj_ins 219 85 = some (.iconst 5) := by decide +kernel
set_option maxRecDepth 100000 in
theorem ji_219_86 : mj_ins 219 86 = some (.if_icmp .ge 28) := by decide +kernel
set_option maxRecDepth 100000 in
theorem ji_219_89 : mj_ins 219 89 = some (.aload_n 0) := by decide +kernel
set_option maxRecDepth 100000 in
theorem ji_219_90 : mj_ins 219 90 = some (.getfield 7) := by decide +kernel
set_option maxRecDepth 100000 in
theorem ji_219_93 : mj_ins 219 93 = some (.iload_n 1) := by decide +kernel
set_option maxRecDepth 100000 in
theorem ji_219_94 : mj_ins 219 94 = some (.iconst 1) := by decide +kernel
set_option maxRecDepth 100000 in
theorem ji_219_95 : mj_ins 219 95 = some (.iadd) := by decide +kernel
set_option maxRecDepth 100000 in
theorem ji_219_96 : mj_ins 219 96 = some (.iload_n 2) := by decide +kernel
set_option maxRecDepth 100000 in
theorem ji_219_97 : mj_ins 219 97 = some (.iadd) := by decide +kernel
set_option maxRecDepth 100000 in
theorem ji_219_98 : mj_ins 219 98 = some (.aload_n 0) := by decide +kernel
set_option maxRecDepth 100000 in
theorem ji_219_99 : mj_ins 219 99 = some (.getfield 7) := by decide +kernel
set_option maxRecDepth 100000 in
theorem ji_219_102 : mj_ins 219 102 = some (.bipush 8) := by decide +kernel
set_option maxRecDepth 100000 in
theorem ji_219_104 : mj_ins 219 104 = some (.iload_n 2) := by decide +kernel
set_option maxRecDepth 100000 in
theorem ji_219_105 : mj_ins 219 105 = some (.iadd) := by decide +kernel
set_option maxRecDepth 100000 in
theorem ji_219_106 : mj_ins 219 106 = some (.iaload) := by decide +kernel
set_option maxRecDepth 100000 in
theorem ji_219_107 : mj_ins 219 107 = some (.iastore) := by decide +kernel
set_option maxRecDepth 100000 in
theorem ji_219_108 : mj_ins 219 108 = some (.iinc 2 1) := by decide +kernel
set_option maxRecDepth 100000 in
theorem ji_219_111 : mj_ins 219 111 = some (.goto (-27)) := by decide +kernel
set_option maxRecDepth 100000 in
theorem ji_219_116 : mj_ins 219 116 = some (.iload_n 2) := by decide +kernel
set_option maxRecDepth 100000 in
theorem ji_219_117 : mj_ins 219 117 = some (.bipush 8) := by decide +kernel
set_option maxRecDepth 100000 in
theorem ji_219_119 : mj_ins 219 119 = some (.if_icmp .ge 25) := by decide +kernel
set_option maxRecDepth 100000 in
theorem ji_219_122 : mj_ins 219 122 = some (.aload_n 0) := by decide +kernel
set_option maxRecDepth 100000 in
theorem ji_219_123 : mj_ins 219 123 = some (.getfield 7) := by decide +kernel
set_option maxRecDepth 100000 in
theorem ji_219_126 : mj_ins 219 126 = some (.iload_n 1) := by decide +kernel
set_option maxRecDepth 100000 in
theorem ji_219_127 : mj_ins 219 127 = some (.bipush 6) := by decide +kernel
set_option maxRecDepth 100000 in
theorem ji_219_129 : mj_ins 219 129 = some (.iadd) := by decide +kernel
set_option maxRecDepth 100000 in
theorem ji_219_130 : mj_ins 219 130 = some (.iload_n 2) := by decide +kernel
set_option maxRecDepth 100000 in
theorem ji_219_131 : mj_ins 219 131 = some (.iadd) := by decide +kernel
set_option maxRecDepth 100000 in
theorem ji_219_132 : mj_ins 219 132 = some (.aload_n 0) := by decide +kernel
set_option maxRecDepth 100000 in
theorem ji_219_133 : mj_ins 219 133 = some (.iload_n 2) := by decide +kernel
set_option maxRecDepth 100000 in
theorem ji_219_134 : mj_ins 219 134 = some (.invokevirtual 289) := by decide +kernel
set_option maxRecDepth 100000 in
theorem jc_219_289 : mj_cal 219 289 = some (2, 220, 1) := by decide +kernel
set_option maxRecDepth 100000 in
theorem ji_219_137 : mj_ins 219 137 = some (.iastore) := by decide +kernel
set_option maxRecDepth 100000 in
theorem ji_219_138 : mj_ins 219 138 = some (.iinc 2 1) := by decide +kernel
set_option maxRecDepth 100000 in
theorem ji_219_141 : mj_ins 219 141 = some (.goto (-25)) := by decide +kernel
set_option maxRecDepth 100000 in
theorem ji_219_146 : mj_ins 219 146 = some (.iload_n 2) := by decide +kernel
set_option maxRecDepth 100000 in
theorem ji_219_147 : mj_ins 219 147 = some (.bipush 96) := by decide +kernel
set_option maxRecDepth 100000 in
theorem ji_219_149 : mj_ins 219 149 = some (.if_icmp .ge 29) := by decide +kernel
set_option maxRecDepth 100000 in
theorem ji_219_152 : mj_ins 219 152 = some (.aload_n 0) := by decide +kernel
set_option maxRecDepth 100000 in
theorem ji_219_153 : mj_ins 219 153 = some (.getfield 7) := by decide +kernel
set_option maxRecDepth 100000 in
theorem ji_219_156 : mj_ins 219 156 = some (.iload_n 1) := by decide +kernel
set_option maxRecDepth 100000 in
theorem ji_219_157 : mj_ins 219 157 = some (.bipush 14) := by decide +kernel
set_option maxRecDepth 100000 in
theorem ji_219_159 : mj_ins 219 159 = some (.iadd) := by decide +kernel
set_option maxRecDepth 100000 in
theorem ji_219_160 : mj_ins 219 160 = some (.iload_n 2) := by decide +kernel
set_option maxRecDepth 100000 in
theorem ji_219_161 : mj_ins 219 161 = some (.iadd) := by decide +kernel
set_option maxRecDepth 100000 in
theorem ji_219_162 : mj_ins 219 162 = some (.aload_n 0) := by decide +kernel
set_option maxRecDepth 100000 in
theorem ji_219_163 : mj_ins 219 163 = some (.getfield 7) := by decide +kernel
set_option maxRecDepth 100000 in
theorem ji_219_166 : mj_ins 219 166 = some (.bipush 52) := by decide +kernel
set_option maxRecDepth 100000 in
theorem ji_219_168 : mj_ins 219 168 = some (.iload_n 2) := by decide +kernel
set_option maxRecDepth 100000 in
theorem ji_219_169 : mj_ins 219 169 = some (.iadd) := by decide +kernel
set_option maxRecDepth 100000 in
theorem ji_219_170 : mj_ins 219 170 = some (.iaload) := by decide +kernel
set_option maxRecDepth 100000 in
theorem ji_219_171 : mj_ins 219 171 = some (.iastore) := by decide +kernel
set_option maxRecDepth 100000 in
theorem ji_219_172 : mj_ins 219 172 = some (.iinc 2 1) := by decide +kernel
set_option maxRecDepth 100000 in
theorem ji_219_175 : mj_ins 219 175 = some (.goto (-29)) := by decide +kernel
/-! the reference's keep: a row written; laid by program (wp_u42.py) -/
/-- what a row of steps keeps -/
def rowv (s : sg_) (k : Int) : Int := if k = 0 then s 139 0 else if k < 6 then s 139 (7 + k) else if k < 14 then s 139 (16 + 3 * (k - 6)) else s 139 (38 + k)
def rwR (s : sg_) (a m : Int) : sg_ := fun b j => if b = 139 ∧ a ≤ j ∧ j < a + m then rowv s (j - a) else s b j
theorem rwR_s {s : sg_} {a m : Int} (hm : 0 ≤ m) : up (rwR s a m) 139 (a + m) (rowv s m) = rwR s a (m + 1) := by
  funext b j
  unfold up rwR
  by_cases h1 : b = 139 ∧ j = a + m
  · obtain ⟨rfl, rfl⟩ := h1
    rw [if_pos ⟨rfl, rfl⟩, if_pos ⟨rfl, by omega, by omega⟩, show a + m - a = m by omega]
  · rw [if_neg h1]
    by_cases h2 : b = 139 ∧ a ≤ j ∧ j < a + m
    · rw [if_pos h2, if_pos ⟨h2.1, h2.2.1, by omega⟩]
    · rw [if_neg h2, if_neg (fun z => h2 ⟨z.1, z.2.1, by by_cases e : j = a + m; exact absurd ⟨z.1, e⟩ h1; omega⟩)]
theorem rwR_l {s : sg_} {a m j : Int} (h : j < a) : rwR s a m 139 j = s 139 j := if_neg (by omega)
theorem uc_219b {d : Nat} {s : sg_} {Q : Option Value → mj_H → Prop} {a : Int} (ha : 184 ≤ a ∧ a ≤ 3374) : ∀ (nn : Nat) (i : Int) (h : mj_H), (0 ≤ i ∧ i ≤ 5) → CS h (rwR s a (1 + i)) → (∀ (nn : Nat) (h : mj_H), CS h (rwR s a 6) → ∀ i : Int, wl_R nn (d + 1) 219 114 [some (.ref 138), some (wp_i a), some (wp_i i)] [] h Q) → wl_R nn (d + 1) 219 84 [some (.ref 138), some (wp_i a), some (wp_i i)] [] h Q := by
  intro nn
  induction nn with
  | zero => intros; exact wl_0
  | succ nn ih =>
    intro i h hi C hk
    obtain ⟨t, et⟩ : ∃ t, rwR s a (1 + i) = t := ⟨_, rfl⟩
    rw [et] at C
    have t2 : i < 5 → t 139 (8 + i) = s 139 (8 + i) := fun q => by rw [← et, rwR_l (by omega)]
    by_cases hil : i < 5
    · have t2 := t2 hil
      have erv : rowv s (1 + i) = s 139 (8 + i) := by unfold rowv; rw [if_neg (by omega), if_pos (by omega), show 7 + (1 + i) = 8 + i by omega]
      refine wl_s1 (pc' := 85) ji_219_84 rfl rfl rfl ?_
      refine wl_s (pc' := 86) ji_219_85 rfl rfl rfl ?_
      refine wl_icmp (t := 114) ji_219_86 rfl (by omega) (by omega) (fun (hb1 : (5 : Int) ≤ i) => (by exfalso; omega)) (fun (hb1 : ¬ ((5 : Int) ≤ i)) => ?_)
      refine wl_s (pc' := 90) ji_219_89 rfl rfl rfl ?_
      refine cs_gr (r := 139) (k := 0) C (by decide) sq_138 rfl ji_219_90 jf_219_7 ?_
      refine wl_s (pc' := 94) ji_219_93 rfl rfl rfl ?_
      refine wl_s (pc' := 95) ji_219_94 rfl rfl rfl ?_
      refine wl_iadd (x := a) (y := 1) (z := a + 1) ji_219_95 (by omega) ?_
      refine wl_s (pc' := 97) ji_219_96 rfl rfl rfl ?_
      refine wl_iadd (x := a + 1) (y := i) (z := a + 1 + i) ji_219_97 (by omega) ?_
      refine wl_s (pc' := 99) ji_219_98 rfl rfl rfl ?_
      refine cs_gr (r := 139) (k := 0) C (by decide) sq_138 rfl ji_219_99 jf_219_7 ?_
      refine wl_bp ji_219_102 rfl ?_
      refine wl_s (pc' := 105) ji_219_104 rfl rfl rfl ?_
      refine wl_iadd (x := 8) (y := i) (z := 8 + i) ji_219_105 (by omega) ?_
      refine cs_l (x := 8 + i) C (by decide) (by decide) sq_139 (by omega) ji_219_106 (fun ld20 ld21 ld22 => ?_)
      rw [t2] at ld22 ⊢
      refine cs_s (x := a + 1 + i) (y := s 139 (8 + i)) C (by decide) sq_139 (by omega) (by omega) ji_219_107 (fun h st30 st31 C => ?_)
      obtain ⟨s4, es4⟩ : ∃ z9_, up t 139 (a + 1 + i) (s 139 (8 + i)) = z9_ := ⟨_, rfl⟩
      rw [es4] at C
      refine wl_iinc (x := i) (z := i + 1) (lv' := [some (.ref 138), some (wp_i a), some (wp_i (i + 1))]) ji_219_108 rfl (Nat.le_of_ble_eq_true rfl) (by omega) rfl ?_
      refine wl_goto (t := 84) ji_219_111 rfl ?_
      exact ih (i + 1) _ (by omega) (cs_mono C (by rw [← es4, ← et, show a + 1 + i = a + (1 + i) by omega, ← erv, rwR_s (by omega), show 1 + i + 1 = 1 + (i + 1) by omega])) hk
    · skip
      refine wl_s1 (pc' := 85) ji_219_84 rfl rfl rfl ?_
      refine wl_s (pc' := 86) ji_219_85 rfl rfl rfl ?_
      refine wl_icmp (t := 114) ji_219_86 rfl (by omega) (by omega) (fun (hb1 : (5 : Int) ≤ i) => ?_) (fun (hb1 : ¬ ((5 : Int) ≤ i)) => (by exfalso; omega))
      exact hk _ _ (cs_mono C (by rw [← et, show i = 5 by omega]; rfl)) i
theorem uc_219c {d : Nat} {s : sg_} {Q : Option Value → mj_H → Prop} {a : Int} (ha : 184 ≤ a ∧ a ≤ 3374) : ∀ (nn : Nat) (i : Int) (h : mj_H), (0 ≤ i ∧ i ≤ 8) → CS h (rwR s a (6 + i)) → (∀ (nn : Nat) (h : mj_H), CS h (rwR s a 14) → ∀ i : Int, wl_R nn (d + 1) 219 144 [some (.ref 138), some (wp_i a), some (wp_i i)] [] h Q) → wl_R nn (d + 1) 219 116 [some (.ref 138), some (wp_i a), some (wp_i i)] [] h Q := by
  intro nn
  induction nn with
  | zero => intros; exact wl_0
  | succ nn ih =>
    intro i h hi C hk
    obtain ⟨t, et⟩ : ∃ t, rwR s a (6 + i) = t := ⟨_, rfl⟩
    rw [et] at C
    have t2 : i < 8 → t 139 (16 + 3 * i) = s 139 (16 + 3 * i) := fun q => by rw [← et, rwR_l (by omega)]
    by_cases hil : i < 8
    · have t2 := t2 hil
      have erv : rowv s (6 + i) = s 139 (16 + 3 * i) := by unfold rowv; rw [if_neg (by omega), if_neg (by omega), if_pos (by omega), show 6 + i - 6 = i by omega]
      refine wl_s1 (pc' := 117) ji_219_116 rfl rfl rfl ?_
      refine wl_bp ji_219_117 rfl ?_
      refine wl_icmp (t := 144) ji_219_119 rfl (by omega) (by omega) (fun (hb1 : (8 : Int) ≤ i) => (by exfalso; omega)) (fun (hb1 : ¬ ((8 : Int) ≤ i)) => ?_)
      refine wl_s (pc' := 123) ji_219_122 rfl rfl rfl ?_
      refine cs_gr (r := 139) (k := 0) C (by decide) sq_138 rfl ji_219_123 jf_219_7 ?_
      refine wl_s (pc' := 127) ji_219_126 rfl rfl rfl ?_
      refine wl_bp ji_219_127 rfl ?_
      refine wl_iadd (x := a) (y := 6) (z := a + 6) ji_219_129 (by omega) ?_
      refine wl_s (pc' := 131) ji_219_130 rfl rfl rfl ?_
      refine wl_iadd (x := a + 6) (y := i) (z := a + 6 + i) ji_219_131 (by omega) ?_
      refine wl_s (pc' := 133) ji_219_132 rfl rfl rfl ?_
      refine wl_s (pc' := 134) ji_219_133 rfl rfl rfl ?_
      obtain ⟨q3, hq3⟩ := cs_c C (by decide) sq_138
      refine wl_vc (d := d) (as := [.ref 138, wp_i i]) (rest := [wp_i (a + 6 + i), .ref 139]) ji_219_134 jc_219_289 rfl hq3 jk_220.symm (Nat.le_of_ble_eq_true rfl) rfl (by rw [jn_220]; rfl) (uc_220 (d := d) C (p := i) (by omega)) (fun v1 h2 R => ?_)
      obtain ⟨ee, rfl⟩ := R
      rw [ee]
      clear ee
      show wl_R _ _ 219 137 [some (.ref 138), some (wp_i a), some (wp_i i)] [wp_i (t 139 (16 + 3 * i)), wp_i (a + 6 + i), .ref 139] _ _
      rw [t2]
      have rv := cs_ri (k := (16 + 3 * i).toNat) C (kI := 16 + 3 * i) (by decide) (by decide) sq_139 (by omega) rfl (by show _ < 0 + 6044; omega)
      rw [t2] at rv
      refine cs_s (x := a + 6 + i) (y := s 139 (16 + 3 * i)) C (by decide) sq_139 (by omega) (by omega) ji_219_137 (fun h st40 st41 C => ?_)
      obtain ⟨s5, es5⟩ : ∃ z9_, up t 139 (a + 6 + i) (s 139 (16 + 3 * i)) = z9_ := ⟨_, rfl⟩
      rw [es5] at C
      refine wl_iinc (x := i) (z := i + 1) (lv' := [some (.ref 138), some (wp_i a), some (wp_i (i + 1))]) ji_219_138 rfl (Nat.le_of_ble_eq_true rfl) (by omega) rfl ?_
      refine wl_goto (t := 116) ji_219_141 rfl ?_
      exact ih (i + 1) _ (by omega) (cs_mono C (by rw [← es5, ← et, show a + 6 + i = a + (6 + i) by omega, ← erv, rwR_s (by omega), show 6 + i + 1 = 6 + (i + 1) by omega])) hk
    · skip
      refine wl_s1 (pc' := 117) ji_219_116 rfl rfl rfl ?_
      refine wl_bp ji_219_117 rfl ?_
      refine wl_icmp (t := 144) ji_219_119 rfl (by omega) (by omega) (fun (hb1 : (8 : Int) ≤ i) => ?_) (fun (hb1 : ¬ ((8 : Int) ≤ i)) => (by exfalso; omega))
      exact hk _ _ (cs_mono C (by rw [← et, show i = 8 by omega]; rfl)) i
theorem uc_219d {d : Nat} {s : sg_} {Q : Option Value → mj_H → Prop} {a : Int} (ha : 184 ≤ a ∧ a ≤ 3374) : ∀ (nn : Nat) (i : Int) (h : mj_H), (0 ≤ i ∧ i ≤ 96) → CS h (rwR s a (14 + i)) → (∀ (nn : Nat) (h : mj_H), CS h (rwR s a 110) → ∀ i : Int, wl_R nn (d + 1) 219 178 [some (.ref 138), some (wp_i a), some (wp_i i)] [] h Q) → wl_R nn (d + 1) 219 146 [some (.ref 138), some (wp_i a), some (wp_i i)] [] h Q := by
  intro nn
  induction nn with
  | zero => intros; exact wl_0
  | succ nn ih =>
    intro i h hi C hk
    obtain ⟨t, et⟩ : ∃ t, rwR s a (14 + i) = t := ⟨_, rfl⟩
    rw [et] at C
    have t2 : i < 96 → t 139 (52 + i) = s 139 (52 + i) := fun q => by rw [← et, rwR_l (by omega)]
    by_cases hil : i < 96
    · have t2 := t2 hil
      have erv : rowv s (14 + i) = s 139 (52 + i) := by unfold rowv; rw [if_neg (by omega), if_neg (by omega), if_neg (by omega), show 38 + (14 + i) = 52 + i by omega]
      refine wl_s1 (pc' := 147) ji_219_146 rfl rfl rfl ?_
      refine wl_bp ji_219_147 rfl ?_
      refine wl_icmp (t := 178) ji_219_149 rfl (by omega) (by omega) (fun (hb1 : (96 : Int) ≤ i) => (by exfalso; omega)) (fun (hb1 : ¬ ((96 : Int) ≤ i)) => ?_)
      refine wl_s (pc' := 153) ji_219_152 rfl rfl rfl ?_
      refine cs_gr (r := 139) (k := 0) C (by decide) sq_138 rfl ji_219_153 jf_219_7 ?_
      refine wl_s (pc' := 157) ji_219_156 rfl rfl rfl ?_
      refine wl_bp ji_219_157 rfl ?_
      refine wl_iadd (x := a) (y := 14) (z := a + 14) ji_219_159 (by omega) ?_
      refine wl_s (pc' := 161) ji_219_160 rfl rfl rfl ?_
      refine wl_iadd (x := a + 14) (y := i) (z := a + 14 + i) ji_219_161 (by omega) ?_
      refine wl_s (pc' := 163) ji_219_162 rfl rfl rfl ?_
      refine cs_gr (r := 139) (k := 0) C (by decide) sq_138 rfl ji_219_163 jf_219_7 ?_
      refine wl_bp ji_219_166 rfl ?_
      refine wl_s (pc' := 169) ji_219_168 rfl rfl rfl ?_
      refine wl_iadd (x := 52) (y := i) (z := 52 + i) ji_219_169 (by omega) ?_
      refine cs_l (x := 52 + i) C (by decide) (by decide) sq_139 (by omega) ji_219_170 (fun ld20 ld21 ld22 => ?_)
      rw [t2] at ld22 ⊢
      refine cs_s (x := a + 14 + i) (y := s 139 (52 + i)) C (by decide) sq_139 (by omega) (by omega) ji_219_171 (fun h st30 st31 C => ?_)
      obtain ⟨s4, es4⟩ : ∃ z9_, up t 139 (a + 14 + i) (s 139 (52 + i)) = z9_ := ⟨_, rfl⟩
      rw [es4] at C
      refine wl_iinc (x := i) (z := i + 1) (lv' := [some (.ref 138), some (wp_i a), some (wp_i (i + 1))]) ji_219_172 rfl (Nat.le_of_ble_eq_true rfl) (by omega) rfl ?_
      refine wl_goto (t := 146) ji_219_175 rfl ?_
      exact ih (i + 1) _ (by omega) (cs_mono C (by rw [← es4, ← et, show a + 14 + i = a + (14 + i) by omega, ← erv, rwR_s (by omega), show 14 + i + 1 = 14 + (i + 1) by omega])) hk
    · skip
      refine wl_s1 (pc' := 147) ji_219_146 rfl rfl rfl ?_
      refine wl_bp ji_219_147 rfl ?_
      refine wl_icmp (t := 178) ji_219_149 rfl (by omega) (by omega) (fun (hb1 : (96 : Int) ≤ i) => ?_) (fun (hb1 : ¬ ((96 : Int) ≤ i)) => (by exfalso; omega))
      exact hk _ _ (cs_mono C (by rw [← et, show i = 96 by omega]; rfl)) i
