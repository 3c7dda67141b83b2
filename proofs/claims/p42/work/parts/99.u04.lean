/-! -/
/-! -/
set_option maxRecDepth 100000 in
theorem ji_68_0 : mj_ins 68 0 = some (.iload_n 1) := by decide +kernel
set_option maxRecDepth 100000 in
theorem ji_68_1 : mj_ins 68 1 = some (.tableswitch 179 4 24 #[109, 179, 179, 179, 179, 99, 179, 179, 179, 179, 179, 179, 179, 104, 111, 118, 125, 137, 149, 158, 165]) := by decide +kernel
set_option maxRecDepth 100000 in
theorem ji_68_100 : mj_ins 68 100 = some (.aload_n 0) := by decide +kernel
set_option maxRecDepth 100000 in
theorem ji_68_101 : mj_ins 68 101 = some (.getfield 43) := by decide +kernel
set_option maxRecDepth 100000 in
theorem jf_68_43 : mj_fld 68 43 = some (3, 10, .int, true) := by decide +kernel
set_option maxRecDepth 100000 in
theorem ji_68_104 : mj_ins 68 104 = some (.ireturn) := by decide +kernel
set_option maxRecDepth 100000 in
theorem jr_68 : mj_ret 68 = some .int := by decide +kernel
set_option maxRecDepth 100000 in
theorem ji_68_105 : mj_ins 68 105 = some (.aload_n 0) := by decide +kernel
set_option maxRecDepth 100000 in
theorem ji_68_106 : mj_ins 68 106 = some (.getfield 40) := by decide +kernel
set_option maxRecDepth 100000 in
theorem jf_68_40 : mj_fld 68 40 = some (3, 9, .int, true) := by decide +kernel
set_option maxRecDepth 100000 in
theorem ji_68_109 : mj_ins 68 109 = some (.ireturn) := by decide +kernel
set_option maxRecDepth 100000 in
theorem ji_68_110 : mj_ins 68 110 = some (.iload_n 3) := by decide +kernel
set_option maxRecDepth 100000 in
theorem ji_68_111 : mj_ins 68 111 = some (.ireturn) := by decide +kernel
set_option maxRecDepth 100000 in
theorem ji_68_112 : mj_ins 68 112 = some (.aload_n 0) := by decide +kernel
set_option maxRecDepth 100000 in
theorem ji_68_113 : mj_ins 68 113 = some (.getfield 28) := by decide +kernel
set_option maxRecDepth 100000 in
theorem jf_68_28 : mj_fld 68 28 = some (3, 5, (.array .int), false) := by decide +kernel
set_option maxRecDepth 100000 in
theorem ji_68_116 : mj_ins 68 116 = some (.iload_n 3) := by decide +kernel
set_option maxRecDepth 100000 in
theorem ji_68_117 : mj_ins 68 117 = some (.iaload) := by decide +kernel
set_option maxRecDepth 100000 in
theorem ji_68_118 : mj_ins 68 118 = some (.ireturn) := by decide +kernel
set_option maxRecDepth 100000 in
theorem ji_68_119 : mj_ins 68 119 = some (.aload_n 0) := by decide +kernel
set_option maxRecDepth 100000 in
theorem ji_68_120 : mj_ins 68 120 = some (.getfield 22) := by decide +kernel
set_option maxRecDepth 100000 in
theorem jf_68_22 : mj_fld 68 22 = some (3, 3, (.array .int), false) := by decide +kernel
set_option maxRecDepth 100000 in
theorem ji_68_123 : mj_ins 68 123 = some (.iload_n 2) := by decide +kernel
set_option maxRecDepth 100000 in
theorem ji_68_124 : mj_ins 68 124 = some (.iaload) := by decide +kernel
set_option maxRecDepth 100000 in
theorem ji_68_125 : mj_ins 68 125 = some (.ireturn) := by decide +kernel
set_option maxRecDepth 100000 in
theorem ji_68_126 : mj_ins 68 126 = some (.aload_n 0) := by decide +kernel
set_option maxRecDepth 100000 in
theorem ji_68_127 : mj_ins 68 127 = some (.getfield 34) := by decide +kernel
set_option maxRecDepth 100000 in
theorem jf_68_34 : mj_fld 68 34 = some (3, 7, (.array .int), false) := by decide +kernel
set_option maxRecDepth 100000 in
theorem ji_68_130 : mj_ins 68 130 = some (.iload_n 2) := by decide +kernel
set_option maxRecDepth 100000 in
theorem ji_68_131 : mj_ins 68 131 = some (.bipush 6) := by decide +kernel
set_option maxRecDepth 100000 in
theorem ji_68_133 : mj_ins 68 133 = some (.imul) := by decide +kernel
set_option maxRecDepth 100000 in
theorem ji_68_134 : mj_ins 68 134 = some (.iload_n 3) := by decide +kernel
set_option maxRecDepth 100000 in
theorem ji_68_135 : mj_ins 68 135 = some (.iadd) := by decide +kernel
set_option maxRecDepth 100000 in
theorem ji_68_136 : mj_ins 68 136 = some (.iaload) := by decide +kernel
set_option maxRecDepth 100000 in
theorem ji_68_137 : mj_ins 68 137 = some (.ireturn) := by decide +kernel
set_option maxRecDepth 100000 in
theorem ji_68_138 : mj_ins 68 138 = some (.aload_n 0) := by decide +kernel
set_option maxRecDepth 100000 in
theorem ji_68_139 : mj_ins 68 139 = some (.getfield 37) := by decide +kernel
set_option maxRecDepth 100000 in
theorem jf_68_37 : mj_fld 68 37 = some (3, 8, (.array .int), false) := by decide +kernel
set_option maxRecDepth 100000 in
theorem ji_68_142 : mj_ins 68 142 = some (.iload_n 2) := by decide +kernel
set_option maxRecDepth 100000 in
theorem ji_68_143 : mj_ins 68 143 = some (.bipush 6) := by decide +kernel
set_option maxRecDepth 100000 in
theorem ji_68_145 : mj_ins 68 145 = some (.imul) := by decide +kernel
set_option maxRecDepth 100000 in
theorem ji_68_146 : mj_ins 68 146 = some (.iload_n 3) := by decide +kernel
set_option maxRecDepth 100000 in
theorem ji_68_147 : mj_ins 68 147 = some (.iadd) := by decide +kernel
set_option maxRecDepth 100000 in
theorem ji_68_148 : mj_ins 68 148 = some (.iaload) := by decide +kernel
set_option maxRecDepth 100000 in
theorem ji_68_149 : mj_ins 68 149 = some (.ireturn) := by decide +kernel
set_option maxRecDepth 100000 in
theorem ji_68_150 : mj_ins 68 150 = some (.aload_n 0) := by decide +kernel
set_option maxRecDepth 100000 in
theorem ji_68_151 : mj_ins 68 151 = some (.iload_n 2) := by decide +kernel
set_option maxRecDepth 100000 in
theorem ji_68_152 : mj_ins 68 152 = some (.invokevirtual 75) := by decide +kernel
set_option maxRecDepth 100000 in
theorem jc_68_75 : mj_cal 68 75 = some (2, 69, 1) := by decide +kernel
set_option maxRecDepth 100000 in
theorem ji_68_155 : mj_ins 68 155 = some (.invokestatic 79) := by decide +kernel
set_option maxRecDepth 100000 in
theorem jc_68_79 : mj_cal 68 79 = some (1, 70, 1) := by decide +kernel
set_option maxRecDepth 100000 in
theorem ji_68_158 : mj_ins 68 158 = some (.ireturn) := by decide +kernel
set_option maxRecDepth 100000 in
theorem ji_68_159 : mj_ins 68 159 = some (.aload_n 0) := by decide +kernel
set_option maxRecDepth 100000 in
theorem ji_68_160 : mj_ins 68 160 = some (.getfield 25) := by decide +kernel
set_option maxRecDepth 100000 in
theorem jf_68_25 : mj_fld 68 25 = some (3, 4, (.array .int), false) := by decide +kernel
set_option maxRecDepth 100000 in
theorem ji_68_163 : mj_ins 68 163 = some (.iload_n 2) := by decide +kernel
set_option maxRecDepth 100000 in
theorem ji_68_164 : mj_ins 68 164 = some (.iaload) := by decide +kernel
set_option maxRecDepth 100000 in
theorem ji_68_165 : mj_ins 68 165 = some (.ireturn) := by decide +kernel
set_option maxRecDepth 100000 in
theorem ji_68_166 : mj_ins 68 166 = some (.aload_n 0) := by decide +kernel
set_option maxRecDepth 100000 in
theorem ji_68_167 : mj_ins 68 167 = some (.getfield 46) := by decide +kernel
set_option maxRecDepth 100000 in
theorem jf_68_46 : mj_fld 68 46 = some (3, 11, .int, true) := by decide +kernel
set_option maxRecDepth 100000 in
theorem ji_68_170 : mj_ins 68 170 = some (.iload_n 3) := by decide +kernel
set_option maxRecDepth 100000 in
theorem ji_68_171 : mj_ins 68 171 = some (.if_icmp .ne 7) := by decide +kernel
set_option maxRecDepth 100000 in
theorem ji_68_178 : mj_ins 68 178 = some (.iconst 0) := by decide +kernel
set_option maxRecDepth 100000 in
theorem ji_68_179 : mj_ins 68 179 = some (.ireturn) := by decide +kernel
set_option maxRecDepth 100000 in
theorem ji_68_174 : mj_ins 68 174 = some (.iconst 1) := by decide +kernel
set_option maxRecDepth 100000 in
theorem ji_68_175 : mj_ins 68 175 = some (.goto 4) := by decide +kernel
set_option maxRecDepth 100000 in
theorem ji_65_0 : mj_ins 65 0 = some (.iload_n 1) := by decide +kernel
set_option maxRecDepth 100000 in
theorem ji_65_1 : mj_ins 65 1 = some (.lookupswitch 39 #[(0, 27), (1, 34)]) := by decide +kernel
set_option maxRecDepth 100000 in
theorem ji_65_28 : mj_ins 65 28 = some (.aload_n 0) := by decide +kernel
set_option maxRecDepth 100000 in
theorem ji_65_29 : mj_ins 65 29 = some (.getfield 28) := by decide +kernel
set_option maxRecDepth 100000 in
theorem jf_65_28 : mj_fld 65 28 = some (3, 5, (.array .int), false) := by decide +kernel
set_option maxRecDepth 100000 in
theorem ji_65_32 : mj_ins 65 32 = some (.iload_n 3) := by decide +kernel
set_option maxRecDepth 100000 in
theorem ji_65_33 : mj_ins 65 33 = some (.iaload) := by decide +kernel
set_option maxRecDepth 100000 in
theorem ji_65_34 : mj_ins 65 34 = some (.ireturn) := by decide +kernel
set_option maxRecDepth 100000 in
theorem jr_65 : mj_ret 65 = some .int := by decide +kernel
set_option maxRecDepth 100000 in
theorem ji_65_35 : mj_ins 65 35 = some (.aload_n 0) := by decide +kernel
set_option maxRecDepth 100000 in
theorem ji_65_36 : mj_ins 65 36 = some (.getfield 40) := by decide +kernel
set_option maxRecDepth 100000 in
theorem jf_65_40 : mj_fld 65 40 = some (3, 9, .int, true) := by decide +kernel
set_option maxRecDepth 100000 in
theorem ji_65_39 : mj_ins 65 39 = some (.ireturn) := by decide +kernel
set_option maxRecDepth 100000 in
theorem ji_65_40 : mj_ins 65 40 = some (.aload_n 0) := by decide +kernel
set_option maxRecDepth 100000 in
theorem ji_65_41 : mj_ins 65 41 = some (.getfield 34) := by decide +kernel
set_option maxRecDepth 100000 in
theorem jf_65_34 : mj_fld 65 34 = some (3, 7, (.array .int), false) := by decide +kernel
set_option maxRecDepth 100000 in
theorem ji_65_44 : mj_ins 65 44 = some (.iload_n 2) := by decide +kernel
set_option maxRecDepth 100000 in
theorem ji_65_45 : mj_ins 65 45 = some (.bipush 6) := by decide +kernel
set_option maxRecDepth 100000 in
theorem ji_65_47 : mj_ins 65 47 = some (.imul) := by decide +kernel
set_option maxRecDepth 100000 in
theorem ji_65_48 : mj_ins 65 48 = some (.iload_n 3) := by decide +kernel
set_option maxRecDepth 100000 in
theorem ji_65_49 : mj_ins 65 49 = some (.iadd) := by decide +kernel
set_option maxRecDepth 100000 in
theorem ji_65_50 : mj_ins 65 50 = some (.iaload) := by decide +kernel
set_option maxRecDepth 100000 in
theorem ji_65_51 : mj_ins 65 51 = some (.ifCond .le 7) := by decide +kernel
set_option maxRecDepth 100000 in
theorem ji_65_58 : mj_ins 65 58 = some (.iconst 0) := by decide +kernel
set_option maxRecDepth 100000 in
theorem ji_65_59 : mj_ins 65 59 = some (.ireturn) := by decide +kernel
set_option maxRecDepth 100000 in
theorem ji_65_54 : mj_ins 65 54 = some (.iconst 1) := by decide +kernel
set_option maxRecDepth 100000 in
theorem ji_65_55 : mj_ins 65 55 = some (.goto 4) := by decide +kernel
/-! what a name is for a flag; what holds without a law; laid by program (wp_u4.py) -/
def nmC (s : sg_) (F : Nat) (p w x : Int) : Int := if x = 9 then s F 10 else if x = 17 then s F 9 else if x = 4 then w else if x = 18 then s (F + 4) w else if x = 19 then s (F + 2) p else if x = 20 then s (F + 6) (p * 6 + w) else if x = 21 then s (F + 7) (p * 6 + w) else if x = 22 then fcn (fun j => s (F + 6) (p * 6 + j)) (s F 1).toNat else if x = 23 then s (F + 3) p else if x = 24 then (if s F 11 = w then 1 else 0) else 0
def csC (s : sg_) (F : Nat) (p w l : Int) : Int := if l = 0 then s (F + 4) w else if l = 1 then s F 9 else if 0 < s (F + 6) (p * 6 + w) then 1 else 0
theorem uc_68 {nn d : Nat} {h : mj_H} {s : sg_} (C : CS h s) {F : Nat} (hF : isF F) (I : IF s F) {x p w : Int} (hx : x = 9 ∨ x = 17 ∨ x = 4 ∨ x = 18 ∨ x = 19 ∨ x = 20 ∨ x = 21 ∨ x = 22 ∨ x = 23 ∨ x = 24) (hp : 0 ≤ p ∧ p < 8) (hw : 0 ≤ w ∧ w < 6) : wl_R nn (d + 1) 68 0 [some (.ref F), some (wp_i x), some (wp_i p), some (wp_i w)] [] h (fun v1 h1 => h1 = h ∧ v1 = some (wp_i (nmC s F p w x))) := by
  have hI1 := I.2.1
  have hI11 := I.2.2.2.2.2.2.2.2.1
  rcases hx with rfl | rfl | rfl | rfl | rfl | rfl | rfl | rfl | rfl | rfl
  · refine wl_s (pc' := 1) ji_68_0 rfl rfl rfl ?_
    refine wl_s (pc' := 100) ji_68_1 rfl rfl rfl ?_
    refine wl_s (pc' := 101) ji_68_100 rfl rfl rfl ?_
    refine cs_gi (k := 10) (kI := 10) C (Nat.lt_of_lt_of_le (by decide) hF.1) (isF_n hF 0 (by decide)) hF.2.1 rfl rfl ji_68_101 jf_68_43 ?_
    have bd1 := I.2.2.2.2.2.2.2.1
    exact wl_ri ji_68_104 jr_68 rfl (⟨rfl, rfl⟩)
  · refine wl_s (pc' := 1) ji_68_0 rfl rfl rfl ?_
    refine wl_s (pc' := 105) ji_68_1 rfl rfl rfl ?_
    refine wl_s (pc' := 106) ji_68_105 rfl rfl rfl ?_
    refine cs_gi (k := 9) (kI := 9) C (Nat.lt_of_lt_of_le (by decide) hF.1) (isF_n hF 0 (by decide)) hF.2.1 rfl rfl ji_68_106 jf_68_40 ?_
    have bd1 := I.2.2.2.2.2.2.1
    exact wl_ri ji_68_109 jr_68 rfl (⟨rfl, rfl⟩)
  · refine wl_s (pc' := 1) ji_68_0 rfl rfl rfl ?_
    refine wl_s (pc' := 110) ji_68_1 rfl rfl rfl ?_
    refine wl_s (pc' := 111) ji_68_110 rfl rfl rfl ?_
    exact wl_ri ji_68_111 jr_68 rfl (⟨rfl, rfl⟩)
  · refine wl_s (pc' := 1) ji_68_0 rfl rfl rfl ?_
    refine wl_s (pc' := 112) ji_68_1 rfl rfl rfl ?_
    refine wl_s (pc' := 113) ji_68_112 rfl rfl rfl ?_
    refine cs_gr (r := F + 4) (k := 5) C (Nat.lt_of_lt_of_le (by decide) hF.1) hF.2.1 rfl ji_68_113 jf_68_28 ?_
    refine wl_s (pc' := 117) ji_68_116 rfl rfl rfl ?_
    refine cs_l (x := w) C (Nat.lt_of_lt_of_le (by decide) (Nat.le_trans hF.1 (Nat.le_add_right _ _))) (isF_n hF 4 (by decide)) hF.2.2.2.2.2.1 (by omega) ji_68_117 (fun ld10 ld11 ld12 => ?_)
    have bd2 := I.2.2.2.1 (w) (by omega) (by omega)
    exact wl_ri ji_68_118 jr_68 rfl (⟨rfl, rfl⟩)
  · refine wl_s (pc' := 1) ji_68_0 rfl rfl rfl ?_
    refine wl_s (pc' := 119) ji_68_1 rfl rfl rfl ?_
    refine wl_s (pc' := 120) ji_68_119 rfl rfl rfl ?_
    refine cs_gr (r := F + 2) (k := 3) C (Nat.lt_of_lt_of_le (by decide) hF.1) hF.2.1 rfl ji_68_120 jf_68_22 ?_
    refine wl_s (pc' := 124) ji_68_123 rfl rfl rfl ?_
    refine cs_l (x := p) C (Nat.lt_of_lt_of_le (by decide) (Nat.le_trans hF.1 (Nat.le_add_right _ _))) (isF_n hF 2 (by decide)) hF.2.2.2.1 (by omega) ji_68_124 (fun ld10 ld11 ld12 => ?_)
    have bd2 := I.2.2.1 (p) (by omega) (by omega)
    exact wl_ri ji_68_125 jr_68 rfl (⟨rfl, rfl⟩)
  · refine wl_s (pc' := 1) ji_68_0 rfl rfl rfl ?_
    refine wl_s (pc' := 126) ji_68_1 rfl rfl rfl ?_
    refine wl_s (pc' := 127) ji_68_126 rfl rfl rfl ?_
    refine cs_gr (r := F + 6) (k := 7) C (Nat.lt_of_lt_of_le (by decide) hF.1) hF.2.1 rfl ji_68_127 jf_68_34 ?_
    refine wl_s (pc' := 131) ji_68_130 rfl rfl rfl ?_
    refine wl_bp ji_68_131 rfl ?_
    refine wl_imul (x := p) (y := 6) (z := p * 6) ji_68_133 (by omega) ?_
    refine wl_s (pc' := 135) ji_68_134 rfl rfl rfl ?_
    refine wl_iadd (x := p * 6) (y := w) (z := p * 6 + w) ji_68_135 (by omega) ?_
    refine cs_l (x := p * 6 + w) C (Nat.lt_of_lt_of_le (by decide) (Nat.le_trans hF.1 (Nat.le_add_right _ _))) (isF_n hF 6 (by decide)) hF.2.2.2.2.2.2.2.1 (by omega) ji_68_136 (fun ld10 ld11 ld12 => ?_)
    have bd2 := I.2.2.2.2.1 (p * 6 + w) (by omega) (by omega)
    exact wl_ri ji_68_137 jr_68 rfl (⟨rfl, rfl⟩)
  · refine wl_s (pc' := 1) ji_68_0 rfl rfl rfl ?_
    refine wl_s (pc' := 138) ji_68_1 rfl rfl rfl ?_
    refine wl_s (pc' := 139) ji_68_138 rfl rfl rfl ?_
    refine cs_gr (r := F + 7) (k := 8) C (Nat.lt_of_lt_of_le (by decide) hF.1) hF.2.1 rfl ji_68_139 jf_68_37 ?_
    refine wl_s (pc' := 143) ji_68_142 rfl rfl rfl ?_
    refine wl_bp ji_68_143 rfl ?_
    refine wl_imul (x := p) (y := 6) (z := p * 6) ji_68_145 (by omega) ?_
    refine wl_s (pc' := 147) ji_68_146 rfl rfl rfl ?_
    refine wl_iadd (x := p * 6) (y := w) (z := p * 6 + w) ji_68_147 (by omega) ?_
    refine cs_l (x := p * 6 + w) C (Nat.lt_of_lt_of_le (by decide) (Nat.le_trans hF.1 (Nat.le_add_right _ _))) (isF_n hF 7 (by decide)) hF.2.2.2.2.2.2.2.2.1 (by omega) ji_68_148 (fun ld10 ld11 ld12 => ?_)
    have bd2 := I.2.2.2.2.2.1 (p * 6 + w) (by omega) (by omega)
    exact wl_ri ji_68_149 jr_68 rfl (⟨rfl, rfl⟩)
  · refine wl_s (pc' := 1) ji_68_0 rfl rfl rfl ?_
    refine wl_s (pc' := 150) ji_68_1 rfl rfl rfl ?_
    refine wl_s (pc' := 151) ji_68_150 rfl rfl rfl ?_
    refine wl_s (pc' := 152) ji_68_151 rfl rfl rfl ?_
    obtain ⟨q2, hq2⟩ := cs_c C (Nat.lt_of_lt_of_le (by decide) hF.1) hF.2.1
    refine wl_vc (d := d) (as := [.ref F, wp_i p]) (rest := []) ji_68_152 jc_68_75 rfl hq2 jk_69.symm (Nat.le_of_ble_eq_true rfl) rfl (by rw [jn_69]; rfl) (uc_69 (d := d) C hF I (p := p) (by omega)) (fun v1 h1 R => ?_)
    obtain ⟨ee, rfl⟩ := R
    rw [ee]
    clear ee
    show wl_R _ _ 68 155 [some (.ref F), some (wp_i 22), some (wp_i p), some (wp_i w)] [wp_i (flg (fun j => s (F + 6) (p * 6 + j)) (s F 1).toNat)] _ _
    have fl3r := flg_6 (fun j => s (F + 6) (p * 6 + j)) (n := (s F 1).toNat) (by omega)
    obtain ⟨fl3, hfl3⟩ : ∃ z9_, flg (fun j => s (F + 6) (p * 6 + j)) (s F 1).toNat = z9_ := ⟨_, rfl⟩
    rw [hfl3] at fl3r ⊢
    refine wl_sc (d := d) (as := [wp_i fl3]) (rest := []) ji_68_155 jc_68_79 (Nat.le_of_ble_eq_true rfl) rfl (Nat.le_of_ble_eq_true rfl) rfl (by rw [jn_70]; rfl) (uc_70 (d := d) (x := fl3) (by omega)) (fun v1 h4 R => ?_)
    obtain ⟨ee, rfl⟩ := R
    rw [ee]
    clear ee
    show wl_R _ _ 68 158 [some (.ref F), some (wp_i 22), some (wp_i p), some (wp_i w)] [wp_i (bcn fl3)] _ _
    have bc5 := bcn_r fl3
    exact wl_ri ji_68_158 jr_68 rfl (⟨rfl, by rw [show nmC s F p w 22 = bcn (flg (fun j => s (F + 6) (p * 6 + j)) (s F 1).toNat) from rfl, hfl3]⟩)
  · refine wl_s (pc' := 1) ji_68_0 rfl rfl rfl ?_
    refine wl_s (pc' := 159) ji_68_1 rfl rfl rfl ?_
    refine wl_s (pc' := 160) ji_68_159 rfl rfl rfl ?_
    refine cs_gr (r := F + 3) (k := 4) C (Nat.lt_of_lt_of_le (by decide) hF.1) hF.2.1 rfl ji_68_160 jf_68_25 ?_
    refine wl_s (pc' := 164) ji_68_163 rfl rfl rfl ?_
    refine cs_l (x := p) C (Nat.lt_of_lt_of_le (by decide) (Nat.le_trans hF.1 (Nat.le_add_right _ _))) (isF_n hF 3 (by decide)) hF.2.2.2.2.1 (by omega) ji_68_164 (fun ld10 ld11 ld12 => ?_)
    exact wl_ri ji_68_165 jr_68 rfl (⟨rfl, rfl⟩)
  · refine wl_s (pc' := 1) ji_68_0 rfl rfl rfl ?_
    refine wl_s (pc' := 166) ji_68_1 rfl rfl rfl ?_
    refine wl_s (pc' := 167) ji_68_166 rfl rfl rfl ?_
    refine cs_gi (k := 11) (kI := 11) C (Nat.lt_of_lt_of_le (by decide) hF.1) (isF_n hF 0 (by decide)) hF.2.1 rfl rfl ji_68_167 jf_68_46 ?_
    have bd1 := I.2.2.2.2.2.2.2.2.1
    refine wl_s (pc' := 171) ji_68_170 rfl rfl rfl ?_
    refine wl_icmp (t := 178) ji_68_171 rfl (by omega) (by omega) (fun (hb2 : ¬ (s F 11 : Int) = w) => ?_) (fun (hb2 : ¬ (¬ (s F 11 : Int) = w)) => ?_)
    · refine wl_s (pc' := 179) ji_68_178 rfl rfl rfl ?_
      exact wl_ri ji_68_179 jr_68 rfl (⟨rfl, by rw [show nmC s F p w 24 = 0 from (show nmC s F p w 24 = (if s F 11 = w then 1 else 0) from rfl).trans (if_neg (by omega))]⟩)
    · refine wl_s (pc' := 175) ji_68_174 rfl rfl rfl ?_
      refine wl_goto (t := 179) ji_68_175 rfl ?_
      exact wl_ri ji_68_179 jr_68 rfl (⟨rfl, by rw [show nmC s F p w 24 = 1 from (show nmC s F p w 24 = (if s F 11 = w then 1 else 0) from rfl).trans (if_pos (by omega))]⟩)
theorem uc_65 {nn d : Nat} {h : mj_H} {s : sg_} (C : CS h s) {F : Nat} (hF : isF F) (I : IF s F) {x p w : Int} (hx : x = 0 ∨ x = 1 ∨ x = 2) (hp : 0 ≤ p ∧ p < 8) (hw : 0 ≤ w ∧ w < 6) : wl_R nn d 65 0 [some (.ref F), some (wp_i x), some (wp_i p), some (wp_i w)] [] h (fun v1 h1 => h1 = h ∧ v1 = some (wp_i (csC s F p w x))) := by
  rcases hx with rfl | rfl | rfl
  · refine wl_s (pc' := 1) ji_65_0 rfl rfl rfl ?_
    refine wl_s (pc' := 28) ji_65_1 rfl rfl rfl ?_
    refine wl_s (pc' := 29) ji_65_28 rfl rfl rfl ?_
    refine cs_gr (r := F + 4) (k := 5) C (Nat.lt_of_lt_of_le (by decide) hF.1) hF.2.1 rfl ji_65_29 jf_65_28 ?_
    refine wl_s (pc' := 33) ji_65_32 rfl rfl rfl ?_
    refine cs_l (x := w) C (Nat.lt_of_lt_of_le (by decide) (Nat.le_trans hF.1 (Nat.le_add_right _ _))) (isF_n hF 4 (by decide)) hF.2.2.2.2.2.1 (by omega) ji_65_33 (fun ld10 ld11 ld12 => ?_)
    have bd2 := I.2.2.2.1 (w) (by omega) (by omega)
    exact wl_ri ji_65_34 jr_65 rfl (⟨rfl, rfl⟩)
  · refine wl_s (pc' := 1) ji_65_0 rfl rfl rfl ?_
    refine wl_s (pc' := 35) ji_65_1 rfl rfl rfl ?_
    refine wl_s (pc' := 36) ji_65_35 rfl rfl rfl ?_
    refine cs_gi (k := 9) (kI := 9) C (Nat.lt_of_lt_of_le (by decide) hF.1) (isF_n hF 0 (by decide)) hF.2.1 rfl rfl ji_65_36 jf_65_40 ?_
    have bd1 := I.2.2.2.2.2.2.1
    exact wl_ri ji_65_39 jr_65 rfl (⟨rfl, rfl⟩)
  · refine wl_s (pc' := 1) ji_65_0 rfl rfl rfl ?_
    refine wl_s (pc' := 40) ji_65_1 rfl rfl rfl ?_
    refine wl_s (pc' := 41) ji_65_40 rfl rfl rfl ?_
    refine cs_gr (r := F + 6) (k := 7) C (Nat.lt_of_lt_of_le (by decide) hF.1) hF.2.1 rfl ji_65_41 jf_65_34 ?_
    refine wl_s (pc' := 45) ji_65_44 rfl rfl rfl ?_
    refine wl_bp ji_65_45 rfl ?_
    refine wl_imul (x := p) (y := 6) (z := p * 6) ji_65_47 (by omega) ?_
    refine wl_s (pc' := 49) ji_65_48 rfl rfl rfl ?_
    refine wl_iadd (x := p * 6) (y := w) (z := p * 6 + w) ji_65_49 (by omega) ?_
    refine cs_l (x := p * 6 + w) C (Nat.lt_of_lt_of_le (by decide) (Nat.le_trans hF.1 (Nat.le_add_right _ _))) (isF_n hF 6 (by decide)) hF.2.2.2.2.2.2.2.1 (by omega) ji_65_50 (fun ld10 ld11 ld12 => ?_)
    have bd2 := I.2.2.2.2.1 (p * 6 + w) (by omega) (by omega)
    refine wl_if (t := 58) ji_65_51 rfl (by omega) (fun (hb3 : (s (F + 6) (p * 6 + w) : Int) ≤ 0) => ?_) (fun (hb3 : ¬ ((s (F + 6) (p * 6 + w) : Int) ≤ 0)) => ?_)
    · refine wl_s (pc' := 59) ji_65_58 rfl rfl rfl ?_
      exact wl_ri ji_65_59 jr_65 rfl (⟨rfl, by rw [show csC s F p w 2 = 0 from (show csC s F p w 2 = (if 0 < s (F + 6) (p * 6 + w) then 1 else 0) from rfl).trans (if_neg (by omega))]⟩)
    · refine wl_s (pc' := 55) ji_65_54 rfl rfl rfl ?_
      refine wl_goto (t := 59) ji_65_55 rfl ?_
      exact wl_ri ji_65_59 jr_65 rfl (⟨rfl, by rw [show csC s F p w 2 = 1 from (show csC s F p w 2 = (if 0 < s (F + 6) (p * 6 + w) then 1 else 0) from rfl).trans (if_pos (by omega))]⟩)
