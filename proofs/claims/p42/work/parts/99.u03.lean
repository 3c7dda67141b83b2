/-! -/
/-! -/
set_option maxRecDepth 100000 in
theorem ji_85_0 : mj_ins 85 0 = some (.aload_n 0) := by decide +kernel
set_option maxRecDepth 100000 in
theorem ji_85_1 : mj_ins 85 1 = some (.iload_n 1) := by decide +kernel
set_option maxRecDepth 100000 in
theorem ji_85_2 : mj_ins 85 2 = some (.invokevirtual 62) := by decide +kernel
set_option maxRecDepth 100000 in
theorem jc_85_62 : mj_cal 85 62 = some (2, 80, 1) := by decide +kernel
set_option maxRecDepth 100000 in
theorem jn_80 : mj_nl 80 = 2 := by decide +kernel
set_option maxRecDepth 100000 in
theorem jk_80 : mj_cls 80 = 3 := by decide +kernel
set_option maxRecDepth 100000 in
theorem ji_85_5 : mj_ins 85 5 = some (.ifCond .eq 30) := by decide +kernel
set_option maxRecDepth 100000 in
theorem ji_85_35 : mj_ins 85 35 = some (.iconst 0) := by decide +kernel
set_option maxRecDepth 100000 in
theorem ji_85_36 : mj_ins 85 36 = some (.ireturn) := by decide +kernel
set_option maxRecDepth 100000 in
theorem jr_85 : mj_ret 85 = some .boolean := by decide +kernel
set_option maxRecDepth 100000 in
theorem ji_85_8 : mj_ins 85 8 = some (.aload_n 0) := by decide +kernel
set_option maxRecDepth 100000 in
theorem ji_85_9 : mj_ins 85 9 = some (.iload_n 2) := by decide +kernel
set_option maxRecDepth 100000 in
theorem ji_85_10 : mj_ins 85 10 = some (.invokevirtual 66) := by decide +kernel
set_option maxRecDepth 100000 in
theorem jc_85_66 : mj_cal 85 66 = some (2, 81, 1) := by decide +kernel
set_option maxRecDepth 100000 in
theorem jn_81 : mj_nl 81 = 2 := by decide +kernel
set_option maxRecDepth 100000 in
theorem jk_81 : mj_cls 81 = 3 := by decide +kernel
set_option maxRecDepth 100000 in
theorem ji_85_13 : mj_ins 85 13 = some (.ifCond .eq 22) := by decide +kernel
set_option maxRecDepth 100000 in
theorem ji_85_16 : mj_ins 85 16 = some (.aload_n 0) := by decide +kernel
set_option maxRecDepth 100000 in
theorem ji_85_17 : mj_ins 85 17 = some (.getfield 34) := by decide +kernel
set_option maxRecDepth 100000 in
theorem jf_85_34 : mj_fld 85 34 = some (3, 7, (.array .int), false) := by decide +kernel
set_option maxRecDepth 100000 in
theorem ji_85_20 : mj_ins 85 20 = some (.iload_n 2) := by decide +kernel
set_option maxRecDepth 100000 in
theorem ji_85_21 : mj_ins 85 21 = some (.bipush 6) := by decide +kernel
set_option maxRecDepth 100000 in
theorem ji_85_23 : mj_ins 85 23 = some (.imul) := by decide +kernel
set_option maxRecDepth 100000 in
theorem ji_85_24 : mj_ins 85 24 = some (.iload_n 1) := by decide +kernel
set_option maxRecDepth 100000 in
theorem ji_85_25 : mj_ins 85 25 = some (.iadd) := by decide +kernel
set_option maxRecDepth 100000 in
theorem ji_85_26 : mj_ins 85 26 = some (.iaload) := by decide +kernel
set_option maxRecDepth 100000 in
theorem ji_85_27 : mj_ins 85 27 = some (.iconst (-1)) := by decide +kernel
set_option maxRecDepth 100000 in
theorem ji_85_28 : mj_ins 85 28 = some (.if_icmp .eq 7) := by decide +kernel
set_option maxRecDepth 100000 in
theorem ji_85_31 : mj_ins 85 31 = some (.iconst 1) := by decide +kernel
set_option maxRecDepth 100000 in
theorem ji_85_32 : mj_ins 85 32 = some (.goto 4) := by decide +kernel
set_option maxRecDepth 100000 in
theorem ji_79_0 : mj_ins 79 0 = some (.aload_n 0) := by decide +kernel
set_option maxRecDepth 100000 in
theorem ji_79_1 : mj_ins 79 1 = some (.iload_n 1) := by decide +kernel
set_option maxRecDepth 100000 in
theorem ji_79_2 : mj_ins 79 2 = some (.invokevirtual 62) := by decide +kernel
set_option maxRecDepth 100000 in
theorem jc_79_62 : mj_cal 79 62 = some (2, 80, 1) := by decide +kernel
set_option maxRecDepth 100000 in
theorem ji_79_5 : mj_ins 79 5 = some (.ifCond .eq 42) := by decide +kernel
set_option maxRecDepth 100000 in
theorem ji_79_47 : mj_ins 79 47 = some (.iconst 0) := by decide +kernel
set_option maxRecDepth 100000 in
theorem ji_79_48 : mj_ins 79 48 = some (.ireturn) := by decide +kernel
set_option maxRecDepth 100000 in
theorem jr_79 : mj_ret 79 = some .boolean := by decide +kernel
set_option maxRecDepth 100000 in
theorem ji_79_8 : mj_ins 79 8 = some (.aload_n 0) := by decide +kernel
set_option maxRecDepth 100000 in
theorem ji_79_9 : mj_ins 79 9 = some (.iload_n 2) := by decide +kernel
set_option maxRecDepth 100000 in
theorem ji_79_10 : mj_ins 79 10 = some (.invokevirtual 66) := by decide +kernel
set_option maxRecDepth 100000 in
theorem jc_79_66 : mj_cal 79 66 = some (2, 81, 1) := by decide +kernel
set_option maxRecDepth 100000 in
theorem ji_79_13 : mj_ins 79 13 = some (.ifCond .eq 34) := by decide +kernel
set_option maxRecDepth 100000 in
theorem ji_79_16 : mj_ins 79 16 = some (.aload_n 0) := by decide +kernel
set_option maxRecDepth 100000 in
theorem ji_79_17 : mj_ins 79 17 = some (.getfield 34) := by decide +kernel
set_option maxRecDepth 100000 in
theorem jf_79_34 : mj_fld 79 34 = some (3, 7, (.array .int), false) := by decide +kernel
set_option maxRecDepth 100000 in
theorem ji_79_20 : mj_ins 79 20 = some (.iload_n 2) := by decide +kernel
set_option maxRecDepth 100000 in
theorem ji_79_21 : mj_ins 79 21 = some (.bipush 6) := by decide +kernel
set_option maxRecDepth 100000 in
theorem ji_79_23 : mj_ins 79 23 = some (.imul) := by decide +kernel
set_option maxRecDepth 100000 in
theorem ji_79_24 : mj_ins 79 24 = some (.iload_n 1) := by decide +kernel
set_option maxRecDepth 100000 in
theorem ji_79_25 : mj_ins 79 25 = some (.iadd) := by decide +kernel
set_option maxRecDepth 100000 in
theorem ji_79_26 : mj_ins 79 26 = some (.iaload) := by decide +kernel
set_option maxRecDepth 100000 in
theorem ji_79_27 : mj_ins 79 27 = some (.iconst (-1)) := by decide +kernel
set_option maxRecDepth 100000 in
theorem ji_79_28 : mj_ins 79 28 = some (.if_icmp .ne 19) := by decide +kernel
set_option maxRecDepth 100000 in
theorem ji_79_31 : mj_ins 79 31 = some (.aload_n 0) := by decide +kernel
set_option maxRecDepth 100000 in
theorem ji_79_32 : mj_ins 79 32 = some (.iload_n 2) := by decide +kernel
set_option maxRecDepth 100000 in
theorem ji_79_33 : mj_ins 79 33 = some (.invokevirtual 75) := by decide +kernel
set_option maxRecDepth 100000 in
theorem jc_79_75 : mj_cal 79 75 = some (2, 69, 1) := by decide +kernel
set_option maxRecDepth 100000 in
theorem jn_69 : mj_nl 69 = 4 := by decide +kernel
set_option maxRecDepth 100000 in
theorem jk_69 : mj_cls 69 = 3 := by decide +kernel
set_option maxRecDepth 100000 in
theorem ji_79_36 : mj_ins 79 36 = some (.invokestatic 79) := by decide +kernel
set_option maxRecDepth 100000 in
theorem jc_79_79 : mj_cal 79 79 = some (1, 70, 1) := by decide +kernel
set_option maxRecDepth 100000 in
theorem jn_70 : mj_nl 70 = 1 := by decide +kernel
set_option maxRecDepth 100000 in
theorem ji_79_39 : mj_ins 79 39 = some (.iconst 2) := by decide +kernel
set_option maxRecDepth 100000 in
theorem ji_79_40 : mj_ins 79 40 = some (.if_icmp .ge 7) := by decide +kernel
set_option maxRecDepth 100000 in
theorem ji_79_43 : mj_ins 79 43 = some (.iconst 1) := by decide +kernel
set_option maxRecDepth 100000 in
theorem ji_79_44 : mj_ins 79 44 = some (.goto 4) := by decide +kernel
set_option maxRecDepth 100000 in
theorem ji_88_0 : mj_ins 88 0 = some (.aload_n 0) := by decide +kernel
set_option maxRecDepth 100000 in
theorem ji_88_1 : mj_ins 88 1 = some (.iload_n 1) := by decide +kernel
set_option maxRecDepth 100000 in
theorem ji_88_2 : mj_ins 88 2 = some (.invokevirtual 66) := by decide +kernel
set_option maxRecDepth 100000 in
theorem jc_88_66 : mj_cal 88 66 = some (2, 81, 1) := by decide +kernel
set_option maxRecDepth 100000 in
theorem ji_88_5 : mj_ins 88 5 = some (.ifCond .eq 22) := by decide +kernel
set_option maxRecDepth 100000 in
theorem ji_88_27 : mj_ins 88 27 = some (.iconst 0) := by decide +kernel
set_option maxRecDepth 100000 in
theorem ji_88_28 : mj_ins 88 28 = some (.ireturn) := by decide +kernel
set_option maxRecDepth 100000 in
theorem jr_88 : mj_ret 88 = some .boolean := by decide +kernel
set_option maxRecDepth 100000 in
theorem ji_88_8 : mj_ins 88 8 = some (.iload_n 2) := by decide +kernel
set_option maxRecDepth 100000 in
theorem ji_88_9 : mj_ins 88 9 = some (.iconst 1) := by decide +kernel
set_option maxRecDepth 100000 in
theorem ji_88_10 : mj_ins 88 10 = some (.if_icmp .lt 17) := by decide +kernel
set_option maxRecDepth 100000 in
theorem ji_88_13 : mj_ins 88 13 = some (.iload_n 2) := by decide +kernel
set_option maxRecDepth 100000 in
theorem ji_88_14 : mj_ins 88 14 = some (.aload_n 0) := by decide +kernel
set_option maxRecDepth 100000 in
theorem ji_88_15 : mj_ins 88 15 = some (.getfield 22) := by decide +kernel
set_option maxRecDepth 100000 in
theorem jf_88_22 : mj_fld 88 22 = some (3, 3, (.array .int), false) := by decide +kernel
set_option maxRecDepth 100000 in
theorem ji_88_18 : mj_ins 88 18 = some (.iload_n 1) := by decide +kernel
set_option maxRecDepth 100000 in
theorem ji_88_19 : mj_ins 88 19 = some (.iaload) := by decide +kernel
set_option maxRecDepth 100000 in
theorem ji_88_20 : mj_ins 88 20 = some (.if_icmp .ge 7) := by decide +kernel
set_option maxRecDepth 100000 in
theorem ji_88_23 : mj_ins 88 23 = some (.iconst 1) := by decide +kernel
set_option maxRecDepth 100000 in
theorem ji_88_24 : mj_ins 88 24 = some (.goto 4) := by decide +kernel
set_option maxRecDepth 100000 in
theorem ji_75_0 : mj_ins 75 0 = some (.aload_n 0) := by decide +kernel
set_option maxRecDepth 100000 in
theorem ji_75_1 : mj_ins 75 1 = some (.getfield 49) := by decide +kernel
set_option maxRecDepth 100000 in
theorem jf_75_49 : mj_fld 75 49 = some (3, 12, .int, true) := by decide +kernel
set_option maxRecDepth 100000 in
theorem ji_75_4 : mj_ins 75 4 = some (.istore_n 1) := by decide +kernel
set_option maxRecDepth 100000 in
theorem ji_75_5 : mj_ins 75 5 = some (.aload_n 0) := by decide +kernel
set_option maxRecDepth 100000 in
theorem ji_75_6 : mj_ins 75 6 = some (.aload_n 0) := by decide +kernel
set_option maxRecDepth 100000 in
theorem ji_75_7 : mj_ins 75 7 = some (.getfield 49) := by decide +kernel
set_option maxRecDepth 100000 in
theorem ji_75_10 : mj_ins 75 10 = some (.sipush 283) := by decide +kernel
set_option maxRecDepth 100000 in
theorem ji_75_13 : mj_ins 75 13 = some (.imul) := by decide +kernel
set_option maxRecDepth 100000 in
theorem ji_75_14 : mj_ins 75 14 = some (.sipush 181) := by decide +kernel
set_option maxRecDepth 100000 in
theorem ji_75_17 : mj_ins 75 17 = some (.iadd) := by decide +kernel
set_option maxRecDepth 100000 in
theorem ji_75_18 : mj_ins 75 18 = some (.sipush 30307) := by decide +kernel
set_option maxRecDepth 100000 in
theorem ji_75_21 : mj_ins 75 21 = some (.irem) := by decide +kernel
set_option maxRecDepth 100000 in
theorem ji_75_22 : mj_ins 75 22 = some (.putfield 49) := by decide +kernel
set_option maxRecDepth 100000 in
theorem ji_75_25 : mj_ins 75 25 = some (.iload_n 1) := by decide +kernel
set_option maxRecDepth 100000 in
theorem ji_75_26 : mj_ins 75 26 = some (.ireturn) := by decide +kernel
set_option maxRecDepth 100000 in
theorem jr_75 : mj_ret 75 = some .int := by decide +kernel
set_option maxRecDepth 100000 in
theorem ji_74_0 : mj_ins 74 0 = some (.aload_n 0) := by decide +kernel
set_option maxRecDepth 100000 in
theorem ji_74_1 : mj_ins 74 1 = some (.aload_n 0) := by decide +kernel
set_option maxRecDepth 100000 in
theorem ji_74_2 : mj_ins 74 2 = some (.invokevirtual 87) := by decide +kernel
set_option maxRecDepth 100000 in
theorem jc_74_87 : mj_cal 74 87 = some (2, 75, 0) := by decide +kernel
set_option maxRecDepth 100000 in
theorem jn_75 : mj_nl 75 = 2 := by decide +kernel
set_option maxRecDepth 100000 in
theorem jk_75 : mj_cls 75 = 3 := by decide +kernel
set_option maxRecDepth 100000 in
theorem ji_74_5 : mj_ins 74 5 = some (.bipush 10) := by decide +kernel
set_option maxRecDepth 100000 in
theorem ji_74_7 : mj_ins 74 7 = some (.irem) := by decide +kernel
set_option maxRecDepth 100000 in
theorem ji_74_8 : mj_ins 74 8 = some (.putfield 40) := by decide +kernel
set_option maxRecDepth 100000 in
theorem jf_74_40 : mj_fld 74 40 = some (3, 9, .int, true) := by decide +kernel
set_option maxRecDepth 100000 in
theorem ji_74_11 : mj_ins 74 11 = some (.return_) := by decide +kernel
set_option maxRecDepth 100000 in
theorem jr_74 : mj_ret 74 = none := by decide +kernel
set_option maxRecDepth 100000 in
theorem ji_89_12 : mj_ins 89 12 = some (.iload_n 3) := by decide +kernel
set_option maxRecDepth 100000 in
theorem ji_89_13 : mj_ins 89 13 = some (.aload_n 0) := by decide +kernel
set_option maxRecDepth 100000 in
theorem ji_89_14 : mj_ins 89 14 = some (.getfield 15) := by decide +kernel
set_option maxRecDepth 100000 in
theorem jf_89_15 : mj_fld 89 15 = some (3, 1, .int, true) := by decide +kernel
set_option maxRecDepth 100000 in
theorem ji_89_17 : mj_ins 89 17 = some (.if_icmp .ge 40) := by decide +kernel
set_option maxRecDepth 100000 in
theorem ji_89_57 : mj_ins 89 57 = some (.return_) := by decide +kernel
set_option maxRecDepth 100000 in
theorem jr_89 : mj_ret 89 = none := by decide +kernel
set_option maxRecDepth 100000 in
theorem ji_89_20 : mj_ins 89 20 = some (.iload_n 1) := by decide +kernel
set_option maxRecDepth 100000 in
theorem ji_89_21 : mj_ins 89 21 = some (.bipush 6) := by decide +kernel
set_option maxRecDepth 100000 in
theorem ji_89_23 : mj_ins 89 23 = some (.imul) := by decide +kernel
set_option maxRecDepth 100000 in
theorem ji_89_24 : mj_ins 89 24 = some (.iload_n 3) := by decide +kernel
set_option maxRecDepth 100000 in
theorem ji_89_25 : mj_ins 89 25 = some (.iadd) := by decide +kernel
set_option maxRecDepth 100000 in
theorem ji_89_26 : mj_ins 89 26 = some (.istore 4) := by decide +kernel
set_option maxRecDepth 100000 in
theorem ji_89_28 : mj_ins 89 28 = some (.aload_n 0) := by decide +kernel
set_option maxRecDepth 100000 in
theorem ji_89_29 : mj_ins 89 29 = some (.getfield 34) := by decide +kernel
set_option maxRecDepth 100000 in
theorem jf_89_34 : mj_fld 89 34 = some (3, 7, (.array .int), false) := by decide +kernel
set_option maxRecDepth 100000 in
theorem ji_89_32 : mj_ins 89 32 = some (.iload 4) := by decide +kernel
set_option maxRecDepth 100000 in
theorem ji_89_34 : mj_ins 89 34 = some (.aload_n 0) := by decide +kernel
set_option maxRecDepth 100000 in
theorem ji_89_35 : mj_ins 89 35 = some (.getfield 34) := by decide +kernel
set_option maxRecDepth 100000 in
theorem ji_89_38 : mj_ins 89 38 = some (.iload 4) := by decide +kernel
set_option maxRecDepth 100000 in
theorem ji_89_40 : mj_ins 89 40 = some (.iaload) := by decide +kernel
set_option maxRecDepth 100000 in
theorem ji_89_41 : mj_ins 89 41 = some (.aload_n 0) := by decide +kernel
set_option maxRecDepth 100000 in
theorem ji_89_42 : mj_ins 89 42 = some (.getfield 22) := by decide +kernel
set_option maxRecDepth 100000 in
theorem jf_89_22 : mj_fld 89 22 = some (3, 3, (.array .int), false) := by decide +kernel
set_option maxRecDepth 100000 in
theorem ji_89_45 : mj_ins 89 45 = some (.iload_n 1) := by decide +kernel
set_option maxRecDepth 100000 in
theorem ji_89_46 : mj_ins 89 46 = some (.iaload) := by decide +kernel
set_option maxRecDepth 100000 in
theorem ji_89_47 : mj_ins 89 47 = some (.invokestatic 84) := by decide +kernel
set_option maxRecDepth 100000 in
theorem jc_89_84 : mj_cal 89 84 = some (11, 0, 0) := by decide +kernel
set_option maxRecDepth 100000 in
theorem ji_89_50 : mj_ins 89 50 = some (.iastore) := by decide +kernel
set_option maxRecDepth 100000 in
theorem ji_89_51 : mj_ins 89 51 = some (.iinc 3 1) := by decide +kernel
set_option maxRecDepth 100000 in
theorem ji_89_54 : mj_ins 89 54 = some (.goto (-42)) := by decide +kernel
set_option maxRecDepth 100000 in
theorem ji_89_0 : mj_ins 89 0 = some (.aload_n 0) := by decide +kernel
set_option maxRecDepth 100000 in
theorem ji_89_1 : mj_ins 89 1 = some (.getfield 22) := by decide +kernel
set_option maxRecDepth 100000 in
theorem ji_89_4 : mj_ins 89 4 = some (.iload_n 1) := by decide +kernel
set_option maxRecDepth 100000 in
theorem ji_89_5 : mj_ins 89 5 = some (.dup2) := by decide +kernel
set_option maxRecDepth 100000 in
theorem ji_89_6 : mj_ins 89 6 = some (.iaload) := by decide +kernel
set_option maxRecDepth 100000 in
theorem ji_89_7 : mj_ins 89 7 = some (.iload_n 2) := by decide +kernel
set_option maxRecDepth 100000 in
theorem ji_89_8 : mj_ins 89 8 = some (.isub) := by decide +kernel
set_option maxRecDepth 100000 in
theorem ji_89_9 : mj_ins 89 9 = some (.iastore) := by decide +kernel
set_option maxRecDepth 100000 in
theorem ji_89_10 : mj_ins 89 10 = some (.iconst 0) := by decide +kernel
set_option maxRecDepth 100000 in
theorem ji_89_11 : mj_ins 89 11 = some (.istore_n 3) := by decide +kernel
/-! the class's forest: what may be done, cuts, draws; laid by program (wp_u3.py) -/
theorem bcn_r (x : Int) : 0 ≤ bcn x ∧ bcn x ≤ 9 := by
  unfold bcn
  omega
theorem flg_6 (g : Int → Int) {n : Nat} (hn : n ≤ 6) : 0 ≤ flg g n ∧ flg g n ≤ 63 := by
  have h := flg_r g n
  have : n = 0 ∨ n = 1 ∨ n = 2 ∨ n = 3 ∨ n = 4 ∨ n = 5 ∨ n = 6 := by omega
  rcases this with e | e | e | e | e | e | e <;> (subst e; simp at h; omega)
/-- how many flags are on a pole -/
def fcn (g : Int → Int) (n : Nat) : Int := bcn (flg g n)
theorem uc_85 {nn d : Nat} {h : mj_H} {s : sg_} (C : CS h s) {F : Nat} (hF : isF F) (I : IF s F) {w p : Int} (hw : wp_r w) (hp : wp_r p) : wl_R nn (d + 1) 85 0 [some (.ref F), some (wp_i w), some (wp_i p)] [] h (fun v1 h1 => h1 = h ∧ ∃ y : Int, v1 = some (wp_i y) ∧ (y = 0 ∨ y = 1) ∧ (y = 1 ↔ ((0 ≤ w ∧ w < s F 1) ∧ (0 ≤ p ∧ p < s F 0) ∧ ¬ s (F + 6) (p * 6 + w) = -1))) := by
  have hI0 := I.1
  have hI1 := I.2.1
  refine wl_s (pc' := 1) ji_85_0 rfl rfl rfl ?_
  refine wl_s (pc' := 2) ji_85_1 rfl rfl rfl ?_
  obtain ⟨q2, hq2⟩ := cs_c C (Nat.lt_of_lt_of_le (by decide) hF.1) hF.2.1
  refine wl_vc (d := d) (as := [.ref F, wp_i w]) (rest := []) ji_85_2 jc_85_62 rfl hq2 jk_80.symm (Nat.le_of_ble_eq_true rfl) rfl (by rw [jn_80]; rfl) (uc_80 (d := d) C hF (p := w) (by omega)) (fun v1 h1 R => ?_)
  obtain ⟨ee, y3, rfl, hy3a, hy3b⟩ := R
  rw [ee]
  clear ee
  show wl_R _ _ 85 5 [some (.ref F), some (wp_i w), some (wp_i p)] [wp_i y3] _ _
  refine wl_if (t := 35) ji_85_5 rfl (by omega) (fun (hb4 : (y3 : Int) = 0) => ?_) (fun (hb4 : ¬ ((y3 : Int) = 0)) => ?_)
  · refine wl_s (pc' := 36) ji_85_35 rfl rfl rfl ?_
    exact wl_ri ji_85_36 jr_85 (pv_nb (by omega)) (⟨rfl, 0, rfl, by omega, by omega⟩)
  · refine wl_s (pc' := 9) ji_85_8 rfl rfl rfl ?_
    refine wl_s (pc' := 10) ji_85_9 rfl rfl rfl ?_
    obtain ⟨q6, hq6⟩ := cs_c C (Nat.lt_of_lt_of_le (by decide) hF.1) hF.2.1
    refine wl_vc (d := d) (as := [.ref F, wp_i p]) (rest := []) ji_85_10 jc_85_66 rfl hq6 jk_81.symm (Nat.le_of_ble_eq_true rfl) rfl (by rw [jn_81]; rfl) (uc_81 (d := d) C hF (p := p) (by omega)) (fun v1 h5 R => ?_)
    obtain ⟨ee, y7, rfl, hy7a, hy7b⟩ := R
    rw [ee]
    clear ee
    show wl_R _ _ 85 13 [some (.ref F), some (wp_i w), some (wp_i p)] [wp_i y7] _ _
    refine wl_if (t := 35) ji_85_13 rfl (by omega) (fun (hb8 : (y7 : Int) = 0) => ?_) (fun (hb8 : ¬ ((y7 : Int) = 0)) => ?_)
    · refine wl_s (pc' := 36) ji_85_35 rfl rfl rfl ?_
      exact wl_ri ji_85_36 jr_85 (pv_nb (by omega)) (⟨rfl, 0, rfl, by omega, by omega⟩)
    · refine wl_s (pc' := 17) ji_85_16 rfl rfl rfl ?_
      refine cs_gr (r := F + 6) (k := 7) C (Nat.lt_of_lt_of_le (by decide) hF.1) hF.2.1 rfl ji_85_17 jf_85_34 ?_
      refine wl_s (pc' := 21) ji_85_20 rfl rfl rfl ?_
      refine wl_bp ji_85_21 rfl ?_
      refine wl_imul (x := p) (y := 6) (z := p * 6) ji_85_23 (by omega) ?_
      refine wl_s (pc' := 25) ji_85_24 rfl rfl rfl ?_
      refine wl_iadd (x := p * 6) (y := w) (z := p * 6 + w) ji_85_25 (by omega) ?_
      refine cs_l (x := p * 6 + w) C (Nat.lt_of_lt_of_le (by decide) (Nat.le_trans hF.1 (Nat.le_add_right _ _))) (isF_n hF 6 (by decide)) hF.2.2.2.2.2.2.2.1 (by omega) ji_85_26 (fun ld90 ld91 ld92 => ?_)
      have bd10 := I.2.2.2.2.1 (p * 6 + w) (by omega) (by omega)
      refine wl_s (pc' := 28) ji_85_27 rfl rfl rfl ?_
      refine wl_icmp (t := 35) ji_85_28 rfl (by omega) (by omega) (fun (hb11 : (s (F + 6) (p * 6 + w) : Int) = (-1)) => ?_) (fun (hb11 : ¬ ((s (F + 6) (p * 6 + w) : Int) = (-1))) => ?_)
      · refine wl_s (pc' := 36) ji_85_35 rfl rfl rfl ?_
        exact wl_ri ji_85_36 jr_85 (pv_nb (by omega)) (⟨rfl, 0, rfl, by omega, by omega⟩)
      · refine wl_s (pc' := 32) ji_85_31 rfl rfl rfl ?_
        refine wl_goto (t := 36) ji_85_32 rfl ?_
        exact wl_ri ji_85_36 jr_85 (pv_nb (by omega)) (⟨rfl, 1, rfl, by omega, by omega⟩)
theorem uc_79 {nn d : Nat} {h : mj_H} {s : sg_} (C : CS h s) {F : Nat} (hF : isF F) (I : IF s F) {w p : Int} (hw : wp_r w) (hp : wp_r p) : wl_R nn (d + 1) 79 0 [some (.ref F), some (wp_i w), some (wp_i p)] [] h (fun v1 h1 => h1 = h ∧ ∃ y : Int, v1 = some (wp_i y) ∧ (y = 0 ∨ y = 1) ∧ (y = 1 ↔ ((0 ≤ w ∧ w < s F 1) ∧ (0 ≤ p ∧ p < s F 0) ∧ s (F + 6) (p * 6 + w) = -1 ∧ fcn (fun j => s (F + 6) (p * 6 + j)) (s F 1).toNat < 2))) := by
  have hI0 := I.1
  have hI1 := I.2.1
  refine wl_s (pc' := 1) ji_79_0 rfl rfl rfl ?_
  refine wl_s (pc' := 2) ji_79_1 rfl rfl rfl ?_
  obtain ⟨q2, hq2⟩ := cs_c C (Nat.lt_of_lt_of_le (by decide) hF.1) hF.2.1
  refine wl_vc (d := d) (as := [.ref F, wp_i w]) (rest := []) ji_79_2 jc_79_62 rfl hq2 jk_80.symm (Nat.le_of_ble_eq_true rfl) rfl (by rw [jn_80]; rfl) (uc_80 (d := d) C hF (p := w) (by omega)) (fun v1 h1 R => ?_)
  obtain ⟨ee, y3, rfl, hy3a, hy3b⟩ := R
  rw [ee]
  clear ee
  show wl_R _ _ 79 5 [some (.ref F), some (wp_i w), some (wp_i p)] [wp_i y3] _ _
  refine wl_if (t := 47) ji_79_5 rfl (by omega) (fun (hb4 : (y3 : Int) = 0) => ?_) (fun (hb4 : ¬ ((y3 : Int) = 0)) => ?_)
  · refine wl_s (pc' := 48) ji_79_47 rfl rfl rfl ?_
    exact wl_ri ji_79_48 jr_79 (pv_nb (by omega)) (⟨rfl, 0, rfl, by omega, by omega⟩)
  · refine wl_s (pc' := 9) ji_79_8 rfl rfl rfl ?_
    refine wl_s (pc' := 10) ji_79_9 rfl rfl rfl ?_
    obtain ⟨q6, hq6⟩ := cs_c C (Nat.lt_of_lt_of_le (by decide) hF.1) hF.2.1
    refine wl_vc (d := d) (as := [.ref F, wp_i p]) (rest := []) ji_79_10 jc_79_66 rfl hq6 jk_81.symm (Nat.le_of_ble_eq_true rfl) rfl (by rw [jn_81]; rfl) (uc_81 (d := d) C hF (p := p) (by omega)) (fun v1 h5 R => ?_)
    obtain ⟨ee, y7, rfl, hy7a, hy7b⟩ := R
    rw [ee]
    clear ee
    show wl_R _ _ 79 13 [some (.ref F), some (wp_i w), some (wp_i p)] [wp_i y7] _ _
    refine wl_if (t := 47) ji_79_13 rfl (by omega) (fun (hb8 : (y7 : Int) = 0) => ?_) (fun (hb8 : ¬ ((y7 : Int) = 0)) => ?_)
    · refine wl_s (pc' := 48) ji_79_47 rfl rfl rfl ?_
      exact wl_ri ji_79_48 jr_79 (pv_nb (by omega)) (⟨rfl, 0, rfl, by omega, by omega⟩)
    · refine wl_s (pc' := 17) ji_79_16 rfl rfl rfl ?_
      refine cs_gr (r := F + 6) (k := 7) C (Nat.lt_of_lt_of_le (by decide) hF.1) hF.2.1 rfl ji_79_17 jf_79_34 ?_
      refine wl_s (pc' := 21) ji_79_20 rfl rfl rfl ?_
      refine wl_bp ji_79_21 rfl ?_
      refine wl_imul (x := p) (y := 6) (z := p * 6) ji_79_23 (by omega) ?_
      refine wl_s (pc' := 25) ji_79_24 rfl rfl rfl ?_
      refine wl_iadd (x := p * 6) (y := w) (z := p * 6 + w) ji_79_25 (by omega) ?_
      refine cs_l (x := p * 6 + w) C (Nat.lt_of_lt_of_le (by decide) (Nat.le_trans hF.1 (Nat.le_add_right _ _))) (isF_n hF 6 (by decide)) hF.2.2.2.2.2.2.2.1 (by omega) ji_79_26 (fun ld90 ld91 ld92 => ?_)
      have bd10 := I.2.2.2.2.1 (p * 6 + w) (by omega) (by omega)
      refine wl_s (pc' := 28) ji_79_27 rfl rfl rfl ?_
      refine wl_icmp (t := 47) ji_79_28 rfl (by omega) (by omega) (fun (hb11 : ¬ (s (F + 6) (p * 6 + w) : Int) = (-1)) => ?_) (fun (hb11 : ¬ (¬ (s (F + 6) (p * 6 + w) : Int) = (-1))) => ?_)
      · refine wl_s (pc' := 48) ji_79_47 rfl rfl rfl ?_
        exact wl_ri ji_79_48 jr_79 (pv_nb (by omega)) (⟨rfl, 0, rfl, by omega, by omega⟩)
      · refine wl_s (pc' := 32) ji_79_31 rfl rfl rfl ?_
        refine wl_s (pc' := 33) ji_79_32 rfl rfl rfl ?_
        obtain ⟨q13, hq13⟩ := cs_c C (Nat.lt_of_lt_of_le (by decide) hF.1) hF.2.1
        refine wl_vc (d := d) (as := [.ref F, wp_i p]) (rest := []) ji_79_33 jc_79_75 rfl hq13 jk_69.symm (Nat.le_of_ble_eq_true rfl) rfl (by rw [jn_69]; rfl) (uc_69 (d := d) C hF I (p := p) (by omega)) (fun v1 h12 R => ?_)
        obtain ⟨ee, rfl⟩ := R
        rw [ee]
        clear ee
        show wl_R _ _ 79 36 [some (.ref F), some (wp_i w), some (wp_i p)] [wp_i (flg (fun j => s (F + 6) (p * 6 + j)) (s F 1).toNat)] _ _
        have fl14r := flg_6 (fun j => s (F + 6) (p * 6 + j)) (n := (s F 1).toNat) (by omega)
        obtain ⟨fl14, hfl14⟩ : ∃ z9_, flg (fun j => s (F + 6) (p * 6 + j)) (s F 1).toNat = z9_ := ⟨_, rfl⟩
        rw [hfl14] at fl14r ⊢
        refine wl_sc (d := d) (as := [wp_i fl14]) (rest := []) ji_79_36 jc_79_79 (Nat.le_of_ble_eq_true rfl) rfl (Nat.le_of_ble_eq_true rfl) rfl (by rw [jn_70]; rfl) (uc_70 (d := d) (x := fl14) (by omega)) (fun v1 h15 R => ?_)
        obtain ⟨ee, rfl⟩ := R
        rw [ee]
        clear ee
        show wl_R _ _ 79 39 [some (.ref F), some (wp_i w), some (wp_i p)] [wp_i (bcn fl14)] _ _
        have bc16 := bcn_r fl14
        refine wl_s (pc' := 40) ji_79_39 rfl rfl rfl ?_
        refine wl_icmp (t := 47) ji_79_40 rfl (by omega) (by omega) (fun (hb17 : (2 : Int) ≤ (bcn fl14)) => ?_) (fun (hb17 : ¬ ((2 : Int) ≤ (bcn fl14))) => ?_)
        · refine wl_s (pc' := 48) ji_79_47 rfl rfl rfl ?_
          exact wl_ri ji_79_48 jr_79 (pv_nb (by omega)) (⟨rfl, 0, rfl, by omega, by unfold fcn; rw [hfl14]; omega⟩)
        · refine wl_s (pc' := 44) ji_79_43 rfl rfl rfl ?_
          refine wl_goto (t := 48) ji_79_44 rfl ?_
          exact wl_ri ji_79_48 jr_79 (pv_nb (by omega)) (⟨rfl, 1, rfl, by omega, by unfold fcn; rw [hfl14]; omega⟩)
theorem uc_88 {nn d : Nat} {h : mj_H} {s : sg_} (C : CS h s) {F : Nat} (hF : isF F) (I : IF s F) {p n : Int} (hp : wp_r p) (hn : wp_r n) : wl_R nn (d + 1) 88 0 [some (.ref F), some (wp_i p), some (wp_i n)] [] h (fun v1 h1 => h1 = h ∧ ∃ y : Int, v1 = some (wp_i y) ∧ (y = 0 ∨ y = 1) ∧ (y = 1 ↔ ((0 ≤ p ∧ p < s F 0) ∧ 1 ≤ n ∧ n < s (F + 2) p))) := by
  have hI0 := I.1
  refine wl_s (pc' := 1) ji_88_0 rfl rfl rfl ?_
  refine wl_s (pc' := 2) ji_88_1 rfl rfl rfl ?_
  obtain ⟨q2, hq2⟩ := cs_c C (Nat.lt_of_lt_of_le (by decide) hF.1) hF.2.1
  refine wl_vc (d := d) (as := [.ref F, wp_i p]) (rest := []) ji_88_2 jc_88_66 rfl hq2 jk_81.symm (Nat.le_of_ble_eq_true rfl) rfl (by rw [jn_81]; rfl) (uc_81 (d := d) C hF (p := p) (by omega)) (fun v1 h1 R => ?_)
  obtain ⟨ee, y3, rfl, hy3a, hy3b⟩ := R
  rw [ee]
  clear ee
  show wl_R _ _ 88 5 [some (.ref F), some (wp_i p), some (wp_i n)] [wp_i y3] _ _
  refine wl_if (t := 27) ji_88_5 rfl (by omega) (fun (hb4 : (y3 : Int) = 0) => ?_) (fun (hb4 : ¬ ((y3 : Int) = 0)) => ?_)
  · refine wl_s (pc' := 28) ji_88_27 rfl rfl rfl ?_
    exact wl_ri ji_88_28 jr_88 (pv_nb (by omega)) (⟨rfl, 0, rfl, by omega, by omega⟩)
  · refine wl_s (pc' := 9) ji_88_8 rfl rfl rfl ?_
    refine wl_s (pc' := 10) ji_88_9 rfl rfl rfl ?_
    refine wl_icmp (t := 27) ji_88_10 rfl (by omega) (by omega) (fun (hb5 : (n : Int) < 1) => ?_) (fun (hb5 : ¬ ((n : Int) < 1)) => ?_)
    · refine wl_s (pc' := 28) ji_88_27 rfl rfl rfl ?_
      exact wl_ri ji_88_28 jr_88 (pv_nb (by omega)) (⟨rfl, 0, rfl, by omega, by omega⟩)
    · refine wl_s (pc' := 14) ji_88_13 rfl rfl rfl ?_
      refine wl_s (pc' := 15) ji_88_14 rfl rfl rfl ?_
      refine cs_gr (r := F + 2) (k := 3) C (Nat.lt_of_lt_of_le (by decide) hF.1) hF.2.1 rfl ji_88_15 jf_88_22 ?_
      refine wl_s (pc' := 19) ji_88_18 rfl rfl rfl ?_
      refine cs_l (x := p) C (Nat.lt_of_lt_of_le (by decide) (Nat.le_trans hF.1 (Nat.le_add_right _ _))) (isF_n hF 2 (by decide)) hF.2.2.2.1 (by omega) ji_88_19 (fun ld60 ld61 ld62 => ?_)
      have bd7 := I.2.2.1 (p) (by omega) (by omega)
      refine wl_icmp (t := 27) ji_88_20 rfl (by omega) (by omega) (fun (hb8 : (s (F + 2) p : Int) ≤ n) => ?_) (fun (hb8 : ¬ ((s (F + 2) p : Int) ≤ n)) => ?_)
      · refine wl_s (pc' := 28) ji_88_27 rfl rfl rfl ?_
        exact wl_ri ji_88_28 jr_88 (pv_nb (by omega)) (⟨rfl, 0, rfl, by omega, by omega⟩)
      · refine wl_s (pc' := 24) ji_88_23 rfl rfl rfl ?_
        refine wl_goto (t := 28) ji_88_24 rfl ?_
        exact wl_ri ji_88_28 jr_88 (pv_nb (by omega)) (⟨rfl, 1, rfl, by omega, by omega⟩)
theorem uc_75 {nn d : Nat} {h : mj_H} {s : sg_} (C : CS h s) {F : Nat} (hF : isF F) (I : IF s F) : wl_R nn (d + 0) 75 0 [some (.ref F), none] [] h (fun v1 h1 => v1 = some (wp_i (s F 12)) ∧ CS h1 (up s F 12 ((s F 12 * 283 + 181) % 30307))) := by
  refine wl_s (pc' := 1) ji_75_0 rfl rfl rfl ?_
  refine cs_gi (k := 12) (kI := 12) C (Nat.lt_of_lt_of_le (by decide) hF.1) (isF_n hF 0 (by decide)) hF.2.1 rfl rfl ji_75_1 jf_75_49 ?_
  have bd1 := I.2.2.2.2.2.2.2.2.2
  refine wl_s (pc' := 5) (lv' := [some (.ref F), some (wp_i (s F 12))]) ji_75_4 rfl rfl rfl ?_
  refine wl_s (pc' := 6) ji_75_5 rfl rfl rfl ?_
  refine wl_s (pc' := 7) ji_75_6 rfl rfl rfl ?_
  refine cs_gi (k := 12) (kI := 12) C (Nat.lt_of_lt_of_le (by decide) hF.1) (isF_n hF 0 (by decide)) hF.2.1 rfl rfl ji_75_7 jf_75_49 ?_
  refine wl_sp ji_75_10 rfl ?_
  refine wl_imul (x := s F 12) (y := 283) (z := (s F 12) * 283) ji_75_13 (by omega) ?_
  refine wl_sp ji_75_14 rfl ?_
  refine wl_iadd (x := (s F 12) * 283) (y := 181) (z := (s F 12) * 283 + 181) ji_75_17 (by omega) ?_
  refine wl_sp ji_75_18 rfl ?_
  refine wl_irem (x := (s F 12) * 283 + 181) (y := 30307) ji_75_21 (by omega) (by omega) ?_
  refine cs_pi (k := 12) (kI := 12) (y := ((s F 12) * 283 + 181) % 30307) C hF.1 hF.2.1 rfl rfl ji_75_22 jf_75_49 rfl rfl (by omega) (fun h C => ?_)
  obtain ⟨s2, es2⟩ : ∃ z9_, up s F 12 (((s F 12) * 283 + 181) % 30307) = z9_ := ⟨_, rfl⟩
  rw [es2] at C
  refine wl_s (pc' := 26) ji_75_25 rfl rfl rfl ?_
  exact wl_ri ji_75_26 jr_75 rfl (⟨rfl, cs_mono C (by rw [← es2])⟩)
theorem uc_74 {nn d : Nat} {h : mj_H} {s : sg_} (C : CS h s) {F : Nat} (hF : isF F) (I : IF s F) : wl_R nn (d + 1) 74 0 [some (.ref F)] [] h (fun v1 h1 => v1 = none ∧ CS h1 (up (up s F 12 ((s F 12 * 283 + 181) % 30307)) F 9 (s F 12 % 10))) := by
  have hI12 := I.2.2.2.2.2.2.2.2.2
  refine wl_s (pc' := 1) ji_74_0 rfl rfl rfl ?_
  refine wl_s (pc' := 2) ji_74_1 rfl rfl rfl ?_
  obtain ⟨q2, hq2⟩ := cs_c C (Nat.lt_of_lt_of_le (by decide) hF.1) hF.2.1
  refine wl_vc (d := d) (as := [.ref F]) (rest := [.ref F]) ji_74_2 jc_74_87 rfl hq2 jk_75.symm (Nat.le_of_ble_eq_true rfl) rfl (by rw [jn_75]; rfl) (uc_75 (d := d) C hF I) (fun v1 h1 R => ?_)
  obtain ⟨rfl, C⟩ := R
  obtain ⟨s3, es3⟩ : ∃ z9_, up s F 12 ((s F 12 * 283 + 181) % 30307) = z9_ := ⟨_, rfl⟩
  rw [es3] at C
  show wl_R _ _ 74 5 [some (.ref F)] [wp_i (s F 12), .ref F] h1 _
  refine wl_bp ji_74_5 rfl ?_
  refine wl_irem (x := s F 12) (y := 10) ji_74_7 (by omega) (by omega) ?_
  refine cs_pi (k := 9) (kI := 9) (y := (s F 12) % 10) C hF.1 hF.2.1 rfl rfl ji_74_8 jf_74_40 rfl rfl (by omega) (fun h C => ?_)
  obtain ⟨s4, es4⟩ : ∃ z9_, up s3 F 9 ((s F 12) % 10) = z9_ := ⟨_, rfl⟩
  rw [es4] at C
  exact wl_rv ji_74_11 jr_74 (⟨rfl, cs_mono C (by rw [← es4, ← es3])⟩)
def cutW (s : sg_) (F : Nat) (p n w : Int) : sg_ := fun b j => if b = F + 2 ∧ j = p then s (F + 2) p - n else if b = F + 6 ∧ p * 6 ≤ j ∧ j < p * 6 + w then min (s (F + 6) j) (s (F + 2) p - n) else s b j
theorem cutW_0 (s : sg_) (F : Nat) (p n : Int) : up s (F + 2) p (s (F + 2) p - n) = cutW s F p n 0 := by
  funext b j
  unfold up cutW
  by_cases h1 : b = F + 2 ∧ j = p
  · rw [if_pos h1, if_pos h1]
  · rw [if_neg h1, if_neg h1, if_neg (by omega)]
theorem cutW_s {s : sg_} {F : Nat} {p n w : Int} (hw : 0 ≤ w) : up (cutW s F p n w) (F + 6) (p * 6 + w) (min (s (F + 6) (p * 6 + w)) (s (F + 2) p - n)) = cutW s F p n (w + 1) := by
  funext b j
  unfold up cutW
  by_cases h1 : b = F + 6 ∧ j = p * 6 + w
  · obtain ⟨rfl, rfl⟩ := h1
    rw [if_pos ⟨rfl, rfl⟩, if_neg (by omega), if_pos ⟨rfl, by omega, by omega⟩]
  · rw [if_neg h1]
    by_cases h2 : b = F + 2 ∧ j = p
    · rw [if_pos h2, if_pos h2]
    · rw [if_neg h2, if_neg h2]
      by_cases h3 : b = F + 6 ∧ p * 6 ≤ j ∧ j < p * 6 + w
      · rw [if_pos h3, if_pos ⟨h3.1, h3.2.1, by omega⟩]
      · rw [if_neg h3, if_neg (fun z => h3 ⟨z.1, z.2.1, by by_cases e : j = p * 6 + w; exact absurd ⟨z.1, e⟩ h1; omega⟩)]
theorem cutW_1 {s : sg_} {F : Nat} {p n w : Int} {k : Int} : cutW s F p n w F k = s F k := by
  unfold cutW
  rw [if_neg (fun z => by omega), if_neg (fun z => by omega)]
theorem cutW_t {s : sg_} {F : Nat} {p n w : Int} : cutW s F p n w (F + 2) p = s (F + 2) p - n := if_pos ⟨rfl, rfl⟩
theorem cutW_h {s : sg_} {F : Nat} {p n w : Int} : cutW s F p n w (F + 6) (p * 6 + w) = s (F + 6) (p * 6 + w) := by
  unfold cutW
  rw [if_neg (fun z => by omega), if_neg (fun z => by omega)]
theorem uc_89l {d : Nat} {s : sg_} {F : Nat} (hF : isF F) (I : IF s F) {p n : Int} (hp : 0 ≤ p ∧ p < 8) (hn : 0 ≤ n ∧ n < s (F + 2) p) : ∀ (nn : Nat) (w : Int) (l4 : Option Value) (h : mj_H), (0 ≤ w ∧ w ≤ s F 1) → CS h (cutW s F p n w) → wl_R nn d 89 12 [some (.ref F), some (wp_i p), some (wp_i n), some (wp_i w), l4] [] h (fun v1 h1 => v1 = none ∧ CS h1 (cutW s F p n (s F 1))) := by
  intro nn
  induction nn with
  | zero => intros; exact wl_0
  | succ nn ih =>
    intro w l4 h hw C
    obtain ⟨t, et⟩ : ∃ t, cutW s F p n w = t := ⟨_, rfl⟩
    rw [et] at C
    have t1 : t F 1 = s F 1 := by rw [← et, cutW_1]
    have tt : t (F + 2) p = s (F + 2) p - n := by rw [← et, cutW_t]
    have th : t (F + 6) (p * 6 + w) = s (F + 6) (p * 6 + w) := by rw [← et, cutW_h]
    have hI1 := I.2.1
    have hIt := I.2.2.1 p hp.1 hp.2
    have hIh := I.2.2.2.2.1 (p * 6 + w)
    refine wl_s1 (pc' := 13) ji_89_12 rfl rfl rfl ?_
    refine wl_s (pc' := 14) ji_89_13 rfl rfl rfl ?_
    refine cs_gi (k := 1) (kI := 1) C (Nat.lt_of_lt_of_le (by decide) hF.1) (isF_n hF 0 (by decide)) hF.2.1 rfl rfl ji_89_14 jf_89_15 ?_
    rw [t1]
    have bd1 := I.2.1
    refine wl_icmp (t := 57) ji_89_17 rfl (by omega) (by omega) (fun (hb2 : (s F 1 : Int) ≤ w) => ?_) (fun (hb2 : ¬ ((s F 1 : Int) ≤ w)) => ?_)
    · exact wl_rv ji_89_57 jr_89 (⟨rfl, cs_mono C (by rw [← et, show w = s F 1 by omega])⟩)
    · refine wl_s (pc' := 21) ji_89_20 rfl rfl rfl ?_
      refine wl_bp ji_89_21 rfl ?_
      refine wl_imul (x := p) (y := 6) (z := p * 6) ji_89_23 (by omega) ?_
      refine wl_s (pc' := 25) ji_89_24 rfl rfl rfl ?_
      refine wl_iadd (x := p * 6) (y := w) (z := p * 6 + w) ji_89_25 (by omega) ?_
      refine wl_s (pc' := 28) (lv' := [some (.ref F), some (wp_i p), some (wp_i n), some (wp_i w), some (wp_i (p * 6 + w))]) ji_89_26 rfl rfl rfl ?_
      refine wl_s (pc' := 29) ji_89_28 rfl rfl rfl ?_
      refine cs_gr (r := F + 6) (k := 7) C (Nat.lt_of_lt_of_le (by decide) hF.1) hF.2.1 rfl ji_89_29 jf_89_34 ?_
      refine wl_s (pc' := 34) ji_89_32 rfl rfl rfl ?_
      refine wl_s (pc' := 35) ji_89_34 rfl rfl rfl ?_
      refine cs_gr (r := F + 6) (k := 7) C (Nat.lt_of_lt_of_le (by decide) hF.1) hF.2.1 rfl ji_89_35 jf_89_34 ?_
      refine wl_s (pc' := 40) ji_89_38 rfl rfl rfl ?_
      refine cs_l (x := p * 6 + w) C (Nat.lt_of_lt_of_le (by decide) (Nat.le_trans hF.1 (Nat.le_add_right _ _))) (isF_n hF 6 (by decide)) hF.2.2.2.2.2.2.2.1 (by omega) ji_89_40 (fun ld30 ld31 ld32 => ?_)
      rw [th] at ld32 ⊢
      have bd4 := I.2.2.2.2.1 (p * 6 + w) (by omega) (by omega)
      refine wl_s (pc' := 42) ji_89_41 rfl rfl rfl ?_
      refine cs_gr (r := F + 2) (k := 3) C (Nat.lt_of_lt_of_le (by decide) hF.1) hF.2.1 rfl ji_89_42 jf_89_22 ?_
      refine wl_s (pc' := 46) ji_89_45 rfl rfl rfl ?_
      refine cs_l (x := p) C (Nat.lt_of_lt_of_le (by decide) (Nat.le_trans hF.1 (Nat.le_add_right _ _))) (isF_n hF 2 (by decide)) hF.2.2.2.1 (by omega) ji_89_46 (fun ld50 ld51 ld52 => ?_)
      rw [tt] at ld52 ⊢
      have bd6 := I.2.2.1 (p) (by omega) (by omega)
      refine wl_mn (a := s (F + 6) (p * 6 + w)) (b := s (F + 2) p - n) ji_89_47 jc_89_84 (Nat.le_of_ble_eq_true rfl) (by omega) (by omega) ?_
      refine cs_s (x := p * 6 + w) (y := min (s (F + 6) (p * 6 + w)) (s (F + 2) p - n)) C (Nat.lt_of_lt_of_le (by decide) (Nat.le_trans hF.1 (Nat.le_add_right _ _))) hF.2.2.2.2.2.2.2.1 (by omega) (by omega) ji_89_50 (fun h st70 st71 C => ?_)
      obtain ⟨s8, es8⟩ : ∃ z9_, up t (F + 6) (p * 6 + w) (min (s (F + 6) (p * 6 + w)) (s (F + 2) p - n)) = z9_ := ⟨_, rfl⟩
      rw [es8] at C
      refine wl_iinc (x := w) (z := w + 1) (lv' := [some (.ref F), some (wp_i p), some (wp_i n), some (wp_i (w + 1)), some (wp_i (p * 6 + w))]) ji_89_51 rfl (Nat.le_of_ble_eq_true rfl) (by omega) rfl ?_
      refine wl_goto (t := 12) ji_89_54 rfl ?_
      have C := cs_mono C (show s8 = cutW s F p n (w + 1) by rw [← es8, ← et]; exact cutW_s (by omega))
      exact ih (w + 1) _ _ (by omega) C
theorem uc_89 {nn d : Nat} {h : mj_H} {s : sg_} (C : CS h s) {F : Nat} (hF : isF F) (I : IF s F) {p n : Int} (hp : 0 ≤ p ∧ p < 8) (hn : 0 ≤ n ∧ n < s (F + 2) p) : wl_R nn d 89 0 [some (.ref F), some (wp_i p), some (wp_i n), none, none] [] h (fun v1 h1 => v1 = none ∧ CS h1 (cutW s F p n (s F 1))) := by
  have hIt := I.2.2.1 p hp.1 hp.2
  refine wl_s (pc' := 1) ji_89_0 rfl rfl rfl ?_
  refine cs_gr (r := F + 2) (k := 3) C (Nat.lt_of_lt_of_le (by decide) hF.1) hF.2.1 rfl ji_89_1 jf_89_22 ?_
  refine wl_s (pc' := 5) ji_89_4 rfl rfl rfl ?_
  refine wl_s (pc' := 6) ji_89_5 rfl rfl rfl ?_
  refine cs_l (x := p) C (Nat.lt_of_lt_of_le (by decide) (Nat.le_trans hF.1 (Nat.le_add_right _ _))) (isF_n hF 2 (by decide)) hF.2.2.2.1 (by omega) ji_89_6 (fun ld10 ld11 ld12 => ?_)
  have bd2 := I.2.2.1 (p) (by omega) (by omega)
  refine wl_s (pc' := 8) ji_89_7 rfl rfl rfl ?_
  refine wl_isub (x := s (F + 2) p) (y := n) (z := s (F + 2) p - n) ji_89_8 (by omega) ?_
  refine cs_s (x := p) (y := s (F + 2) p - n) C (Nat.lt_of_lt_of_le (by decide) (Nat.le_trans hF.1 (Nat.le_add_right _ _))) hF.2.2.2.1 (by omega) (by omega) ji_89_9 (fun h st30 st31 C => ?_)
  obtain ⟨s4, es4⟩ : ∃ z9_, up s (F + 2) p (s (F + 2) p - n) = z9_ := ⟨_, rfl⟩
  rw [es4] at C
  refine wl_s (pc' := 11) ji_89_10 rfl rfl rfl ?_
  refine wl_s (pc' := 12) (lv' := [some (.ref F), some (wp_i p), some (wp_i n), some (wp_i 0), none]) ji_89_11 rfl rfl rfl ?_
  exact uc_89l hF I hp hn nn 0 none _ (by have := I.2.1; omega) (cs_mono C (by rw [← es4, cutW_0]))
