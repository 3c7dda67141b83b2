/-! -/
set_option maxRecDepth 100000 in
theorem ji_117_43 : mj_ins 117 43 = some (.iconst 0) := by decide +kernel
set_option maxRecDepth 100000 in
theorem ji_117_44 : mj_ins 117 44 = some (.ireturn) := by decide +kernel
set_option maxRecDepth 100000 in
theorem ji_115_0 : mj_ins 115 0 = some (.aload_n 1) := by decide +kernel
set_option maxRecDepth 100000 in
theorem ji_115_1 : mj_ins 115 1 = some (.getfield 26) := by decide +kernel
set_option maxRecDepth 100000 in
theorem jf_115_26 : mj_fld 115 26 = some (2, 0, (.object "ForestOfPoles$Forest"), false) := by decide +kernel
set_option maxRecDepth 100000 in
theorem ji_115_4 : mj_ins 115 4 = some (.getfield 47) := by decide +kernel
set_option maxRecDepth 100000 in
theorem jf_115_47 : mj_fld 115 47 = some (3, 9, .int, true) := by decide +kernel
set_option maxRecDepth 100000 in
theorem ji_115_7 : mj_ins 115 7 = some (.ifCond .ne 21) := by decide +kernel
set_option maxRecDepth 100000 in
theorem ji_115_28 : mj_ins 115 28 = some (.iconst 0) := by decide +kernel
set_option maxRecDepth 100000 in
theorem ji_115_29 : mj_ins 115 29 = some (.istore 5) := by decide +kernel
set_option maxRecDepth 100000 in
theorem ji_115_31 : mj_ins 115 31 = some (.iload 5) := by decide +kernel
set_option maxRecDepth 100000 in
theorem ji_115_33 : mj_ins 115 33 = some (.iload_n 3) := by decide +kernel
set_option maxRecDepth 100000 in
theorem ji_115_34 : mj_ins 115 34 = some (.if_icmp .ge 23) := by decide +kernel
set_option maxRecDepth 100000 in
theorem ji_115_57 : mj_ins 115 57 = some (.aload_n 0) := by decide +kernel
set_option maxRecDepth 100000 in
theorem ji_115_58 : mj_ins 115 58 = some (.iconst 0) := by decide +kernel
set_option maxRecDepth 100000 in
theorem ji_115_59 : mj_ins 115 59 = some (.putfield 21) := by decide +kernel
set_option maxRecDepth 100000 in
theorem jf_115_21 : mj_fld 115 21 = some (10, 2, .int, true) := by decide +kernel
set_option maxRecDepth 100000 in
theorem ji_115_62 : mj_ins 115 62 = some (.aload_n 0) := by decide +kernel
set_option maxRecDepth 100000 in
theorem ji_115_63 : mj_ins 115 63 = some (.aload_n 1) := by decide +kernel
set_option maxRecDepth 100000 in
theorem ji_115_64 : mj_ins 115 64 = some (.invokevirtual 36) := by decide +kernel
set_option maxRecDepth 100000 in
theorem jc_115_36 : mj_cal 115 36 = some (2, 62, 0) := by decide +kernel
set_option maxRecDepth 100000 in
theorem ji_115_67 : mj_ins 115 67 = some (.iload_n 2) := by decide +kernel
set_option maxRecDepth 100000 in
theorem ji_115_68 : mj_ins 115 68 = some (.iload_n 3) := by decide +kernel
set_option maxRecDepth 100000 in
theorem ji_115_69 : mj_ins 115 69 = some (.iconst 0) := by decide +kernel
set_option maxRecDepth 100000 in
theorem ji_115_70 : mj_ins 115 70 = some (.iload 4) := by decide +kernel
set_option maxRecDepth 100000 in
theorem ji_115_72 : mj_ins 115 72 = some (.invokevirtual 53) := by decide +kernel
set_option maxRecDepth 100000 in
theorem jc_115_53 : mj_cal 115 53 = some (2, 116, 5) := by decide +kernel
set_option maxRecDepth 100000 in
theorem ji_115_75 : mj_ins 115 75 = some (.aload_n 0) := by decide +kernel
set_option maxRecDepth 100000 in
theorem ji_115_76 : mj_ins 115 76 = some (.getfield 21) := by decide +kernel
set_option maxRecDepth 100000 in
theorem ji_115_79 : mj_ins 115 79 = some (.ireturn) := by decide +kernel
set_option maxRecDepth 100000 in
theorem jr_115 : mj_ret 115 = some .int := by decide +kernel
set_option maxRecDepth 100000 in
theorem ji_115_37 : mj_ins 115 37 = some (.aload_n 0) := by decide +kernel
set_option maxRecDepth 100000 in
theorem ji_115_38 : mj_ins 115 38 = some (.getfield 13) := by decide +kernel
set_option maxRecDepth 100000 in
theorem jf_115_13 : mj_fld 115 13 = some (10, 0, (.array (.object "ForestOfPoles$Forest")), false) := by decide +kernel
set_option maxRecDepth 100000 in
theorem ji_115_41 : mj_ins 115 41 = some (.iload 5) := by decide +kernel
set_option maxRecDepth 100000 in
theorem ji_115_43 : mj_ins 115 43 = some (.aaload) := by decide +kernel
set_option maxRecDepth 100000 in
theorem ji_115_44 : mj_ins 115 44 = some (.aload_n 1) := by decide +kernel
set_option maxRecDepth 100000 in
theorem ji_115_45 : mj_ins 115 45 = some (.getfield 26) := by decide +kernel
set_option maxRecDepth 100000 in
theorem ji_115_48 : mj_ins 115 48 = some (.invokevirtual 32) := by decide +kernel
set_option maxRecDepth 100000 in
theorem jc_115_32 : mj_cal 115 32 = some (2, 106, 1) := by decide +kernel
set_option maxRecDepth 100000 in
theorem ji_115_51 : mj_ins 115 51 = some (.iinc 5 1) := by decide +kernel
set_option maxRecDepth 100000 in
theorem ji_115_54 : mj_ins 115 54 = some (.goto (-23)) := by decide +kernel
set_option maxRecDepth 100000 in
theorem ji_115_10 : mj_ins 115 10 = some (.aload_n 1) := by decide +kernel
set_option maxRecDepth 100000 in
theorem ji_115_11 : mj_ins 115 11 = some (.getfield 26) := by decide +kernel
set_option maxRecDepth 100000 in
theorem ji_115_14 : mj_ins 115 14 = some (.getfield 50) := by decide +kernel
set_option maxRecDepth 100000 in
theorem jf_115_50 : mj_fld 115 50 = some (3, 11, .int, true) := by decide +kernel
set_option maxRecDepth 100000 in
theorem ji_115_17 : mj_ins 115 17 = some (.iload_n 2) := by decide +kernel
set_option maxRecDepth 100000 in
theorem ji_115_18 : mj_ins 115 18 = some (.if_icmp .ne 8) := by decide +kernel
set_option maxRecDepth 100000 in
theorem ji_115_26 : mj_ins 115 26 = some (.iconst 0) := by decide +kernel
set_option maxRecDepth 100000 in
theorem ji_115_27 : mj_ins 115 27 = some (.ireturn) := by decide +kernel
set_option maxRecDepth 100000 in
theorem ji_115_21 : mj_ins 115 21 = some (.iload 4) := by decide +kernel
set_option maxRecDepth 100000 in
theorem ji_115_23 : mj_ins 115 23 = some (.goto 4) := by decide +kernel
set_option maxRecDepth 100000 in
theorem ji_114_0 : mj_ins 114 0 = some (.aload_n 0) := by decide +kernel
set_option maxRecDepth 100000 in
theorem ji_114_1 : mj_ins 114 1 = some (.getfield 19) := by decide +kernel
set_option maxRecDepth 100000 in
theorem jf_114_19 : mj_fld 114 19 = some (0, 0, (.object "ForestOfPoles$State"), false) := by decide +kernel
set_option maxRecDepth 100000 in
theorem ji_114_4 : mj_ins 114 4 = some (.getfield 49) := by decide +kernel
set_option maxRecDepth 100000 in
theorem jf_114_49 : mj_fld 114 49 = some (2, 0, (.object "ForestOfPoles$Forest"), false) := by decide +kernel
set_option maxRecDepth 100000 in
theorem ji_114_7 : mj_ins 114 7 = some (.iload_n 1) := by decide +kernel
set_option maxRecDepth 100000 in
theorem ji_114_8 : mj_ins 114 8 = some (.invokevirtual 177) := by decide +kernel
set_option maxRecDepth 100000 in
theorem jc_114_177 : mj_cal 114 177 = some (2, 80, 1) := by decide +kernel
set_option maxRecDepth 100000 in
theorem ji_114_11 : mj_ins 114 11 = some (.ifCond .eq 12) := by decide +kernel
set_option maxRecDepth 100000 in
theorem ji_114_23 : mj_ins 114 23 = some (.ldc2_w 231) := by decide +kernel
set_option maxRecDepth 100000 in
theorem jcn_114_231 : mj_con 114 231 = some (.long (-1)) := by decide +kernel
set_option maxRecDepth 100000 in
theorem ji_114_26 : mj_ins 114 26 = some (.lreturn) := by decide +kernel
set_option maxRecDepth 100000 in
theorem jr_114 : mj_ret 114 = some .long := by decide +kernel
set_option maxRecDepth 100000 in
theorem ji_114_14 : mj_ins 114 14 = some (.iload_n 2) := by decide +kernel
set_option maxRecDepth 100000 in
theorem ji_114_15 : mj_ins 114 15 = some (.ifCond .lt 8) := by decide +kernel
set_option maxRecDepth 100000 in
theorem ji_114_18 : mj_ins 114 18 = some (.iload_n 2) := by decide +kernel
set_option maxRecDepth 100000 in
theorem ji_114_19 : mj_ins 114 19 = some (.iconst 3) := by decide +kernel
set_option maxRecDepth 100000 in
theorem ji_114_20 : mj_ins 114 20 = some (.if_icmp .le 7) := by decide +kernel
set_option maxRecDepth 100000 in
theorem ji_114_27 : mj_ins 114 27 = some (.iconst 1) := by decide +kernel
set_option maxRecDepth 100000 in
theorem ji_114_28 : mj_ins 114 28 = some (.istore 4) := by decide +kernel
set_option maxRecDepth 100000 in
theorem ji_114_30 : mj_ins 114 30 = some (.iconst 0) := by decide +kernel
set_option maxRecDepth 100000 in
theorem ji_114_31 : mj_ins 114 31 = some (.istore 5) := by decide +kernel
set_option maxRecDepth 100000 in
theorem ji_114_33 : mj_ins 114 33 = some (.iload 5) := by decide +kernel
set_option maxRecDepth 100000 in
theorem ji_114_35 : mj_ins 114 35 = some (.iload_n 2) := by decide +kernel
set_option maxRecDepth 100000 in
theorem ji_114_36 : mj_ins 114 36 = some (.if_icmp .ge 16) := by decide +kernel
set_option maxRecDepth 100000 in
theorem ji_114_52 : mj_ins 114 52 = some (.aload_n 0) := by decide +kernel
set_option maxRecDepth 100000 in
theorem ji_114_53 : mj_ins 114 53 = some (.getfield 45) := by decide +kernel
set_option maxRecDepth 100000 in
theorem jf_114_45 : mj_fld 114 45 = some (0, 4, (.object "ForestOfPoles$Lookout"), false) := by decide +kernel
set_option maxRecDepth 100000 in
theorem ji_114_56 : mj_ins 114 56 = some (.aload_n 0) := by decide +kernel
set_option maxRecDepth 100000 in
theorem ji_114_57 : mj_ins 114 57 = some (.getfield 19) := by decide +kernel
set_option maxRecDepth 100000 in
theorem ji_114_60 : mj_ins 114 60 = some (.iload_n 1) := by decide +kernel
set_option maxRecDepth 100000 in
theorem ji_114_61 : mj_ins 114 61 = some (.iload_n 2) := by decide +kernel
set_option maxRecDepth 100000 in
theorem ji_114_62 : mj_ins 114 62 = some (.iload 4) := by decide +kernel
set_option maxRecDepth 100000 in
theorem ji_114_64 : mj_ins 114 64 = some (.invokevirtual 233) := by decide +kernel
set_option maxRecDepth 100000 in
theorem jc_114_233 : mj_cal 114 233 = some (2, 115, 4) := by decide +kernel
set_option maxRecDepth 100000 in
theorem jn_115 : mj_nl 115 = 6 := by decide +kernel
set_option maxRecDepth 100000 in
theorem jk_115 : mj_cls 115 = 10 := by decide +kernel
set_option maxRecDepth 100000 in
theorem ji_114_67 : mj_ins 114 67 = some (.iload 4) := by decide +kernel
set_option maxRecDepth 100000 in
theorem ji_114_69 : mj_ins 114 69 = some (.iload_n 3) := by decide +kernel
set_option maxRecDepth 100000 in
theorem ji_114_70 : mj_ins 114 70 = some (.invokestatic 237) := by decide +kernel
set_option maxRecDepth 100000 in
theorem jc_114_237 : mj_cal 114 237 = some (1, 117, 3) := by decide +kernel
set_option maxRecDepth 100000 in
theorem ji_114_73 : mj_ins 114 73 = some (.i2l) := by decide +kernel
set_option maxRecDepth 100000 in
theorem ji_114_74 : mj_ins 114 74 = some (.lreturn) := by decide +kernel
set_option maxRecDepth 100000 in
theorem ji_114_39 : mj_ins 114 39 = some (.iload 4) := by decide +kernel
set_option maxRecDepth 100000 in
theorem ji_114_41 : mj_ins 114 41 = some (.bipush 10) := by decide +kernel
set_option maxRecDepth 100000 in
theorem ji_114_43 : mj_ins 114 43 = some (.imul) := by decide +kernel
set_option maxRecDepth 100000 in
theorem ji_114_44 : mj_ins 114 44 = some (.istore 4) := by decide +kernel
set_option maxRecDepth 100000 in
theorem ji_114_46 : mj_ins 114 46 = some (.iinc 5 1) := by decide +kernel
set_option maxRecDepth 100000 in
theorem ji_114_49 : mj_ins 114 49 = some (.goto (-16)) := by decide +kernel
/-! the class's drops; laid by program (wp_v03.py) -/
/-- Euclid's steps, at most so many -/
def gcE : Nat → Int → Int → Int
  | 0, x, _ => x
  | k + 1, x, y => if y = 0 then x else gcE k y (x % y)
theorem gcE_b : ∀ (k : Nat) (x y : Int), 0 ≤ x ∧ x ≤ 1000 → 0 ≤ y ∧ y ≤ 1000 → 0 ≤ gcE k x y ∧ gcE k x y ≤ 1000
  | 0, x, y, hx, _ => hx
  | k + 1, x, y, hx, hy => by
    unfold gcE
    by_cases q : y = 0
    · rw [if_pos q]; exact hx
    · rw [if_neg q]
      have a := Int.emod_nonneg x q
      have b := Int.emod_lt_of_pos x (show 0 < y by omega)
      exact gcE_b k y _ hy (by omega)
/-- a part in lowest terms -/
def ltC (a b z : Int) : Int := if gcE 64 a b = 0 then 0 else if z = 0 then a / gcE 64 a b else b / gcE 64 a b
theorem uc_117e {nn d : Nat} {h : mj_H} {a b z x y : Int} {l5 l6 : Option Value} (ha : 0 ≤ a ∧ a ≤ 1000) (hb : 0 ≤ b ∧ b ≤ 1000) (hz : z = 0 ∨ z = 1) (hx : 0 ≤ x ∧ x ≤ 1000) : wl_R nn d 117 39 [some (wp_i a), some (wp_i b), some (wp_i z), some (wp_i x), some (wp_i y), l5, l6] [] h (fun v1 h1 => h1 = h ∧ v1 = some (wp_i (if x = 0 then 0 else if z = 0 then a / x else b / x))) := by
  refine wl_s (pc' := 40) ji_117_39 rfl rfl rfl ?_
  refine wl_if (t := 45) ji_117_40 rfl (by omega) (fun (hb1 : ¬ (x : Int) = 0) => ?_) (fun (hb1 : ¬ (¬ (x : Int) = 0)) => ?_)
  · refine wl_s (pc' := 46) ji_117_45 rfl rfl rfl ?_
    refine wl_if (t := 55) ji_117_46 rfl (by omega) (fun (hb2 : (z : Int) = 0) => ?_) (fun (hb2 : ¬ ((z : Int) = 0)) => ?_)
    · refine wl_s (pc' := 56) ji_117_55 rfl rfl rfl ?_
      refine wl_s (pc' := 57) ji_117_56 rfl rfl rfl ?_
      refine wl_idiv (x := a) (y := x) ji_117_57 (by omega) (by omega) ?_
      exact wl_ri ji_117_58 jr_117 rfl (⟨rfl, by rw [if_neg (by omega), if_pos (by omega)]⟩)
    · refine wl_s (pc' := 50) ji_117_49 rfl rfl rfl ?_
      refine wl_s (pc' := 51) ji_117_50 rfl rfl rfl ?_
      refine wl_idiv (x := b) (y := x) ji_117_51 (by omega) (by omega) ?_
      refine wl_goto (t := 58) ji_117_52 rfl ?_
      exact wl_ri ji_117_58 jr_117 rfl (⟨rfl, by rw [if_neg (by omega), if_neg (by omega)]⟩)
  · refine wl_s (pc' := 44) ji_117_43 rfl rfl rfl ?_
    exact wl_ri ji_117_44 jr_117 rfl (⟨rfl, by rw [if_pos (by omega)]⟩)
theorem uc_117l {d : Nat} {h : mj_H} {a b z : Int} (ha : 0 ≤ a ∧ a ≤ 1000) (hb : 0 ≤ b ∧ b ≤ 1000) (hz : z = 0 ∨ z = 1) : ∀ (nn i : Nat) (x y : Int) (l6 : Option Value), (0 ≤ x ∧ x ≤ 1000) → (0 ≤ y ∧ y ≤ 1000) → i ≤ 64 → wl_R nn d 117 8 [some (wp_i a), some (wp_i b), some (wp_i z), some (wp_i x), some (wp_i y), some (wp_i ((i : Int))), l6] [] h (fun v1 h1 => h1 = h ∧ v1 = some (wp_i (if gcE (64 - i) x y = 0 then 0 else if z = 0 then a / gcE (64 - i) x y else b / gcE (64 - i) x y))) := by
  intro nn
  induction nn with
  | zero => intros; exact wl_0
  | succ nn ih =>
    intro i x y l6 hx hy hi
    refine wl_s1 (pc' := 10) ji_117_8 rfl rfl rfl ?_
    refine wl_bp ji_117_10 rfl ?_
    refine wl_icmp (t := 39) ji_117_12 rfl (by omega) (by omega) (fun (hb1 : (64 : Int) ≤ ((i : Int))) => ?_) (fun (hb1 : ¬ ((64 : Int) ≤ ((i : Int)))) => ?_)
    · have eg : gcE (64 - i) x y = x := by { rw [show 64 - i = 0 by omega]; rfl }
      rw [eg]
      exact uc_117e ha hb hz hx
    · refine wl_s (pc' := 17) ji_117_15 rfl rfl rfl ?_
      refine wl_if (t := 39) ji_117_17 rfl (by omega) (fun (hb2 : (y : Int) = 0) => ?_) (fun (hb2 : ¬ ((y : Int) = 0)) => ?_)
      · have eg : gcE (64 - i) x y = x := by { rw [show 64 - i = (64 - (i + 1)) + 1 by omega]; exact if_pos (by omega) }
        rw [eg]
        exact uc_117e ha hb hz hx
      · refine wl_s (pc' := 21) ji_117_20 rfl rfl rfl ?_
        refine wl_s (pc' := 23) ji_117_21 rfl rfl rfl ?_
        refine wl_irem (x := x) (y := y) ji_117_23 (by omega) (by omega) ?_
        refine wl_s (pc' := 26) (lv' := [some (wp_i a), some (wp_i b), some (wp_i z), some (wp_i x), some (wp_i y), some (wp_i ((i : Int))), some (wp_i (x % y))]) ji_117_24 rfl rfl rfl ?_
        refine wl_s (pc' := 28) ji_117_26 rfl rfl rfl ?_
        refine wl_s (pc' := 29) (lv' := [some (wp_i a), some (wp_i b), some (wp_i z), some (wp_i y), some (wp_i y), some (wp_i ((i : Int))), some (wp_i (x % y))]) ji_117_28 rfl rfl rfl ?_
        refine wl_s (pc' := 31) ji_117_29 rfl rfl rfl ?_
        refine wl_s (pc' := 33) (lv' := [some (wp_i a), some (wp_i b), some (wp_i z), some (wp_i y), some (wp_i (x % y)), some (wp_i ((i : Int))), some (wp_i (x % y))]) ji_117_31 rfl rfl rfl ?_
        refine wl_iinc (x := (i : Int)) (z := (i : Int) + 1) (lv' := [some (wp_i a), some (wp_i b), some (wp_i z), some (wp_i y), some (wp_i (x % y)), some (wp_i ((i : Int) + 1)), some (wp_i (x % y))]) ji_117_33 rfl (Nat.le_of_ble_eq_true rfl) (by omega) rfl ?_
        refine wl_goto (t := 8) ji_117_36 rfl ?_
        have ma := Int.emod_nonneg x (show ¬ y = 0 by omega)
        have mb := Int.emod_lt_of_pos x (show 0 < y by omega)
        have eg : gcE (64 - i) x y = gcE (64 - (i + 1)) y (x % y) := by { rw [show 64 - i = (64 - (i + 1)) + 1 by omega]; exact if_neg (by omega) }
        rw [eg, show (i : Int) + 1 = ((i + 1 : Nat) : Int) by omega]
        exact ih (i + 1) _ _ _ (by omega) (by omega) (by omega)
theorem uc_117 {nn d : Nat} {h : mj_H} {a b z : Int} (ha : 0 ≤ a ∧ a ≤ 1000) (hb : 0 ≤ b ∧ b ≤ 1000) (hz : z = 0 ∨ z = 1) : wl_R nn d 117 0 [some (wp_i a), some (wp_i b), some (wp_i z), none, none, none, none] [] h (fun v1 h1 => h1 = h ∧ v1 = some (wp_i (ltC a b z))) := by
  refine wl_s (pc' := 1) ji_117_0 rfl rfl rfl ?_
  refine wl_s (pc' := 2) (lv' := [some (wp_i a), some (wp_i b), some (wp_i z), some (wp_i a), none, none, none]) ji_117_1 rfl rfl rfl ?_
  refine wl_s (pc' := 3) ji_117_2 rfl rfl rfl ?_
  refine wl_s (pc' := 5) (lv' := [some (wp_i a), some (wp_i b), some (wp_i z), some (wp_i a), some (wp_i b), none, none]) ji_117_3 rfl rfl rfl ?_
  refine wl_s (pc' := 6) ji_117_5 rfl rfl rfl ?_
  refine wl_s (pc' := 8) (lv' := [some (wp_i a), some (wp_i b), some (wp_i z), some (wp_i a), some (wp_i b), some (wp_i 0), none]) ji_117_6 rfl rfl rfl ?_
  rw [show (0 : Int) = ((0 : Nat) : Int) from rfl]
  exact uc_117l ha hb hz nn 0 a b none ha hb (by decide)
theorem uc_116_z {nn d : Nat} {h : mj_H} {T : Nat} {w n wt : Int} (hn : n ≤ 0) (hnr : wp_r n) : wl_R nn d 116 0 [some (.ref 95), some (.ref T), some (wp_i w), some (wp_i n), some (wp_i 0), some (wp_i wt), none, none, none] [] h (fun v1 h1 => v1 = none ∧ h1 = h) := by
  refine wl_s (pc' := 2) ji_116_0 rfl rfl rfl ?_
  refine wl_s (pc' := 3) ji_116_2 rfl rfl rfl ?_
  refine wl_icmp (t := 12) ji_116_3 rfl (by omega) (by omega) (fun (hb1 : (n : Int) ≤ 0) => ?_) (fun (hb1 : ¬ ((n : Int) ≤ 0)) => (by exfalso; omega))
  exact wl_rv ji_116_12 jr_116 (⟨rfl, rfl⟩)
theorem uc_115 {nn d : Nat} {h : mj_H} {s r : sg_} (C : CS h s) {tc : tcs} (N : NV s tc) {cr : crs} {w n wt : Int} (E : eqLaw (tc (rulT s)) cr) (A : askR (cr 2)) (hw : wp_r w) (hn : 0 ≤ n ∧ n ≤ 3) (hwt : 0 ≤ wt ∧ wt ≤ 1000) (R0 : relF s r 48 139) (RGr : RG r) (h12 : 0 ≤ r 139 12) : wl_R nn (d + 8) 115 0 [some (.ref 95), some (.ref 47), some (wp_i w), some (wp_i n), some (wp_i wt), none] [] h (fun v1 h1 => v1 = some (wp_i (if s 48 9 = 0 then (if s 48 11 = w then wt else 0) else dpN cr w n.toNat wt r)) ∧ ∃ t, (∀ (b : Nat) (j : Int), ¬ (98 ≤ b ∧ b ≤ 121) → ¬ (b = 95 ∧ j = 2) → t b j = s b j) ∧ CS h1 t) := by
  have hT := rulT_i N.t.2
  refine wl_s (pc' := 1) ji_115_0 rfl rfl rfl ?_
  refine cs_gr (r := 48) (k := 0) C (by decide) sq_47 rfl ji_115_1 jf_115_26 ?_
  refine cs_gi (k := 9) (kI := 9) C (by decide) (by decide) sq_48 rfl rfl ji_115_4 jf_115_47 ?_
  have bd1 : wp_r (s 48 9) := cs_ri (k := 9) (kI := 9) C (by decide) (by decide) sq_48 rfl rfl (show 9 < 13 by decide)
  refine wl_if (t := 28) ji_115_7 rfl (by omega) (fun (hb2 : ¬ (s 48 9 : Int) = 0) => ?_) (fun (hb2 : ¬ (¬ (s 48 9 : Int) = 0)) => ?_)
  · refine wl_s (pc' := 29) ji_115_28 rfl rfl rfl ?_
    refine wl_s (pc' := 31) (lv' := [some (.ref 95), some (.ref 47), some (wp_i w), some (wp_i n), some (wp_i wt), some (wp_i 0)]) ji_115_29 rfl rfl rfl ?_
    refine wl_s (pc' := 33) ji_115_31 rfl rfl rfl ?_
    refine wl_s (pc' := 34) ji_115_33 rfl rfl rfl ?_
    refine wl_icmp (t := 57) ji_115_34 rfl (by omega) (by omega) (fun (hb3 : (n : Int) ≤ 0) => ?_) (fun (hb3 : ¬ ((n : Int) ≤ 0)) => ?_)
    · refine wl_s (pc' := 58) ji_115_57 rfl rfl rfl ?_
      refine wl_s (pc' := 59) ji_115_58 rfl rfl rfl ?_
      refine cs_pi (k := 2) (kI := 2) (y := 0) C (by decide) sq_95 rfl rfl ji_115_59 jf_115_21 rfl rfl (by omega) (fun h C => ?_)
      obtain ⟨s4, es4⟩ : ∃ z9_, up s 95 2 0 = z9_ := ⟨_, rfl⟩
      rw [es4] at C
      refine wl_s (pc' := 63) ji_115_62 rfl rfl rfl ?_
      refine wl_s (pc' := 64) ji_115_63 rfl rfl rfl ?_
      have fr : ∀ (b : Nat) (j : Int), ¬ (98 ≤ b ∧ b ≤ 121) → ¬ (b = 95 ∧ j = 2) → s4 b j = s b j := fun b j z1 z2 => by rw [← es4, up_n (by omega)]
      obtain ⟨q6, hq6⟩ := cs_c C (by decide) sq_47
      refine wl_vc (d := d + 7) (as := [.ref 47]) (rest := [.ref 95]) ji_115_64 jc_115_36 rfl hq6 jk_62.symm (Nat.le_of_ble_eq_true rfl) rfl (by rw [jn_62]; rfl) (uc_62 (d := d + 6) C (by rw [fr _ _ (by decide) (by decide)]; exact N.t.2)) (fun v1 h5 R => ?_)
      obtain ⟨ee, rfl⟩ := R
      rw [ee]
      clear ee
      obtain ⟨NT, hRu⟩ := NV_l N (t := s4) (fun b j hb => fr b j (by omega) (by omega))
      rw [hRu]
      show wl_R _ _ 115 67 [some (.ref 95), some (.ref 47), some (wp_i w), some (wp_i n), some (wp_i wt), some (wp_i 0)] [.ref ((rulT s)), .ref 95] _ _
      refine wl_s (pc' := 68) ji_115_67 rfl rfl rfl ?_
      refine wl_s (pc' := 69) ji_115_68 rfl rfl rfl ?_
      refine wl_s (pc' := 70) ji_115_69 rfl rfl rfl ?_
      refine wl_s (pc' := 72) ji_115_70 rfl rfl rfl ?_
      obtain ⟨q8, hq8⟩ := cs_c C (by decide) sq_95
      refine wl_vc (d := d + 7) (as := [.ref 95, .ref ((rulT s)), wp_i w, wp_i n, wp_i 0, wp_i wt]) (rest := []) ji_115_72 jc_115_53 rfl hq8 jk_116.symm (Nat.le_of_ble_eq_true rfl) rfl (by rw [jn_116]; rfl) (uc_116_z (d := d + 7) (by omega) (by omega)) (fun v1 h7 R => ?_)
      obtain ⟨rfl, ee⟩ := R
      rw [ee]
      clear ee
      have c95 : s4 95 2 = 0 := by rw [← es4, up_e]
      show wl_R _ _ 115 75 [some (.ref 95), some (.ref 47), some (wp_i w), some (wp_i n), some (wp_i wt), some (wp_i 0)] [] _ _
      refine wl_s (pc' := 76) ji_115_75 rfl rfl rfl ?_
      refine cs_gi (k := 2) (kI := 2) C (by decide) (by decide) sq_95 rfl rfl ji_115_76 jf_115_21 ?_
      rw [c95]
      exact wl_ri ji_115_79 jr_115 rfl (⟨by { rw [if_neg (by omega), show n.toNat = 0 by omega]; rfl }, s4, fr, C⟩)
    · refine wl_s (pc' := 38) ji_115_37 rfl rfl rfl ?_
      refine cs_gr (r := 96) (k := 0) C (by decide) sq_95 rfl ji_115_38 jf_115_13 ?_
      refine wl_s (pc' := 43) ji_115_41 rfl rfl rfl ?_
      refine cs_aa (r := 98) (x := 0) C (by decide) sq_96 (by decide) (by decide) (by decide) (by decide) rfl ji_115_43 ?_
      refine wl_s (pc' := 45) ji_115_44 rfl rfl rfl ?_
      refine cs_gr (r := 48) (k := 0) C (by decide) sq_47 rfl ji_115_45 jf_115_26 ?_
      obtain ⟨q10, hq10⟩ := cs_c C (by decide) sq_98
      refine wl_vc (d := d + 7) (as := [.ref 98, .ref 48]) (rest := []) ji_115_48 jc_115_32 rfl hq10 jk_106.symm (Nat.le_of_ble_eq_true rfl) rfl (by rw [jn_106]; rfl) (uc_106 (d := d + 6) C isF_98 isF_48 (by decide)) (fun v1 h9 R => ?_)
      obtain ⟨rfl, t1, C, a00, a02, a04, a06, a09, mf0⟩ := R
      have FC0 : FCP s t1 48 98 := ⟨a00, a02, a04, a06, a09⟩
      show wl_R _ _ 115 51 [some (.ref 95), some (.ref 47), some (wp_i w), some (wp_i n), some (wp_i wt), some (wp_i 0)] [] h9 _
      refine wl_iinc (x := 0) (z := 1) (lv' := [some (.ref 95), some (.ref 47), some (wp_i w), some (wp_i n), some (wp_i wt), some (wp_i 1)]) ji_115_51 rfl (Nat.le_of_ble_eq_true rfl) (by omega) rfl ?_
      refine wl_goto (t := 31) ji_115_54 rfl ?_
      refine wl_s (pc' := 33) ji_115_31 rfl rfl rfl ?_
      refine wl_s (pc' := 34) ji_115_33 rfl rfl rfl ?_
      refine wl_icmp (t := 57) ji_115_34 rfl (by omega) (by omega) (fun (hb11 : (n : Int) ≤ 1) => ?_) (fun (hb11 : ¬ ((n : Int) ≤ 1)) => ?_)
      · refine wl_s (pc' := 58) ji_115_57 rfl rfl rfl ?_
        refine wl_s (pc' := 59) ji_115_58 rfl rfl rfl ?_
        refine cs_pi (k := 2) (kI := 2) (y := 0) C (by decide) sq_95 rfl rfl ji_115_59 jf_115_21 rfl rfl (by omega) (fun h C => ?_)
        obtain ⟨s12, es12⟩ : ∃ z9_, up t1 95 2 0 = z9_ := ⟨_, rfl⟩
        rw [es12] at C
        refine wl_s (pc' := 63) ji_115_62 rfl rfl rfl ?_
        refine wl_s (pc' := 64) ji_115_63 rfl rfl rfl ?_
        have fr : ∀ (b : Nat) (j : Int), ¬ (98 ≤ b ∧ b ≤ 121) → ¬ (b = 95 ∧ j = 2) → s12 b j = s b j := fun b j z1 z2 => by rw [← es12, up_n (by omega)]; exact (mf0 b j (by omega))
        obtain ⟨q14, hq14⟩ := cs_c C (by decide) sq_47
        refine wl_vc (d := d + 7) (as := [.ref 47]) (rest := [.ref 95]) ji_115_64 jc_115_36 rfl hq14 jk_62.symm (Nat.le_of_ble_eq_true rfl) rfl (by rw [jn_62]; rfl) (uc_62 (d := d + 6) C (by rw [fr _ _ (by decide) (by decide)]; exact N.t.2)) (fun v1 h13 R => ?_)
        obtain ⟨ee, rfl⟩ := R
        rw [ee]
        clear ee
        obtain ⟨NT, hRu⟩ := NV_l N (t := s12) (fun b j hb => fr b j (by omega) (by omega))
        rw [hRu]
        show wl_R _ _ 115 67 [some (.ref 95), some (.ref 47), some (wp_i w), some (wp_i n), some (wp_i wt), some (wp_i 1)] [.ref ((rulT s)), .ref 95] _ _
        refine wl_s (pc' := 68) ji_115_67 rfl rfl rfl ?_
        refine wl_s (pc' := 69) ji_115_68 rfl rfl rfl ?_
        refine wl_s (pc' := 70) ji_115_69 rfl rfl rfl ?_
        refine wl_s (pc' := 72) ji_115_70 rfl rfl rfl ?_
        have w1 : ∀ (b : Nat) (j : Int), ¬ (b = 95 ∧ j = 2) → s12 b j = t1 b j := fun b j z => by rw [← es12, up_n z]
        have f98 : ∀ (b : Nat) (j : Int), 98 ≤ b → b ≤ 98 + 7 → s12 b j = t1 b j := fun b j h1 h2 => (w1 b j (by omega))
        have G98 : IG s12 98 := IG_f f98 (IG_t N.g FC0)
        have R98 : relF s12 r 98 139 := relF_f (relF_t R0 FC0 (r1 := r) (R1 := 139) (fun _ _ _ => rfl)) f98 (fun _ _ _ _ _ _ _ => rfl)
        have HT : TXC s12 (rulT s) (tc (rulT s)) := by have := NV_tx NT; rw [hRu] at this; exact this
        obtain ⟨q16, hq16⟩ := cs_c C (by decide) sq_95
        refine wl_vc (d := d + 7) (as := [.ref 95, .ref ((rulT s)), wp_i w, wp_i n, wp_i 0, wp_i wt]) (rest := []) ji_115_72 jc_115_53 rfl hq16 jk_116.symm (Nat.le_of_ble_eq_true rfl) rfl (by rw [jn_116]; rfl) (uc_116_0 (d := d) (r := r) C E A hT hw (n := n) hn (wt := wt) hwt HT NT.sc G98 R98 RGr h12 (by rw [f98 98 10 (by omega) (by omega), FC0.2.2.2.2.2.1]; have := N.h; omega) (by rw [← es12, up_e]; omega) (fun z => by exfalso; omega) (fun z => by exfalso; omega)) (fun v1 h15 R => ?_)
        obtain ⟨rfl, tz, C, fz, cz⟩ := R
        have db := dpN_b (cr := cr) (w := w) (n - 0).toNat wt r (by omega)
        have c95 : tz 95 2 = dpN cr w n.toNat wt r := by rw [cz, ← es12, up_e, Int.zero_add, Int.sub_zero]
        have fr2 : ∀ (b : Nat) (j : Int), ¬ (98 ≤ b ∧ b ≤ 121) → ¬ (b = 95 ∧ j = 2) → tz b j = s b j := fun b j z1 z2 => (fz b j (by omega) z2).trans (fr b j z1 z2)
        show wl_R _ _ 115 75 [some (.ref 95), some (.ref 47), some (wp_i w), some (wp_i n), some (wp_i wt), some (wp_i 1)] [] h15 _
        refine wl_s (pc' := 76) ji_115_75 rfl rfl rfl ?_
        refine cs_gi (k := 2) (kI := 2) C (by decide) (by decide) sq_95 rfl rfl ji_115_76 jf_115_21 ?_
        rw [c95]
        have bd17 : wp_r (dpN cr w n.toNat wt r) := c95 ▸ cs_ri (k := 2) (kI := 2) C (by decide) (by decide) sq_95 rfl rfl (show 2 < 3 by decide)
        exact wl_ri ji_115_79 jr_115 rfl (⟨by { rw [if_neg (by omega)] }, tz, fr2, C⟩)
      · refine wl_s (pc' := 38) ji_115_37 rfl rfl rfl ?_
        refine cs_gr (r := 96) (k := 0) C (by decide) sq_95 rfl ji_115_38 jf_115_13 ?_
        refine wl_s (pc' := 43) ji_115_41 rfl rfl rfl ?_
        refine cs_aa (r := 106) (x := 1) C (by decide) sq_96 (by decide) (by decide) (by decide) (by decide) rfl ji_115_43 ?_
        refine wl_s (pc' := 45) ji_115_44 rfl rfl rfl ?_
        refine cs_gr (r := 48) (k := 0) C (by decide) sq_47 rfl ji_115_45 jf_115_26 ?_
        obtain ⟨q19, hq19⟩ := cs_c C (by decide) sq_106
        refine wl_vc (d := d + 7) (as := [.ref 106, .ref 48]) (rest := []) ji_115_48 jc_115_32 rfl hq19 jk_106.symm (Nat.le_of_ble_eq_true rfl) rfl (by rw [jn_106]; rfl) (uc_106 (d := d + 6) C isF_106 isF_48 (by decide)) (fun v1 h18 R => ?_)
        obtain ⟨rfl, t2, C, a10, a12, a14, a16, a19, mf1⟩ := R
        have FC1 : FCP t1 t2 48 106 := ⟨a10, a12, a14, a16, a19⟩
        show wl_R _ _ 115 51 [some (.ref 95), some (.ref 47), some (wp_i w), some (wp_i n), some (wp_i wt), some (wp_i 1)] [] h18 _
        refine wl_iinc (x := 1) (z := 2) (lv' := [some (.ref 95), some (.ref 47), some (wp_i w), some (wp_i n), some (wp_i wt), some (wp_i 2)]) ji_115_51 rfl (Nat.le_of_ble_eq_true rfl) (by omega) rfl ?_
        refine wl_goto (t := 31) ji_115_54 rfl ?_
        refine wl_s (pc' := 33) ji_115_31 rfl rfl rfl ?_
        refine wl_s (pc' := 34) ji_115_33 rfl rfl rfl ?_
        refine wl_icmp (t := 57) ji_115_34 rfl (by omega) (by omega) (fun (hb20 : (n : Int) ≤ 2) => ?_) (fun (hb20 : ¬ ((n : Int) ≤ 2)) => ?_)
        · refine wl_s (pc' := 58) ji_115_57 rfl rfl rfl ?_
          refine wl_s (pc' := 59) ji_115_58 rfl rfl rfl ?_
          refine cs_pi (k := 2) (kI := 2) (y := 0) C (by decide) sq_95 rfl rfl ji_115_59 jf_115_21 rfl rfl (by omega) (fun h C => ?_)
          obtain ⟨s21, es21⟩ : ∃ z9_, up t2 95 2 0 = z9_ := ⟨_, rfl⟩
          rw [es21] at C
          refine wl_s (pc' := 63) ji_115_62 rfl rfl rfl ?_
          refine wl_s (pc' := 64) ji_115_63 rfl rfl rfl ?_
          have fr : ∀ (b : Nat) (j : Int), ¬ (98 ≤ b ∧ b ≤ 121) → ¬ (b = 95 ∧ j = 2) → s21 b j = s b j := fun b j z1 z2 => by rw [← es21, up_n (by omega)]; exact ((mf1 b j (by omega)).trans (mf0 b j (by omega)))
          obtain ⟨q23, hq23⟩ := cs_c C (by decide) sq_47
          refine wl_vc (d := d + 7) (as := [.ref 47]) (rest := [.ref 95]) ji_115_64 jc_115_36 rfl hq23 jk_62.symm (Nat.le_of_ble_eq_true rfl) rfl (by rw [jn_62]; rfl) (uc_62 (d := d + 6) C (by rw [fr _ _ (by decide) (by decide)]; exact N.t.2)) (fun v1 h22 R => ?_)
          obtain ⟨ee, rfl⟩ := R
          rw [ee]
          clear ee
          obtain ⟨NT, hRu⟩ := NV_l N (t := s21) (fun b j hb => fr b j (by omega) (by omega))
          rw [hRu]
          show wl_R _ _ 115 67 [some (.ref 95), some (.ref 47), some (wp_i w), some (wp_i n), some (wp_i wt), some (wp_i 2)] [.ref ((rulT s)), .ref 95] _ _
          refine wl_s (pc' := 68) ji_115_67 rfl rfl rfl ?_
          refine wl_s (pc' := 69) ji_115_68 rfl rfl rfl ?_
          refine wl_s (pc' := 70) ji_115_69 rfl rfl rfl ?_
          refine wl_s (pc' := 72) ji_115_70 rfl rfl rfl ?_
          have w1 : ∀ (b : Nat) (j : Int), ¬ (b = 95 ∧ j = 2) → s21 b j = t2 b j := fun b j z => by rw [← es21, up_n z]
          have f98 : ∀ (b : Nat) (j : Int), 98 ≤ b → b ≤ 98 + 7 → s21 b j = t1 b j := fun b j h1 h2 => ((w1 b j (by omega)).trans (mf1 b j (by omega)))
          have G98 : IG s21 98 := IG_f f98 (IG_t N.g FC0)
          have R98 : relF s21 r 98 139 := relF_f (relF_t R0 FC0 (r1 := r) (R1 := 139) (fun _ _ _ => rfl)) f98 (fun _ _ _ _ _ _ _ => rfl)
          have HT : TXC s21 (rulT s) (tc (rulT s)) := by have := NV_tx NT; rw [hRu] at this; exact this
          have fE0 : ∀ (b : Nat) (j : Int), 106 ≤ b → b ≤ 106 + 7 → s21 b j = t2 b j := fun b j h1 h2 => (w1 b j (by omega))
          have fF0 : ∀ (b : Nat) (j : Int), 98 ≤ b → b ≤ 98 + 7 → s21 b j = t1 b j := fun b j h1 h2 => ((w1 b j (by omega)).trans (mf1 b j (by omega)))
          have cm0 : ∀ (b : Nat) (j : Int), 48 ≤ b → b ≤ 55 → t1 b j = s b j := fun b j h1 h2 => mf0 b j (by omega)
          have SQ0 : SQF s21 106 98 := by
            refine ⟨⟨?_, ?_⟩, fun j j0 j1 => ?_, fun j j0 j1 => ?_⟩
            · exact (fE0 106 0 (by omega) (by omega)).trans (FC1.1.1.trans ((cm0 48 0 (by omega) (by omega)).trans (FC0.1.1.symm.trans (fF0 98 0 (by omega) (by omega)).symm)))
            · exact (fE0 106 1 (by omega) (by omega)).trans (FC1.1.2.trans ((cm0 48 1 (by omega) (by omega)).trans (FC0.1.2.symm.trans (fF0 98 1 (by omega) (by omega)).symm)))
            · exact ⟨(fE0 (106 + 1) j (by omega) (by omega)).trans ((FC1.2.1 j j0 j1).1.trans ((cm0 (48 + 1) j (by omega) (by omega)).trans ((FC0.2.1 j j0 j1).1.symm.trans (fF0 (98 + 1) j (by omega) (by omega)).symm))), (fE0 (106 + 2) j (by omega) (by omega)).trans ((FC1.2.1 j j0 j1).2.1.trans ((cm0 (48 + 2) j (by omega) (by omega)).trans ((FC0.2.1 j j0 j1).2.1.symm.trans (fF0 (98 + 2) j (by omega) (by omega)).symm))), (fE0 (106 + 3) j (by omega) (by omega)).trans ((FC1.2.1 j j0 j1).2.2.trans ((cm0 (48 + 3) j (by omega) (by omega)).trans ((FC0.2.1 j j0 j1).2.2.symm.trans (fF0 (98 + 3) j (by omega) (by omega)).symm)))⟩
            · exact ⟨(fE0 (106 + 4) j (by omega) (by omega)).trans ((FC1.2.2.1 j j0 j1).1.trans ((cm0 (48 + 4) j (by omega) (by omega)).trans ((FC0.2.2.1 j j0 j1).1.symm.trans (fF0 (98 + 4) j (by omega) (by omega)).symm))), (fE0 (106 + 5) j (by omega) (by omega)).trans ((FC1.2.2.1 j j0 j1).2.trans ((cm0 (48 + 5) j (by omega) (by omega)).trans ((FC0.2.2.1 j j0 j1).2.symm.trans (fF0 (98 + 5) j (by omega) (by omega)).symm)))⟩
          obtain ⟨q25, hq25⟩ := cs_c C (by decide) sq_95
          refine wl_vc (d := d + 7) (as := [.ref 95, .ref ((rulT s)), wp_i w, wp_i n, wp_i 0, wp_i wt]) (rest := []) ji_115_72 jc_115_53 rfl hq25 jk_116.symm (Nat.le_of_ble_eq_true rfl) rfl (by rw [jn_116]; rfl) (uc_116_0 (d := d) (r := r) C E A hT hw (n := n) hn (wt := wt) hwt HT NT.sc G98 R98 RGr h12 (by rw [f98 98 10 (by omega) (by omega), FC0.2.2.2.2.2.1]; have := N.h; omega) (by rw [← es21, up_e]; omega) (fun _ => SQ0) (fun z => by exfalso; omega)) (fun v1 h24 R => ?_)
          obtain ⟨rfl, tz, C, fz, cz⟩ := R
          have db := dpN_b (cr := cr) (w := w) (n - 0).toNat wt r (by omega)
          have c95 : tz 95 2 = dpN cr w n.toNat wt r := by rw [cz, ← es21, up_e, Int.zero_add, Int.sub_zero]
          have fr2 : ∀ (b : Nat) (j : Int), ¬ (98 ≤ b ∧ b ≤ 121) → ¬ (b = 95 ∧ j = 2) → tz b j = s b j := fun b j z1 z2 => (fz b j (by omega) z2).trans (fr b j z1 z2)
          show wl_R _ _ 115 75 [some (.ref 95), some (.ref 47), some (wp_i w), some (wp_i n), some (wp_i wt), some (wp_i 2)] [] h24 _
          refine wl_s (pc' := 76) ji_115_75 rfl rfl rfl ?_
          refine cs_gi (k := 2) (kI := 2) C (by decide) (by decide) sq_95 rfl rfl ji_115_76 jf_115_21 ?_
          rw [c95]
          have bd26 : wp_r (dpN cr w n.toNat wt r) := c95 ▸ cs_ri (k := 2) (kI := 2) C (by decide) (by decide) sq_95 rfl rfl (show 2 < 3 by decide)
          exact wl_ri ji_115_79 jr_115 rfl (⟨by { rw [if_neg (by omega)] }, tz, fr2, C⟩)
        · refine wl_s (pc' := 38) ji_115_37 rfl rfl rfl ?_
          refine cs_gr (r := 96) (k := 0) C (by decide) sq_95 rfl ji_115_38 jf_115_13 ?_
          refine wl_s (pc' := 43) ji_115_41 rfl rfl rfl ?_
          refine cs_aa (r := 114) (x := 2) C (by decide) sq_96 (by decide) (by decide) (by decide) (by decide) rfl ji_115_43 ?_
          refine wl_s (pc' := 45) ji_115_44 rfl rfl rfl ?_
          refine cs_gr (r := 48) (k := 0) C (by decide) sq_47 rfl ji_115_45 jf_115_26 ?_
          obtain ⟨q28, hq28⟩ := cs_c C (by decide) sq_114
          refine wl_vc (d := d + 7) (as := [.ref 114, .ref 48]) (rest := []) ji_115_48 jc_115_32 rfl hq28 jk_106.symm (Nat.le_of_ble_eq_true rfl) rfl (by rw [jn_106]; rfl) (uc_106 (d := d + 6) C isF_114 isF_48 (by decide)) (fun v1 h27 R => ?_)
          obtain ⟨rfl, t3, C, a20, a22, a24, a26, a29, mf2⟩ := R
          have FC2 : FCP t2 t3 48 114 := ⟨a20, a22, a24, a26, a29⟩
          show wl_R _ _ 115 51 [some (.ref 95), some (.ref 47), some (wp_i w), some (wp_i n), some (wp_i wt), some (wp_i 2)] [] h27 _
          refine wl_iinc (x := 2) (z := 3) (lv' := [some (.ref 95), some (.ref 47), some (wp_i w), some (wp_i n), some (wp_i wt), some (wp_i 3)]) ji_115_51 rfl (Nat.le_of_ble_eq_true rfl) (by omega) rfl ?_
          refine wl_goto (t := 31) ji_115_54 rfl ?_
          refine wl_s (pc' := 33) ji_115_31 rfl rfl rfl ?_
          refine wl_s (pc' := 34) ji_115_33 rfl rfl rfl ?_
          refine wl_icmp (t := 57) ji_115_34 rfl (by omega) (by omega) (fun (hb29 : (n : Int) ≤ 3) => ?_) (fun (hb29 : ¬ ((n : Int) ≤ 3)) => (by exfalso; omega))
          refine wl_s (pc' := 58) ji_115_57 rfl rfl rfl ?_
          refine wl_s (pc' := 59) ji_115_58 rfl rfl rfl ?_
          refine cs_pi (k := 2) (kI := 2) (y := 0) C (by decide) sq_95 rfl rfl ji_115_59 jf_115_21 rfl rfl (by omega) (fun h C => ?_)
          obtain ⟨s30, es30⟩ : ∃ z9_, up t3 95 2 0 = z9_ := ⟨_, rfl⟩
          rw [es30] at C
          refine wl_s (pc' := 63) ji_115_62 rfl rfl rfl ?_
          refine wl_s (pc' := 64) ji_115_63 rfl rfl rfl ?_
          have fr : ∀ (b : Nat) (j : Int), ¬ (98 ≤ b ∧ b ≤ 121) → ¬ (b = 95 ∧ j = 2) → s30 b j = s b j := fun b j z1 z2 => by rw [← es30, up_n (by omega)]; exact ((mf2 b j (by omega)).trans ((mf1 b j (by omega)).trans (mf0 b j (by omega))))
          obtain ⟨q32, hq32⟩ := cs_c C (by decide) sq_47
          refine wl_vc (d := d + 7) (as := [.ref 47]) (rest := [.ref 95]) ji_115_64 jc_115_36 rfl hq32 jk_62.symm (Nat.le_of_ble_eq_true rfl) rfl (by rw [jn_62]; rfl) (uc_62 (d := d + 6) C (by rw [fr _ _ (by decide) (by decide)]; exact N.t.2)) (fun v1 h31 R => ?_)
          obtain ⟨ee, rfl⟩ := R
          rw [ee]
          clear ee
          obtain ⟨NT, hRu⟩ := NV_l N (t := s30) (fun b j hb => fr b j (by omega) (by omega))
          rw [hRu]
          show wl_R _ _ 115 67 [some (.ref 95), some (.ref 47), some (wp_i w), some (wp_i n), some (wp_i wt), some (wp_i 3)] [.ref ((rulT s)), .ref 95] _ _
          refine wl_s (pc' := 68) ji_115_67 rfl rfl rfl ?_
          refine wl_s (pc' := 69) ji_115_68 rfl rfl rfl ?_
          refine wl_s (pc' := 70) ji_115_69 rfl rfl rfl ?_
          refine wl_s (pc' := 72) ji_115_70 rfl rfl rfl ?_
          have w1 : ∀ (b : Nat) (j : Int), ¬ (b = 95 ∧ j = 2) → s30 b j = t3 b j := fun b j z => by rw [← es30, up_n z]
          have f98 : ∀ (b : Nat) (j : Int), 98 ≤ b → b ≤ 98 + 7 → s30 b j = t1 b j := fun b j h1 h2 => ((w1 b j (by omega)).trans ((mf2 b j (by omega)).trans (mf1 b j (by omega))))
          have G98 : IG s30 98 := IG_f f98 (IG_t N.g FC0)
          have R98 : relF s30 r 98 139 := relF_f (relF_t R0 FC0 (r1 := r) (R1 := 139) (fun _ _ _ => rfl)) f98 (fun _ _ _ _ _ _ _ => rfl)
          have HT : TXC s30 (rulT s) (tc (rulT s)) := by have := NV_tx NT; rw [hRu] at this; exact this
          have fE0 : ∀ (b : Nat) (j : Int), 106 ≤ b → b ≤ 106 + 7 → s30 b j = t2 b j := fun b j h1 h2 => ((w1 b j (by omega)).trans (mf2 b j (by omega)))
          have fF0 : ∀ (b : Nat) (j : Int), 98 ≤ b → b ≤ 98 + 7 → s30 b j = t1 b j := fun b j h1 h2 => ((w1 b j (by omega)).trans ((mf2 b j (by omega)).trans (mf1 b j (by omega))))
          have cm0 : ∀ (b : Nat) (j : Int), 48 ≤ b → b ≤ 55 → t1 b j = s b j := fun b j h1 h2 => mf0 b j (by omega)
          have SQ0 : SQF s30 106 98 := by
            refine ⟨⟨?_, ?_⟩, fun j j0 j1 => ?_, fun j j0 j1 => ?_⟩
            · exact (fE0 106 0 (by omega) (by omega)).trans (FC1.1.1.trans ((cm0 48 0 (by omega) (by omega)).trans (FC0.1.1.symm.trans (fF0 98 0 (by omega) (by omega)).symm)))
            · exact (fE0 106 1 (by omega) (by omega)).trans (FC1.1.2.trans ((cm0 48 1 (by omega) (by omega)).trans (FC0.1.2.symm.trans (fF0 98 1 (by omega) (by omega)).symm)))
            · exact ⟨(fE0 (106 + 1) j (by omega) (by omega)).trans ((FC1.2.1 j j0 j1).1.trans ((cm0 (48 + 1) j (by omega) (by omega)).trans ((FC0.2.1 j j0 j1).1.symm.trans (fF0 (98 + 1) j (by omega) (by omega)).symm))), (fE0 (106 + 2) j (by omega) (by omega)).trans ((FC1.2.1 j j0 j1).2.1.trans ((cm0 (48 + 2) j (by omega) (by omega)).trans ((FC0.2.1 j j0 j1).2.1.symm.trans (fF0 (98 + 2) j (by omega) (by omega)).symm))), (fE0 (106 + 3) j (by omega) (by omega)).trans ((FC1.2.1 j j0 j1).2.2.trans ((cm0 (48 + 3) j (by omega) (by omega)).trans ((FC0.2.1 j j0 j1).2.2.symm.trans (fF0 (98 + 3) j (by omega) (by omega)).symm)))⟩
            · exact ⟨(fE0 (106 + 4) j (by omega) (by omega)).trans ((FC1.2.2.1 j j0 j1).1.trans ((cm0 (48 + 4) j (by omega) (by omega)).trans ((FC0.2.2.1 j j0 j1).1.symm.trans (fF0 (98 + 4) j (by omega) (by omega)).symm))), (fE0 (106 + 5) j (by omega) (by omega)).trans ((FC1.2.2.1 j j0 j1).2.trans ((cm0 (48 + 5) j (by omega) (by omega)).trans ((FC0.2.2.1 j j0 j1).2.symm.trans (fF0 (98 + 5) j (by omega) (by omega)).symm)))⟩
          have fE1 : ∀ (b : Nat) (j : Int), 114 ≤ b → b ≤ 114 + 7 → s30 b j = t3 b j := fun b j h1 h2 => (w1 b j (by omega))
          have fF1 : ∀ (b : Nat) (j : Int), 106 ≤ b → b ≤ 106 + 7 → s30 b j = t2 b j := fun b j h1 h2 => ((w1 b j (by omega)).trans (mf2 b j (by omega)))
          have cm1 : ∀ (b : Nat) (j : Int), 48 ≤ b → b ≤ 55 → t2 b j = t1 b j := fun b j h1 h2 => mf1 b j (by omega)
          have SQ1 : SQF s30 114 106 := by
            refine ⟨⟨?_, ?_⟩, fun j j0 j1 => ?_, fun j j0 j1 => ?_⟩
            · exact (fE1 114 0 (by omega) (by omega)).trans (FC2.1.1.trans ((cm1 48 0 (by omega) (by omega)).trans (FC1.1.1.symm.trans (fF1 106 0 (by omega) (by omega)).symm)))
            · exact (fE1 114 1 (by omega) (by omega)).trans (FC2.1.2.trans ((cm1 48 1 (by omega) (by omega)).trans (FC1.1.2.symm.trans (fF1 106 1 (by omega) (by omega)).symm)))
            · exact ⟨(fE1 (114 + 1) j (by omega) (by omega)).trans ((FC2.2.1 j j0 j1).1.trans ((cm1 (48 + 1) j (by omega) (by omega)).trans ((FC1.2.1 j j0 j1).1.symm.trans (fF1 (106 + 1) j (by omega) (by omega)).symm))), (fE1 (114 + 2) j (by omega) (by omega)).trans ((FC2.2.1 j j0 j1).2.1.trans ((cm1 (48 + 2) j (by omega) (by omega)).trans ((FC1.2.1 j j0 j1).2.1.symm.trans (fF1 (106 + 2) j (by omega) (by omega)).symm))), (fE1 (114 + 3) j (by omega) (by omega)).trans ((FC2.2.1 j j0 j1).2.2.trans ((cm1 (48 + 3) j (by omega) (by omega)).trans ((FC1.2.1 j j0 j1).2.2.symm.trans (fF1 (106 + 3) j (by omega) (by omega)).symm)))⟩
            · exact ⟨(fE1 (114 + 4) j (by omega) (by omega)).trans ((FC2.2.2.1 j j0 j1).1.trans ((cm1 (48 + 4) j (by omega) (by omega)).trans ((FC1.2.2.1 j j0 j1).1.symm.trans (fF1 (106 + 4) j (by omega) (by omega)).symm))), (fE1 (114 + 5) j (by omega) (by omega)).trans ((FC2.2.2.1 j j0 j1).2.trans ((cm1 (48 + 5) j (by omega) (by omega)).trans ((FC1.2.2.1 j j0 j1).2.symm.trans (fF1 (106 + 5) j (by omega) (by omega)).symm)))⟩
          obtain ⟨q34, hq34⟩ := cs_c C (by decide) sq_95
          refine wl_vc (d := d + 7) (as := [.ref 95, .ref ((rulT s)), wp_i w, wp_i n, wp_i 0, wp_i wt]) (rest := []) ji_115_72 jc_115_53 rfl hq34 jk_116.symm (Nat.le_of_ble_eq_true rfl) rfl (by rw [jn_116]; rfl) (uc_116_0 (d := d) (r := r) C E A hT hw (n := n) hn (wt := wt) hwt HT NT.sc G98 R98 RGr h12 (by rw [f98 98 10 (by omega) (by omega), FC0.2.2.2.2.2.1]; have := N.h; omega) (by rw [← es30, up_e]; omega) (fun _ => SQ0) (fun _ => SQ1)) (fun v1 h33 R => ?_)
          obtain ⟨rfl, tz, C, fz, cz⟩ := R
          have db := dpN_b (cr := cr) (w := w) (n - 0).toNat wt r (by omega)
          have c95 : tz 95 2 = dpN cr w n.toNat wt r := by rw [cz, ← es30, up_e, Int.zero_add, Int.sub_zero]
          have fr2 : ∀ (b : Nat) (j : Int), ¬ (98 ≤ b ∧ b ≤ 121) → ¬ (b = 95 ∧ j = 2) → tz b j = s b j := fun b j z1 z2 => (fz b j (by omega) z2).trans (fr b j z1 z2)
          show wl_R _ _ 115 75 [some (.ref 95), some (.ref 47), some (wp_i w), some (wp_i n), some (wp_i wt), some (wp_i 3)] [] h33 _
          refine wl_s (pc' := 76) ji_115_75 rfl rfl rfl ?_
          refine cs_gi (k := 2) (kI := 2) C (by decide) (by decide) sq_95 rfl rfl ji_115_76 jf_115_21 ?_
          rw [c95]
          have bd35 : wp_r (dpN cr w n.toNat wt r) := c95 ▸ cs_ri (k := 2) (kI := 2) C (by decide) (by decide) sq_95 rfl rfl (show 2 < 3 by decide)
          exact wl_ri ji_115_79 jr_115 rfl (⟨by { rw [if_neg (by omega)] }, tz, fr2, C⟩)
  · refine wl_s (pc' := 11) ji_115_10 rfl rfl rfl ?_
    refine cs_gr (r := 48) (k := 0) C (by decide) sq_47 rfl ji_115_11 jf_115_26 ?_
    refine cs_gi (k := 11) (kI := 11) C (by decide) (by decide) sq_48 rfl rfl ji_115_14 jf_115_50 ?_
    have bd36 : wp_r (s 48 11) := cs_ri (k := 11) (kI := 11) C (by decide) (by decide) sq_48 rfl rfl (show 11 < 13 by decide)
    refine wl_s (pc' := 18) ji_115_17 rfl rfl rfl ?_
    refine wl_icmp (t := 26) ji_115_18 rfl (by omega) (by omega) (fun (hb37 : ¬ (s 48 11 : Int) = w) => ?_) (fun (hb37 : ¬ (¬ (s 48 11 : Int) = w)) => ?_)
    · refine wl_s (pc' := 27) ji_115_26 rfl rfl rfl ?_
      exact wl_ri ji_115_27 jr_115 rfl (⟨by { rw [if_pos (by omega), if_neg (by omega)] }, s, fun _ _ _ _ => rfl, C⟩)
    · refine wl_s (pc' := 23) ji_115_21 rfl rfl rfl ?_
      refine wl_goto (t := 27) ji_115_23 rfl ?_
      exact wl_ri ji_115_27 jr_115 rfl (⟨by { rw [if_pos (by omega), if_pos (by omega)] }, s, fun _ _ _ _ => rfl, C⟩)
theorem ltC_b {a b z B : Int} (ha : 0 ≤ a ∧ a ≤ B) (hB : 0 ≤ B ∧ B ≤ 1000) (hb : 0 ≤ b ∧ b ≤ 1000) : 0 ≤ ltC a b z ∧ ltC a b z ≤ 1000 := by
  unfold ltC
  have q := gcE_b 64 a b (by omega) hb
  obtain ⟨g, eg⟩ : ∃ g, gcE 64 a b = g := ⟨_, rfl⟩
  rw [eg] at q ⊢
  by_cases z1 : g = 0
  · rw [if_pos z1]; decide
  · rw [if_neg z1]
    have k1 := Int.ediv_nonneg ha.1 q.1
    have k2 := Int.ediv_le_self g ha.1
    have k3 := Int.ediv_nonneg hb.1 q.1
    have k4 := Int.ediv_le_self g hb.1
    by_cases z2 : z = 0
    · rw [if_pos z2]; omega
    · rw [if_neg z2]; omega
def p10 (n : Int) : Int := if n = 0 then 1 else if n = 1 then 10 else if n = 2 then 100 else 1000
theorem uc_114 {nn d : Nat} {h : mj_H} {s r : sg_} (C : CS h s) {tc : tcs} (N : NV s tc) {cr : crs} {w n z : Int} (E : eqLaw (tc (rulT s)) cr) (A : askR (cr 2)) (hw : wp_r w) (hn : wp_r n) (hz : z = 0 ∨ z = 1) (R0 : relF s r 48 139) (RGr : RG r) (h12 : 0 ≤ r 139 12) : wl_R nn (d + 9) 114 0 [some (.ref 9), some (wp_i w), some (wp_i n), some (wp_i z), none, none] [] h (fun v1 h1 => (¬ ((0 ≤ w ∧ w < s 48 1) ∧ 0 ≤ n ∧ n ≤ 3) ∧ v1 = some (wl_L (-1)) ∧ CS h1 s) ∨ (((0 ≤ w ∧ w < s 48 1) ∧ 0 ≤ n ∧ n ≤ 3) ∧ v1 = some (wl_L (ltC (if s 48 9 = 0 then (if s 48 11 = w then (p10 n) else 0) else dpN cr w n.toNat (p10 n) r) (p10 n) z)) ∧ ∃ t, (∀ (b : Nat) (j : Int), ¬ (98 ≤ b ∧ b ≤ 121) → ¬ (b = 95 ∧ j = 2) → t b j = s b j) ∧ CS h1 t)) := by
  have i1 := N.g.1.2.1
  refine wl_s (pc' := 1) ji_114_0 rfl rfl rfl ?_
  refine cs_gr (r := 47) (k := 0) C (by decide) sq_9 rfl ji_114_1 jf_114_19 ?_
  refine cs_gr (r := 48) (k := 0) C (by decide) sq_47 rfl ji_114_4 jf_114_49 ?_
  refine wl_s (pc' := 8) ji_114_7 rfl rfl rfl ?_
  obtain ⟨q2, hq2⟩ := cs_c C (by decide) sq_48
  refine wl_vc (d := d + 8) (as := [.ref 48, wp_i w]) (rest := []) ji_114_8 jc_114_177 rfl hq2 jk_80.symm (Nat.le_of_ble_eq_true rfl) rfl (by rw [jn_80]; rfl) (uc_80 (d := d + 8) C isF_48 (p := w) (by omega)) (fun v1 h1 R => ?_)
  obtain ⟨ee, y3, rfl, hy3a, hy3b⟩ := R
  rw [ee]
  clear ee
  show wl_R _ _ 114 11 [some (.ref 9), some (wp_i w), some (wp_i n), some (wp_i z), none, none] [wp_i y3] _ _
  refine wl_if (t := 23) ji_114_11 rfl (by omega) (fun (hb4 : (y3 : Int) = 0) => ?_) (fun (hb4 : ¬ ((y3 : Int) = 0)) => ?_)
  · refine wl_lk (n := -1) ji_114_23 jcn_114_231 (by decide) ?_
    exact wl_rlg ji_114_26 jr_114 (Or.inl ⟨by omega, rfl, C⟩)
  · refine wl_s (pc' := 15) ji_114_14 rfl rfl rfl ?_
    refine wl_if (t := 23) ji_114_15 rfl (by omega) (fun (hb5 : (n : Int) < 0) => ?_) (fun (hb5 : ¬ ((n : Int) < 0)) => ?_)
    · refine wl_lk (n := -1) ji_114_23 jcn_114_231 (by decide) ?_
      exact wl_rlg ji_114_26 jr_114 (Or.inl ⟨by omega, rfl, C⟩)
    · refine wl_s (pc' := 19) ji_114_18 rfl rfl rfl ?_
      refine wl_s (pc' := 20) ji_114_19 rfl rfl rfl ?_
      refine wl_icmp (t := 27) ji_114_20 rfl (by omega) (by omega) (fun (hb6 : (n : Int) ≤ 3) => ?_) (fun (hb6 : ¬ ((n : Int) ≤ 3)) => ?_)
      · refine wl_s (pc' := 28) ji_114_27 rfl rfl rfl ?_
        refine wl_s (pc' := 30) (lv' := [some (.ref 9), some (wp_i w), some (wp_i n), some (wp_i z), some (wp_i 1), none]) ji_114_28 rfl rfl rfl ?_
        refine wl_s (pc' := 31) ji_114_30 rfl rfl rfl ?_
        refine wl_s (pc' := 33) (lv' := [some (.ref 9), some (wp_i w), some (wp_i n), some (wp_i z), some (wp_i 1), some (wp_i 0)]) ji_114_31 rfl rfl rfl ?_
        refine wl_s (pc' := 35) ji_114_33 rfl rfl rfl ?_
        refine wl_s (pc' := 36) ji_114_35 rfl rfl rfl ?_
        refine wl_icmp (t := 52) ji_114_36 rfl (by omega) (by omega) (fun (hb7 : (n : Int) ≤ 0) => ?_) (fun (hb7 : ¬ ((n : Int) ≤ 0)) => ?_)
        · refine wl_s (pc' := 53) ji_114_52 rfl rfl rfl ?_
          refine cs_gr (r := 95) (k := 4) C (by decide) sq_9 rfl ji_114_53 jf_114_45 ?_
          refine wl_s (pc' := 57) ji_114_56 rfl rfl rfl ?_
          refine cs_gr (r := 47) (k := 0) C (by decide) sq_9 rfl ji_114_57 jf_114_19 ?_
          refine wl_s (pc' := 61) ji_114_60 rfl rfl rfl ?_
          refine wl_s (pc' := 62) ji_114_61 rfl rfl rfl ?_
          refine wl_s (pc' := 64) ji_114_62 rfl rfl rfl ?_
          obtain ⟨q9, hq9⟩ := cs_c C (by decide) sq_95
          refine wl_vc (d := d + 8) (as := [.ref 95, .ref 47, wp_i w, wp_i n, wp_i 1]) (rest := []) ji_114_64 jc_114_233 rfl hq9 jk_115.symm (Nat.le_of_ble_eq_true rfl) rfl (by rw [jn_115]; rfl) (uc_115 (d := d) (r := r) C N E A hw (n := n) (by omega) (by decide) R0 RGr h12) (fun v1 h8 R => ?_)
          obtain ⟨rfl, t, ft, C⟩ := R
          obtain ⟨va, eva⟩ : ∃ z9_, (if s 48 9 = 0 then (if s 48 11 = w then 1 else 0) else dpN cr w n.toNat 1 r) = z9_ := ⟨_, rfl⟩
          rw [eva]
          have vb : 0 ≤ va ∧ va ≤ 1 := by { rw [← eva]; by_cases z1 : s 48 9 = 0; rw [if_pos z1]; by_cases z2 : s 48 11 = w; rw [if_pos z2]; decide; rw [if_neg z2]; decide; rw [if_neg z1]; exact dpN_b _ _ _ (by decide) }
          show wl_R _ _ 114 67 [some (.ref 9), some (wp_i w), some (wp_i n), some (wp_i z), some (wp_i 1), some (wp_i 0)] [wp_i va] h8 _
          refine wl_s (pc' := 69) ji_114_67 rfl rfl rfl ?_
          refine wl_s (pc' := 70) ji_114_69 rfl rfl rfl ?_
          refine wl_sc (d := d + 8) (as := [wp_i va, wp_i 1, wp_i z]) (rest := []) ji_114_70 jc_114_237 (Nat.le_of_ble_eq_true rfl) rfl (Nat.le_of_ble_eq_true rfl) rfl (by rw [jn_117]; rfl) (uc_117 (d := d + 8) (by omega) (by decide) hz) (fun v1 h10 R => ?_)
          obtain ⟨ee, rfl⟩ := R
          rw [ee]
          clear ee
          obtain ⟨lt, elt⟩ : ∃ z9_, ltC va 1 z = z9_ := ⟨_, rfl⟩
          have lb : 0 ≤ lt ∧ lt ≤ 1000 := by rw [← elt]; exact ltC_b vb (by decide) (by decide)
          rw [elt]
          show wl_R _ _ 114 73 [some (.ref 9), some (wp_i w), some (wp_i n), some (wp_i z), some (wp_i 1), some (wp_i 0)] [wp_i lt] _ _
          refine wl_i2g (x := lt) ji_114_73 (by omega) ?_
          exact wl_rlg ji_114_74 jr_114 (Or.inr ⟨by omega, by { rw [show p10 n = 1 by { rw [show n = 0 by omega]; rfl }, eva, elt] }, t, ft, C⟩)
        · refine wl_s (pc' := 41) ji_114_39 rfl rfl rfl ?_
          refine wl_bp ji_114_41 rfl ?_
          refine wl_imul (x := 1) (y := 10) (z := 10) ji_114_43 (by omega) ?_
          refine wl_s (pc' := 46) (lv' := [some (.ref 9), some (wp_i w), some (wp_i n), some (wp_i z), some (wp_i 10), some (wp_i 0)]) ji_114_44 rfl rfl rfl ?_
          refine wl_iinc (x := 0) (z := 1) (lv' := [some (.ref 9), some (wp_i w), some (wp_i n), some (wp_i z), some (wp_i 10), some (wp_i 1)]) ji_114_46 rfl (Nat.le_of_ble_eq_true rfl) (by omega) rfl ?_
          refine wl_goto (t := 33) ji_114_49 rfl ?_
          refine wl_s (pc' := 35) ji_114_33 rfl rfl rfl ?_
          refine wl_s (pc' := 36) ji_114_35 rfl rfl rfl ?_
          refine wl_icmp (t := 52) ji_114_36 rfl (by omega) (by omega) (fun (hb11 : (n : Int) ≤ 1) => ?_) (fun (hb11 : ¬ ((n : Int) ≤ 1)) => ?_)
          · refine wl_s (pc' := 53) ji_114_52 rfl rfl rfl ?_
            refine cs_gr (r := 95) (k := 4) C (by decide) sq_9 rfl ji_114_53 jf_114_45 ?_
            refine wl_s (pc' := 57) ji_114_56 rfl rfl rfl ?_
            refine cs_gr (r := 47) (k := 0) C (by decide) sq_9 rfl ji_114_57 jf_114_19 ?_
            refine wl_s (pc' := 61) ji_114_60 rfl rfl rfl ?_
            refine wl_s (pc' := 62) ji_114_61 rfl rfl rfl ?_
            refine wl_s (pc' := 64) ji_114_62 rfl rfl rfl ?_
            obtain ⟨q13, hq13⟩ := cs_c C (by decide) sq_95
            refine wl_vc (d := d + 8) (as := [.ref 95, .ref 47, wp_i w, wp_i n, wp_i 10]) (rest := []) ji_114_64 jc_114_233 rfl hq13 jk_115.symm (Nat.le_of_ble_eq_true rfl) rfl (by rw [jn_115]; rfl) (uc_115 (d := d) (r := r) C N E A hw (n := n) (by omega) (by decide) R0 RGr h12) (fun v1 h12 R => ?_)
            obtain ⟨rfl, t, ft, C⟩ := R
            obtain ⟨va, eva⟩ : ∃ z9_, (if s 48 9 = 0 then (if s 48 11 = w then 10 else 0) else dpN cr w n.toNat 10 r) = z9_ := ⟨_, rfl⟩
            rw [eva]
            have vb : 0 ≤ va ∧ va ≤ 10 := by { rw [← eva]; by_cases z1 : s 48 9 = 0; rw [if_pos z1]; by_cases z2 : s 48 11 = w; rw [if_pos z2]; decide; rw [if_neg z2]; decide; rw [if_neg z1]; exact dpN_b _ _ _ (by decide) }
            show wl_R _ _ 114 67 [some (.ref 9), some (wp_i w), some (wp_i n), some (wp_i z), some (wp_i 10), some (wp_i 1)] [wp_i va] h12 _
            refine wl_s (pc' := 69) ji_114_67 rfl rfl rfl ?_
            refine wl_s (pc' := 70) ji_114_69 rfl rfl rfl ?_
            refine wl_sc (d := d + 8) (as := [wp_i va, wp_i 10, wp_i z]) (rest := []) ji_114_70 jc_114_237 (Nat.le_of_ble_eq_true rfl) rfl (Nat.le_of_ble_eq_true rfl) rfl (by rw [jn_117]; rfl) (uc_117 (d := d + 8) (by omega) (by decide) hz) (fun v1 h14 R => ?_)
            obtain ⟨ee, rfl⟩ := R
            rw [ee]
            clear ee
            obtain ⟨lt, elt⟩ : ∃ z9_, ltC va 10 z = z9_ := ⟨_, rfl⟩
            have lb : 0 ≤ lt ∧ lt ≤ 1000 := by rw [← elt]; exact ltC_b vb (by decide) (by decide)
            rw [elt]
            show wl_R _ _ 114 73 [some (.ref 9), some (wp_i w), some (wp_i n), some (wp_i z), some (wp_i 10), some (wp_i 1)] [wp_i lt] _ _
            refine wl_i2g (x := lt) ji_114_73 (by omega) ?_
            exact wl_rlg ji_114_74 jr_114 (Or.inr ⟨by omega, by { rw [show p10 n = 10 by { rw [show n = 1 by omega]; rfl }, eva, elt] }, t, ft, C⟩)
          · refine wl_s (pc' := 41) ji_114_39 rfl rfl rfl ?_
            refine wl_bp ji_114_41 rfl ?_
            refine wl_imul (x := 10) (y := 10) (z := 100) ji_114_43 (by omega) ?_
            refine wl_s (pc' := 46) (lv' := [some (.ref 9), some (wp_i w), some (wp_i n), some (wp_i z), some (wp_i 100), some (wp_i 1)]) ji_114_44 rfl rfl rfl ?_
            refine wl_iinc (x := 1) (z := 2) (lv' := [some (.ref 9), some (wp_i w), some (wp_i n), some (wp_i z), some (wp_i 100), some (wp_i 2)]) ji_114_46 rfl (Nat.le_of_ble_eq_true rfl) (by omega) rfl ?_
            refine wl_goto (t := 33) ji_114_49 rfl ?_
            refine wl_s (pc' := 35) ji_114_33 rfl rfl rfl ?_
            refine wl_s (pc' := 36) ji_114_35 rfl rfl rfl ?_
            refine wl_icmp (t := 52) ji_114_36 rfl (by omega) (by omega) (fun (hb15 : (n : Int) ≤ 2) => ?_) (fun (hb15 : ¬ ((n : Int) ≤ 2)) => ?_)
            · refine wl_s (pc' := 53) ji_114_52 rfl rfl rfl ?_
              refine cs_gr (r := 95) (k := 4) C (by decide) sq_9 rfl ji_114_53 jf_114_45 ?_
              refine wl_s (pc' := 57) ji_114_56 rfl rfl rfl ?_
              refine cs_gr (r := 47) (k := 0) C (by decide) sq_9 rfl ji_114_57 jf_114_19 ?_
              refine wl_s (pc' := 61) ji_114_60 rfl rfl rfl ?_
              refine wl_s (pc' := 62) ji_114_61 rfl rfl rfl ?_
              refine wl_s (pc' := 64) ji_114_62 rfl rfl rfl ?_
              obtain ⟨q17, hq17⟩ := cs_c C (by decide) sq_95
              refine wl_vc (d := d + 8) (as := [.ref 95, .ref 47, wp_i w, wp_i n, wp_i 100]) (rest := []) ji_114_64 jc_114_233 rfl hq17 jk_115.symm (Nat.le_of_ble_eq_true rfl) rfl (by rw [jn_115]; rfl) (uc_115 (d := d) (r := r) C N E A hw (n := n) (by omega) (by decide) R0 RGr h12) (fun v1 h16 R => ?_)
              obtain ⟨rfl, t, ft, C⟩ := R
              obtain ⟨va, eva⟩ : ∃ z9_, (if s 48 9 = 0 then (if s 48 11 = w then 100 else 0) else dpN cr w n.toNat 100 r) = z9_ := ⟨_, rfl⟩
              rw [eva]
              have vb : 0 ≤ va ∧ va ≤ 100 := by { rw [← eva]; by_cases z1 : s 48 9 = 0; rw [if_pos z1]; by_cases z2 : s 48 11 = w; rw [if_pos z2]; decide; rw [if_neg z2]; decide; rw [if_neg z1]; exact dpN_b _ _ _ (by decide) }
              show wl_R _ _ 114 67 [some (.ref 9), some (wp_i w), some (wp_i n), some (wp_i z), some (wp_i 100), some (wp_i 2)] [wp_i va] h16 _
              refine wl_s (pc' := 69) ji_114_67 rfl rfl rfl ?_
              refine wl_s (pc' := 70) ji_114_69 rfl rfl rfl ?_
              refine wl_sc (d := d + 8) (as := [wp_i va, wp_i 100, wp_i z]) (rest := []) ji_114_70 jc_114_237 (Nat.le_of_ble_eq_true rfl) rfl (Nat.le_of_ble_eq_true rfl) rfl (by rw [jn_117]; rfl) (uc_117 (d := d + 8) (by omega) (by decide) hz) (fun v1 h18 R => ?_)
              obtain ⟨ee, rfl⟩ := R
              rw [ee]
              clear ee
              obtain ⟨lt, elt⟩ : ∃ z9_, ltC va 100 z = z9_ := ⟨_, rfl⟩
              have lb : 0 ≤ lt ∧ lt ≤ 1000 := by rw [← elt]; exact ltC_b vb (by decide) (by decide)
              rw [elt]
              show wl_R _ _ 114 73 [some (.ref 9), some (wp_i w), some (wp_i n), some (wp_i z), some (wp_i 100), some (wp_i 2)] [wp_i lt] _ _
              refine wl_i2g (x := lt) ji_114_73 (by omega) ?_
              exact wl_rlg ji_114_74 jr_114 (Or.inr ⟨by omega, by { rw [show p10 n = 100 by { rw [show n = 2 by omega]; rfl }, eva, elt] }, t, ft, C⟩)
            · refine wl_s (pc' := 41) ji_114_39 rfl rfl rfl ?_
              refine wl_bp ji_114_41 rfl ?_
              refine wl_imul (x := 100) (y := 10) (z := 1000) ji_114_43 (by omega) ?_
              refine wl_s (pc' := 46) (lv' := [some (.ref 9), some (wp_i w), some (wp_i n), some (wp_i z), some (wp_i 1000), some (wp_i 2)]) ji_114_44 rfl rfl rfl ?_
              refine wl_iinc (x := 2) (z := 3) (lv' := [some (.ref 9), some (wp_i w), some (wp_i n), some (wp_i z), some (wp_i 1000), some (wp_i 3)]) ji_114_46 rfl (Nat.le_of_ble_eq_true rfl) (by omega) rfl ?_
              refine wl_goto (t := 33) ji_114_49 rfl ?_
              refine wl_s (pc' := 35) ji_114_33 rfl rfl rfl ?_
              refine wl_s (pc' := 36) ji_114_35 rfl rfl rfl ?_
              refine wl_icmp (t := 52) ji_114_36 rfl (by omega) (by omega) (fun (hb19 : (n : Int) ≤ 3) => ?_) (fun (hb19 : ¬ ((n : Int) ≤ 3)) => (by exfalso; omega))
              refine wl_s (pc' := 53) ji_114_52 rfl rfl rfl ?_
              refine cs_gr (r := 95) (k := 4) C (by decide) sq_9 rfl ji_114_53 jf_114_45 ?_
              refine wl_s (pc' := 57) ji_114_56 rfl rfl rfl ?_
              refine cs_gr (r := 47) (k := 0) C (by decide) sq_9 rfl ji_114_57 jf_114_19 ?_
              refine wl_s (pc' := 61) ji_114_60 rfl rfl rfl ?_
              refine wl_s (pc' := 62) ji_114_61 rfl rfl rfl ?_
              refine wl_s (pc' := 64) ji_114_62 rfl rfl rfl ?_
              obtain ⟨q21, hq21⟩ := cs_c C (by decide) sq_95
              refine wl_vc (d := d + 8) (as := [.ref 95, .ref 47, wp_i w, wp_i n, wp_i 1000]) (rest := []) ji_114_64 jc_114_233 rfl hq21 jk_115.symm (Nat.le_of_ble_eq_true rfl) rfl (by rw [jn_115]; rfl) (uc_115 (d := d) (r := r) C N E A hw (n := n) (by omega) (by decide) R0 RGr h12) (fun v1 h20 R => ?_)
              obtain ⟨rfl, t, ft, C⟩ := R
              obtain ⟨va, eva⟩ : ∃ z9_, (if s 48 9 = 0 then (if s 48 11 = w then 1000 else 0) else dpN cr w n.toNat 1000 r) = z9_ := ⟨_, rfl⟩
              rw [eva]
              have vb : 0 ≤ va ∧ va ≤ 1000 := by { rw [← eva]; by_cases z1 : s 48 9 = 0; rw [if_pos z1]; by_cases z2 : s 48 11 = w; rw [if_pos z2]; decide; rw [if_neg z2]; decide; rw [if_neg z1]; exact dpN_b _ _ _ (by decide) }
              show wl_R _ _ 114 67 [some (.ref 9), some (wp_i w), some (wp_i n), some (wp_i z), some (wp_i 1000), some (wp_i 3)] [wp_i va] h20 _
              refine wl_s (pc' := 69) ji_114_67 rfl rfl rfl ?_
              refine wl_s (pc' := 70) ji_114_69 rfl rfl rfl ?_
              refine wl_sc (d := d + 8) (as := [wp_i va, wp_i 1000, wp_i z]) (rest := []) ji_114_70 jc_114_237 (Nat.le_of_ble_eq_true rfl) rfl (Nat.le_of_ble_eq_true rfl) rfl (by rw [jn_117]; rfl) (uc_117 (d := d + 8) (by omega) (by decide) hz) (fun v1 h22 R => ?_)
              obtain ⟨ee, rfl⟩ := R
              rw [ee]
              clear ee
              obtain ⟨lt, elt⟩ : ∃ z9_, ltC va 1000 z = z9_ := ⟨_, rfl⟩
              have lb : 0 ≤ lt ∧ lt ≤ 1000 := by rw [← elt]; exact ltC_b vb (by decide) (by decide)
              rw [elt]
              show wl_R _ _ 114 73 [some (.ref 9), some (wp_i w), some (wp_i n), some (wp_i z), some (wp_i 1000), some (wp_i 3)] [wp_i lt] _ _
              refine wl_i2g (x := lt) ji_114_73 (by omega) ?_
              exact wl_rlg ji_114_74 jr_114 (Or.inr ⟨by omega, by { rw [show p10 n = 1000 by { rw [show n = 3 by omega]; rfl }, eva, elt] }, t, ft, C⟩)
      · refine wl_lk (n := -1) ji_114_23 jcn_114_231 (by decide) ?_
        exact wl_rlg ji_114_26 jr_114 (Or.inl ⟨by omega, rfl, C⟩)
