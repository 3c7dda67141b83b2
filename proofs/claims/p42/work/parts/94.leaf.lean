/-! leaves: exact answers, laid by program (wp_leaf.py) -/
theorem pv_fd64 {j : Nat} (hj : j < 300) : sx_fd sx_y64.2.2 j = some (0, 0, 255) := by
  have e : sx_y64.2.2 = [(0, 300, [(0, 0, 255)])] := by decide
  rw [e]
  unfold sx_fd
  have e2 : ([((0 : Nat), (300 : Nat), ([(0, 0, 255)] : List sx_D))].find? fun q => decide (q.1 ≤ j) && decide (j < q.1 + q.2.1)) = some (0, 300, [(0, 0, 255)]) := by
    rw [List.find?_cons_of_pos]
    simp only [Bool.and_eq_true, decide_eq_true_eq]
    omega
  rw [e2]
  dsimp only
  rw [show (j - 0) % ([((0 : Nat), (0 : Int), (255 : Int))] : List sx_D).length = 0 from Nat.mod_one _]
  rfl
theorem pv_nb {y : Int} (h : y = 0 ∨ y = 1) : narrow .boolean (wp_i y) = wp_i y := by
  rcases h with h | h <;> (subst h; rfl)
theorem pv_fb {y : Int} (h : y = 0 ∨ y = 1) : fits .boolean (wp_i y) = true := by
  rcases h with h | h <;> (subst h; rfl)
/-- a call of one of the reference's own methods -/
theorem pv_vc {h0 h : mj_H} {a P T : Nat} {φ : Nat → Int} {pl ts : List Value} {d m pc : Nat} {lv : mj_L} {Q : Option Value → mj_H → Prop} (V : pv h0 h a P T φ pl ts) {x c n : Nat} {st0 rest as : List Value} {lv0 : mj_L} {Q1 : Option Value → mj_H → Prop} (hi : mj_ins m pc = some (.invokevirtual x)) (hc : mj_cal m x = some (2, c, n)) (hk : mj_cls c = 11) (hd : st0.drop n = .ref a :: rest) (hq : mj_cat rest ≤ 8) (has : .ref a :: (st0.take n).reverse = as) (hn : mj_ent (mj_nl c) as = some lv0) (h0 : wp_R d c 0 lv0 [] h Q1) (hr : ∀ v h1, Q1 v h1 → wp_R (d + 1) m (pc + 3) lv (v.toList ++ rest) h1 Q) : wp_R (d + 1) m pc lv st0 h Q := by
  obtain ⟨-, -, -, -, -, -, fs, f1, -⟩ := V
  exact wp_vc hi hc hd f1 hk.symm hq has hn h0 hr
theorem pv_gl {h0 h : mj_H} {a P T : Nat} {φ : Nat → Int} {pl ts : List Value} {d m pc : Nat} {lv : mj_L} {st : List Value} {Q : Option Value → mj_H → Prop} (V : pv h0 h a P T φ pl ts) {x : Nat} {ty : FieldType} {w : Bool} (hi : mj_ins m pc = some (.getfield x)) (hf : mj_fld m x = some (11, 11, ty, w)) (hr : ∀ z, wp_R d m (pc + 3) lv (.long z :: st) h Q) : wp_R d m pc lv (.ref a :: st) h Q := by
  obtain ⟨hH, -, -, ta, -, -, fs, f1, -⟩ := V
  obtain ⟨vs, v, g1, g2, g3, b, rfl, g4⟩ := sx_rf hH ta (k := 11) (d := (1, -9223372036854775808, 9223372036854775807)) (by decide) (by decide)
  exact wp_gf hi hf g1 g3 (hr b)
set_option maxRecDepth 100000 in
theorem ji_171_0 : mj_ins 171 0 = some (.iload_n 0) := by decide +kernel
set_option maxRecDepth 100000 in
theorem ji_171_1 : mj_ins 171 1 = some (.iload_n 1) := by decide +kernel
set_option maxRecDepth 100000 in
theorem ji_171_2 : mj_ins 171 2 = some (.if_icmp .lt 12) := by decide +kernel
set_option maxRecDepth 100000 in
theorem ji_171_14 : mj_ins 171 14 = some (.iconst 0) := by decide +kernel
set_option maxRecDepth 100000 in
theorem ji_171_15 : mj_ins 171 15 = some (.ireturn) := by decide +kernel
set_option maxRecDepth 100000 in
theorem jr_171 : mj_ret 171 = some .boolean := by decide +kernel
set_option maxRecDepth 100000 in
theorem ji_171_5 : mj_ins 171 5 = some (.iload_n 0) := by decide +kernel
set_option maxRecDepth 100000 in
theorem ji_171_6 : mj_ins 171 6 = some (.iload_n 2) := by decide +kernel
set_option maxRecDepth 100000 in
theorem ji_171_7 : mj_ins 171 7 = some (.if_icmp .gt 7) := by decide +kernel
set_option maxRecDepth 100000 in
theorem ji_171_10 : mj_ins 171 10 = some (.iconst 1) := by decide +kernel
set_option maxRecDepth 100000 in
theorem ji_171_11 : mj_ins 171 11 = some (.goto 4) := by decide +kernel
set_option maxRecDepth 100000 in
theorem ji_200_0 : mj_ins 200 0 = some (.iload_n 0) := by decide +kernel
set_option maxRecDepth 100000 in
theorem ji_200_1 : mj_ins 200 1 = some (.bipush 40) := by decide +kernel
set_option maxRecDepth 100000 in
theorem ji_200_3 : mj_ins 200 3 = some (.if_icmp .lt 7) := by decide +kernel
set_option maxRecDepth 100000 in
theorem ji_200_10 : mj_ins 200 10 = some (.iload_n 0) := by decide +kernel
set_option maxRecDepth 100000 in
theorem ji_200_11 : mj_ins 200 11 = some (.bipush 22) := by decide +kernel
set_option maxRecDepth 100000 in
theorem ji_200_13 : mj_ins 200 13 = some (.if_icmp .ne 7) := by decide +kernel
set_option maxRecDepth 100000 in
theorem ji_200_20 : mj_ins 200 20 = some (.iload_n 0) := by decide +kernel
set_option maxRecDepth 100000 in
theorem ji_200_21 : mj_ins 200 21 = some (.bipush 21) := by decide +kernel
set_option maxRecDepth 100000 in
theorem ji_200_23 : mj_ins 200 23 = some (.if_icmp .ne 7) := by decide +kernel
set_option maxRecDepth 100000 in
theorem ji_200_30 : mj_ins 200 30 = some (.iload_n 0) := by decide +kernel
set_option maxRecDepth 100000 in
theorem ji_200_31 : mj_ins 200 31 = some (.bipush 20) := by decide +kernel
set_option maxRecDepth 100000 in
theorem ji_200_33 : mj_ins 200 33 = some (.if_icmp .ne 7) := by decide +kernel
set_option maxRecDepth 100000 in
theorem ji_200_40 : mj_ins 200 40 = some (.iload_n 0) := by decide +kernel
set_option maxRecDepth 100000 in
theorem ji_200_41 : mj_ins 200 41 = some (.bipush 10) := by decide +kernel
set_option maxRecDepth 100000 in
theorem ji_200_43 : mj_ins 200 43 = some (.if_icmp .lt 7) := by decide +kernel
set_option maxRecDepth 100000 in
theorem ji_200_50 : mj_ins 200 50 = some (.iload_n 0) := by decide +kernel
set_option maxRecDepth 100000 in
theorem ji_200_51 : mj_ins 200 51 = some (.iconst 3) := by decide +kernel
set_option maxRecDepth 100000 in
theorem ji_200_52 : mj_ins 200 52 = some (.if_icmp .ne 8) := by decide +kernel
set_option maxRecDepth 100000 in
theorem ji_200_60 : mj_ins 200 60 = some (.iload_n 0) := by decide +kernel
set_option maxRecDepth 100000 in
theorem ji_200_61 : mj_ins 200 61 = some (.bipush 6) := by decide +kernel
set_option maxRecDepth 100000 in
theorem ji_200_63 : mj_ins 200 63 = some (.if_icmp .lt 8) := by decide +kernel
set_option maxRecDepth 100000 in
theorem ji_200_71 : mj_ins 200 71 = some (.iconst 5) := by decide +kernel
set_option maxRecDepth 100000 in
theorem ji_200_72 : mj_ins 200 72 = some (.ireturn) := by decide +kernel
set_option maxRecDepth 100000 in
theorem jr_200 : mj_ret 200 = some .int := by decide +kernel
set_option maxRecDepth 100000 in
theorem ji_200_66 : mj_ins 200 66 = some (.bipush 6) := by decide +kernel
set_option maxRecDepth 100000 in
theorem ji_200_68 : mj_ins 200 68 = some (.goto 4) := by decide +kernel
set_option maxRecDepth 100000 in
theorem ji_200_55 : mj_ins 200 55 = some (.bipush 7) := by decide +kernel
set_option maxRecDepth 100000 in
theorem ji_200_57 : mj_ins 200 57 = some (.goto 15) := by decide +kernel
set_option maxRecDepth 100000 in
theorem ji_200_46 : mj_ins 200 46 = some (.iconst 4) := by decide +kernel
set_option maxRecDepth 100000 in
theorem ji_200_47 : mj_ins 200 47 = some (.goto 25) := by decide +kernel
set_option maxRecDepth 100000 in
theorem ji_200_36 : mj_ins 200 36 = some (.iconst 3) := by decide +kernel
set_option maxRecDepth 100000 in
theorem ji_200_37 : mj_ins 200 37 = some (.goto 35) := by decide +kernel
set_option maxRecDepth 100000 in
theorem ji_200_26 : mj_ins 200 26 = some (.iconst 2) := by decide +kernel
set_option maxRecDepth 100000 in
theorem ji_200_27 : mj_ins 200 27 = some (.goto 45) := by decide +kernel
set_option maxRecDepth 100000 in
theorem ji_200_16 : mj_ins 200 16 = some (.iconst 1) := by decide +kernel
set_option maxRecDepth 100000 in
theorem ji_200_17 : mj_ins 200 17 = some (.goto 55) := by decide +kernel
set_option maxRecDepth 100000 in
theorem ji_200_6 : mj_ins 200 6 = some (.iconst 0) := by decide +kernel
set_option maxRecDepth 100000 in
theorem ji_200_7 : mj_ins 200 7 = some (.goto 65) := by decide +kernel
set_option maxRecDepth 100000 in
theorem ji_180_0 : mj_ins 180 0 = some (.iload_n 0) := by decide +kernel
set_option maxRecDepth 100000 in
theorem ji_180_1 : mj_ins 180 1 = some (.bipush 48) := by decide +kernel
set_option maxRecDepth 100000 in
theorem ji_180_3 : mj_ins 180 3 = some (.if_icmp .lt 13) := by decide +kernel
set_option maxRecDepth 100000 in
theorem ji_180_16 : mj_ins 180 16 = some (.iconst 0) := by decide +kernel
set_option maxRecDepth 100000 in
theorem ji_180_17 : mj_ins 180 17 = some (.ireturn) := by decide +kernel
set_option maxRecDepth 100000 in
theorem jr_180 : mj_ret 180 = some .boolean := by decide +kernel
set_option maxRecDepth 100000 in
theorem ji_180_6 : mj_ins 180 6 = some (.iload_n 0) := by decide +kernel
set_option maxRecDepth 100000 in
theorem ji_180_7 : mj_ins 180 7 = some (.bipush 57) := by decide +kernel
set_option maxRecDepth 100000 in
theorem ji_180_9 : mj_ins 180 9 = some (.if_icmp .gt 7) := by decide +kernel
set_option maxRecDepth 100000 in
theorem ji_180_12 : mj_ins 180 12 = some (.iconst 1) := by decide +kernel
set_option maxRecDepth 100000 in
theorem ji_180_13 : mj_ins 180 13 = some (.goto 4) := by decide +kernel
set_option maxRecDepth 100000 in
theorem ji_181_0 : mj_ins 181 0 = some (.iload_n 0) := by decide +kernel
set_option maxRecDepth 100000 in
theorem ji_181_1 : mj_ins 181 1 = some (.bipush 97) := by decide +kernel
set_option maxRecDepth 100000 in
theorem ji_181_3 : mj_ins 181 3 = some (.if_icmp .lt 9) := by decide +kernel
set_option maxRecDepth 100000 in
theorem ji_181_12 : mj_ins 181 12 = some (.iload_n 0) := by decide +kernel
set_option maxRecDepth 100000 in
theorem ji_181_13 : mj_ins 181 13 = some (.bipush 65) := by decide +kernel
set_option maxRecDepth 100000 in
theorem ji_181_15 : mj_ins 181 15 = some (.if_icmp .lt 13) := by decide +kernel
set_option maxRecDepth 100000 in
theorem ji_181_28 : mj_ins 181 28 = some (.iconst 0) := by decide +kernel
set_option maxRecDepth 100000 in
theorem ji_181_29 : mj_ins 181 29 = some (.ireturn) := by decide +kernel
set_option maxRecDepth 100000 in
theorem jr_181 : mj_ret 181 = some .boolean := by decide +kernel
set_option maxRecDepth 100000 in
theorem ji_181_18 : mj_ins 181 18 = some (.iload_n 0) := by decide +kernel
set_option maxRecDepth 100000 in
theorem ji_181_19 : mj_ins 181 19 = some (.bipush 90) := by decide +kernel
set_option maxRecDepth 100000 in
theorem ji_181_21 : mj_ins 181 21 = some (.if_icmp .gt 7) := by decide +kernel
set_option maxRecDepth 100000 in
theorem ji_181_24 : mj_ins 181 24 = some (.iconst 1) := by decide +kernel
set_option maxRecDepth 100000 in
theorem ji_181_25 : mj_ins 181 25 = some (.goto 4) := by decide +kernel
set_option maxRecDepth 100000 in
theorem ji_181_6 : mj_ins 181 6 = some (.iload_n 0) := by decide +kernel
set_option maxRecDepth 100000 in
theorem ji_181_7 : mj_ins 181 7 = some (.bipush 122) := by decide +kernel
set_option maxRecDepth 100000 in
theorem ji_181_9 : mj_ins 181 9 = some (.if_icmp .le 15) := by decide +kernel
set_option maxRecDepth 100000 in
theorem ji_179_0 : mj_ins 179 0 = some (.iload_n 1) := by decide +kernel
set_option maxRecDepth 100000 in
theorem ji_179_1 : mj_ins 179 1 = some (.aload_n 0) := by decide +kernel
set_option maxRecDepth 100000 in
theorem ji_179_2 : mj_ins 179 2 = some (.getfield 78) := by decide +kernel
set_option maxRecDepth 100000 in
theorem ji_179_5 : mj_ins 179 5 = some (.if_icmp .ge 12) := by decide +kernel
set_option maxRecDepth 100000 in
theorem ji_179_8 : mj_ins 179 8 = some (.aload_n 0) := by decide +kernel
set_option maxRecDepth 100000 in
theorem ji_179_9 : mj_ins 179 9 = some (.getfield 19) := by decide +kernel
set_option maxRecDepth 100000 in
theorem ji_179_12 : mj_ins 179 12 = some (.iload_n 1) := by decide +kernel
set_option maxRecDepth 100000 in
theorem ji_179_13 : mj_ins 179 13 = some (.iaload) := by decide +kernel
set_option maxRecDepth 100000 in
theorem ji_179_14 : mj_ins 179 14 = some (.goto 4) := by decide +kernel
set_option maxRecDepth 100000 in
theorem ji_179_17 : mj_ins 179 17 = some (.iconst (-1)) := by decide +kernel
set_option maxRecDepth 100000 in
theorem ji_179_18 : mj_ins 179 18 = some (.ireturn) := by decide +kernel
set_option maxRecDepth 100000 in
theorem ji_182_0 : mj_ins 182 0 = some (.iload_n 0) := by decide +kernel
set_option maxRecDepth 100000 in
theorem ji_182_1 : mj_ins 182 1 = some (.tableswitch 129 35 62 #[127, 129, 129, 129, 129, 127, 127, 127, 127, 127, 127, 129, 127, 129, 129, 129, 129, 129, 129, 129, 129, 129, 129, 129, 127, 127, 127, 127]) := by decide +kernel
set_option maxRecDepth 100000 in
theorem ji_182_128 : mj_ins 182 128 = some (.iconst 1) := by decide +kernel
set_option maxRecDepth 100000 in
theorem ji_182_129 : mj_ins 182 129 = some (.ireturn) := by decide +kernel
set_option maxRecDepth 100000 in
theorem ji_182_130 : mj_ins 182 130 = some (.iconst 0) := by decide +kernel
set_option maxRecDepth 100000 in
theorem ji_182_131 : mj_ins 182 131 = some (.ireturn) := by decide +kernel
set_option maxRecDepth 100000 in
theorem jf_179_78 : mj_fld 179 78 = some (11, 4, .int, true) := by decide +kernel
set_option maxRecDepth 100000 in
theorem jf_179_19 : mj_fld 179 19 = some (11, 3, (.array .int), false) := by decide +kernel
set_option maxRecDepth 100000 in
theorem pf_4 : sx_fd sx_y63.2.2 4 = some (0, 0, 300) := by decide +kernel
set_option maxRecDepth 100000 in
theorem jr_179 : mj_ret 179 = some .int := by decide +kernel
set_option maxRecDepth 100000 in
theorem jr_182 : mj_ret 182 = some .boolean := by decide +kernel
theorem ws_isIn {d : Nat} {h : mj_H} {x lo hi : Int} (hx : wp_r x) (hlo : wp_r lo) (hhi : wp_r hi) : wp_R d 171 0 [some (wp_i x), some (wp_i lo), some (wp_i hi)] [] h (fun v h1 => h1 = h ∧ v = some (wp_i (if lo ≤ x ∧ x ≤ hi then 1 else 0))) := by
  refine wp_s (pc' := 1) ji_171_0 rfl rfl rfl ?_
  refine wp_s (pc' := 2) ji_171_1 rfl rfl rfl ?_
  refine wp_icmp (t := 14) ji_171_2 rfl (by omega) (by omega) (fun (hb1 : (x : Int) < lo) => ?_) (fun (hb1 : ¬ ((x : Int) < lo)) => ?_)
  · refine wp_s (pc' := 15) ji_171_14 rfl rfl rfl ?_
    refine wp_ri ji_171_15 jr_171 rfl ⟨rfl, ?_⟩
    rw [if_neg (by omega)]
  · refine wp_s (pc' := 6) ji_171_5 rfl rfl rfl ?_
    refine wp_s (pc' := 7) ji_171_6 rfl rfl rfl ?_
    refine wp_icmp (t := 14) ji_171_7 rfl (by omega) (by omega) (fun (hb2 : (hi : Int) < x) => ?_) (fun (hb2 : ¬ ((hi : Int) < x)) => ?_)
    · refine wp_s (pc' := 15) ji_171_14 rfl rfl rfl ?_
      refine wp_ri ji_171_15 jr_171 rfl ⟨rfl, ?_⟩
      rw [if_neg (by omega)]
    · refine wp_s (pc' := 11) ji_171_10 rfl rfl rfl ?_
      refine wp_goto (t := 15) ji_171_11 rfl ?_
      refine wp_ri ji_171_15 jr_171 rfl ⟨rfl, ?_⟩
      rw [if_pos (by omega)]
theorem ws_rank {d : Nat} {h : mj_H} {o : Int} (hx : wp_r o) : wp_R d 200 0 [some (wp_i o)] [] h (fun v h1 => h1 = h ∧ v = some (wp_i (pr_rank o))) := by
  refine wp_s (pc' := 1) ji_200_0 rfl rfl rfl ?_
  refine wp_bp ji_200_1 rfl ?_
  refine wp_icmp (t := 10) ji_200_3 rfl (by omega) (by omega) (fun (hb1 : (o : Int) < 40) => ?_) (fun (hb1 : ¬ ((o : Int) < 40)) => ?_)
  · refine wp_s (pc' := 11) ji_200_10 rfl rfl rfl ?_
    refine wp_bp ji_200_11 rfl ?_
    refine wp_icmp (t := 20) ji_200_13 rfl (by omega) (by omega) (fun (hb2 : ¬ (o : Int) = 22) => ?_) (fun (hb2 : ¬ (¬ (o : Int) = 22)) => ?_)
    · refine wp_s (pc' := 21) ji_200_20 rfl rfl rfl ?_
      refine wp_bp ji_200_21 rfl ?_
      refine wp_icmp (t := 30) ji_200_23 rfl (by omega) (by omega) (fun (hb3 : ¬ (o : Int) = 21) => ?_) (fun (hb3 : ¬ (¬ (o : Int) = 21)) => ?_)
      · refine wp_s (pc' := 31) ji_200_30 rfl rfl rfl ?_
        refine wp_bp ji_200_31 rfl ?_
        refine wp_icmp (t := 40) ji_200_33 rfl (by omega) (by omega) (fun (hb4 : ¬ (o : Int) = 20) => ?_) (fun (hb4 : ¬ (¬ (o : Int) = 20)) => ?_)
        · refine wp_s (pc' := 41) ji_200_40 rfl rfl rfl ?_
          refine wp_bp ji_200_41 rfl ?_
          refine wp_icmp (t := 50) ji_200_43 rfl (by omega) (by omega) (fun (hb5 : (o : Int) < 10) => ?_) (fun (hb5 : ¬ ((o : Int) < 10)) => ?_)
          · refine wp_s (pc' := 51) ji_200_50 rfl rfl rfl ?_
            refine wp_s (pc' := 52) ji_200_51 rfl rfl rfl ?_
            refine wp_icmp (t := 60) ji_200_52 rfl (by omega) (by omega) (fun (hb6 : ¬ (o : Int) = 3) => ?_) (fun (hb6 : ¬ (¬ (o : Int) = 3)) => ?_)
            · refine wp_s (pc' := 61) ji_200_60 rfl rfl rfl ?_
              refine wp_bp ji_200_61 rfl ?_
              refine wp_icmp (t := 71) ji_200_63 rfl (by omega) (by omega) (fun (hb7 : (o : Int) < 6) => ?_) (fun (hb7 : ¬ ((o : Int) < 6)) => ?_)
              · refine wp_s (pc' := 72) ji_200_71 rfl rfl rfl ?_
                refine wp_ri ji_200_72 jr_200 rfl ⟨rfl, ?_⟩
                unfold pr_rank
                repeat (first | rw [if_pos (by omega)] | rw [if_neg (by omega)])
              · refine wp_bp ji_200_66 rfl ?_
                refine wp_goto (t := 72) ji_200_68 rfl ?_
                refine wp_ri ji_200_72 jr_200 rfl ⟨rfl, ?_⟩
                unfold pr_rank
                repeat (first | rw [if_pos (by omega)] | rw [if_neg (by omega)])
            · refine wp_bp ji_200_55 rfl ?_
              refine wp_goto (t := 72) ji_200_57 rfl ?_
              refine wp_ri ji_200_72 jr_200 rfl ⟨rfl, ?_⟩
              unfold pr_rank
              repeat (first | rw [if_pos (by omega)] | rw [if_neg (by omega)])
          · refine wp_s (pc' := 47) ji_200_46 rfl rfl rfl ?_
            refine wp_goto (t := 72) ji_200_47 rfl ?_
            refine wp_ri ji_200_72 jr_200 rfl ⟨rfl, ?_⟩
            unfold pr_rank
            repeat (first | rw [if_pos (by omega)] | rw [if_neg (by omega)])
        · refine wp_s (pc' := 37) ji_200_36 rfl rfl rfl ?_
          refine wp_goto (t := 72) ji_200_37 rfl ?_
          refine wp_ri ji_200_72 jr_200 rfl ⟨rfl, ?_⟩
          unfold pr_rank
          repeat (first | rw [if_pos (by omega)] | rw [if_neg (by omega)])
      · refine wp_s (pc' := 27) ji_200_26 rfl rfl rfl ?_
        refine wp_goto (t := 72) ji_200_27 rfl ?_
        refine wp_ri ji_200_72 jr_200 rfl ⟨rfl, ?_⟩
        unfold pr_rank
        repeat (first | rw [if_pos (by omega)] | rw [if_neg (by omega)])
    · refine wp_s (pc' := 17) ji_200_16 rfl rfl rfl ?_
      refine wp_goto (t := 72) ji_200_17 rfl ?_
      refine wp_ri ji_200_72 jr_200 rfl ⟨rfl, ?_⟩
      unfold pr_rank
      repeat (first | rw [if_pos (by omega)] | rw [if_neg (by omega)])
  · refine wp_s (pc' := 7) ji_200_6 rfl rfl rfl ?_
    refine wp_goto (t := 72) ji_200_7 rfl ?_
    refine wp_ri ji_200_72 jr_200 rfl ⟨rfl, ?_⟩
    unfold pr_rank
    repeat (first | rw [if_pos (by omega)] | rw [if_neg (by omega)])
theorem ws_isFigure {d : Nat} {h : mj_H} {c : Int} (hx : wp_r c) : wp_R d 180 0 [some (wp_i c)] [] h (fun v h1 => h1 = h ∧ ∃ y : Int, v = some (wp_i y) ∧ (y = 0 ∨ y = 1) ∧ (y = 1 ↔ 48 ≤ c ∧ c ≤ 57)) := by
  refine wp_s (pc' := 1) ji_180_0 rfl rfl rfl ?_
  refine wp_bp ji_180_1 rfl ?_
  refine wp_icmp (t := 16) ji_180_3 rfl (by omega) (by omega) (fun (hb1 : (c : Int) < 48) => ?_) (fun (hb1 : ¬ ((c : Int) < 48)) => ?_)
  · refine wp_s (pc' := 17) ji_180_16 rfl rfl rfl ?_
    exact wp_ri ji_180_17 jr_180 rfl ⟨rfl, ⟨_, rfl, by omega, by omega⟩⟩
  · refine wp_s (pc' := 7) ji_180_6 rfl rfl rfl ?_
    refine wp_bp ji_180_7 rfl ?_
    refine wp_icmp (t := 16) ji_180_9 rfl (by omega) (by omega) (fun (hb2 : (57 : Int) < c) => ?_) (fun (hb2 : ¬ ((57 : Int) < c)) => ?_)
    · refine wp_s (pc' := 17) ji_180_16 rfl rfl rfl ?_
      exact wp_ri ji_180_17 jr_180 rfl ⟨rfl, ⟨_, rfl, by omega, by omega⟩⟩
    · refine wp_s (pc' := 13) ji_180_12 rfl rfl rfl ?_
      refine wp_goto (t := 17) ji_180_13 rfl ?_
      exact wp_ri ji_180_17 jr_180 rfl ⟨rfl, ⟨_, rfl, by omega, by omega⟩⟩
theorem ws_isLetter {d : Nat} {h : mj_H} {c : Int} (hx : wp_r c) : wp_R d 181 0 [some (wp_i c)] [] h (fun v h1 => h1 = h ∧ ∃ y : Int, v = some (wp_i y) ∧ (y = 0 ∨ y = 1) ∧ (y = 1 ↔ (97 ≤ c ∧ c ≤ 122 ∨ 65 ≤ c ∧ c ≤ 90))) := by
  refine wp_s (pc' := 1) ji_181_0 rfl rfl rfl ?_
  refine wp_bp ji_181_1 rfl ?_
  refine wp_icmp (t := 12) ji_181_3 rfl (by omega) (by omega) (fun (hb1 : (c : Int) < 97) => ?_) (fun (hb1 : ¬ ((c : Int) < 97)) => ?_)
  · refine wp_s (pc' := 13) ji_181_12 rfl rfl rfl ?_
    refine wp_bp ji_181_13 rfl ?_
    refine wp_icmp (t := 28) ji_181_15 rfl (by omega) (by omega) (fun (hb2 : (c : Int) < 65) => ?_) (fun (hb2 : ¬ ((c : Int) < 65)) => ?_)
    · refine wp_s (pc' := 29) ji_181_28 rfl rfl rfl ?_
      exact wp_ri ji_181_29 jr_181 rfl ⟨rfl, ⟨_, rfl, by omega, by omega⟩⟩
    · refine wp_s (pc' := 19) ji_181_18 rfl rfl rfl ?_
      refine wp_bp ji_181_19 rfl ?_
      refine wp_icmp (t := 28) ji_181_21 rfl (by omega) (by omega) (fun (hb3 : (90 : Int) < c) => ?_) (fun (hb3 : ¬ ((90 : Int) < c)) => ?_)
      · refine wp_s (pc' := 29) ji_181_28 rfl rfl rfl ?_
        exact wp_ri ji_181_29 jr_181 rfl ⟨rfl, ⟨_, rfl, by omega, by omega⟩⟩
      · refine wp_s (pc' := 25) ji_181_24 rfl rfl rfl ?_
        refine wp_goto (t := 29) ji_181_25 rfl ?_
        exact wp_ri ji_181_29 jr_181 rfl ⟨rfl, ⟨_, rfl, by omega, by omega⟩⟩
  · refine wp_s (pc' := 7) ji_181_6 rfl rfl rfl ?_
    refine wp_bp ji_181_7 rfl ?_
    refine wp_icmp (t := 24) ji_181_9 rfl (by omega) (by omega) (fun (hb4 : (c : Int) ≤ 122) => ?_) (fun (hb4 : ¬ ((c : Int) ≤ 122)) => ?_)
    · refine wp_s (pc' := 25) ji_181_24 rfl rfl rfl ?_
      refine wp_goto (t := 29) ji_181_25 rfl ?_
      exact wp_ri ji_181_29 jr_181 rfl ⟨rfl, ⟨_, rfl, by omega, by omega⟩⟩
    · refine wp_s (pc' := 13) ji_181_12 rfl rfl rfl ?_
      refine wp_bp ji_181_13 rfl ?_
      refine wp_icmp (t := 28) ji_181_15 rfl (by omega) (by omega) (fun (hb5 : (c : Int) < 65) => ?_) (fun (hb5 : ¬ ((c : Int) < 65)) => ?_)
      · refine wp_s (pc' := 29) ji_181_28 rfl rfl rfl ?_
        exact wp_ri ji_181_29 jr_181 rfl ⟨rfl, ⟨_, rfl, by omega, by omega⟩⟩
      · refine wp_s (pc' := 19) ji_181_18 rfl rfl rfl ?_
        refine wp_bp ji_181_19 rfl ?_
        refine wp_icmp (t := 28) ji_181_21 rfl (by omega) (by omega) (fun (hb6 : (90 : Int) < c) => ?_) (fun (hb6 : ¬ ((90 : Int) < c)) => ?_)
        · refine wp_s (pc' := 29) ji_181_28 rfl rfl rfl ?_
          exact wp_ri ji_181_29 jr_181 rfl ⟨rfl, ⟨_, rfl, by omega, by omega⟩⟩
        · refine wp_s (pc' := 25) ji_181_24 rfl rfl rfl ?_
          refine wp_goto (t := 29) ji_181_25 rfl ?_
          exact wp_ri ji_181_29 jr_181 rfl ⟨rfl, ⟨_, rfl, by omega, by omega⟩⟩
/-- the tape as it was at the beginning -/
def tpe (h0 : mj_H) (a : Nat) : List Value := match (h0[a]? : Option mj_C) with
  | some (_, fs) => match fs[3]? with
    | some (Value.ref X) => match h0[X]? with
      | some (_, tl) => tl
      | none => []
    | _ => []
  | none => []
def bt (tl : List Value) (tp k : Int) : Int := if k < tp then sx_el tl k.toNat else -1
theorem pv_tp {h0 h : mj_H} {a P T : Nat} {φ : Nat → Int} {pl ts : List Value} (V : pv h0 h a P T φ pl ts) : ∃ X fs, h[a]? = some (11, fs) ∧ fs[3]? = some (.ref X) ∧ h[X]? = some (1000, tpe h0 a) ∧ (tpe h0 a).length = 300 ∧ ∀ j, j < 300 → (tpe h0 a)[j]? = some (wp_i (sx_el (tpe h0 a) j)) ∧ 0 ≤ sx_el (tpe h0 a) j ∧ sx_el (tpe h0 a) j ≤ 255 := by
  obtain ⟨hH, hef, hln, ta, -, -, fs, f1, -⟩ := V
  obtain ⟨vs, v, g1, g2, g3, X, rfl, tX⟩ := sx_rf hH ta (k := 3) (d := (2, 64, 0)) (by decide) (by decide)
  rw [f1] at g1
  cases g1
  have tX : sx_tau[X]? = some 64 := tX
  obtain ⟨-, tl, c1, c2, c3, -⟩ := hH X 64 sx_y64 tX rfl
  have c1 : h[X]? = some (1000, tl) := c1
  have c2 : tl.length = 300 := c2
  have la := sx_lt_of f1
  have lX := sx_lt_of c1
  have ea : h0[a]? = some h0[a] := List.getElem?_eq_getElem (by omega)
  have eX : h0[X]? = some h0[X] := List.getElem?_eq_getElem (by omega)
  obtain ⟨us, u1, u2⟩ := hef.1 a h0[a].1 h0[a].2 ea
  rw [f1] at u1
  have ek : h0[a].1 = 11 := (congrArg Prod.fst (Option.some.inj u1)).symm
  have eu : us = fs := (congrArg Prod.snd (Option.some.inj u1)).symm
  subst eu
  have u3 := u2 (100 * 11 + 3) (by decide)
  rw [ek, sx_at_f (by decide) (by decide), sx_at_f (by decide) (by decide), g3] at u3
  obtain ⟨ws, w1, -⟩ := hef.1 X h0[X].1 h0[X].2 eX
  rw [c1] at w1
  have ekX : h0[X].1 = 1000 := (congrArg Prod.fst (Option.some.inj w1)).symm
  obtain ⟨xs, x1, x2⟩ := hef.2.1 X 64 h0[X].1 h0[X].2 tX (by omega) eX (by decide)
  rw [c1] at x1
  have exs : xs = tl := (congrArg Prod.snd (Option.some.inj x1)).symm
  subst exs
  have etl : xs = h0[X].2 := List.ext_getElem? (fun j => x2 j (fun e => by cases e))
  have et : tpe h0 a = xs := by
    unfold tpe
    rw [ea]
    dsimp only
    rw [← u3]
    dsimp only
    rw [eX]
    dsimp only
    exact etl.symm
  rw [et]
  refine ⟨X, us, f1, g3, c1, c2, fun j hj => ?_⟩
  have hv : xs[j]? = some xs[j] := List.getElem?_eq_getElem (by omega)
  obtain ⟨d', d1, d2⟩ := c3 _ _ hv
  rw [pv_fd64 hj] at d1
  cases d1
  obtain ⟨z, ez, z1, z2⟩ := d2
  have e : sx_el xs j = z.toInt := by
    unfold sx_el
    rw [hv, ez]
  rw [e]
  exact ⟨by rw [hv, ez, wp_iz], z1, z2⟩
theorem bt_b {h0 h : mj_H} {a P T : Nat} {φ : Nat → Int} {pl ts : List Value} (V : pv h0 h a P T φ pl ts) {tp k : Int} (ht : φ 4 = tp) (hk : 0 ≤ k) : -1 ≤ bt (tpe h0 a) tp k ∧ bt (tpe h0 a) tp k ≤ 255 ∧ (0 ≤ bt (tpe h0 a) tp k → k < tp) := by
  obtain ⟨X, fs, -, -, -, -, t6⟩ := pv_tp V
  have hb := pv_b V (k := 4) (lo := 0) (hi := 300) (by decide) (by decide)
  unfold bt
  split
  · have := t6 k.toNat (by omega)
    omega
  · omega
theorem wp_gl {d m pc : Nat} {lv : mj_L} {st : List Value} {h : mj_H} {Q : Option Value → mj_H → Prop} {z0 : Int64} (hr : ∀ z, wp_R d m pc lv (.long z :: st) h Q) : wp_R d m pc lv (.long z0 :: st) h Q := hr z0
/-- a branch that may go either way -/
theorem wp_ifz {d m pc : Nat} {lv : mj_L} {st : List Value} {h : mj_H} {Q : Option Value → mj_H → Prop} {c : ClassFile.Cond} {off : Int} {t : Nat} {z : Int32} (hi : mj_ins m pc = some (.ifCond c off)) (ht : mj_j pc off = some t) (h1 : wp_R d m t lv st h Q) (h2 : wp_R d m (pc + 3) lv st h Q) : wp_R d m pc lv (.int z :: st) h Q := by
  rw [wp_iz]
  have := sx_r32 z
  exact wp_if hi ht this (fun _ => h1) (fun _ => h2)
theorem wp_ldi {d m pc : Nat} {lv : mj_L} {st : List Value} {h : mj_H} {Q : Option Value → mj_H → Prop} {x : Nat} {n : Int} {z : Int32} (hi : mj_ins m pc = some (.ldc x)) (hc : mj_con m x = some (.int z)) (hz : z = Int32.ofInt n) (hr : wp_R d m (pc + 2) lv (wp_i n :: st) h Q) : wp_R d m pc lv st h Q := by
  subst hz
  refine wp_s (pc' := pc + 2) (lv' := lv) (st' := wp_i n :: st) (h' := h) hi rfl rfl ?_ hr
  simp only [mj_st, hc]
  rfl
theorem wp_ld2 {d m pc : Nat} {lv : mj_L} {st : List Value} {h : mj_H} {Q : Option Value → mj_H → Prop} {x : Nat} {z : Int64} (hi : mj_ins m pc = some (.ldc2_w x)) (hc : mj_con m x = some (.long z)) (hr : ∀ z, wp_R d m (pc + 3) lv (.long z :: st) h Q) : wp_R d m pc lv st h Q := by
  refine wp_s (pc' := pc + 3) (lv' := lv) (st' := .long z :: st) (h' := h) hi rfl rfl ?_ (hr z)
  simp only [mj_st, hc]
  rfl
theorem ws_byteAt {d : Nat} {h0 h : mj_H} {a P T : Nat} {φ : Nat → Int} {pl ts : List Value} (V : pv h0 h a P T φ pl ts) {k tp : Int} (ht : φ 4 = tp) (hx : 0 ≤ k ∧ k ≤ 300) : wp_R d 179 0 [some (.ref a), some (wp_i k)] [] h (fun v h1 => h1 = h ∧ v = some (wp_i (bt (tpe h0 a) tp k))) := by
  obtain ⟨X, fs, t1, t2, t3, t4, t5⟩ := pv_tp V
  refine wp_s (pc' := 1) ji_179_0 rfl rfl rfl ?_
  refine wp_s (pc' := 2) ji_179_1 rfl rfl rfl ?_
  refine pv_gi V ji_179_2 jf_179_78 (by decide) pf_4 (y := tp) ht (fun l1 u2 => ?_)
  refine wp_icmp (t := 17) ji_179_5 rfl (by omega) (by omega) (fun (hb3 : tp ≤ k) => ?_) (fun (hb3 : ¬ (tp ≤ k)) => ?_)
  · refine wp_s (pc' := 18) ji_179_17 rfl rfl rfl ?_
    refine wp_ri ji_179_18 jr_179 rfl ⟨rfl, ?_⟩
    unfold bt
    rw [if_neg (by omega)]
  · refine wp_s (pc' := 9) ji_179_8 rfl rfl rfl ?_
    refine wp_gf ji_179_9 jf_179_19 t1 t2 ?_
    refine wp_s (pc' := 13) ji_179_12 rfl rfl rfl ?_
    refine wp_ial ji_179_13 t3 (by omega) (by omega) (by omega) (t5 k.toNat (by omega)).1 ?_
    refine wp_goto (t := 18) ji_179_14 rfl ?_
    refine wp_ri ji_179_18 jr_179 rfl ⟨rfl, ?_⟩
    unfold bt
    rw [if_pos (by omega)]
set_option maxRecDepth 100000 in
theorem ws_isSign {d : Nat} {h : mj_H} {c : Int} (hx : wp_r c) : wp_R d 182 0 [some (wp_i c)] [] h (fun v h1 => h1 = h ∧ ∃ y : Int, v = some (wp_i y) ∧ (y = 0 ∨ y = 1)) := by
  have h128 : wp_R d 182 128 [some (wp_i c)] [] h (fun v h1 => h1 = h ∧ ∃ y : Int, v = some (wp_i y) ∧ (y = 0 ∨ y = 1)) := wp_s (pc' := 129) ji_182_128 rfl rfl rfl (wp_ri ji_182_129 jr_182 rfl ⟨rfl, 1, rfl, Or.inr rfl⟩)
  have h130 : wp_R d 182 130 [some (wp_i c)] [] h (fun v h1 => h1 = h ∧ ∃ y : Int, v = some (wp_i y) ∧ (y = 0 ∨ y = 1)) := wp_s (pc' := 131) ji_182_130 rfl rfl rfl (wp_ri ji_182_131 jr_182 rfl ⟨rfl, 0, rfl, Or.inl rfl⟩)
  refine wp_s (pc' := 1) ji_182_0 rfl rfl rfl ?_
  have key : ∀ k : Nat, k < 28 → (#[127, 129, 129, 129, 129, 127, 127, 127, 127, 127, 127, 129, 127, 129, 129, 129, 129, 129, 129, 129, 129, 129, 129, 129, 127, 127, 127, 127] : Array Int)[k]? = some 127 ∨ (#[127, 129, 129, 129, 129, 127, 127, 127, 127, 127, 127, 129, 127, 129, 129, 129, 129, 129, 129, 129, 129, 129, 129, 129, 127, 127, 127, 127] : Array Int)[k]? = some 129 := by decide
  have ec := wp_ti hx
  by_cases hr : c < 35 ∨ 62 < c
  · refine wp_s (pc' := 130) (lv' := [some (wp_i c)]) (st' := []) (h' := h) ji_182_1 rfl rfl ?_ h130
    simp only [mj_st, ec]
    rw [if_pos hr]
    rfl
  · rcases key (c - 35).toNat (by omega) with e | e
    · refine wp_s (pc' := 128) (lv' := [some (wp_i c)]) (st' := []) (h' := h) ji_182_1 rfl rfl ?_ h128
      simp only [mj_st, ec]
      rw [if_neg hr, e]
      rfl
    · refine wp_s (pc' := 130) (lv' := [some (wp_i c)]) (st' := []) (h' := h) ji_182_1 rfl rfl ?_ h130
      simp only [mj_st, ec]
      rw [if_neg hr, e]
      rfl
