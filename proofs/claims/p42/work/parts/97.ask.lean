/-! the reference's reader: what it asks of the pile; laid by program (wp_ask.py) -/
/-- what is open, last of all -/
def on : List Int → Int
  | [] => -1
  | x :: l => if 40 ≤ x then x else on l
/-- whether a comparison stands there -/
def ic : List Int → Int
  | [] => 0
  | x :: l => if 4 < pr_rank x then ic l else if pr_rank x = 4 then 1 else 0
theorem on_b : ∀ l : List Int, (∀ x ∈ l, x ≤ 41) → on l = -1 ∨ 40 ≤ on l ∧ on l ≤ 41
  | [], _ => Or.inl rfl
  | x :: l, h => by
    unfold on
    split
    · exact Or.inr ⟨by omega, h x List.mem_cons_self⟩
    · exact on_b l (fun y hy => h y (List.mem_cons_of_mem _ hy))
theorem ic_b : ∀ l : List Int, ic l = 0 ∨ ic l = 1
  | [] => Or.inl rfl
  | x :: l => by
    unfold ic
    split
    · exact ic_b l
    · split
      · exact Or.inr rfl
      · exact Or.inl rfl
theorem pp_b {h0 h : mj_H} {a P T : Nat} {φ : Nat → Int} {pl ts : List Value} (V : pv h0 h a P T φ pl ts) : ∀ {p : Nat}, p ≤ 160 → ∀ x ∈ pp pl p, 0 ≤ x ∧ x ≤ 41
  | 0, _, x, hx => by cases hx
  | p + 1, hp, x, hx => by
    rw [pp] at hx
    rcases List.mem_cons.mp hx with e | e
    · exact pv_pb V (j := p) e (by omega)
    · exact pp_b V (by omega) x e
set_option maxRecDepth 100000 in
theorem ji_198_7 : mj_ins 198 7 = some (.iload_n 1) := by decide +kernel
set_option maxRecDepth 100000 in
theorem ji_198_8 : mj_ins 198 8 = some (.ifCond .lt 20) := by decide +kernel
set_option maxRecDepth 100000 in
theorem ji_198_28 : mj_ins 198 28 = some (.iload_n 1) := by decide +kernel
set_option maxRecDepth 100000 in
theorem ji_198_29 : mj_ins 198 29 = some (.ifCond .ge 7) := by decide +kernel
set_option maxRecDepth 100000 in
theorem ji_198_32 : mj_ins 198 32 = some (.iconst (-1)) := by decide +kernel
set_option maxRecDepth 100000 in
theorem ji_198_33 : mj_ins 198 33 = some (.goto 9) := by decide +kernel
set_option maxRecDepth 100000 in
theorem ji_198_42 : mj_ins 198 42 = some (.ireturn) := by decide +kernel
set_option maxRecDepth 100000 in
theorem jr_198 : mj_ret 198 = some .int := by decide +kernel
set_option maxRecDepth 100000 in
theorem ji_198_11 : mj_ins 198 11 = some (.aload_n 0) := by decide +kernel
set_option maxRecDepth 100000 in
theorem ji_198_12 : mj_ins 198 12 = some (.getfield 29) := by decide +kernel
set_option maxRecDepth 100000 in
theorem jf_198_29 : mj_fld 198 29 = some (11, 15, (.array .int), false) := by decide +kernel
set_option maxRecDepth 100000 in
theorem ji_198_15 : mj_ins 198 15 = some (.iload_n 1) := by decide +kernel
set_option maxRecDepth 100000 in
theorem ji_198_16 : mj_ins 198 16 = some (.iaload) := by decide +kernel
set_option maxRecDepth 100000 in
theorem ji_198_17 : mj_ins 198 17 = some (.bipush 40) := by decide +kernel
set_option maxRecDepth 100000 in
theorem ji_198_19 : mj_ins 198 19 = some (.if_icmp .ge 9) := by decide +kernel
set_option maxRecDepth 100000 in
theorem ji_198_36 : mj_ins 198 36 = some (.aload_n 0) := by decide +kernel
set_option maxRecDepth 100000 in
theorem ji_198_37 : mj_ins 198 37 = some (.getfield 29) := by decide +kernel
set_option maxRecDepth 100000 in
theorem ji_198_40 : mj_ins 198 40 = some (.iload_n 1) := by decide +kernel
set_option maxRecDepth 100000 in
theorem ji_198_41 : mj_ins 198 41 = some (.iaload) := by decide +kernel
set_option maxRecDepth 100000 in
theorem ji_198_22 : mj_ins 198 22 = some (.iinc 1 (-1)) := by decide +kernel
set_option maxRecDepth 100000 in
theorem ji_198_25 : mj_ins 198 25 = some (.goto (-18)) := by decide +kernel
set_option maxRecDepth 100000 in
theorem ji_199_7 : mj_ins 199 7 = some (.iload_n 1) := by decide +kernel
set_option maxRecDepth 100000 in
theorem ji_199_8 : mj_ins 199 8 = some (.ifCond .lt 22) := by decide +kernel
set_option maxRecDepth 100000 in
theorem ji_199_30 : mj_ins 199 30 = some (.iload_n 1) := by decide +kernel
set_option maxRecDepth 100000 in
theorem ji_199_31 : mj_ins 199 31 = some (.ifCond .lt 20) := by decide +kernel
set_option maxRecDepth 100000 in
theorem ji_199_51 : mj_ins 199 51 = some (.iconst 0) := by decide +kernel
set_option maxRecDepth 100000 in
theorem ji_199_52 : mj_ins 199 52 = some (.ireturn) := by decide +kernel
set_option maxRecDepth 100000 in
theorem jr_199 : mj_ret 199 = some .boolean := by decide +kernel
set_option maxRecDepth 100000 in
theorem ji_199_11 : mj_ins 199 11 = some (.aload_n 0) := by decide +kernel
set_option maxRecDepth 100000 in
theorem ji_199_12 : mj_ins 199 12 = some (.getfield 29) := by decide +kernel
set_option maxRecDepth 100000 in
theorem jf_199_29 : mj_fld 199 29 = some (11, 15, (.array .int), false) := by decide +kernel
set_option maxRecDepth 100000 in
theorem ji_199_15 : mj_ins 199 15 = some (.iload_n 1) := by decide +kernel
set_option maxRecDepth 100000 in
theorem ji_199_16 : mj_ins 199 16 = some (.iaload) := by decide +kernel
set_option maxRecDepth 100000 in
theorem ji_199_17 : mj_ins 199 17 = some (.invokestatic 150) := by decide +kernel
set_option maxRecDepth 100000 in
theorem jc_199_150 : mj_cal 199 150 = some (1, 200, 1) := by decide +kernel
set_option maxRecDepth 100000 in
theorem ji_199_20 : mj_ins 199 20 = some (.iconst 4) := by decide +kernel
set_option maxRecDepth 100000 in
theorem ji_199_21 : mj_ins 199 21 = some (.if_icmp .le 9) := by decide +kernel
set_option maxRecDepth 100000 in
theorem ji_199_24 : mj_ins 199 24 = some (.iinc 1 (-1)) := by decide +kernel
set_option maxRecDepth 100000 in
theorem ji_199_27 : mj_ins 199 27 = some (.goto (-20)) := by decide +kernel
set_option maxRecDepth 100000 in
theorem ji_199_34 : mj_ins 199 34 = some (.aload_n 0) := by decide +kernel
set_option maxRecDepth 100000 in
theorem ji_199_35 : mj_ins 199 35 = some (.getfield 29) := by decide +kernel
set_option maxRecDepth 100000 in
theorem ji_199_38 : mj_ins 199 38 = some (.iload_n 1) := by decide +kernel
set_option maxRecDepth 100000 in
theorem ji_199_39 : mj_ins 199 39 = some (.iaload) := by decide +kernel
set_option maxRecDepth 100000 in
theorem ji_199_40 : mj_ins 199 40 = some (.invokestatic 150) := by decide +kernel
set_option maxRecDepth 100000 in
theorem ji_199_43 : mj_ins 199 43 = some (.iconst 4) := by decide +kernel
set_option maxRecDepth 100000 in
theorem ji_199_44 : mj_ins 199 44 = some (.if_icmp .ne 7) := by decide +kernel
set_option maxRecDepth 100000 in
theorem ji_199_47 : mj_ins 199 47 = some (.iconst 1) := by decide +kernel
set_option maxRecDepth 100000 in
theorem ji_199_48 : mj_ins 199 48 = some (.goto 4) := by decide +kernel
set_option maxRecDepth 100000 in
theorem ji_198_0 : mj_ins 198 0 = some (.aload_n 0) := by decide +kernel
set_option maxRecDepth 100000 in
theorem ji_198_1 : mj_ins 198 1 = some (.getfield 147) := by decide +kernel
set_option maxRecDepth 100000 in
theorem jf_198_147 : mj_fld 198 147 = some (11, 16, .int, true) := by decide +kernel
set_option maxRecDepth 100000 in
theorem ji_198_4 : mj_ins 198 4 = some (.iconst 1) := by decide +kernel
set_option maxRecDepth 100000 in
theorem ji_198_5 : mj_ins 198 5 = some (.isub) := by decide +kernel
set_option maxRecDepth 100000 in
theorem ji_198_6 : mj_ins 198 6 = some (.istore_n 1) := by decide +kernel
set_option maxRecDepth 100000 in
theorem ji_199_0 : mj_ins 199 0 = some (.aload_n 0) := by decide +kernel
set_option maxRecDepth 100000 in
theorem ji_199_1 : mj_ins 199 1 = some (.getfield 147) := by decide +kernel
set_option maxRecDepth 100000 in
theorem jf_199_147 : mj_fld 199 147 = some (11, 16, .int, true) := by decide +kernel
set_option maxRecDepth 100000 in
theorem ji_199_4 : mj_ins 199 4 = some (.iconst 1) := by decide +kernel
set_option maxRecDepth 100000 in
theorem ji_199_5 : mj_ins 199 5 = some (.isub) := by decide +kernel
set_option maxRecDepth 100000 in
theorem ji_199_6 : mj_ins 199 6 = some (.istore_n 1) := by decide +kernel
set_option maxRecDepth 100000 in
theorem ji_197_0 : mj_ins 197 0 = some (.aload_n 0) := by decide +kernel
set_option maxRecDepth 100000 in
theorem ji_197_1 : mj_ins 197 1 = some (.getfield 160) := by decide +kernel
set_option maxRecDepth 100000 in
theorem jf_197_160 : mj_fld 197 160 = some (11, 20, .boolean, true) := by decide +kernel
set_option maxRecDepth 100000 in
theorem pf_20 : sx_fd sx_y63.2.2 20 = some (0, 0, 1) := by decide +kernel
set_option maxRecDepth 100000 in
theorem ji_197_4 : mj_ins 197 4 = some (.ifCond .eq 15) := by decide +kernel
set_option maxRecDepth 100000 in
theorem ji_197_19 : mj_ins 197 19 = some (.iconst 0) := by decide +kernel
set_option maxRecDepth 100000 in
theorem ji_197_20 : mj_ins 197 20 = some (.ireturn) := by decide +kernel
set_option maxRecDepth 100000 in
theorem jr_197 : mj_ret 197 = some .boolean := by decide +kernel
set_option maxRecDepth 100000 in
theorem ji_197_7 : mj_ins 197 7 = some (.aload_n 0) := by decide +kernel
set_option maxRecDepth 100000 in
theorem ji_197_8 : mj_ins 197 8 = some (.invokevirtual 163) := by decide +kernel
set_option maxRecDepth 100000 in
theorem jc_197_163 : mj_cal 197 163 = some (2, 198, 0) := by decide +kernel
set_option maxRecDepth 100000 in
theorem jk_198 : mj_cls 198 = 11 := by decide +kernel
set_option maxRecDepth 100000 in
theorem jn_198 : mj_nl 198 = 2 := by decide +kernel
set_option maxRecDepth 100000 in
theorem ji_197_11 : mj_ins 197 11 = some (.iconst (-1)) := by decide +kernel
set_option maxRecDepth 100000 in
theorem ji_197_12 : mj_ins 197 12 = some (.if_icmp .ne 7) := by decide +kernel
set_option maxRecDepth 100000 in
theorem ji_197_15 : mj_ins 197 15 = some (.iconst 1) := by decide +kernel
set_option maxRecDepth 100000 in
theorem ji_197_16 : mj_ins 197 16 = some (.goto 4) := by decide +kernel
set_option maxRecDepth 100000 in
theorem ji_211_0 : mj_ins 211 0 = some (.aload_n 0) := by decide +kernel
set_option maxRecDepth 100000 in
theorem ji_211_1 : mj_ins 211 1 = some (.invokevirtual 167) := by decide +kernel
set_option maxRecDepth 100000 in
theorem jc_211_167 : mj_cal 211 167 = some (2, 197, 0) := by decide +kernel
set_option maxRecDepth 100000 in
theorem jk_197 : mj_cls 197 = 11 := by decide +kernel
set_option maxRecDepth 100000 in
theorem jn_197 : mj_nl 197 = 1 := by decide +kernel
set_option maxRecDepth 100000 in
theorem ji_211_4 : mj_ins 211 4 = some (.ifCond .eq 36) := by decide +kernel
set_option maxRecDepth 100000 in
theorem ji_211_40 : mj_ins 211 40 = some (.iconst 0) := by decide +kernel
set_option maxRecDepth 100000 in
theorem ji_211_41 : mj_ins 211 41 = some (.ireturn) := by decide +kernel
set_option maxRecDepth 100000 in
theorem jr_211 : mj_ret 211 = some .boolean := by decide +kernel
set_option maxRecDepth 100000 in
theorem ji_211_7 : mj_ins 211 7 = some (.aload_n 0) := by decide +kernel
set_option maxRecDepth 100000 in
theorem ji_211_8 : mj_ins 211 8 = some (.getfield 147) := by decide +kernel
set_option maxRecDepth 100000 in
theorem jf_211_147 : mj_fld 211 147 = some (11, 16, .int, true) := by decide +kernel
set_option maxRecDepth 100000 in
theorem ji_211_11 : mj_ins 211 11 = some (.ifCond .eq 25) := by decide +kernel
set_option maxRecDepth 100000 in
theorem ji_211_36 : mj_ins 211 36 = some (.iconst 1) := by decide +kernel
set_option maxRecDepth 100000 in
theorem ji_211_37 : mj_ins 211 37 = some (.goto 4) := by decide +kernel
set_option maxRecDepth 100000 in
theorem ji_211_14 : mj_ins 211 14 = some (.aload_n 0) := by decide +kernel
set_option maxRecDepth 100000 in
theorem ji_211_15 : mj_ins 211 15 = some (.getfield 29) := by decide +kernel
set_option maxRecDepth 100000 in
theorem jf_211_29 : mj_fld 211 29 = some (11, 15, (.array .int), false) := by decide +kernel
set_option maxRecDepth 100000 in
theorem ji_211_18 : mj_ins 211 18 = some (.aload_n 0) := by decide +kernel
set_option maxRecDepth 100000 in
theorem ji_211_19 : mj_ins 211 19 = some (.getfield 147) := by decide +kernel
set_option maxRecDepth 100000 in
theorem ji_211_22 : mj_ins 211 22 = some (.iconst 1) := by decide +kernel
set_option maxRecDepth 100000 in
theorem ji_211_23 : mj_ins 211 23 = some (.isub) := by decide +kernel
set_option maxRecDepth 100000 in
theorem ji_211_24 : mj_ins 211 24 = some (.iaload) := by decide +kernel
set_option maxRecDepth 100000 in
theorem ji_211_25 : mj_ins 211 25 = some (.invokestatic 150) := by decide +kernel
set_option maxRecDepth 100000 in
theorem jc_211_150 : mj_cal 211 150 = some (1, 200, 1) := by decide +kernel
set_option maxRecDepth 100000 in
theorem ji_211_28 : mj_ins 211 28 = some (.iconst 1) := by decide +kernel
set_option maxRecDepth 100000 in
theorem ji_211_29 : mj_ins 211 29 = some (.iconst 3) := by decide +kernel
set_option maxRecDepth 100000 in
theorem ji_211_30 : mj_ins 211 30 = some (.invokestatic 66) := by decide +kernel
set_option maxRecDepth 100000 in
theorem jc_211_66 : mj_cal 211 66 = some (1, 171, 3) := by decide +kernel
set_option maxRecDepth 100000 in
theorem jn_171 : mj_nl 171 = 3 := by decide +kernel
set_option maxRecDepth 100000 in
theorem ji_211_33 : mj_ins 211 33 = some (.ifCond .eq 7) := by decide +kernel
set_option maxRecDepth 100000 in
theorem ji_201_0 : mj_ins 201 0 = some (.aload_n 0) := by decide +kernel
set_option maxRecDepth 100000 in
theorem ji_201_1 : mj_ins 201 1 = some (.getfield 95) := by decide +kernel
set_option maxRecDepth 100000 in
theorem jf_201_95 : mj_fld 201 95 = some (11, 9, .int, true) := by decide +kernel
set_option maxRecDepth 100000 in
theorem ji_201_4 : mj_ins 201 4 = some (.bipush 60) := by decide +kernel
set_option maxRecDepth 100000 in
theorem ji_201_6 : mj_ins 201 6 = some (.if_icmp .ne 8) := by decide +kernel
set_option maxRecDepth 100000 in
theorem ji_201_14 : mj_ins 201 14 = some (.aload_n 0) := by decide +kernel
set_option maxRecDepth 100000 in
theorem ji_201_15 : mj_ins 201 15 = some (.getfield 95) := by decide +kernel
set_option maxRecDepth 100000 in
theorem ji_201_18 : mj_ins 201 18 = some (.iconst 4) := by decide +kernel
set_option maxRecDepth 100000 in
theorem ji_201_19 : mj_ins 201 19 = some (.if_icmp .ne 8) := by decide +kernel
set_option maxRecDepth 100000 in
theorem ji_201_27 : mj_ins 201 27 = some (.aload_n 0) := by decide +kernel
set_option maxRecDepth 100000 in
theorem ji_201_28 : mj_ins 201 28 = some (.getfield 95) := by decide +kernel
set_option maxRecDepth 100000 in
theorem ji_201_31 : mj_ins 201 31 = some (.bipush 62) := by decide +kernel
set_option maxRecDepth 100000 in
theorem ji_201_33 : mj_ins 201 33 = some (.if_icmp .ne 8) := by decide +kernel
set_option maxRecDepth 100000 in
theorem ji_201_41 : mj_ins 201 41 = some (.aload_n 0) := by decide +kernel
set_option maxRecDepth 100000 in
theorem ji_201_42 : mj_ins 201 42 = some (.getfield 95) := by decide +kernel
set_option maxRecDepth 100000 in
theorem ji_201_45 : mj_ins 201 45 = some (.iconst 5) := by decide +kernel
set_option maxRecDepth 100000 in
theorem ji_201_46 : mj_ins 201 46 = some (.if_icmp .ne 8) := by decide +kernel
set_option maxRecDepth 100000 in
theorem ji_201_54 : mj_ins 201 54 = some (.aload_n 0) := by decide +kernel
set_option maxRecDepth 100000 in
theorem ji_201_55 : mj_ins 201 55 = some (.getfield 95) := by decide +kernel
set_option maxRecDepth 100000 in
theorem ji_201_58 : mj_ins 201 58 = some (.bipush 61) := by decide +kernel
set_option maxRecDepth 100000 in
theorem ji_201_60 : mj_ins 201 60 = some (.if_icmp .ne 8) := by decide +kernel
set_option maxRecDepth 100000 in
theorem ji_201_68 : mj_ins 201 68 = some (.aload_n 0) := by decide +kernel
set_option maxRecDepth 100000 in
theorem ji_201_69 : mj_ins 201 69 = some (.getfield 95) := by decide +kernel
set_option maxRecDepth 100000 in
theorem ji_201_72 : mj_ins 201 72 = some (.bipush 35) := by decide +kernel
set_option maxRecDepth 100000 in
theorem ji_201_74 : mj_ins 201 74 = some (.if_icmp .ne 8) := by decide +kernel
set_option maxRecDepth 100000 in
theorem ji_201_82 : mj_ins 201 82 = some (.iconst (-1)) := by decide +kernel
set_option maxRecDepth 100000 in
theorem ji_201_83 : mj_ins 201 83 = some (.ireturn) := by decide +kernel
set_option maxRecDepth 100000 in
theorem jr_201 : mj_ret 201 = some .int := by decide +kernel
set_option maxRecDepth 100000 in
theorem ji_201_77 : mj_ins 201 77 = some (.bipush 15) := by decide +kernel
set_option maxRecDepth 100000 in
theorem ji_201_79 : mj_ins 201 79 = some (.goto 4) := by decide +kernel
set_option maxRecDepth 100000 in
theorem ji_201_63 : mj_ins 201 63 = some (.bipush 14) := by decide +kernel
set_option maxRecDepth 100000 in
theorem ji_201_65 : mj_ins 201 65 = some (.goto 18) := by decide +kernel
set_option maxRecDepth 100000 in
theorem ji_201_49 : mj_ins 201 49 = some (.bipush 13) := by decide +kernel
set_option maxRecDepth 100000 in
theorem ji_201_51 : mj_ins 201 51 = some (.goto 32) := by decide +kernel
set_option maxRecDepth 100000 in
theorem ji_201_36 : mj_ins 201 36 = some (.bipush 12) := by decide +kernel
set_option maxRecDepth 100000 in
theorem ji_201_38 : mj_ins 201 38 = some (.goto 45) := by decide +kernel
set_option maxRecDepth 100000 in
theorem ji_201_22 : mj_ins 201 22 = some (.bipush 11) := by decide +kernel
set_option maxRecDepth 100000 in
theorem ji_201_24 : mj_ins 201 24 = some (.goto 59) := by decide +kernel
set_option maxRecDepth 100000 in
theorem ji_201_9 : mj_ins 201 9 = some (.bipush 10) := by decide +kernel
set_option maxRecDepth 100000 in
theorem ji_201_11 : mj_ins 201 11 = some (.goto 72) := by decide +kernel
set_option maxRecDepth 100000 in
theorem ji_189_0 : mj_ins 189 0 = some (.iload_n 0) := by decide +kernel
set_option maxRecDepth 100000 in
theorem ji_189_1 : mj_ins 189 1 = some (.i2l) := by decide +kernel
set_option maxRecDepth 100000 in
theorem ji_189_2 : mj_ins 189 2 = some (.bipush 8) := by decide +kernel
set_option maxRecDepth 100000 in
theorem ji_189_4 : mj_ins 189 4 = some (.lshl) := by decide +kernel
set_option maxRecDepth 100000 in
theorem ji_189_5 : mj_ins 189 5 = some (.iload_n 1) := by decide +kernel
set_option maxRecDepth 100000 in
theorem ji_189_6 : mj_ins 189 6 = some (.i2l) := by decide +kernel
set_option maxRecDepth 100000 in
theorem ji_189_7 : mj_ins 189 7 = some (.lor) := by decide +kernel
set_option maxRecDepth 100000 in
theorem ji_189_8 : mj_ins 189 8 = some (.lreturn) := by decide +kernel
set_option maxRecDepth 100000 in
theorem jr_189 : mj_ret 189 = some .long := by decide +kernel
set_option maxRecDepth 100000 in
theorem ji_188_0 : mj_ins 188 0 = some (.iload_n 0) := by decide +kernel
set_option maxRecDepth 100000 in
theorem ji_188_1 : mj_ins 188 1 = some (.iload_n 1) := by decide +kernel
set_option maxRecDepth 100000 in
theorem ji_188_2 : mj_ins 188 2 = some (.invokestatic 118) := by decide +kernel
set_option maxRecDepth 100000 in
theorem jc_188_118 : mj_cal 188 118 = some (1, 189, 2) := by decide +kernel
set_option maxRecDepth 100000 in
theorem jn_189 : mj_nl 189 = 2 := by decide +kernel
set_option maxRecDepth 100000 in
theorem ji_188_5 : mj_ins 188 5 = some (.bipush 8) := by decide +kernel
set_option maxRecDepth 100000 in
theorem ji_188_7 : mj_ins 188 7 = some (.lshl) := by decide +kernel
set_option maxRecDepth 100000 in
theorem ji_188_8 : mj_ins 188 8 = some (.iload_n 2) := by decide +kernel
set_option maxRecDepth 100000 in
theorem ji_188_9 : mj_ins 188 9 = some (.i2l) := by decide +kernel
set_option maxRecDepth 100000 in
theorem ji_188_10 : mj_ins 188 10 = some (.lor) := by decide +kernel
set_option maxRecDepth 100000 in
theorem ji_188_11 : mj_ins 188 11 = some (.lreturn) := by decide +kernel
set_option maxRecDepth 100000 in
theorem jr_188 : mj_ret 188 = some .long := by decide +kernel
set_option maxRecDepth 100000 in
theorem ji_190_0 : mj_ins 190 0 = some (.aload_n 0) := by decide +kernel
set_option maxRecDepth 100000 in
theorem ji_190_1 : mj_ins 190 1 = some (.getfield 95) := by decide +kernel
set_option maxRecDepth 100000 in
theorem jf_190_95 : mj_fld 190 95 = some (11, 9, .int, true) := by decide +kernel
set_option maxRecDepth 100000 in
theorem ji_190_4 : mj_ins 190 4 = some (.iconst 2) := by decide +kernel
set_option maxRecDepth 100000 in
theorem ji_190_5 : mj_ins 190 5 = some (.if_icmp .ne 16) := by decide +kernel
set_option maxRecDepth 100000 in
theorem ji_190_21 : mj_ins 190 21 = some (.iconst 0) := by decide +kernel
set_option maxRecDepth 100000 in
theorem ji_190_22 : mj_ins 190 22 = some (.ireturn) := by decide +kernel
set_option maxRecDepth 100000 in
theorem jr_190 : mj_ret 190 = some .boolean := by decide +kernel
set_option maxRecDepth 100000 in
theorem ji_190_8 : mj_ins 190 8 = some (.aload_n 0) := by decide +kernel
set_option maxRecDepth 100000 in
theorem ji_190_9 : mj_ins 190 9 = some (.getfield 109) := by decide +kernel
set_option maxRecDepth 100000 in
theorem jf_190_109 : mj_fld 190 109 = some (11, 11, .long, true) := by decide +kernel
set_option maxRecDepth 100000 in
theorem ji_190_12 : mj_ins 190 12 = some (.lload_n 1) := by decide +kernel
set_option maxRecDepth 100000 in
theorem ji_190_13 : mj_ins 190 13 = some (.lcmp) := by decide +kernel
set_option maxRecDepth 100000 in
theorem ji_190_14 : mj_ins 190 14 = some (.ifCond .ne 7) := by decide +kernel
set_option maxRecDepth 100000 in
theorem ji_190_17 : mj_ins 190 17 = some (.iconst 1) := by decide +kernel
set_option maxRecDepth 100000 in
theorem ji_190_18 : mj_ins 190 18 = some (.goto 4) := by decide +kernel
set_option maxRecDepth 100000 in
theorem ji_196_0 : mj_ins 196 0 = some (.aload_n 0) := by decide +kernel
set_option maxRecDepth 100000 in
theorem ji_196_1 : mj_ins 196 1 = some (.getfield 147) := by decide +kernel
set_option maxRecDepth 100000 in
theorem jf_196_147 : mj_fld 196 147 = some (11, 16, .int, true) := by decide +kernel
set_option maxRecDepth 100000 in
theorem ji_196_4 : mj_ins 196 4 = some (.ifCond .le 23) := by decide +kernel
set_option maxRecDepth 100000 in
theorem ji_196_27 : mj_ins 196 27 = some (.iconst 0) := by decide +kernel
set_option maxRecDepth 100000 in
theorem ji_196_28 : mj_ins 196 28 = some (.istore_n 1) := by decide +kernel
set_option maxRecDepth 100000 in
theorem ji_196_29 : mj_ins 196 29 = some (.iload_n 1) := by decide +kernel
set_option maxRecDepth 100000 in
theorem ji_196_30 : mj_ins 196 30 = some (.ifCond .ne 14) := by decide +kernel
set_option maxRecDepth 100000 in
theorem ji_196_33 : mj_ins 196 33 = some (.aload_n 0) := by decide +kernel
set_option maxRecDepth 100000 in
theorem ji_196_34 : mj_ins 196 34 = some (.getfield 95) := by decide +kernel
set_option maxRecDepth 100000 in
theorem jf_196_95 : mj_fld 196 95 = some (11, 9, .int, true) := by decide +kernel
set_option maxRecDepth 100000 in
theorem ji_196_37 : mj_ins 196 37 = some (.bipush 43) := by decide +kernel
set_option maxRecDepth 100000 in
theorem ji_196_39 : mj_ins 196 39 = some (.if_icmp .ne 5) := by decide +kernel
set_option maxRecDepth 100000 in
theorem ji_196_44 : mj_ins 196 44 = some (.iload_n 1) := by decide +kernel
set_option maxRecDepth 100000 in
theorem ji_196_45 : mj_ins 196 45 = some (.ifCond .ne 14) := by decide +kernel
set_option maxRecDepth 100000 in
theorem ji_196_48 : mj_ins 196 48 = some (.aload_n 0) := by decide +kernel
set_option maxRecDepth 100000 in
theorem ji_196_49 : mj_ins 196 49 = some (.getfield 95) := by decide +kernel
set_option maxRecDepth 100000 in
theorem ji_196_52 : mj_ins 196 52 = some (.bipush 45) := by decide +kernel
set_option maxRecDepth 100000 in
theorem ji_196_54 : mj_ins 196 54 = some (.if_icmp .ne 5) := by decide +kernel
set_option maxRecDepth 100000 in
theorem ji_196_59 : mj_ins 196 59 = some (.iload_n 1) := by decide +kernel
set_option maxRecDepth 100000 in
theorem ji_196_60 : mj_ins 196 60 = some (.ifCond .ne 15) := by decide +kernel
set_option maxRecDepth 100000 in
theorem ji_196_63 : mj_ins 196 63 = some (.aload_n 0) := by decide +kernel
set_option maxRecDepth 100000 in
theorem ji_196_64 : mj_ins 196 64 = some (.getfield 95) := by decide +kernel
set_option maxRecDepth 100000 in
theorem ji_196_67 : mj_ins 196 67 = some (.bipush 42) := by decide +kernel
set_option maxRecDepth 100000 in
theorem ji_196_69 : mj_ins 196 69 = some (.if_icmp .ne 6) := by decide +kernel
set_option maxRecDepth 100000 in
theorem ji_196_75 : mj_ins 196 75 = some (.iload_n 1) := by decide +kernel
set_option maxRecDepth 100000 in
theorem ji_196_76 : mj_ins 196 76 = some (.ifCond .ne 15) := by decide +kernel
set_option maxRecDepth 100000 in
theorem ji_196_79 : mj_ins 196 79 = some (.aload_n 0) := by decide +kernel
set_option maxRecDepth 100000 in
theorem ji_196_80 : mj_ins 196 80 = some (.getfield 95) := by decide +kernel
set_option maxRecDepth 100000 in
theorem ji_196_83 : mj_ins 196 83 = some (.bipush 47) := by decide +kernel
set_option maxRecDepth 100000 in
theorem ji_196_85 : mj_ins 196 85 = some (.if_icmp .ne 6) := by decide +kernel
set_option maxRecDepth 100000 in
theorem ji_196_91 : mj_ins 196 91 = some (.aload_n 0) := by decide +kernel
set_option maxRecDepth 100000 in
theorem ji_196_92 : mj_ins 196 92 = some (.invokevirtual 167) := by decide +kernel
set_option maxRecDepth 100000 in
theorem jc_196_167 : mj_cal 196 167 = some (2, 197, 0) := by decide +kernel
set_option maxRecDepth 100000 in
theorem ji_196_95 : mj_ins 196 95 = some (.ifCond .ne 5) := by decide +kernel
set_option maxRecDepth 100000 in
theorem ji_196_100 : mj_ins 196 100 = some (.aload_n 0) := by decide +kernel
set_option maxRecDepth 100000 in
theorem ji_196_101 : mj_ins 196 101 = some (.invokevirtual 196) := by decide +kernel
set_option maxRecDepth 100000 in
theorem jc_196_196 : mj_cal 196 196 = some (2, 199, 0) := by decide +kernel
set_option maxRecDepth 100000 in
theorem jk_199 : mj_cls 199 = 11 := by decide +kernel
set_option maxRecDepth 100000 in
theorem jn_199 : mj_nl 199 = 2 := by decide +kernel
set_option maxRecDepth 100000 in
theorem ji_196_104 : mj_ins 196 104 = some (.ifCond .ne 8) := by decide +kernel
set_option maxRecDepth 100000 in
theorem ji_196_112 : mj_ins 196 112 = some (.aload_n 0) := by decide +kernel
set_option maxRecDepth 100000 in
theorem ji_196_113 : mj_ins 196 113 = some (.bipush 97) := by decide +kernel
set_option maxRecDepth 100000 in
theorem ji_196_115 : mj_ins 196 115 = some (.bipush 110) := by decide +kernel
set_option maxRecDepth 100000 in
theorem ji_196_117 : mj_ins 196 117 = some (.bipush 100) := by decide +kernel
set_option maxRecDepth 100000 in
theorem ji_196_119 : mj_ins 196 119 = some (.invokestatic 122) := by decide +kernel
set_option maxRecDepth 100000 in
theorem jc_196_122 : mj_cal 196 122 = some (1, 188, 3) := by decide +kernel
set_option maxRecDepth 100000 in
theorem jn_188 : mj_nl 188 = 3 := by decide +kernel
set_option maxRecDepth 100000 in
theorem ji_196_122 : mj_ins 196 122 = some (.invokevirtual 189) := by decide +kernel
set_option maxRecDepth 100000 in
theorem jc_196_189 : mj_cal 196 189 = some (2, 190, 1) := by decide +kernel
set_option maxRecDepth 100000 in
theorem jk_190 : mj_cls 190 = 11 := by decide +kernel
set_option maxRecDepth 100000 in
theorem jn_190 : mj_nl 190 = 3 := by decide +kernel
set_option maxRecDepth 100000 in
theorem ji_196_125 : mj_ins 196 125 = some (.ifCond .eq 8) := by decide +kernel
set_option maxRecDepth 100000 in
theorem ji_196_133 : mj_ins 196 133 = some (.aload_n 0) := by decide +kernel
set_option maxRecDepth 100000 in
theorem ji_196_134 : mj_ins 196 134 = some (.bipush 111) := by decide +kernel
set_option maxRecDepth 100000 in
theorem ji_196_136 : mj_ins 196 136 = some (.bipush 114) := by decide +kernel
set_option maxRecDepth 100000 in
theorem ji_196_138 : mj_ins 196 138 = some (.invokestatic 118) := by decide +kernel
set_option maxRecDepth 100000 in
theorem jc_196_118 : mj_cal 196 118 = some (1, 189, 2) := by decide +kernel
set_option maxRecDepth 100000 in
theorem ji_196_141 : mj_ins 196 141 = some (.invokevirtual 189) := by decide +kernel
set_option maxRecDepth 100000 in
theorem ji_196_144 : mj_ins 196 144 = some (.ifCond .eq 8) := by decide +kernel
set_option maxRecDepth 100000 in
theorem ji_196_152 : mj_ins 196 152 = some (.iconst (-1)) := by decide +kernel
set_option maxRecDepth 100000 in
theorem ji_196_153 : mj_ins 196 153 = some (.ireturn) := by decide +kernel
set_option maxRecDepth 100000 in
theorem jr_196 : mj_ret 196 = some .int := by decide +kernel
set_option maxRecDepth 100000 in
theorem ji_196_147 : mj_ins 196 147 = some (.bipush 22) := by decide +kernel
set_option maxRecDepth 100000 in
theorem ji_196_149 : mj_ins 196 149 = some (.goto 4) := by decide +kernel
set_option maxRecDepth 100000 in
theorem ji_196_128 : mj_ins 196 128 = some (.bipush 21) := by decide +kernel
set_option maxRecDepth 100000 in
theorem ji_196_130 : mj_ins 196 130 = some (.goto 23) := by decide +kernel
set_option maxRecDepth 100000 in
theorem ji_196_107 : mj_ins 196 107 = some (.aload_n 0) := by decide +kernel
set_option maxRecDepth 100000 in
theorem ji_196_108 : mj_ins 196 108 = some (.invokevirtual 199) := by decide +kernel
set_option maxRecDepth 100000 in
theorem jc_196_199 : mj_cal 196 199 = some (2, 201, 0) := by decide +kernel
set_option maxRecDepth 100000 in
theorem jk_201 : mj_cls 201 = 11 := by decide +kernel
set_option maxRecDepth 100000 in
theorem jn_201 : mj_nl 201 = 1 := by decide +kernel
set_option maxRecDepth 100000 in
theorem ji_196_111 : mj_ins 196 111 = some (.ireturn) := by decide +kernel
set_option maxRecDepth 100000 in
theorem ji_196_98 : mj_ins 196 98 = some (.iconst (-1)) := by decide +kernel
set_option maxRecDepth 100000 in
theorem ji_196_99 : mj_ins 196 99 = some (.ireturn) := by decide +kernel
set_option maxRecDepth 100000 in
theorem ji_196_88 : mj_ins 196 88 = some (.bipush 7) := by decide +kernel
set_option maxRecDepth 100000 in
theorem ji_196_90 : mj_ins 196 90 = some (.ireturn) := by decide +kernel
set_option maxRecDepth 100000 in
theorem ji_196_72 : mj_ins 196 72 = some (.bipush 6) := by decide +kernel
set_option maxRecDepth 100000 in
theorem ji_196_74 : mj_ins 196 74 = some (.ireturn) := by decide +kernel
set_option maxRecDepth 100000 in
theorem ji_196_57 : mj_ins 196 57 = some (.iconst 5) := by decide +kernel
set_option maxRecDepth 100000 in
theorem ji_196_58 : mj_ins 196 58 = some (.ireturn) := by decide +kernel
set_option maxRecDepth 100000 in
theorem ji_196_42 : mj_ins 196 42 = some (.iconst 4) := by decide +kernel
set_option maxRecDepth 100000 in
theorem ji_196_43 : mj_ins 196 43 = some (.ireturn) := by decide +kernel
set_option maxRecDepth 100000 in
theorem ji_196_7 : mj_ins 196 7 = some (.aload_n 0) := by decide +kernel
set_option maxRecDepth 100000 in
theorem ji_196_8 : mj_ins 196 8 = some (.getfield 29) := by decide +kernel
set_option maxRecDepth 100000 in
theorem jf_196_29 : mj_fld 196 29 = some (11, 15, (.array .int), false) := by decide +kernel
set_option maxRecDepth 100000 in
theorem ji_196_11 : mj_ins 196 11 = some (.aload_n 0) := by decide +kernel
set_option maxRecDepth 100000 in
theorem ji_196_12 : mj_ins 196 12 = some (.getfield 147) := by decide +kernel
set_option maxRecDepth 100000 in
theorem ji_196_15 : mj_ins 196 15 = some (.iconst 1) := by decide +kernel
set_option maxRecDepth 100000 in
theorem ji_196_16 : mj_ins 196 16 = some (.isub) := by decide +kernel
set_option maxRecDepth 100000 in
theorem ji_196_17 : mj_ins 196 17 = some (.iaload) := by decide +kernel
set_option maxRecDepth 100000 in
theorem ji_196_18 : mj_ins 196 18 = some (.bipush 16) := by decide +kernel
set_option maxRecDepth 100000 in
theorem ji_196_20 : mj_ins 196 20 = some (.if_icmp .ne 7) := by decide +kernel
set_option maxRecDepth 100000 in
theorem ji_196_23 : mj_ins 196 23 = some (.iconst 1) := by decide +kernel
set_option maxRecDepth 100000 in
theorem ji_196_24 : mj_ins 196 24 = some (.goto 4) := by decide +kernel
theorem ws_open7 {d : Nat} {h0 h : mj_H} {a P T : Nat} {φ : Nat → Int} {pl ts : List Value} (V : pv h0 h a P T φ pl ts) : ∀ {p : Nat} {k : Int}, p ≤ 160 → k = (p : Int) - 1 → wp_R (d + 1) 198 7 [some (.ref a), some (wp_i k)] [] h (fun v h1 => h1 = h ∧ v = some (wp_i (on (pp pl p)))) := by
  intro p
  induction p with
  | zero =>
    intro k _ hk
    subst hk
    refine wp_s (pc' := 8) ji_198_7 rfl rfl rfl ?_
    refine wp_if (t := 28) ji_198_8 rfl (by omega) (fun (hb1 : (((0 : Nat) : Int) - 1 : Int) < 0) => ?_) (fun (hb1 : ¬ ((((0 : Nat) : Int) - 1 : Int) < 0)) => (by exfalso; omega))
    refine wp_s (pc' := 29) ji_198_28 rfl rfl rfl ?_
    refine wp_if (t := 36) ji_198_29 rfl (by omega) (fun (hb2 : (0 : Int) ≤ (((0 : Nat) : Int) - 1)) => (by exfalso; omega)) (fun (hb2 : ¬ ((0 : Int) ≤ (((0 : Nat) : Int) - 1))) => ?_)
    refine wp_s (pc' := 33) ji_198_32 rfl rfl rfl ?_
    refine wp_goto (t := 42) ji_198_33 rfl ?_
    exact wp_ri ji_198_42 jr_198 rfl ⟨rfl, rfl⟩
  | succ p ih =>
    intro k hp hk
    obtain ⟨x, hx0⟩ : ∃ x, sx_el pl p = x := ⟨_, rfl⟩
    have hkp : k = (p : Int) := by omega
    subst hkp
    have hx : sx_el pl ((p : Int)).toNat = x := hx0
    have hxb := pv_pb V (j := p) hx0.symm (by omega)
    rw [pp, hx0]
    unfold on
    by_cases hc : 40 ≤ x
    · rw [if_pos hc]
      refine wp_s (pc' := 8) ji_198_7 rfl rfl rfl ?_
      refine wp_if (t := 28) ji_198_8 rfl (by omega) (fun (hb1 : ((p : Int) : Int) < 0) => (by exfalso; omega)) (fun (hb1 : ¬ (((p : Int) : Int) < 0)) => ?_)
      refine wp_s (pc' := 12) ji_198_11 rfl rfl rfl ?_
      refine pv_gp V ji_198_12 jf_198_29 ?_
      refine wp_s (pc' := 16) ji_198_15 rfl rfl rfl ?_
      refine pv_lp V (x := (p : Int)) (y := x) ji_198_16 (by omega) (by omega) hx (fun l2 u3 => ?_)
      refine wp_bp ji_198_17 rfl ?_
      refine wp_icmp (t := 28) ji_198_19 rfl (by omega) (by omega) (fun (hb4 : (40 : Int) ≤ x) => ?_) (fun (hb4 : ¬ ((40 : Int) ≤ x)) => (by exfalso; omega))
      refine wp_s (pc' := 29) ji_198_28 rfl rfl rfl ?_
      refine wp_if (t := 36) ji_198_29 rfl (by omega) (fun (hb5 : (0 : Int) ≤ ((p : Int))) => ?_) (fun (hb5 : ¬ ((0 : Int) ≤ ((p : Int)))) => (by exfalso; omega))
      refine wp_s (pc' := 37) ji_198_36 rfl rfl rfl ?_
      refine pv_gp V ji_198_37 jf_198_29 ?_
      refine wp_s (pc' := 41) ji_198_40 rfl rfl rfl ?_
      refine pv_lp V (x := (p : Int)) (y := x) ji_198_41 (by omega) (by omega) hx (fun l6 u7 => ?_)
      exact wp_ri ji_198_42 jr_198 rfl ⟨rfl, rfl⟩
    · rw [if_neg hc]
      refine wp_s (pc' := 8) ji_198_7 rfl rfl rfl ?_
      refine wp_if (t := 28) ji_198_8 rfl (by omega) (fun (hb1 : ((p : Int) : Int) < 0) => (by exfalso; omega)) (fun (hb1 : ¬ (((p : Int) : Int) < 0)) => ?_)
      refine wp_s (pc' := 12) ji_198_11 rfl rfl rfl ?_
      refine pv_gp V ji_198_12 jf_198_29 ?_
      refine wp_s (pc' := 16) ji_198_15 rfl rfl rfl ?_
      refine pv_lp V (x := (p : Int)) (y := x) ji_198_16 (by omega) (by omega) hx (fun l2 u3 => ?_)
      refine wp_bp ji_198_17 rfl ?_
      refine wp_icmp (t := 28) ji_198_19 rfl (by omega) (by omega) (fun (hb4 : (40 : Int) ≤ x) => (by exfalso; omega)) (fun (hb4 : ¬ ((40 : Int) ≤ x)) => ?_)
      refine wp_iinc (x := (p : Int)) (z := (p : Int) - 1) (lv' := [some (.ref a), some (wp_i ((p : Int) - 1))]) ji_198_22 rfl (Nat.le_of_ble_eq_true rfl) (by omega) rfl ?_
      refine wp_goto (t := 7) ji_198_25 rfl ?_
      exact ih (by omega) (by omega)
theorem ws_comp7 {d : Nat} {h0 h : mj_H} {a P T : Nat} {φ : Nat → Int} {pl ts : List Value} (V : pv h0 h a P T φ pl ts) : ∀ {p : Nat} {k : Int}, p ≤ 160 → k = (p : Int) - 1 → wp_R (d + 1) 199 7 [some (.ref a), some (wp_i k)] [] h (fun v h1 => h1 = h ∧ v = some (wp_i (ic (pp pl p)))) := by
  intro p
  induction p with
  | zero =>
    intro k _ hk
    subst hk
    refine wp_s (pc' := 8) ji_199_7 rfl rfl rfl ?_
    refine wp_if (t := 30) ji_199_8 rfl (by omega) (fun (hb1 : (((0 : Nat) : Int) - 1 : Int) < 0) => ?_) (fun (hb1 : ¬ ((((0 : Nat) : Int) - 1 : Int) < 0)) => (by exfalso; omega))
    refine wp_s (pc' := 31) ji_199_30 rfl rfl rfl ?_
    refine wp_if (t := 51) ji_199_31 rfl (by omega) (fun (hb2 : (((0 : Nat) : Int) - 1 : Int) < 0) => ?_) (fun (hb2 : ¬ ((((0 : Nat) : Int) - 1 : Int) < 0)) => (by exfalso; omega))
    refine wp_s (pc' := 52) ji_199_51 rfl rfl rfl ?_
    exact wp_ri ji_199_52 jr_199 rfl ⟨rfl, rfl⟩
  | succ p ih =>
    intro k hp hk
    obtain ⟨x, hx0⟩ : ∃ x, sx_el pl p = x := ⟨_, rfl⟩
    have hkp : k = (p : Int) := by omega
    subst hkp
    have hx : sx_el pl ((p : Int)).toNat = x := hx0
    have hxb := pv_pb V (j := p) hx0.symm (by omega)
    rw [pp, hx0]
    unfold ic
    have hrb := pr_rb x
    by_cases hc : 4 < pr_rank x
    · rw [if_pos hc]
      refine wp_s (pc' := 8) ji_199_7 rfl rfl rfl ?_
      refine wp_if (t := 30) ji_199_8 rfl (by omega) (fun (hb1 : ((p : Int) : Int) < 0) => (by exfalso; omega)) (fun (hb1 : ¬ (((p : Int) : Int) < 0)) => ?_)
      refine wp_s (pc' := 12) ji_199_11 rfl rfl rfl ?_
      refine pv_gp V ji_199_12 jf_199_29 ?_
      refine wp_s (pc' := 16) ji_199_15 rfl rfl rfl ?_
      refine pv_lp V (x := (p : Int)) (y := x) ji_199_16 (by omega) (by omega) hx (fun l2 u3 => ?_)
      refine wp_sc (as := [wp_i x]) (rest := []) ji_199_17 jc_199_150 (Nat.le_of_ble_eq_true rfl) rfl (Nat.le_of_ble_eq_true rfl) rfl (by rw [jn_200]; rfl) (ws_rank (o := x) (by omega)) (fun v h R => ?_)
      obtain ⟨rfl, rfl⟩ := R
      show wp_R (d + 1) 199 20 [some (.ref a), some (wp_i ((p : Int)))] [wp_i (pr_rank x)] h _
      have q4 := pr_rb x
      refine wp_s (pc' := 21) ji_199_20 rfl rfl rfl ?_
      refine wp_icmp (t := 30) ji_199_21 rfl (by omega) (by omega) (fun (hb5 : (pr_rank x : Int) ≤ 4) => (by exfalso; omega)) (fun (hb5 : ¬ ((pr_rank x : Int) ≤ 4)) => ?_)
      refine wp_iinc (x := (p : Int)) (z := (p : Int) - 1) (lv' := [some (.ref a), some (wp_i ((p : Int) - 1))]) ji_199_24 rfl (Nat.le_of_ble_eq_true rfl) (by omega) rfl ?_
      refine wp_goto (t := 7) ji_199_27 rfl ?_
      exact ih (by omega) (by omega)
    · rw [if_neg hc]
      by_cases hc2 : pr_rank x = 4
      · rw [if_pos hc2]
        refine wp_s (pc' := 8) ji_199_7 rfl rfl rfl ?_
        refine wp_if (t := 30) ji_199_8 rfl (by omega) (fun (hb1 : ((p : Int) : Int) < 0) => (by exfalso; omega)) (fun (hb1 : ¬ (((p : Int) : Int) < 0)) => ?_)
        refine wp_s (pc' := 12) ji_199_11 rfl rfl rfl ?_
        refine pv_gp V ji_199_12 jf_199_29 ?_
        refine wp_s (pc' := 16) ji_199_15 rfl rfl rfl ?_
        refine pv_lp V (x := (p : Int)) (y := x) ji_199_16 (by omega) (by omega) hx (fun l2 u3 => ?_)
        refine wp_sc (as := [wp_i x]) (rest := []) ji_199_17 jc_199_150 (Nat.le_of_ble_eq_true rfl) rfl (Nat.le_of_ble_eq_true rfl) rfl (by rw [jn_200]; rfl) (ws_rank (o := x) (by omega)) (fun v h R => ?_)
        obtain ⟨rfl, rfl⟩ := R
        show wp_R (d + 1) 199 20 [some (.ref a), some (wp_i ((p : Int)))] [wp_i (pr_rank x)] h _
        have q4 := pr_rb x
        refine wp_s (pc' := 21) ji_199_20 rfl rfl rfl ?_
        refine wp_icmp (t := 30) ji_199_21 rfl (by omega) (by omega) (fun (hb5 : (pr_rank x : Int) ≤ 4) => ?_) (fun (hb5 : ¬ ((pr_rank x : Int) ≤ 4)) => (by exfalso; omega))
        refine wp_s (pc' := 31) ji_199_30 rfl rfl rfl ?_
        refine wp_if (t := 51) ji_199_31 rfl (by omega) (fun (hb6 : ((p : Int) : Int) < 0) => (by exfalso; omega)) (fun (hb6 : ¬ (((p : Int) : Int) < 0)) => ?_)
        refine wp_s (pc' := 35) ji_199_34 rfl rfl rfl ?_
        refine pv_gp V ji_199_35 jf_199_29 ?_
        refine wp_s (pc' := 39) ji_199_38 rfl rfl rfl ?_
        refine pv_lp V (x := (p : Int)) (y := x) ji_199_39 (by omega) (by omega) hx (fun l7 u8 => ?_)
        refine wp_sc (as := [wp_i x]) (rest := []) ji_199_40 jc_199_150 (Nat.le_of_ble_eq_true rfl) rfl (Nat.le_of_ble_eq_true rfl) rfl (by rw [jn_200]; rfl) (ws_rank (o := x) (by omega)) (fun v h R => ?_)
        obtain ⟨rfl, rfl⟩ := R
        show wp_R (d + 1) 199 43 [some (.ref a), some (wp_i ((p : Int)))] [wp_i (pr_rank x)] h _
        have q9 := pr_rb x
        refine wp_s (pc' := 44) ji_199_43 rfl rfl rfl ?_
        refine wp_icmp (t := 51) ji_199_44 rfl (by omega) (by omega) (fun (hb10 : ¬ (pr_rank x : Int) = 4) => (by exfalso; omega)) (fun (hb10 : ¬ (¬ (pr_rank x : Int) = 4)) => ?_)
        refine wp_s (pc' := 48) ji_199_47 rfl rfl rfl ?_
        refine wp_goto (t := 52) ji_199_48 rfl ?_
        exact wp_ri ji_199_52 jr_199 rfl ⟨rfl, rfl⟩
      · rw [if_neg hc2]
        refine wp_s (pc' := 8) ji_199_7 rfl rfl rfl ?_
        refine wp_if (t := 30) ji_199_8 rfl (by omega) (fun (hb1 : ((p : Int) : Int) < 0) => (by exfalso; omega)) (fun (hb1 : ¬ (((p : Int) : Int) < 0)) => ?_)
        refine wp_s (pc' := 12) ji_199_11 rfl rfl rfl ?_
        refine pv_gp V ji_199_12 jf_199_29 ?_
        refine wp_s (pc' := 16) ji_199_15 rfl rfl rfl ?_
        refine pv_lp V (x := (p : Int)) (y := x) ji_199_16 (by omega) (by omega) hx (fun l2 u3 => ?_)
        refine wp_sc (as := [wp_i x]) (rest := []) ji_199_17 jc_199_150 (Nat.le_of_ble_eq_true rfl) rfl (Nat.le_of_ble_eq_true rfl) rfl (by rw [jn_200]; rfl) (ws_rank (o := x) (by omega)) (fun v h R => ?_)
        obtain ⟨rfl, rfl⟩ := R
        show wp_R (d + 1) 199 20 [some (.ref a), some (wp_i ((p : Int)))] [wp_i (pr_rank x)] h _
        have q4 := pr_rb x
        refine wp_s (pc' := 21) ji_199_20 rfl rfl rfl ?_
        refine wp_icmp (t := 30) ji_199_21 rfl (by omega) (by omega) (fun (hb5 : (pr_rank x : Int) ≤ 4) => ?_) (fun (hb5 : ¬ ((pr_rank x : Int) ≤ 4)) => (by exfalso; omega))
        refine wp_s (pc' := 31) ji_199_30 rfl rfl rfl ?_
        refine wp_if (t := 51) ji_199_31 rfl (by omega) (fun (hb6 : ((p : Int) : Int) < 0) => (by exfalso; omega)) (fun (hb6 : ¬ (((p : Int) : Int) < 0)) => ?_)
        refine wp_s (pc' := 35) ji_199_34 rfl rfl rfl ?_
        refine pv_gp V ji_199_35 jf_199_29 ?_
        refine wp_s (pc' := 39) ji_199_38 rfl rfl rfl ?_
        refine pv_lp V (x := (p : Int)) (y := x) ji_199_39 (by omega) (by omega) hx (fun l7 u8 => ?_)
        refine wp_sc (as := [wp_i x]) (rest := []) ji_199_40 jc_199_150 (Nat.le_of_ble_eq_true rfl) rfl (Nat.le_of_ble_eq_true rfl) rfl (by rw [jn_200]; rfl) (ws_rank (o := x) (by omega)) (fun v h R => ?_)
        obtain ⟨rfl, rfl⟩ := R
        show wp_R (d + 1) 199 43 [some (.ref a), some (wp_i ((p : Int)))] [wp_i (pr_rank x)] h _
        have q9 := pr_rb x
        refine wp_s (pc' := 44) ji_199_43 rfl rfl rfl ?_
        refine wp_icmp (t := 51) ji_199_44 rfl (by omega) (by omega) (fun (hb10 : ¬ (pr_rank x : Int) = 4) => ?_) (fun (hb10 : ¬ (¬ (pr_rank x : Int) = 4)) => (by exfalso; omega))
        refine wp_s (pc' := 52) ji_199_51 rfl rfl rfl ?_
        exact wp_ri ji_199_52 jr_199 rfl ⟨rfl, rfl⟩
theorem ws_open {d : Nat} {h0 h : mj_H} {a P T : Nat} {φ : Nat → Int} {pl ts : List Value} (V : pv h0 h a P T φ pl ts) {p : Nat} (hp : φ 16 = (p : Int)) : wp_R (d + 1) 198 0 [some (.ref a), none] [] h (fun v h1 => h1 = h ∧ v = some (wp_i (on (pp pl p)))) := by
  refine wp_s (pc' := 1) ji_198_0 rfl rfl rfl ?_
  refine pv_gi V ji_198_1 jf_198_147 (by decide) pf_16 (y := φ 16) rfl (fun l1 u2 => ?_)
  refine wp_s (pc' := 5) ji_198_4 rfl rfl rfl ?_
  refine wp_isub (x := φ 16) (y := 1) (z := φ 16 - 1) ji_198_5 (by omega) ?_
  refine wp_s (pc' := 7) (lv' := [some (.ref a), some (wp_i (φ 16 - 1))]) ji_198_6 rfl rfl rfl ?_
  exact ws_open7 V (p := p) (by omega) (by omega)
theorem ws_comp {d : Nat} {h0 h : mj_H} {a P T : Nat} {φ : Nat → Int} {pl ts : List Value} (V : pv h0 h a P T φ pl ts) {p : Nat} (hp : φ 16 = (p : Int)) : wp_R (d + 1) 199 0 [some (.ref a), none] [] h (fun v h1 => h1 = h ∧ v = some (wp_i (ic (pp pl p)))) := by
  refine wp_s (pc' := 1) ji_199_0 rfl rfl rfl ?_
  refine pv_gi V ji_199_1 jf_199_147 (by decide) pf_16 (y := φ 16) rfl (fun l1 u2 => ?_)
  refine wp_s (pc' := 5) ji_199_4 rfl rfl rfl ?_
  refine wp_isub (x := φ 16) (y := 1) (z := φ 16 - 1) ji_199_5 (by omega) ?_
  refine wp_s (pc' := 7) (lv' := [some (.ref a), some (wp_i (φ 16 - 1))]) ji_199_6 rfl rfl rfl ?_
  exact ws_comp7 V (p := p) (by omega) (by omega)
theorem ws_here {d : Nat} {h0 h : mj_H} {a P T : Nat} {φ : Nat → Int} {pl ts : List Value} (V : pv h0 h a P T φ pl ts) {p : Nat} (hp : φ 16 = (p : Int)) : wp_R (d + 1 + 1) 197 0 [some (.ref a)] [] h (fun v h1 => h1 = h ∧ ∃ y : Int, v = some (wp_i y) ∧ (y = 0 ∨ y = 1) ∧ (y = 1 ↔ φ 20 = 1 ∧ on (pp pl p) = -1)) := by
  have hpb := pp_b V (p := p) (by have := pv_b V (k := 16) (lo := 0) (hi := 160) (by decide) (by decide); omega)
  have hob := on_b (pp pl p) (fun x hx => (hpb x hx).2)
  have hib := ic_b (pp pl p)
  refine wp_s (pc' := 1) ji_197_0 rfl rfl rfl ?_
  refine pv_gi V ji_197_1 jf_197_160 (by decide) pf_20 (y := φ 20) rfl (fun l1 u2 => ?_)
  refine wp_if (t := 19) ji_197_4 rfl (by omega) (fun (hb3 : (φ 20 : Int) = 0) => ?_) (fun (hb3 : ¬ ((φ 20 : Int) = 0)) => ?_)
  · refine wp_s (pc' := 20) ji_197_19 rfl rfl rfl ?_
    exact wp_ri ji_197_20 jr_197 rfl ⟨rfl, _, rfl, by omega, by omega⟩
  · refine wp_s (pc' := 8) ji_197_7 rfl rfl rfl ?_
    refine pv_vc V ji_197_8 jc_197_163 jk_198 (rest := []) rfl (Nat.le_of_ble_eq_true rfl) rfl (by rw [jn_198]; rfl) (ws_open V hp) (fun v h R => ?_)
    obtain ⟨rfl, rfl⟩ := R
    show wp_R (d + 1 + 1) 197 11 [some (.ref a)] [wp_i (on (pp pl p))] h _
    refine wp_s (pc' := 12) ji_197_11 rfl rfl rfl ?_
    refine wp_icmp (t := 19) ji_197_12 rfl (by omega) (by omega) (fun (hb4 : ¬ (on (pp pl p) : Int) = (-1)) => ?_) (fun (hb4 : ¬ (¬ (on (pp pl p) : Int) = (-1))) => ?_)
    · refine wp_s (pc' := 20) ji_197_19 rfl rfl rfl ?_
      exact wp_ri ji_197_20 jr_197 rfl ⟨rfl, _, rfl, by omega, by omega⟩
    · refine wp_s (pc' := 16) ji_197_15 rfl rfl rfl ?_
      refine wp_goto (t := 20) ji_197_16 rfl ?_
      exact wp_ri ji_197_20 jr_197 rfl ⟨rfl, _, rfl, by omega, by omega⟩
theorem ws_ahead {d : Nat} {h0 h : mj_H} {a P T : Nat} {φ : Nat → Int} {pl ts : List Value} (V : pv h0 h a P T φ pl ts) {p : Nat} (hp : φ 16 = (p : Int)) : wp_R (d + 1 + 1 + 1) 211 0 [some (.ref a)] [] h (fun v h1 => h1 = h ∧ ∃ y : Int, v = some (wp_i y) ∧ (y = 0 ∨ y = 1) ∧ (y = 1 → φ 20 = 1 ∧ on (pp pl p) = -1 ∧ (pp pl p = [] ∨ ∃ x r, pp pl p = x :: r ∧ (1 ≤ pr_rank x ∧ pr_rank x ≤ 3)))) := by
  have hpb := pp_b V (p := p) (by have := pv_b V (k := 16) (lo := 0) (hi := 160) (by decide) (by decide); omega)
  have hob := on_b (pp pl p) (fun x hx => (hpb x hx).2)
  by_cases hz : p = 0
  · have hnil : pp pl p = [] := by rw [hz]; rfl
    refine wp_s (pc' := 1) ji_211_0 rfl rfl rfl ?_
    refine pv_vc V ji_211_1 jc_211_167 jk_197 (rest := []) rfl (Nat.le_of_ble_eq_true rfl) rfl (by rw [jn_197]; rfl) (ws_here V hp) (fun v h R => ?_)
    obtain ⟨rfl, y1, rfl, q2, q3⟩ := R
    show wp_R (d + 1 + 1 + 1) 211 4 [some (.ref a)] [wp_i y1] h _
    refine wp_if (t := 40) ji_211_4 rfl (by omega) (fun (hb4 : (y1 : Int) = 0) => ?_) (fun (hb4 : ¬ ((y1 : Int) = 0)) => ?_)
    · refine wp_s (pc' := 41) ji_211_40 rfl rfl rfl ?_
      exact wp_ri ji_211_41 jr_211 rfl ⟨rfl, _, rfl, by omega, fun hq9 => ⟨by omega, by omega, Or.inl hnil⟩⟩
    · refine wp_s (pc' := 8) ji_211_7 rfl rfl rfl ?_
      refine pv_gi V ji_211_8 jf_211_147 (by decide) pf_16 (y := φ 16) rfl (fun l5 u6 => ?_)
      refine wp_if (t := 36) ji_211_11 rfl (by omega) (fun (hb7 : (φ 16 : Int) = 0) => ?_) (fun (hb7 : ¬ ((φ 16 : Int) = 0)) => (by exfalso; omega))
      refine wp_s (pc' := 37) ji_211_36 rfl rfl rfl ?_
      refine wp_goto (t := 41) ji_211_37 rfl ?_
      exact wp_ri ji_211_41 jr_211 rfl ⟨rfl, _, rfl, by omega, fun hq9 => ⟨by omega, by omega, Or.inl hnil⟩⟩
  · obtain ⟨q, hq⟩ : ∃ q, p = q + 1 := ⟨p - 1, by omega⟩
    obtain ⟨x, hx0⟩ : ∃ x, sx_el pl q = x := ⟨_, rfl⟩
    have hx : sx_el pl (φ 16 - 1).toNat = x := by rw [← hx0]; congr 1; omega
    have hxb := pv_pb V (j := q) hx0.symm (by have := pv_b V (k := 16) (lo := 0) (hi := 160) (by decide) (by decide); omega)
    refine wp_s (pc' := 1) ji_211_0 rfl rfl rfl ?_
    refine pv_vc V ji_211_1 jc_211_167 jk_197 (rest := []) rfl (Nat.le_of_ble_eq_true rfl) rfl (by rw [jn_197]; rfl) (ws_here V hp) (fun v h R => ?_)
    obtain ⟨rfl, y1, rfl, q2, q3⟩ := R
    show wp_R (d + 1 + 1 + 1) 211 4 [some (.ref a)] [wp_i y1] h _
    refine wp_if (t := 40) ji_211_4 rfl (by omega) (fun (hb4 : (y1 : Int) = 0) => ?_) (fun (hb4 : ¬ ((y1 : Int) = 0)) => ?_)
    · refine wp_s (pc' := 41) ji_211_40 rfl rfl rfl ?_
      exact wp_ri ji_211_41 jr_211 rfl ⟨rfl, _, rfl, by omega, fun hq9 => ⟨by omega, by omega, Or.inr ⟨x, pp pl q, by rw [hq, pp, hx0], by omega⟩⟩⟩
    · refine wp_s (pc' := 8) ji_211_7 rfl rfl rfl ?_
      refine pv_gi V ji_211_8 jf_211_147 (by decide) pf_16 (y := φ 16) rfl (fun l5 u6 => ?_)
      refine wp_if (t := 36) ji_211_11 rfl (by omega) (fun (hb7 : (φ 16 : Int) = 0) => (by exfalso; omega)) (fun (hb7 : ¬ ((φ 16 : Int) = 0)) => ?_)
      refine wp_s (pc' := 15) ji_211_14 rfl rfl rfl ?_
      refine pv_gp V ji_211_15 jf_211_29 ?_
      refine wp_s (pc' := 19) ji_211_18 rfl rfl rfl ?_
      refine pv_gi V ji_211_19 jf_211_147 (by decide) pf_16 (y := φ 16) rfl (fun l8 u9 => ?_)
      refine wp_s (pc' := 23) ji_211_22 rfl rfl rfl ?_
      refine wp_isub (x := φ 16) (y := 1) (z := φ 16 - 1) ji_211_23 (by omega) ?_
      refine pv_lp V (x := φ 16 - 1) (y := x) ji_211_24 (by omega) (by omega) hx (fun l10 u11 => ?_)
      refine wp_sc (as := [wp_i x]) (rest := []) ji_211_25 jc_211_150 (Nat.le_of_ble_eq_true rfl) rfl (Nat.le_of_ble_eq_true rfl) rfl (by rw [jn_200]; rfl) (ws_rank (o := x) (by omega)) (fun v h R => ?_)
      obtain ⟨rfl, rfl⟩ := R
      show wp_R (d + 1 + 1 + 1) 211 28 [some (.ref a)] [wp_i (pr_rank x)] h _
      have q12 := pr_rb x
      refine wp_s (pc' := 29) ji_211_28 rfl rfl rfl ?_
      refine wp_s (pc' := 30) ji_211_29 rfl rfl rfl ?_
      refine wp_sc (as := [wp_i (pr_rank x), wp_i 1, wp_i 3]) (rest := []) ji_211_30 jc_211_66 (Nat.le_of_ble_eq_true rfl) rfl (Nat.le_of_ble_eq_true rfl) rfl (by rw [jn_171]; rfl) (ws_isIn (by omega) (by omega) (by omega)) (fun v h R => ?_)
      obtain ⟨rfl, rfl⟩ := R
      obtain ⟨y13, q14⟩ : ∃ y : Int, y = (if 1 ≤ (pr_rank x) ∧ (pr_rank x) ≤ 3 then 1 else 0) := ⟨_, rfl⟩
      rw [← q14]
      show wp_R (d + 1 + 1 + 1) 211 33 [some (.ref a)] [wp_i y13] h _
      have q15 : (y13 = 0 ∨ y13 = 1) ∧ (y13 = 1 → 1 ≤ (pr_rank x) ∧ (pr_rank x) ≤ 3) := by rw [q14]; split <;> omega
      refine wp_if (t := 40) ji_211_33 rfl (by omega) (fun (hb16 : (y13 : Int) = 0) => ?_) (fun (hb16 : ¬ ((y13 : Int) = 0)) => ?_)
      · refine wp_s (pc' := 41) ji_211_40 rfl rfl rfl ?_
        exact wp_ri ji_211_41 jr_211 rfl ⟨rfl, _, rfl, by omega, fun hq9 => ⟨by omega, by omega, Or.inr ⟨x, pp pl q, by rw [hq, pp, hx0], by omega⟩⟩⟩
      · refine wp_s (pc' := 37) ji_211_36 rfl rfl rfl ?_
        refine wp_goto (t := 41) ji_211_37 rfl ?_
        exact wp_ri ji_211_41 jr_211 rfl ⟨rfl, _, rfl, by omega, fun hq9 => ⟨by omega, by omega, Or.inr ⟨x, pp pl q, by rw [hq, pp, hx0], by omega⟩⟩⟩
theorem ws_cmpOf {d : Nat} {h0 h : mj_H} {a P T : Nat} {φ : Nat → Int} {pl ts : List Value} (V : pv h0 h a P T φ pl ts) : wp_R d 201 0 [some (.ref a)] [] h (fun v h1 => h1 = h ∧ ∃ y : Int, v = some (wp_i y) ∧ (y = -1 ∨ (10 ≤ y ∧ y ≤ 15 ∧ ¬ φ 9 = 0))) := by
  refine wp_s (pc' := 1) ji_201_0 rfl rfl rfl ?_
  refine pv_gi V ji_201_1 jf_201_95 (by decide) pf_9 (y := φ 9) rfl (fun l1 u2 => ?_)
  refine wp_bp ji_201_4 rfl ?_
  refine wp_icmp (t := 14) ji_201_6 rfl (by omega) (by omega) (fun (hb3 : ¬ (φ 9 : Int) = 60) => ?_) (fun (hb3 : ¬ (¬ (φ 9 : Int) = 60)) => ?_)
  · refine wp_s (pc' := 15) ji_201_14 rfl rfl rfl ?_
    refine pv_gi V ji_201_15 jf_201_95 (by decide) pf_9 (y := φ 9) rfl (fun l4 u5 => ?_)
    refine wp_s (pc' := 19) ji_201_18 rfl rfl rfl ?_
    refine wp_icmp (t := 27) ji_201_19 rfl (by omega) (by omega) (fun (hb6 : ¬ (φ 9 : Int) = 4) => ?_) (fun (hb6 : ¬ (¬ (φ 9 : Int) = 4)) => ?_)
    · refine wp_s (pc' := 28) ji_201_27 rfl rfl rfl ?_
      refine pv_gi V ji_201_28 jf_201_95 (by decide) pf_9 (y := φ 9) rfl (fun l7 u8 => ?_)
      refine wp_bp ji_201_31 rfl ?_
      refine wp_icmp (t := 41) ji_201_33 rfl (by omega) (by omega) (fun (hb9 : ¬ (φ 9 : Int) = 62) => ?_) (fun (hb9 : ¬ (¬ (φ 9 : Int) = 62)) => ?_)
      · refine wp_s (pc' := 42) ji_201_41 rfl rfl rfl ?_
        refine pv_gi V ji_201_42 jf_201_95 (by decide) pf_9 (y := φ 9) rfl (fun l10 u11 => ?_)
        refine wp_s (pc' := 46) ji_201_45 rfl rfl rfl ?_
        refine wp_icmp (t := 54) ji_201_46 rfl (by omega) (by omega) (fun (hb12 : ¬ (φ 9 : Int) = 5) => ?_) (fun (hb12 : ¬ (¬ (φ 9 : Int) = 5)) => ?_)
        · refine wp_s (pc' := 55) ji_201_54 rfl rfl rfl ?_
          refine pv_gi V ji_201_55 jf_201_95 (by decide) pf_9 (y := φ 9) rfl (fun l13 u14 => ?_)
          refine wp_bp ji_201_58 rfl ?_
          refine wp_icmp (t := 68) ji_201_60 rfl (by omega) (by omega) (fun (hb15 : ¬ (φ 9 : Int) = 61) => ?_) (fun (hb15 : ¬ (¬ (φ 9 : Int) = 61)) => ?_)
          · refine wp_s (pc' := 69) ji_201_68 rfl rfl rfl ?_
            refine pv_gi V ji_201_69 jf_201_95 (by decide) pf_9 (y := φ 9) rfl (fun l16 u17 => ?_)
            refine wp_bp ji_201_72 rfl ?_
            refine wp_icmp (t := 82) ji_201_74 rfl (by omega) (by omega) (fun (hb18 : ¬ (φ 9 : Int) = 35) => ?_) (fun (hb18 : ¬ (¬ (φ 9 : Int) = 35)) => ?_)
            · refine wp_s (pc' := 83) ji_201_82 rfl rfl rfl ?_
              exact wp_ri ji_201_83 jr_201 rfl ⟨rfl, _, rfl, by omega⟩
            · refine wp_bp ji_201_77 rfl ?_
              refine wp_goto (t := 83) ji_201_79 rfl ?_
              exact wp_ri ji_201_83 jr_201 rfl ⟨rfl, _, rfl, by omega⟩
          · refine wp_bp ji_201_63 rfl ?_
            refine wp_goto (t := 83) ji_201_65 rfl ?_
            exact wp_ri ji_201_83 jr_201 rfl ⟨rfl, _, rfl, by omega⟩
        · refine wp_bp ji_201_49 rfl ?_
          refine wp_goto (t := 83) ji_201_51 rfl ?_
          exact wp_ri ji_201_83 jr_201 rfl ⟨rfl, _, rfl, by omega⟩
      · refine wp_bp ji_201_36 rfl ?_
        refine wp_goto (t := 83) ji_201_38 rfl ?_
        exact wp_ri ji_201_83 jr_201 rfl ⟨rfl, _, rfl, by omega⟩
    · refine wp_bp ji_201_22 rfl ?_
      refine wp_goto (t := 83) ji_201_24 rfl ?_
      exact wp_ri ji_201_83 jr_201 rfl ⟨rfl, _, rfl, by omega⟩
  · refine wp_bp ji_201_9 rfl ?_
    refine wp_goto (t := 83) ji_201_11 rfl ?_
    exact wp_ri ji_201_83 jr_201 rfl ⟨rfl, _, rfl, by omega⟩
theorem wp_rl {d m pc : Nat} {lv : mj_L} {h : mj_H} {Q : Option Value → mj_H → Prop} {z : Int64} (hi : mj_ins m pc = some .lreturn) (ht : mj_ret m = some .long) (hq : Q (some (.long z)) h) : wp_R d m pc lv [.long z] h Q := by
  refine wp_e hi ?_ hq
  simp only [mj_end, ht]
theorem ws_w2 {d : Nat} {h : mj_H} {x y : Int} : wp_R d 189 0 [some (wp_i x), some (wp_i y)] [] h (fun v h1 => h1 = h ∧ ∃ z : Int64, v = some (.long z)) := by
  refine wp_s (pc' := 1) ji_189_0 rfl rfl rfl ?_
  refine wp_s (pc' := 2) ji_189_1 rfl rfl rfl (wp_gl (fun z1 => ?_))
  refine wp_bp ji_189_2 rfl ?_
  refine wp_s (pc' := 5) ji_189_4 rfl rfl rfl (wp_gl (fun z2 => ?_))
  refine wp_s (pc' := 6) ji_189_5 rfl rfl rfl ?_
  refine wp_s (pc' := 7) ji_189_6 rfl rfl rfl (wp_gl (fun z3 => ?_))
  refine wp_s (pc' := 8) ji_189_7 rfl rfl rfl (wp_gl (fun z4 => ?_))
  exact wp_rl ji_189_8 jr_189 ⟨rfl, _, rfl⟩
theorem ws_w3 {d : Nat} {h : mj_H} {x y z : Int} : wp_R (d + 1) 188 0 [some (wp_i x), some (wp_i y), some (wp_i z)] [] h (fun v h1 => h1 = h ∧ ∃ z : Int64, v = some (.long z)) := by
  refine wp_s (pc' := 1) ji_188_0 rfl rfl rfl ?_
  refine wp_s (pc' := 2) ji_188_1 rfl rfl rfl ?_
  refine wp_sc (as := [wp_i x, wp_i y]) (rest := []) ji_188_2 jc_188_118 (Nat.le_of_ble_eq_true rfl) rfl (Nat.le_of_ble_eq_true rfl) rfl (by rw [jn_189]; rfl) ws_w2 (fun v h R => ?_)
  obtain ⟨rfl, z1, rfl⟩ := R
  show wp_R (d + 1) 188 5 [some (wp_i x), some (wp_i y), some (wp_i z)] [.long z1] h _
  refine wp_bp ji_188_5 rfl ?_
  refine wp_s (pc' := 8) ji_188_7 rfl rfl rfl (wp_gl (fun z2 => ?_))
  refine wp_s (pc' := 9) ji_188_8 rfl rfl rfl ?_
  refine wp_s (pc' := 10) ji_188_9 rfl rfl rfl (wp_gl (fun z3 => ?_))
  refine wp_s (pc' := 11) ji_188_10 rfl rfl rfl (wp_gl (fun z4 => ?_))
  exact wp_rl ji_188_11 jr_188 ⟨rfl, _, rfl⟩
theorem ws_isWord {d : Nat} {h0 h : mj_H} {a P T : Nat} {φ : Nat → Int} {pl ts : List Value} (V : pv h0 h a P T φ pl ts) {z : Int64} : wp_R d 190 0 [some (.ref a), some (.long z), none] [] h (fun v h1 => h1 = h ∧ ∃ y : Int, v = some (wp_i y) ∧ (y = 0 ∨ y = 1) ∧ (y = 1 → φ 9 = 2)) := by
  refine wp_s (pc' := 1) ji_190_0 rfl rfl rfl ?_
  refine pv_gi V ji_190_1 jf_190_95 (by decide) pf_9 (y := φ 9) rfl (fun l1 u2 => ?_)
  refine wp_s (pc' := 5) ji_190_4 rfl rfl rfl ?_
  refine wp_icmp (t := 21) ji_190_5 rfl (by omega) (by omega) (fun (hb3 : ¬ (φ 9 : Int) = 2) => ?_) (fun (hb3 : ¬ (¬ (φ 9 : Int) = 2)) => ?_)
  · refine wp_s (pc' := 22) ji_190_21 rfl rfl rfl ?_
    exact wp_ri ji_190_22 jr_190 rfl ⟨rfl, _, rfl, by omega, by omega⟩
  · refine wp_s (pc' := 9) ji_190_8 rfl rfl rfl ?_
    refine pv_gl V ji_190_9 jf_190_109 (fun z3 => ?_)
    refine wp_s (pc' := 13) ji_190_12 rfl rfl rfl ?_
    refine wp_s (pc' := 14) ji_190_13 rfl rfl rfl ?_
    refine wp_ifz (t := 21) ji_190_14 rfl ?_ ?_
    · refine wp_s (pc' := 22) ji_190_21 rfl rfl rfl ?_
      exact wp_ri ji_190_22 jr_190 rfl ⟨rfl, _, rfl, by omega, by omega⟩
    · refine wp_s (pc' := 18) ji_190_17 rfl rfl rfl ?_
      refine wp_goto (t := 22) ji_190_18 rfl ?_
      exact wp_ri ji_190_22 jr_190 rfl ⟨rfl, _, rfl, by omega, by omega⟩
/-- what betweenOf answers: tp is the pile's last -/
theorem ws_between {d : Nat} {h0 h : mj_H} {a P T : Nat} {φ : Nat → Int} {pl ts : List Value} (V : pv h0 h a P T φ pl ts) {p : Nat} (hp : φ 16 = (p : Int)) {tp : Int} (htp : ∀ q, p = q + 1 → sx_el pl q = tp) (htz : p = 0 → tp = 0) : wp_R (d + 1 + 1 + 1) 196 0 [some (.ref a), none] [] h (fun v h1 => h1 = h ∧ ∃ y : Int, v = some (wp_i y) ∧ (y = -1 ∨ (¬ φ 9 = 0 ∧ ((4 ≤ y ∧ y ≤ 7 ∧ ¬ tp = 16) ∨ (10 ≤ y ∧ y ≤ 15 ∧ φ 20 = 1 ∧ on (pp pl p) = -1 ∧ ic (pp pl p) = 0) ∨ (21 ≤ y ∧ y ≤ 22 ∧ φ 20 = 1 ∧ on (pp pl p) = -1 ∧ ic (pp pl p) = 1))))) := by
  have hpb := pp_b V (p := p) (by have := pv_b V (k := 16) (lo := 0) (hi := 160) (by decide) (by decide); omega)
  have hob := on_b (pp pl p) (fun x hx => (hpb x hx).2)
  have hib := ic_b (pp pl p)
  by_cases hz : p = 0
  · have htz := htz hz
    refine wp_s (pc' := 1) ji_196_0 rfl rfl rfl ?_
    refine pv_gi V ji_196_1 jf_196_147 (by decide) pf_16 (y := φ 16) rfl (fun l1 u2 => ?_)
    refine wp_if (t := 27) ji_196_4 rfl (by omega) (fun (hb3 : (φ 16 : Int) ≤ 0) => ?_) (fun (hb3 : ¬ ((φ 16 : Int) ≤ 0)) => (by exfalso; omega))
    refine wp_s (pc' := 28) ji_196_27 rfl rfl rfl ?_
    refine wp_s (pc' := 29) (lv' := [some (.ref a), some (wp_i 0)]) ji_196_28 rfl rfl rfl ?_
    refine wp_s (pc' := 30) ji_196_29 rfl rfl rfl ?_
    refine wp_if (t := 44) ji_196_30 rfl (by omega) (fun (hb4 : ¬ (0 : Int) = 0) => (by exfalso; omega)) (fun (hb4 : ¬ (¬ (0 : Int) = 0)) => ?_)
    refine wp_s (pc' := 34) ji_196_33 rfl rfl rfl ?_
    refine pv_gi V ji_196_34 jf_196_95 (by decide) pf_9 (y := φ 9) rfl (fun l5 u6 => ?_)
    refine wp_bp ji_196_37 rfl ?_
    refine wp_icmp (t := 44) ji_196_39 rfl (by omega) (by omega) (fun (hb7 : ¬ (φ 9 : Int) = 43) => ?_) (fun (hb7 : ¬ (¬ (φ 9 : Int) = 43)) => ?_)
    · refine wp_s (pc' := 45) ji_196_44 rfl rfl rfl ?_
      refine wp_if (t := 59) ji_196_45 rfl (by omega) (fun (hb8 : ¬ (0 : Int) = 0) => (by exfalso; omega)) (fun (hb8 : ¬ (¬ (0 : Int) = 0)) => ?_)
      refine wp_s (pc' := 49) ji_196_48 rfl rfl rfl ?_
      refine pv_gi V ji_196_49 jf_196_95 (by decide) pf_9 (y := φ 9) rfl (fun l9 u10 => ?_)
      refine wp_bp ji_196_52 rfl ?_
      refine wp_icmp (t := 59) ji_196_54 rfl (by omega) (by omega) (fun (hb11 : ¬ (φ 9 : Int) = 45) => ?_) (fun (hb11 : ¬ (¬ (φ 9 : Int) = 45)) => ?_)
      · refine wp_s (pc' := 60) ji_196_59 rfl rfl rfl ?_
        refine wp_if (t := 75) ji_196_60 rfl (by omega) (fun (hb12 : ¬ (0 : Int) = 0) => (by exfalso; omega)) (fun (hb12 : ¬ (¬ (0 : Int) = 0)) => ?_)
        refine wp_s (pc' := 64) ji_196_63 rfl rfl rfl ?_
        refine pv_gi V ji_196_64 jf_196_95 (by decide) pf_9 (y := φ 9) rfl (fun l13 u14 => ?_)
        refine wp_bp ji_196_67 rfl ?_
        refine wp_icmp (t := 75) ji_196_69 rfl (by omega) (by omega) (fun (hb15 : ¬ (φ 9 : Int) = 42) => ?_) (fun (hb15 : ¬ (¬ (φ 9 : Int) = 42)) => ?_)
        · refine wp_s (pc' := 76) ji_196_75 rfl rfl rfl ?_
          refine wp_if (t := 91) ji_196_76 rfl (by omega) (fun (hb16 : ¬ (0 : Int) = 0) => (by exfalso; omega)) (fun (hb16 : ¬ (¬ (0 : Int) = 0)) => ?_)
          refine wp_s (pc' := 80) ji_196_79 rfl rfl rfl ?_
          refine pv_gi V ji_196_80 jf_196_95 (by decide) pf_9 (y := φ 9) rfl (fun l17 u18 => ?_)
          refine wp_bp ji_196_83 rfl ?_
          refine wp_icmp (t := 91) ji_196_85 rfl (by omega) (by omega) (fun (hb19 : ¬ (φ 9 : Int) = 47) => ?_) (fun (hb19 : ¬ (¬ (φ 9 : Int) = 47)) => ?_)
          · refine wp_s (pc' := 92) ji_196_91 rfl rfl rfl ?_
            refine pv_vc V ji_196_92 jc_196_167 jk_197 (rest := []) rfl (Nat.le_of_ble_eq_true rfl) rfl (by rw [jn_197]; rfl) (ws_here V hp) (fun v h R => ?_)
            obtain ⟨rfl, y20, rfl, q21, q22⟩ := R
            show wp_R (d + 1 + 1 + 1) 196 95 [some (.ref a), some (wp_i 0)] [wp_i y20] h _
            refine wp_if (t := 100) ji_196_95 rfl (by omega) (fun (hb23 : ¬ (y20 : Int) = 0) => ?_) (fun (hb23 : ¬ (¬ (y20 : Int) = 0)) => ?_)
            · refine wp_s (pc' := 101) ji_196_100 rfl rfl rfl ?_
              refine pv_vc V ji_196_101 jc_196_196 jk_199 (rest := []) rfl (Nat.le_of_ble_eq_true rfl) rfl (by rw [jn_199]; rfl) (ws_comp V hp) (fun v h R => ?_)
              obtain ⟨rfl, rfl⟩ := R
              show wp_R (d + 1 + 1 + 1) 196 104 [some (.ref a), some (wp_i 0)] [wp_i (ic (pp pl p))] h _
              refine wp_if (t := 112) ji_196_104 rfl (by omega) (fun (hb24 : ¬ (ic (pp pl p) : Int) = 0) => ?_) (fun (hb24 : ¬ (¬ (ic (pp pl p) : Int) = 0)) => ?_)
              · refine wp_s (pc' := 113) ji_196_112 rfl rfl rfl ?_
                refine wp_bp ji_196_113 rfl ?_
                refine wp_bp ji_196_115 rfl ?_
                refine wp_bp ji_196_117 rfl ?_
                refine wp_sc (as := [wp_i 97, wp_i 110, wp_i 100]) (rest := [.ref a]) ji_196_119 jc_196_122 (Nat.le_of_ble_eq_true rfl) rfl (Nat.le_of_ble_eq_true rfl) rfl (by rw [jn_188]; rfl) ws_w3 (fun v h R => ?_)
                obtain ⟨rfl, z25, rfl⟩ := R
                show wp_R (d + 1 + 1 + 1) 196 122 [some (.ref a), some (wp_i 0)] [.long z25, .ref a] h _
                refine pv_vc V ji_196_122 jc_196_189 jk_190 (rest := []) rfl (Nat.le_of_ble_eq_true rfl) rfl (by rw [jn_190]; rfl) (ws_isWord V) (fun v h R => ?_)
                obtain ⟨rfl, y26, rfl, q27, q28⟩ := R
                show wp_R (d + 1 + 1 + 1) 196 125 [some (.ref a), some (wp_i 0)] [wp_i y26] h _
                refine wp_if (t := 133) ji_196_125 rfl (by omega) (fun (hb29 : (y26 : Int) = 0) => ?_) (fun (hb29 : ¬ ((y26 : Int) = 0)) => ?_)
                · refine wp_s (pc' := 134) ji_196_133 rfl rfl rfl ?_
                  refine wp_bp ji_196_134 rfl ?_
                  refine wp_bp ji_196_136 rfl ?_
                  refine wp_sc (as := [wp_i 111, wp_i 114]) (rest := [.ref a]) ji_196_138 jc_196_118 (Nat.le_of_ble_eq_true rfl) rfl (Nat.le_of_ble_eq_true rfl) rfl (by rw [jn_189]; rfl) ws_w2 (fun v h R => ?_)
                  obtain ⟨rfl, z30, rfl⟩ := R
                  show wp_R (d + 1 + 1 + 1) 196 141 [some (.ref a), some (wp_i 0)] [.long z30, .ref a] h _
                  refine pv_vc V ji_196_141 jc_196_189 jk_190 (rest := []) rfl (Nat.le_of_ble_eq_true rfl) rfl (by rw [jn_190]; rfl) (ws_isWord V) (fun v h R => ?_)
                  obtain ⟨rfl, y31, rfl, q32, q33⟩ := R
                  show wp_R (d + 1 + 1 + 1) 196 144 [some (.ref a), some (wp_i 0)] [wp_i y31] h _
                  refine wp_if (t := 152) ji_196_144 rfl (by omega) (fun (hb34 : (y31 : Int) = 0) => ?_) (fun (hb34 : ¬ ((y31 : Int) = 0)) => ?_)
                  · refine wp_s (pc' := 153) ji_196_152 rfl rfl rfl ?_
                    exact wp_ri ji_196_153 jr_196 rfl ⟨rfl, _, rfl, by omega⟩
                  · refine wp_bp ji_196_147 rfl ?_
                    refine wp_goto (t := 153) ji_196_149 rfl ?_
                    exact wp_ri ji_196_153 jr_196 rfl ⟨rfl, _, rfl, by omega⟩
                · refine wp_bp ji_196_128 rfl ?_
                  refine wp_goto (t := 153) ji_196_130 rfl ?_
                  exact wp_ri ji_196_153 jr_196 rfl ⟨rfl, _, rfl, by omega⟩
              · refine wp_s (pc' := 108) ji_196_107 rfl rfl rfl ?_
                refine pv_vc V ji_196_108 jc_196_199 jk_201 (rest := []) rfl (Nat.le_of_ble_eq_true rfl) rfl (by rw [jn_201]; rfl) (ws_cmpOf V) (fun v h R => ?_)
                obtain ⟨rfl, y35, rfl, q36⟩ := R
                show wp_R (d + 1 + 1 + 1) 196 111 [some (.ref a), some (wp_i 0)] [wp_i y35] h _
                exact wp_ri ji_196_111 jr_196 rfl ⟨rfl, _, rfl, by omega⟩
            · refine wp_s (pc' := 99) ji_196_98 rfl rfl rfl ?_
              exact wp_ri ji_196_99 jr_196 rfl ⟨rfl, _, rfl, by omega⟩
          · refine wp_bp ji_196_88 rfl ?_
            exact wp_ri ji_196_90 jr_196 rfl ⟨rfl, _, rfl, by omega⟩
        · refine wp_bp ji_196_72 rfl ?_
          exact wp_ri ji_196_74 jr_196 rfl ⟨rfl, _, rfl, by omega⟩
      · refine wp_s (pc' := 58) ji_196_57 rfl rfl rfl ?_
        exact wp_ri ji_196_58 jr_196 rfl ⟨rfl, _, rfl, by omega⟩
    · refine wp_s (pc' := 43) ji_196_42 rfl rfl rfl ?_
      exact wp_ri ji_196_43 jr_196 rfl ⟨rfl, _, rfl, by omega⟩
  · obtain ⟨q, hq⟩ : ∃ q, p = q + 1 := ⟨p - 1, by omega⟩
    have hx0 := htp q hq
    have hx : sx_el pl (φ 16 - 1).toNat = tp := by rw [← hx0]; congr 1; omega
    have hxb := pv_pb V (j := q) hx0.symm (by have := pv_b V (k := 16) (lo := 0) (hi := 160) (by decide) (by decide); omega)
    refine wp_s (pc' := 1) ji_196_0 rfl rfl rfl ?_
    refine pv_gi V ji_196_1 jf_196_147 (by decide) pf_16 (y := φ 16) rfl (fun l1 u2 => ?_)
    refine wp_if (t := 27) ji_196_4 rfl (by omega) (fun (hb3 : (φ 16 : Int) ≤ 0) => (by exfalso; omega)) (fun (hb3 : ¬ ((φ 16 : Int) ≤ 0)) => ?_)
    refine wp_s (pc' := 8) ji_196_7 rfl rfl rfl ?_
    refine pv_gp V ji_196_8 jf_196_29 ?_
    refine wp_s (pc' := 12) ji_196_11 rfl rfl rfl ?_
    refine pv_gi V ji_196_12 jf_196_147 (by decide) pf_16 (y := φ 16) rfl (fun l4 u5 => ?_)
    refine wp_s (pc' := 16) ji_196_15 rfl rfl rfl ?_
    refine wp_isub (x := φ 16) (y := 1) (z := φ 16 - 1) ji_196_16 (by omega) ?_
    refine pv_lp V (x := φ 16 - 1) (y := tp) ji_196_17 (by omega) (by omega) hx (fun l6 u7 => ?_)
    refine wp_bp ji_196_18 rfl ?_
    refine wp_icmp (t := 27) ji_196_20 rfl (by omega) (by omega) (fun (hb8 : ¬ (tp : Int) = 16) => ?_) (fun (hb8 : ¬ (¬ (tp : Int) = 16)) => ?_)
    · refine wp_s (pc' := 28) ji_196_27 rfl rfl rfl ?_
      refine wp_s (pc' := 29) (lv' := [some (.ref a), some (wp_i 0)]) ji_196_28 rfl rfl rfl ?_
      refine wp_s (pc' := 30) ji_196_29 rfl rfl rfl ?_
      refine wp_if (t := 44) ji_196_30 rfl (by omega) (fun (hb9 : ¬ (0 : Int) = 0) => (by exfalso; omega)) (fun (hb9 : ¬ (¬ (0 : Int) = 0)) => ?_)
      refine wp_s (pc' := 34) ji_196_33 rfl rfl rfl ?_
      refine pv_gi V ji_196_34 jf_196_95 (by decide) pf_9 (y := φ 9) rfl (fun l10 u11 => ?_)
      refine wp_bp ji_196_37 rfl ?_
      refine wp_icmp (t := 44) ji_196_39 rfl (by omega) (by omega) (fun (hb12 : ¬ (φ 9 : Int) = 43) => ?_) (fun (hb12 : ¬ (¬ (φ 9 : Int) = 43)) => ?_)
      · refine wp_s (pc' := 45) ji_196_44 rfl rfl rfl ?_
        refine wp_if (t := 59) ji_196_45 rfl (by omega) (fun (hb13 : ¬ (0 : Int) = 0) => (by exfalso; omega)) (fun (hb13 : ¬ (¬ (0 : Int) = 0)) => ?_)
        refine wp_s (pc' := 49) ji_196_48 rfl rfl rfl ?_
        refine pv_gi V ji_196_49 jf_196_95 (by decide) pf_9 (y := φ 9) rfl (fun l14 u15 => ?_)
        refine wp_bp ji_196_52 rfl ?_
        refine wp_icmp (t := 59) ji_196_54 rfl (by omega) (by omega) (fun (hb16 : ¬ (φ 9 : Int) = 45) => ?_) (fun (hb16 : ¬ (¬ (φ 9 : Int) = 45)) => ?_)
        · refine wp_s (pc' := 60) ji_196_59 rfl rfl rfl ?_
          refine wp_if (t := 75) ji_196_60 rfl (by omega) (fun (hb17 : ¬ (0 : Int) = 0) => (by exfalso; omega)) (fun (hb17 : ¬ (¬ (0 : Int) = 0)) => ?_)
          refine wp_s (pc' := 64) ji_196_63 rfl rfl rfl ?_
          refine pv_gi V ji_196_64 jf_196_95 (by decide) pf_9 (y := φ 9) rfl (fun l18 u19 => ?_)
          refine wp_bp ji_196_67 rfl ?_
          refine wp_icmp (t := 75) ji_196_69 rfl (by omega) (by omega) (fun (hb20 : ¬ (φ 9 : Int) = 42) => ?_) (fun (hb20 : ¬ (¬ (φ 9 : Int) = 42)) => ?_)
          · refine wp_s (pc' := 76) ji_196_75 rfl rfl rfl ?_
            refine wp_if (t := 91) ji_196_76 rfl (by omega) (fun (hb21 : ¬ (0 : Int) = 0) => (by exfalso; omega)) (fun (hb21 : ¬ (¬ (0 : Int) = 0)) => ?_)
            refine wp_s (pc' := 80) ji_196_79 rfl rfl rfl ?_
            refine pv_gi V ji_196_80 jf_196_95 (by decide) pf_9 (y := φ 9) rfl (fun l22 u23 => ?_)
            refine wp_bp ji_196_83 rfl ?_
            refine wp_icmp (t := 91) ji_196_85 rfl (by omega) (by omega) (fun (hb24 : ¬ (φ 9 : Int) = 47) => ?_) (fun (hb24 : ¬ (¬ (φ 9 : Int) = 47)) => ?_)
            · refine wp_s (pc' := 92) ji_196_91 rfl rfl rfl ?_
              refine pv_vc V ji_196_92 jc_196_167 jk_197 (rest := []) rfl (Nat.le_of_ble_eq_true rfl) rfl (by rw [jn_197]; rfl) (ws_here V hp) (fun v h R => ?_)
              obtain ⟨rfl, y25, rfl, q26, q27⟩ := R
              show wp_R (d + 1 + 1 + 1) 196 95 [some (.ref a), some (wp_i 0)] [wp_i y25] h _
              refine wp_if (t := 100) ji_196_95 rfl (by omega) (fun (hb28 : ¬ (y25 : Int) = 0) => ?_) (fun (hb28 : ¬ (¬ (y25 : Int) = 0)) => ?_)
              · refine wp_s (pc' := 101) ji_196_100 rfl rfl rfl ?_
                refine pv_vc V ji_196_101 jc_196_196 jk_199 (rest := []) rfl (Nat.le_of_ble_eq_true rfl) rfl (by rw [jn_199]; rfl) (ws_comp V hp) (fun v h R => ?_)
                obtain ⟨rfl, rfl⟩ := R
                show wp_R (d + 1 + 1 + 1) 196 104 [some (.ref a), some (wp_i 0)] [wp_i (ic (pp pl p))] h _
                refine wp_if (t := 112) ji_196_104 rfl (by omega) (fun (hb29 : ¬ (ic (pp pl p) : Int) = 0) => ?_) (fun (hb29 : ¬ (¬ (ic (pp pl p) : Int) = 0)) => ?_)
                · refine wp_s (pc' := 113) ji_196_112 rfl rfl rfl ?_
                  refine wp_bp ji_196_113 rfl ?_
                  refine wp_bp ji_196_115 rfl ?_
                  refine wp_bp ji_196_117 rfl ?_
                  refine wp_sc (as := [wp_i 97, wp_i 110, wp_i 100]) (rest := [.ref a]) ji_196_119 jc_196_122 (Nat.le_of_ble_eq_true rfl) rfl (Nat.le_of_ble_eq_true rfl) rfl (by rw [jn_188]; rfl) ws_w3 (fun v h R => ?_)
                  obtain ⟨rfl, z30, rfl⟩ := R
                  show wp_R (d + 1 + 1 + 1) 196 122 [some (.ref a), some (wp_i 0)] [.long z30, .ref a] h _
                  refine pv_vc V ji_196_122 jc_196_189 jk_190 (rest := []) rfl (Nat.le_of_ble_eq_true rfl) rfl (by rw [jn_190]; rfl) (ws_isWord V) (fun v h R => ?_)
                  obtain ⟨rfl, y31, rfl, q32, q33⟩ := R
                  show wp_R (d + 1 + 1 + 1) 196 125 [some (.ref a), some (wp_i 0)] [wp_i y31] h _
                  refine wp_if (t := 133) ji_196_125 rfl (by omega) (fun (hb34 : (y31 : Int) = 0) => ?_) (fun (hb34 : ¬ ((y31 : Int) = 0)) => ?_)
                  · refine wp_s (pc' := 134) ji_196_133 rfl rfl rfl ?_
                    refine wp_bp ji_196_134 rfl ?_
                    refine wp_bp ji_196_136 rfl ?_
                    refine wp_sc (as := [wp_i 111, wp_i 114]) (rest := [.ref a]) ji_196_138 jc_196_118 (Nat.le_of_ble_eq_true rfl) rfl (Nat.le_of_ble_eq_true rfl) rfl (by rw [jn_189]; rfl) ws_w2 (fun v h R => ?_)
                    obtain ⟨rfl, z35, rfl⟩ := R
                    show wp_R (d + 1 + 1 + 1) 196 141 [some (.ref a), some (wp_i 0)] [.long z35, .ref a] h _
                    refine pv_vc V ji_196_141 jc_196_189 jk_190 (rest := []) rfl (Nat.le_of_ble_eq_true rfl) rfl (by rw [jn_190]; rfl) (ws_isWord V) (fun v h R => ?_)
                    obtain ⟨rfl, y36, rfl, q37, q38⟩ := R
                    show wp_R (d + 1 + 1 + 1) 196 144 [some (.ref a), some (wp_i 0)] [wp_i y36] h _
                    refine wp_if (t := 152) ji_196_144 rfl (by omega) (fun (hb39 : (y36 : Int) = 0) => ?_) (fun (hb39 : ¬ ((y36 : Int) = 0)) => ?_)
                    · refine wp_s (pc' := 153) ji_196_152 rfl rfl rfl ?_
                      exact wp_ri ji_196_153 jr_196 rfl ⟨rfl, _, rfl, by omega⟩
                    · refine wp_bp ji_196_147 rfl ?_
                      refine wp_goto (t := 153) ji_196_149 rfl ?_
                      exact wp_ri ji_196_153 jr_196 rfl ⟨rfl, _, rfl, by omega⟩
                  · refine wp_bp ji_196_128 rfl ?_
                    refine wp_goto (t := 153) ji_196_130 rfl ?_
                    exact wp_ri ji_196_153 jr_196 rfl ⟨rfl, _, rfl, by omega⟩
                · refine wp_s (pc' := 108) ji_196_107 rfl rfl rfl ?_
                  refine pv_vc V ji_196_108 jc_196_199 jk_201 (rest := []) rfl (Nat.le_of_ble_eq_true rfl) rfl (by rw [jn_201]; rfl) (ws_cmpOf V) (fun v h R => ?_)
                  obtain ⟨rfl, y40, rfl, q41⟩ := R
                  show wp_R (d + 1 + 1 + 1) 196 111 [some (.ref a), some (wp_i 0)] [wp_i y40] h _
                  exact wp_ri ji_196_111 jr_196 rfl ⟨rfl, _, rfl, by omega⟩
              · refine wp_s (pc' := 99) ji_196_98 rfl rfl rfl ?_
                exact wp_ri ji_196_99 jr_196 rfl ⟨rfl, _, rfl, by omega⟩
            · refine wp_bp ji_196_88 rfl ?_
              exact wp_ri ji_196_90 jr_196 rfl ⟨rfl, _, rfl, by omega⟩
          · refine wp_bp ji_196_72 rfl ?_
            exact wp_ri ji_196_74 jr_196 rfl ⟨rfl, _, rfl, by omega⟩
        · refine wp_s (pc' := 58) ji_196_57 rfl rfl rfl ?_
          exact wp_ri ji_196_58 jr_196 rfl ⟨rfl, _, rfl, by omega⟩
      · refine wp_s (pc' := 43) ji_196_42 rfl rfl rfl ?_
        exact wp_ri ji_196_43 jr_196 rfl ⟨rfl, _, rfl, by omega⟩
    · refine wp_s (pc' := 24) ji_196_23 rfl rfl rfl ?_
      refine wp_goto (t := 28) ji_196_24 rfl ?_
      refine wp_s (pc' := 29) (lv' := [some (.ref a), some (wp_i 1)]) ji_196_28 rfl rfl rfl ?_
      refine wp_s (pc' := 30) ji_196_29 rfl rfl rfl ?_
      refine wp_if (t := 44) ji_196_30 rfl (by omega) (fun (hb42 : ¬ (1 : Int) = 0) => ?_) (fun (hb42 : ¬ (¬ (1 : Int) = 0)) => (by exfalso; omega))
      refine wp_s (pc' := 45) ji_196_44 rfl rfl rfl ?_
      refine wp_if (t := 59) ji_196_45 rfl (by omega) (fun (hb43 : ¬ (1 : Int) = 0) => ?_) (fun (hb43 : ¬ (¬ (1 : Int) = 0)) => (by exfalso; omega))
      refine wp_s (pc' := 60) ji_196_59 rfl rfl rfl ?_
      refine wp_if (t := 75) ji_196_60 rfl (by omega) (fun (hb44 : ¬ (1 : Int) = 0) => ?_) (fun (hb44 : ¬ (¬ (1 : Int) = 0)) => (by exfalso; omega))
      refine wp_s (pc' := 76) ji_196_75 rfl rfl rfl ?_
      refine wp_if (t := 91) ji_196_76 rfl (by omega) (fun (hb45 : ¬ (1 : Int) = 0) => ?_) (fun (hb45 : ¬ (¬ (1 : Int) = 0)) => (by exfalso; omega))
      refine wp_s (pc' := 92) ji_196_91 rfl rfl rfl ?_
      refine pv_vc V ji_196_92 jc_196_167 jk_197 (rest := []) rfl (Nat.le_of_ble_eq_true rfl) rfl (by rw [jn_197]; rfl) (ws_here V hp) (fun v h R => ?_)
      obtain ⟨rfl, y46, rfl, q47, q48⟩ := R
      show wp_R (d + 1 + 1 + 1) 196 95 [some (.ref a), some (wp_i 1)] [wp_i y46] h _
      refine wp_if (t := 100) ji_196_95 rfl (by omega) (fun (hb49 : ¬ (y46 : Int) = 0) => ?_) (fun (hb49 : ¬ (¬ (y46 : Int) = 0)) => ?_)
      · refine wp_s (pc' := 101) ji_196_100 rfl rfl rfl ?_
        refine pv_vc V ji_196_101 jc_196_196 jk_199 (rest := []) rfl (Nat.le_of_ble_eq_true rfl) rfl (by rw [jn_199]; rfl) (ws_comp V hp) (fun v h R => ?_)
        obtain ⟨rfl, rfl⟩ := R
        show wp_R (d + 1 + 1 + 1) 196 104 [some (.ref a), some (wp_i 1)] [wp_i (ic (pp pl p))] h _
        refine wp_if (t := 112) ji_196_104 rfl (by omega) (fun (hb50 : ¬ (ic (pp pl p) : Int) = 0) => ?_) (fun (hb50 : ¬ (¬ (ic (pp pl p) : Int) = 0)) => ?_)
        · refine wp_s (pc' := 113) ji_196_112 rfl rfl rfl ?_
          refine wp_bp ji_196_113 rfl ?_
          refine wp_bp ji_196_115 rfl ?_
          refine wp_bp ji_196_117 rfl ?_
          refine wp_sc (as := [wp_i 97, wp_i 110, wp_i 100]) (rest := [.ref a]) ji_196_119 jc_196_122 (Nat.le_of_ble_eq_true rfl) rfl (Nat.le_of_ble_eq_true rfl) rfl (by rw [jn_188]; rfl) ws_w3 (fun v h R => ?_)
          obtain ⟨rfl, z51, rfl⟩ := R
          show wp_R (d + 1 + 1 + 1) 196 122 [some (.ref a), some (wp_i 1)] [.long z51, .ref a] h _
          refine pv_vc V ji_196_122 jc_196_189 jk_190 (rest := []) rfl (Nat.le_of_ble_eq_true rfl) rfl (by rw [jn_190]; rfl) (ws_isWord V) (fun v h R => ?_)
          obtain ⟨rfl, y52, rfl, q53, q54⟩ := R
          show wp_R (d + 1 + 1 + 1) 196 125 [some (.ref a), some (wp_i 1)] [wp_i y52] h _
          refine wp_if (t := 133) ji_196_125 rfl (by omega) (fun (hb55 : (y52 : Int) = 0) => ?_) (fun (hb55 : ¬ ((y52 : Int) = 0)) => ?_)
          · refine wp_s (pc' := 134) ji_196_133 rfl rfl rfl ?_
            refine wp_bp ji_196_134 rfl ?_
            refine wp_bp ji_196_136 rfl ?_
            refine wp_sc (as := [wp_i 111, wp_i 114]) (rest := [.ref a]) ji_196_138 jc_196_118 (Nat.le_of_ble_eq_true rfl) rfl (Nat.le_of_ble_eq_true rfl) rfl (by rw [jn_189]; rfl) ws_w2 (fun v h R => ?_)
            obtain ⟨rfl, z56, rfl⟩ := R
            show wp_R (d + 1 + 1 + 1) 196 141 [some (.ref a), some (wp_i 1)] [.long z56, .ref a] h _
            refine pv_vc V ji_196_141 jc_196_189 jk_190 (rest := []) rfl (Nat.le_of_ble_eq_true rfl) rfl (by rw [jn_190]; rfl) (ws_isWord V) (fun v h R => ?_)
            obtain ⟨rfl, y57, rfl, q58, q59⟩ := R
            show wp_R (d + 1 + 1 + 1) 196 144 [some (.ref a), some (wp_i 1)] [wp_i y57] h _
            refine wp_if (t := 152) ji_196_144 rfl (by omega) (fun (hb60 : (y57 : Int) = 0) => ?_) (fun (hb60 : ¬ ((y57 : Int) = 0)) => ?_)
            · refine wp_s (pc' := 153) ji_196_152 rfl rfl rfl ?_
              exact wp_ri ji_196_153 jr_196 rfl ⟨rfl, _, rfl, by omega⟩
            · refine wp_bp ji_196_147 rfl ?_
              refine wp_goto (t := 153) ji_196_149 rfl ?_
              exact wp_ri ji_196_153 jr_196 rfl ⟨rfl, _, rfl, by omega⟩
          · refine wp_bp ji_196_128 rfl ?_
            refine wp_goto (t := 153) ji_196_130 rfl ?_
            exact wp_ri ji_196_153 jr_196 rfl ⟨rfl, _, rfl, by omega⟩
        · refine wp_s (pc' := 108) ji_196_107 rfl rfl rfl ?_
          refine pv_vc V ji_196_108 jc_196_199 jk_201 (rest := []) rfl (Nat.le_of_ble_eq_true rfl) rfl (by rw [jn_201]; rfl) (ws_cmpOf V) (fun v h R => ?_)
          obtain ⟨rfl, y61, rfl, q62⟩ := R
          show wp_R (d + 1 + 1 + 1) 196 111 [some (.ref a), some (wp_i 1)] [wp_i y61] h _
          exact wp_ri ji_196_111 jr_196 rfl ⟨rfl, _, rfl, by omega⟩
      · refine wp_s (pc' := 99) ji_196_98 rfl rfl rfl ?_
        exact wp_ri ji_196_99 jr_196 rfl ⟨rfl, _, rfl, by omega⟩
