/-! -/
set_option maxRecDepth 100000 in
theorem jn_33 : mj_nl 33 = 3 := by decide +kernel
set_option maxRecDepth 100000 in
theorem jk_33 : mj_cls 33 = 9 := by decide +kernel
set_option maxRecDepth 100000 in
theorem jn_51 : mj_nl 51 = 4 := by decide +kernel
set_option maxRecDepth 100000 in
theorem jk_51 : mj_cls 51 = 9 := by decide +kernel
set_option maxRecDepth 100000 in
theorem jn_52 : mj_nl 52 = 3 := by decide +kernel
set_option maxRecDepth 100000 in
theorem jk_52 : mj_cls 52 = 9 := by decide +kernel
set_option maxRecDepth 100000 in
theorem jn_53 : mj_nl 53 = 3 := by decide +kernel
set_option maxRecDepth 100000 in
theorem jk_53 : mj_cls 53 = 9 := by decide +kernel
set_option maxRecDepth 100000 in
theorem ji_34_0 : mj_ins 34 0 = some (.aload_n 0) := by decide +kernel
set_option maxRecDepth 100000 in
theorem ji_34_1 : mj_ins 34 1 = some (.getfield 21) := by decide +kernel
set_option maxRecDepth 100000 in
theorem jf_34_21 : mj_fld 34 21 = some (1, 2, (.array .int), false) := by decide +kernel
set_option maxRecDepth 100000 in
theorem ji_34_4 : mj_ins 34 4 = some (.iload_n 1) := by decide +kernel
set_option maxRecDepth 100000 in
theorem ji_34_5 : mj_ins 34 5 = some (.aload_n 0) := by decide +kernel
set_option maxRecDepth 100000 in
theorem ji_34_6 : mj_ins 34 6 = some (.getfield 17) := by decide +kernel
set_option maxRecDepth 100000 in
theorem jf_34_17 : mj_fld 34 17 = some (1, 1, .int, true) := by decide +kernel
set_option maxRecDepth 100000 in
theorem ji_34_9 : mj_ins 34 9 = some (.iastore) := by decide +kernel
set_option maxRecDepth 100000 in
theorem ji_34_10 : mj_ins 34 10 = some (.aload_n 0) := by decide +kernel
set_option maxRecDepth 100000 in
theorem ji_34_11 : mj_ins 34 11 = some (.getfield 24) := by decide +kernel
set_option maxRecDepth 100000 in
theorem jf_34_24 : mj_fld 34 24 = some (1, 3, (.array .int), false) := by decide +kernel
set_option maxRecDepth 100000 in
theorem ji_34_14 : mj_ins 34 14 = some (.iload_n 1) := by decide +kernel
set_option maxRecDepth 100000 in
theorem ji_34_15 : mj_ins 34 15 = some (.aload_n 0) := by decide +kernel
set_option maxRecDepth 100000 in
theorem ji_34_16 : mj_ins 34 16 = some (.getfield 17) := by decide +kernel
set_option maxRecDepth 100000 in
theorem ji_34_19 : mj_ins 34 19 = some (.iastore) := by decide +kernel
set_option maxRecDepth 100000 in
theorem ji_34_20 : mj_ins 34 20 = some (.return_) := by decide +kernel
set_option maxRecDepth 100000 in
theorem jr_34 : mj_ret 34 = none := by decide +kernel
set_option maxRecDepth 100000 in
theorem ji_49_0 : mj_ins 49 0 = some (.aload_n 0) := by decide +kernel
set_option maxRecDepth 100000 in
theorem ji_49_1 : mj_ins 49 1 = some (.getfield 24) := by decide +kernel
set_option maxRecDepth 100000 in
theorem jf_49_24 : mj_fld 49 24 = some (1, 3, (.array .int), false) := by decide +kernel
set_option maxRecDepth 100000 in
theorem ji_49_4 : mj_ins 49 4 = some (.iload_n 1) := by decide +kernel
set_option maxRecDepth 100000 in
theorem ji_49_5 : mj_ins 49 5 = some (.aload_n 0) := by decide +kernel
set_option maxRecDepth 100000 in
theorem ji_49_6 : mj_ins 49 6 = some (.getfield 17) := by decide +kernel
set_option maxRecDepth 100000 in
theorem jf_49_17 : mj_fld 49 17 = some (1, 1, .int, true) := by decide +kernel
set_option maxRecDepth 100000 in
theorem ji_49_9 : mj_ins 49 9 = some (.iastore) := by decide +kernel
set_option maxRecDepth 100000 in
theorem ji_49_10 : mj_ins 49 10 = some (.return_) := by decide +kernel
set_option maxRecDepth 100000 in
theorem jr_49 : mj_ret 49 = none := by decide +kernel
set_option maxRecDepth 100000 in
theorem ji_50_0 : mj_ins 50 0 = some (.aload_n 0) := by decide +kernel
set_option maxRecDepth 100000 in
theorem ji_50_1 : mj_ins 50 1 = some (.getfield 36) := by decide +kernel
set_option maxRecDepth 100000 in
theorem jf_50_36 : mj_fld 50 36 = some (1, 7, .int, true) := by decide +kernel
set_option maxRecDepth 100000 in
theorem ji_50_4 : mj_ins 50 4 = some (.bipush 24) := by decide +kernel
set_option maxRecDepth 100000 in
theorem ji_50_6 : mj_ins 50 6 = some (.if_icmp .ge 43) := by decide +kernel
set_option maxRecDepth 100000 in
theorem ji_50_9 : mj_ins 50 9 = some (.aload_n 0) := by decide +kernel
set_option maxRecDepth 100000 in
theorem ji_50_10 : mj_ins 50 10 = some (.getfield 27) := by decide +kernel
set_option maxRecDepth 100000 in
theorem jf_50_27 : mj_fld 50 27 = some (1, 4, (.array .int), false) := by decide +kernel
set_option maxRecDepth 100000 in
theorem ji_50_13 : mj_ins 50 13 = some (.aload_n 0) := by decide +kernel
set_option maxRecDepth 100000 in
theorem ji_50_14 : mj_ins 50 14 = some (.getfield 36) := by decide +kernel
set_option maxRecDepth 100000 in
theorem ji_50_17 : mj_ins 50 17 = some (.iload_n 1) := by decide +kernel
set_option maxRecDepth 100000 in
theorem ji_50_18 : mj_ins 50 18 = some (.iastore) := by decide +kernel
set_option maxRecDepth 100000 in
theorem ji_50_19 : mj_ins 50 19 = some (.aload_n 0) := by decide +kernel
set_option maxRecDepth 100000 in
theorem ji_50_20 : mj_ins 50 20 = some (.getfield 30) := by decide +kernel
set_option maxRecDepth 100000 in
theorem jf_50_30 : mj_fld 50 30 = some (1, 5, (.array .int), false) := by decide +kernel
set_option maxRecDepth 100000 in
theorem ji_50_23 : mj_ins 50 23 = some (.aload_n 0) := by decide +kernel
set_option maxRecDepth 100000 in
theorem ji_50_24 : mj_ins 50 24 = some (.getfield 36) := by decide +kernel
set_option maxRecDepth 100000 in
theorem ji_50_27 : mj_ins 50 27 = some (.iload_n 2) := by decide +kernel
set_option maxRecDepth 100000 in
theorem ji_50_28 : mj_ins 50 28 = some (.iastore) := by decide +kernel
set_option maxRecDepth 100000 in
theorem ji_50_29 : mj_ins 50 29 = some (.aload_n 0) := by decide +kernel
set_option maxRecDepth 100000 in
theorem ji_50_30 : mj_ins 50 30 = some (.getfield 33) := by decide +kernel
set_option maxRecDepth 100000 in
theorem jf_50_33 : mj_fld 50 33 = some (1, 6, (.array .int), false) := by decide +kernel
set_option maxRecDepth 100000 in
theorem ji_50_33 : mj_ins 50 33 = some (.aload_n 0) := by decide +kernel
set_option maxRecDepth 100000 in
theorem ji_50_34 : mj_ins 50 34 = some (.getfield 36) := by decide +kernel
set_option maxRecDepth 100000 in
theorem ji_50_37 : mj_ins 50 37 = some (.iload_n 3) := by decide +kernel
set_option maxRecDepth 100000 in
theorem ji_50_38 : mj_ins 50 38 = some (.iastore) := by decide +kernel
set_option maxRecDepth 100000 in
theorem ji_50_39 : mj_ins 50 39 = some (.aload_n 0) := by decide +kernel
set_option maxRecDepth 100000 in
theorem ji_50_40 : mj_ins 50 40 = some (.dup) := by decide +kernel
set_option maxRecDepth 100000 in
theorem ji_50_41 : mj_ins 50 41 = some (.getfield 36) := by decide +kernel
set_option maxRecDepth 100000 in
theorem ji_50_44 : mj_ins 50 44 = some (.iconst 1) := by decide +kernel
set_option maxRecDepth 100000 in
theorem ji_50_45 : mj_ins 50 45 = some (.iadd) := by decide +kernel
set_option maxRecDepth 100000 in
theorem ji_50_46 : mj_ins 50 46 = some (.putfield 36) := by decide +kernel
set_option maxRecDepth 100000 in
theorem ji_50_49 : mj_ins 50 49 = some (.return_) := by decide +kernel
set_option maxRecDepth 100000 in
theorem jr_50 : mj_ret 50 = none := by decide +kernel
set_option maxRecDepth 100000 in
theorem ji_32_0 : mj_ins 32 0 = some (.aload_n 0) := by decide +kernel
set_option maxRecDepth 100000 in
theorem ji_32_1 : mj_ins 32 1 = some (.getfield 21) := by decide +kernel
set_option maxRecDepth 100000 in
theorem jf_32_21 : mj_fld 32 21 = some (1, 2, (.array .int), false) := by decide +kernel
set_option maxRecDepth 100000 in
theorem ji_32_4 : mj_ins 32 4 = some (.iload_n 1) := by decide +kernel
set_option maxRecDepth 100000 in
theorem ji_32_5 : mj_ins 32 5 = some (.iaload) := by decide +kernel
set_option maxRecDepth 100000 in
theorem ji_32_6 : mj_ins 32 6 = some (.iconst (-1)) := by decide +kernel
set_option maxRecDepth 100000 in
theorem ji_32_7 : mj_ins 32 7 = some (.if_icmp .eq 7) := by decide +kernel
set_option maxRecDepth 100000 in
theorem ji_32_14 : mj_ins 32 14 = some (.iconst 0) := by decide +kernel
set_option maxRecDepth 100000 in
theorem ji_32_15 : mj_ins 32 15 = some (.ireturn) := by decide +kernel
set_option maxRecDepth 100000 in
theorem jr_32 : mj_ret 32 = some .boolean := by decide +kernel
set_option maxRecDepth 100000 in
theorem ji_32_10 : mj_ins 32 10 = some (.iconst 1) := by decide +kernel
set_option maxRecDepth 100000 in
theorem ji_32_11 : mj_ins 32 11 = some (.goto 4) := by decide +kernel
set_option maxRecDepth 100000 in
theorem ji_33_0 : mj_ins 33 0 = some (.aload_n 0) := by decide +kernel
set_option maxRecDepth 100000 in
theorem ji_33_1 : mj_ins 33 1 = some (.iload_n 1) := by decide +kernel
set_option maxRecDepth 100000 in
theorem ji_33_2 : mj_ins 33 2 = some (.putfield 22) := by decide +kernel
set_option maxRecDepth 100000 in
theorem jf_33_22 : mj_fld 33 22 = some (9, 5, .int, true) := by decide +kernel
set_option maxRecDepth 100000 in
theorem ji_33_5 : mj_ins 33 5 = some (.aload_n 0) := by decide +kernel
set_option maxRecDepth 100000 in
theorem ji_33_6 : mj_ins 33 6 = some (.iconst 0) := by decide +kernel
set_option maxRecDepth 100000 in
theorem ji_33_7 : mj_ins 33 7 = some (.putfield 32) := by decide +kernel
set_option maxRecDepth 100000 in
theorem jf_33_32 : mj_fld 33 32 = some (9, 8, .int, true) := by decide +kernel
set_option maxRecDepth 100000 in
theorem ji_33_10 : mj_ins 33 10 = some (.aload_n 0) := by decide +kernel
set_option maxRecDepth 100000 in
theorem ji_33_11 : mj_ins 33 11 = some (.iconst 0) := by decide +kernel
set_option maxRecDepth 100000 in
theorem ji_33_12 : mj_ins 33 12 = some (.putfield 35) := by decide +kernel
set_option maxRecDepth 100000 in
theorem jf_33_35 : mj_fld 33 35 = some (9, 9, .int, true) := by decide +kernel
set_option maxRecDepth 100000 in
theorem ji_33_15 : mj_ins 33 15 = some (.aload_n 0) := by decide +kernel
set_option maxRecDepth 100000 in
theorem ji_33_16 : mj_ins 33 16 = some (.iconst 0) := by decide +kernel
set_option maxRecDepth 100000 in
theorem ji_33_17 : mj_ins 33 17 = some (.putfield 38) := by decide +kernel
set_option maxRecDepth 100000 in
theorem jf_33_38 : mj_fld 33 38 = some (9, 10, .int, true) := by decide +kernel
set_option maxRecDepth 100000 in
theorem ji_33_20 : mj_ins 33 20 = some (.aload_n 0) := by decide +kernel
set_option maxRecDepth 100000 in
theorem ji_33_21 : mj_ins 33 21 = some (.iconst 0) := by decide +kernel
set_option maxRecDepth 100000 in
theorem ji_33_22 : mj_ins 33 22 = some (.putfield 44) := by decide +kernel
set_option maxRecDepth 100000 in
theorem jf_33_44 : mj_fld 33 44 = some (9, 12, .boolean, true) := by decide +kernel
set_option maxRecDepth 100000 in
theorem ji_33_25 : mj_ins 33 25 = some (.aload_n 0) := by decide +kernel
set_option maxRecDepth 100000 in
theorem ji_33_26 : mj_ins 33 26 = some (.aload_n 0) := by decide +kernel
set_option maxRecDepth 100000 in
theorem ji_33_27 : mj_ins 33 27 = some (.getfield 22) := by decide +kernel
set_option maxRecDepth 100000 in
theorem ji_33_30 : mj_ins 33 30 = some (.iconst 2) := by decide +kernel
set_option maxRecDepth 100000 in
theorem ji_33_31 : mj_ins 33 31 = some (.if_icmp .ne 7) := by decide +kernel
set_option maxRecDepth 100000 in
theorem ji_33_38 : mj_ins 33 38 = some (.iconst 1) := by decide +kernel
set_option maxRecDepth 100000 in
theorem ji_33_39 : mj_ins 33 39 = some (.putfield 25) := by decide +kernel
set_option maxRecDepth 100000 in
theorem ji_33_42 : mj_ins 33 42 = some (.aload_n 0) := by decide +kernel
set_option maxRecDepth 100000 in
theorem ji_33_43 : mj_ins 33 43 = some (.getfield 51) := by decide +kernel
set_option maxRecDepth 100000 in
theorem jf_33_51 : mj_fld 33 51 = some (9, 1, (.object "ForestOfPoles$Text"), true) := by decide +kernel
set_option maxRecDepth 100000 in
theorem ji_33_46 : mj_ins 33 46 = some (.aload_n 0) := by decide +kernel
set_option maxRecDepth 100000 in
theorem ji_33_47 : mj_ins 33 47 = some (.getfield 22) := by decide +kernel
set_option maxRecDepth 100000 in
theorem ji_33_50 : mj_ins 33 50 = some (.invokevirtual 124) := by decide +kernel
set_option maxRecDepth 100000 in
theorem jc_33_124 : mj_cal 33 124 = some (2, 34, 1) := by decide +kernel
set_option maxRecDepth 100000 in
theorem ji_33_53 : mj_ins 33 53 = some (.iconst 0) := by decide +kernel
set_option maxRecDepth 100000 in
theorem ji_33_54 : mj_ins 33 54 = some (.istore_n 2) := by decide +kernel
set_option maxRecDepth 100000 in
theorem ji_33_131 : mj_ins 33 131 = some (.aload_n 0) := by decide +kernel
set_option maxRecDepth 100000 in
theorem ji_33_132 : mj_ins 33 132 = some (.getfield 51) := by decide +kernel
set_option maxRecDepth 100000 in
theorem ji_33_135 : mj_ins 33 135 = some (.aload_n 0) := by decide +kernel
set_option maxRecDepth 100000 in
theorem ji_33_136 : mj_ins 33 136 = some (.getfield 22) := by decide +kernel
set_option maxRecDepth 100000 in
theorem ji_33_139 : mj_ins 33 139 = some (.invokevirtual 136) := by decide +kernel
set_option maxRecDepth 100000 in
theorem jc_33_136 : mj_cal 33 136 = some (2, 49, 1) := by decide +kernel
set_option maxRecDepth 100000 in
theorem ji_33_142 : mj_ins 33 142 = some (.aload_n 0) := by decide +kernel
set_option maxRecDepth 100000 in
theorem ji_33_143 : mj_ins 33 143 = some (.getfield 51) := by decide +kernel
set_option maxRecDepth 100000 in
theorem ji_33_146 : mj_ins 33 146 = some (.aload_n 0) := by decide +kernel
set_option maxRecDepth 100000 in
theorem ji_33_147 : mj_ins 33 147 = some (.getfield 22) := by decide +kernel
set_option maxRecDepth 100000 in
theorem ji_33_150 : mj_ins 33 150 = some (.iconst 0) := by decide +kernel
set_option maxRecDepth 100000 in
theorem ji_33_151 : mj_ins 33 151 = some (.iconst 0) := by decide +kernel
set_option maxRecDepth 100000 in
theorem ji_33_152 : mj_ins 33 152 = some (.invokevirtual 120) := by decide +kernel
set_option maxRecDepth 100000 in
theorem jc_33_120 : mj_cal 33 120 = some (2, 50, 3) := by decide +kernel
set_option maxRecDepth 100000 in
theorem ji_33_155 : mj_ins 33 155 = some (.return_) := by decide +kernel
set_option maxRecDepth 100000 in
theorem jr_33 : mj_ret 33 = none := by decide +kernel
set_option maxRecDepth 100000 in
theorem ji_33_34 : mj_ins 33 34 = some (.iconst 0) := by decide +kernel
set_option maxRecDepth 100000 in
theorem ji_33_35 : mj_ins 33 35 = some (.goto 4) := by decide +kernel
/-! the class's texts; laid by program (wp_cread5.py) -/
section WTX
variable {nn d m pc : Nat} {lv : mj_L} {st0 : List Value} {h h0 : mj_H} {Q : Option Value → mj_H → Prop} {bl ws fr : List Value} {t : Nat} {L k v s p f q law st wn op br ls as_ cl : Int}
theorem tg_r {x kk j : Nat} {ty : FieldType} {w : Bool} (V : cL h0 h bl t L k v s p f q law st wn op br ls as_ cl ws fr) (hi : mj_ins m pc = some (.getfield x)) (hf : mj_fld m x = some (1, kk, ty, w)) (hj : ∀ sz : Int, [Value.ref (t + 1), wp_i sz, Value.ref (t + 2), Value.ref (t + 3), Value.ref (t + 4), Value.ref (t + 5), Value.ref (t + 6), wp_i cl, Value.ref 10][kk]? = some (.ref (t + j))) (hr : wl_R nn d m (pc + 3) lv (.ref (t + j) :: st0) h Q) : wl_R nn d m pc lv (.ref t :: st0) h Q := by
  obtain ⟨sz, c1, c3, c4, c5, c6, x0, -⟩ := V.2.2.2.2.1
  exact wl_gf hi hf x0 (hj sz) hr
theorem tg_z {x : Nat} {ty : FieldType} {w : Bool} (V : cL h0 h bl t L k v s p f q law st wn op br ls as_ cl ws fr) (hi : mj_ins m pc = some (.getfield x)) (hf : mj_fld m x = some (1, 1, ty, w)) (hr : ∀ sz : Int, 0 ≤ sz ∧ sz ≤ 300 → wl_R nn d m (pc + 3) lv (wp_i sz :: st0) h Q) : wl_R nn d m pc lv (.ref t :: st0) h Q := by
  obtain ⟨sz, c1, c3, c4, c5, c6, x0, xz, -⟩ := V.2.2.2.2.1
  exact wl_gf hi hf x0 rfl (hr sz xz)
theorem tg_c {x : Nat} {ty : FieldType} {w : Bool} (V : cL h0 h bl t L k v s p f q law st wn op br ls as_ cl ws fr) (hi : mj_ins m pc = some (.getfield x)) (hf : mj_fld m x = some (1, 7, ty, w)) (hr : wl_R nn d m (pc + 3) lv (wp_i cl :: st0) h Q) : wl_R nn d m pc lv (.ref t :: st0) h Q := by
  obtain ⟨sz, c1, c3, c4, c5, c6, x0, -⟩ := V.2.2.2.2.1
  exact wl_gf hi hf x0 rfl hr
theorem tp_z {x : Nat} {y : Int} (ht : 12 ≤ t ∧ t ≤ 33) (V : cL h0 h bl t L k v s p f q law st wn op br ls as_ cl ws fr) (hi : mj_ins m pc = some (.putfield x)) (hf : mj_fld m x = some (1, 1, .int, true)) (hy : 0 ≤ y ∧ y ≤ 300) (hr : ∀ h, cL h0 h bl t L k v s p f q law st wn op br ls as_ cl ws fr → wl_R nn d m (pc + 3) lv st0 h Q) : wl_R nn d m pc lv (wp_i y :: .ref t :: st0) h Q := by
  obtain ⟨sz, c1, c3, c4, c5, c6, x0, x, x1, x2, x3, x4, x5, x6⟩ := V.2.2.2.2.1
  refine wl_pf hi hf x0 (Nat.le_trans (by decide) ht.1) (Nat.le_of_ble_eq_true rfl) rfl rfl (hr _ (cl_tx (b := t) ht (by omega) V ⟨y, c1, c3, c4, c5, c6, List.getElem?_set_self (fd_lt x0), hy, (by rw [List.getElem?_set_ne (by omega)]; exact x1), (by rw [List.getElem?_set_ne (by omega)]; exact x2), (by rw [List.getElem?_set_ne (by omega)]; exact x3), (by rw [List.getElem?_set_ne (by omega)]; exact x4), (by rw [List.getElem?_set_ne (by omega)]; exact x5), (by rw [List.getElem?_set_ne (by omega)]; exact x6)⟩))
theorem tp_c {x : Nat} {y : Int} (ht : 12 ≤ t ∧ t ≤ 33) (V : cL h0 h bl t L k v s p f q law st wn op br ls as_ cl ws fr) (hi : mj_ins m pc = some (.putfield x)) (hf : mj_fld m x = some (1, 7, .int, true)) (hr : ∀ h, cL h0 h bl t L k v s p f q law st wn op br ls as_ y ws fr → wl_R nn d m (pc + 3) lv st0 h Q) : wl_R nn d m pc lv (wp_i y :: .ref t :: st0) h Q := by
  obtain ⟨sz, c1, c3, c4, c5, c6, x0, x, x1, x2, x3, x4, x5, x6⟩ := V.2.2.2.2.1
  refine wl_pf hi hf x0 (Nat.le_trans (by decide) ht.1) (Nat.le_of_ble_eq_true rfl) rfl rfl (hr _ (cl_tx (b := t) ht (by omega) V ⟨sz, c1, c3, c4, c5, c6, List.getElem?_set_self (fd_lt x0), x, (by rw [List.getElem?_set_ne (by omega)]; exact x1), (by rw [List.getElem?_set_ne (by omega)]; exact x2), (by rw [List.getElem?_set_ne (by omega)]; exact x3), (by rw [List.getElem?_set_ne (by omega)]; exact x4), (by rw [List.getElem?_set_ne (by omega)]; exact x5), (by rw [List.getElem?_set_ne (by omega)]; exact x6)⟩))
theorem ts_2 {x y : Int} (ht : 12 ≤ t ∧ t ≤ 33) (V : cL h0 h bl t L k v s p f q law st wn op br ls as_ cl ws fr) (hx : wp_r x) (hi : mj_ins m pc = some .iastore) (hr : ∀ h, 0 ≤ x → x < fr.length → cL h0 h bl t L k v s p f q law st wn op br ls as_ cl ws (fr.set x.toNat (wp_i y)) → wl_R nn d m (pc + 1) lv st0 h Q) : wl_R nn d m pc lv (wp_i y :: wp_i x :: .ref (t + 2) :: st0) h Q := by
  obtain ⟨sz, c1, c3, c4, c5, c6, x0, xz, x1, x2, x3, x4, x5, x6⟩ := V.2.2.2.2.1
  exact wl_as hi x2 hx (fun y1 y2 => hr _ y1 y2 (cl_tx (b := t + 2) ht (by omega) V ⟨sz, c1, c3, c4, c5, c6, (by rw [List.getElem?_set_ne (by omega)]; exact x0), xz, (by rw [List.getElem?_set_ne (by omega)]; exact x1), List.getElem?_set_self (fd_lt x2), (by rw [List.getElem?_set_ne (by omega)]; exact x3), (by rw [List.getElem?_set_ne (by omega)]; exact x4), (by rw [List.getElem?_set_ne (by omega)]; exact x5), (by rw [List.getElem?_set_ne (by omega)]; exact x6)⟩))
theorem ts_3 {x y : Int} (ht : 12 ≤ t ∧ t ≤ 33) (V : cL h0 h bl t L k v s p f q law st wn op br ls as_ cl ws fr) (hx : wp_r x) (hi : mj_ins m pc = some .iastore) (hr : ∀ h, cL h0 h bl t L k v s p f q law st wn op br ls as_ cl ws fr → wl_R nn d m (pc + 1) lv st0 h Q) : wl_R nn d m pc lv (wp_i y :: wp_i x :: .ref (t + 3) :: st0) h Q := by
  obtain ⟨sz, c1, c3, c4, c5, c6, x0, xz, x1, x2, x3, x4, x5, x6⟩ := V.2.2.2.2.1
  exact wl_as hi x3 hx (fun y1 y2 => hr _ (cl_tx (b := t + 3) ht (by omega) V ⟨sz, c1, _, c4, c5, c6, (by rw [List.getElem?_set_ne (by omega)]; exact x0), xz, (by rw [List.getElem?_set_ne (by omega)]; exact x1), (by rw [List.getElem?_set_ne (by omega)]; exact x2), List.getElem?_set_self (fd_lt x3), (by rw [List.getElem?_set_ne (by omega)]; exact x4), (by rw [List.getElem?_set_ne (by omega)]; exact x5), (by rw [List.getElem?_set_ne (by omega)]; exact x6)⟩))
theorem ts_4 {x y : Int} (ht : 12 ≤ t ∧ t ≤ 33) (V : cL h0 h bl t L k v s p f q law st wn op br ls as_ cl ws fr) (hx : wp_r x) (hi : mj_ins m pc = some .iastore) (hr : ∀ h, cL h0 h bl t L k v s p f q law st wn op br ls as_ cl ws fr → wl_R nn d m (pc + 1) lv st0 h Q) : wl_R nn d m pc lv (wp_i y :: wp_i x :: .ref (t + 4) :: st0) h Q := by
  obtain ⟨sz, c1, c3, c4, c5, c6, x0, xz, x1, x2, x3, x4, x5, x6⟩ := V.2.2.2.2.1
  exact wl_as hi x4 hx (fun y1 y2 => hr _ (cl_tx (b := t + 4) ht (by omega) V ⟨sz, c1, c3, _, c5, c6, (by rw [List.getElem?_set_ne (by omega)]; exact x0), xz, (by rw [List.getElem?_set_ne (by omega)]; exact x1), (by rw [List.getElem?_set_ne (by omega)]; exact x2), (by rw [List.getElem?_set_ne (by omega)]; exact x3), List.getElem?_set_self (fd_lt x4), (by rw [List.getElem?_set_ne (by omega)]; exact x5), (by rw [List.getElem?_set_ne (by omega)]; exact x6)⟩))
theorem ts_5 {x y : Int} (ht : 12 ≤ t ∧ t ≤ 33) (V : cL h0 h bl t L k v s p f q law st wn op br ls as_ cl ws fr) (hx : wp_r x) (hi : mj_ins m pc = some .iastore) (hr : ∀ h, cL h0 h bl t L k v s p f q law st wn op br ls as_ cl ws fr → wl_R nn d m (pc + 1) lv st0 h Q) : wl_R nn d m pc lv (wp_i y :: wp_i x :: .ref (t + 5) :: st0) h Q := by
  obtain ⟨sz, c1, c3, c4, c5, c6, x0, xz, x1, x2, x3, x4, x5, x6⟩ := V.2.2.2.2.1
  exact wl_as hi x5 hx (fun y1 y2 => hr _ (cl_tx (b := t + 5) ht (by omega) V ⟨sz, c1, c3, c4, _, c6, (by rw [List.getElem?_set_ne (by omega)]; exact x0), xz, (by rw [List.getElem?_set_ne (by omega)]; exact x1), (by rw [List.getElem?_set_ne (by omega)]; exact x2), (by rw [List.getElem?_set_ne (by omega)]; exact x3), (by rw [List.getElem?_set_ne (by omega)]; exact x4), List.getElem?_set_self (fd_lt x5), (by rw [List.getElem?_set_ne (by omega)]; exact x6)⟩))
theorem ts_6 {x y : Int} (ht : 12 ≤ t ∧ t ≤ 33) (V : cL h0 h bl t L k v s p f q law st wn op br ls as_ cl ws fr) (hx : wp_r x) (hi : mj_ins m pc = some .iastore) (hr : ∀ h, cL h0 h bl t L k v s p f q law st wn op br ls as_ cl ws fr → wl_R nn d m (pc + 1) lv st0 h Q) : wl_R nn d m pc lv (wp_i y :: wp_i x :: .ref (t + 6) :: st0) h Q := by
  obtain ⟨sz, c1, c3, c4, c5, c6, x0, xz, x1, x2, x3, x4, x5, x6⟩ := V.2.2.2.2.1
  exact wl_as hi x6 hx (fun y1 y2 => hr _ (cl_tx (b := t + 6) ht (by omega) V ⟨sz, c1, c3, c4, c5, _, (by rw [List.getElem?_set_ne (by omega)]; exact x0), xz, (by rw [List.getElem?_set_ne (by omega)]; exact x1), (by rw [List.getElem?_set_ne (by omega)]; exact x2), (by rw [List.getElem?_set_ne (by omega)]; exact x3), (by rw [List.getElem?_set_ne (by omega)]; exact x4), (by rw [List.getElem?_set_ne (by omega)]; exact x5), List.getElem?_set_self (fd_lt x6)⟩))
end WTX
theorem wc_bl {nn d : Nat} {x : Int} {h0 h : mj_H} {bl ws fr : List Value} {t : Nat} {L k v s p f q law st wn op br ls as_ cl : Int} (ht : 12 ≤ t ∧ t ≤ 33) (V : cL h0 h bl t L k v s p f q law st wn op br ls as_ cl ws fr) (hx : 0 ≤ x ∧ x ≤ 2) : wl_R nn d 34 0 [some (.ref t), some (wp_i x)] [] h (fun w h1 => w = none ∧ ∃ z : Int, (0 ≤ z ∧ z ≤ 300) ∧ cL h0 h1 bl t L k v s p f q law st wn op br ls as_ cl ws (fr.set x.toNat (wp_i z))) := by
  refine wl_s (pc' := 1) ji_34_0 rfl rfl rfl ?_
  refine tg_r (j := 2) V ji_34_1 jf_34_21 (fun _ => rfl) ?_
  refine wl_s (pc' := 5) ji_34_4 rfl rfl rfl ?_
  refine wl_s (pc' := 6) ji_34_5 rfl rfl rfl ?_
  refine tg_z V ji_34_6 jf_34_17 (fun sz1 hsz1 => ?_)
  refine ts_2 (x := x) (y := sz1) ht V (by omega) ji_34_9 (fun h x1 x2 V => ?_)
  refine wl_s (pc' := 11) ji_34_10 rfl rfl rfl ?_
  refine tg_r (j := 3) V ji_34_11 jf_34_24 (fun _ => rfl) ?_
  refine wl_s (pc' := 15) ji_34_14 rfl rfl rfl ?_
  refine wl_s (pc' := 16) ji_34_15 rfl rfl rfl ?_
  refine tg_z V ji_34_16 jf_34_17 (fun sz2 hsz2 => ?_)
  refine ts_3 (x := x) (y := sz2) ht V (by omega) ji_34_19 (fun h V => ?_)
  exact wl_rv ji_34_20 jr_34 ⟨rfl, sz1, by omega, V⟩
theorem wc_el {nn d : Nat} {x : Int} {h0 h : mj_H} {bl ws fr : List Value} {t : Nat} {L k v s p f q law st wn op br ls as_ cl : Int} (ht : 12 ≤ t ∧ t ≤ 33) (V : cL h0 h bl t L k v s p f q law st wn op br ls as_ cl ws fr) (hx : 0 ≤ x ∧ x ≤ 2) : wl_R nn d 49 0 [some (.ref t), some (wp_i x)] [] h (fun w h1 => w = none ∧ cL h0 h1 bl t L k v s p f q law st wn op br ls as_ cl ws fr) := by
  refine wl_s (pc' := 1) ji_49_0 rfl rfl rfl ?_
  refine tg_r (j := 3) V ji_49_1 jf_49_24 (fun _ => rfl) ?_
  refine wl_s (pc' := 5) ji_49_4 rfl rfl rfl ?_
  refine wl_s (pc' := 6) ji_49_5 rfl rfl rfl ?_
  refine tg_z V ji_49_6 jf_49_17 (fun sz1 hsz1 => ?_)
  refine ts_3 (x := x) (y := sz1) ht V (by omega) ji_49_9 (fun h V => ?_)
  exact wl_rv ji_49_10 jr_49 ⟨rfl, V⟩
theorem wc_ac {nn d : Nat} {a b c : Int} {h0 h : mj_H} {bl ws fr : List Value} {t : Nat} {L k v s p f q law st wn op br ls as_ cl : Int} (ht : 12 ≤ t ∧ t ≤ 33) (V : cL h0 h bl t L k v s p f q law st wn op br ls as_ cl ws fr) (hcl : 0 ≤ cl ∧ cl ≤ 23) : wl_R nn d 50 0 [some (.ref t), some (wp_i a), some (wp_i b), some (wp_i c)] [] h (fun w h1 => w = none ∧ cL h0 h1 bl t L k v s p f q law st wn op br ls as_ (cl + 1) ws fr) := by
  refine wl_s (pc' := 1) ji_50_0 rfl rfl rfl ?_
  refine tg_c V ji_50_1 jf_50_36 ?_
  refine wl_bp ji_50_4 rfl ?_
  refine wl_icmp (t := 49) ji_50_6 rfl (by omega) (by omega) (fun (hb1 : (24 : Int) ≤ cl) => (by exfalso; omega)) (fun (hb1 : ¬ ((24 : Int) ≤ cl)) => ?_)
  refine wl_s (pc' := 10) ji_50_9 rfl rfl rfl ?_
  refine tg_r (j := 4) V ji_50_10 jf_50_27 (fun _ => rfl) ?_
  refine wl_s (pc' := 14) ji_50_13 rfl rfl rfl ?_
  refine tg_c V ji_50_14 jf_50_36 ?_
  refine wl_s (pc' := 18) ji_50_17 rfl rfl rfl ?_
  refine ts_4 (x := cl) (y := a) ht V (by omega) ji_50_18 (fun h V => ?_)
  refine wl_s (pc' := 20) ji_50_19 rfl rfl rfl ?_
  refine tg_r (j := 5) V ji_50_20 jf_50_30 (fun _ => rfl) ?_
  refine wl_s (pc' := 24) ji_50_23 rfl rfl rfl ?_
  refine tg_c V ji_50_24 jf_50_36 ?_
  refine wl_s (pc' := 28) ji_50_27 rfl rfl rfl ?_
  refine ts_5 (x := cl) (y := b) ht V (by omega) ji_50_28 (fun h V => ?_)
  refine wl_s (pc' := 30) ji_50_29 rfl rfl rfl ?_
  refine tg_r (j := 6) V ji_50_30 jf_50_33 (fun _ => rfl) ?_
  refine wl_s (pc' := 34) ji_50_33 rfl rfl rfl ?_
  refine tg_c V ji_50_34 jf_50_36 ?_
  refine wl_s (pc' := 38) ji_50_37 rfl rfl rfl ?_
  refine ts_6 (x := cl) (y := c) ht V (by omega) ji_50_38 (fun h V => ?_)
  refine wl_s (pc' := 40) ji_50_39 rfl rfl rfl ?_
  refine wl_s (pc' := 41) ji_50_40 rfl rfl rfl ?_
  refine tg_c V ji_50_41 jf_50_36 ?_
  refine wl_s (pc' := 45) ji_50_44 rfl rfl rfl ?_
  refine wl_iadd (x := cl) (y := 1) (z := cl + 1) ji_50_45 (by omega) ?_
  refine tp_c (y := cl + 1) ht V ji_50_46 jf_50_36 (fun h V => ?_)
  exact wl_rv ji_50_49 jr_50 ⟨rfl, V⟩
theorem wc_hs {nn d : Nat} {x : Int} {h0 h : mj_H} {bl ws fr : List Value} {t : Nat} {L k v s p f q law st wn op br ls as_ cl : Int} (ht : 12 ≤ t ∧ t ≤ 33) (V : cL h0 h bl t L k v s p f q law st wn op br ls as_ cl ws fr) (hx : 0 ≤ x ∧ x ≤ 2) (hfr : ∀ j, j < 3 → fr[j]? = some (wp_i (sx_el fr j))) : wl_R nn d 32 0 [some (.ref t), some (wp_i x)] [] h (fun w h1 => h1 = h ∧ ∃ y : Int, w = some (wp_i y) ∧ (y = 0 ∨ y = 1) ∧ (y = 1 ↔ ¬ sx_el fr x.toNat = -1)) := by
  have hel := el_r fr x.toNat
  refine wl_s (pc' := 1) ji_32_0 rfl rfl rfl ?_
  refine tg_r (j := 2) V ji_32_1 jf_32_21 (fun _ => rfl) ?_
  refine wl_s (pc' := 5) ji_32_4 rfl rfl rfl ?_
  obtain ⟨sz, c1, c3, c4, c5, c6, x0, xz, x1, x2, x3, x4, x5, x6⟩ := V.2.2.2.2.1
  refine wl_al ji_32_5 x2 (by omega) (fun y y1 y2 y3 => ?_)
  rw [hfr x.toNat (by omega)] at y3
  cases y3
  refine wl_s (pc' := 7) ji_32_6 rfl rfl rfl ?_
  refine wl_icmp (t := 14) ji_32_7 rfl (by omega) (by omega) (fun (hb1 : (sx_el fr x.toNat : Int) = (-1)) => ?_) (fun (hb1 : ¬ ((sx_el fr x.toNat : Int) = (-1))) => ?_)
  · refine wl_s (pc' := 15) ji_32_14 rfl rfl rfl ?_
    exact wl_ri ji_32_15 jr_32 rfl ⟨rfl, 0, rfl, by omega, by omega⟩
  · refine wl_s (pc' := 11) ji_32_10 rfl rfl rfl ?_
    refine wl_goto (t := 15) ji_32_11 rfl ?_
    exact wl_ri ji_32_15 jr_32 rfl ⟨rfl, 1, rfl, by omega, by omega⟩
theorem wc_rl {n d : Nat} {h0 h : mj_H} {bl ws fr : List Value} {t : Nat} {L k v s p q law st wn op br ls as_ cl x : Int} (D : tB bl) (hL : 0 ≤ L ∧ L ≤ 300) (H8 : h0[8]? = some (900, tk_V)) (ht : 12 ≤ t ∧ t ≤ 33) (V : cL h0 h bl t L k v s p 0 q law st wn op br ls as_ cl ws fr) (hx : 0 ≤ x ∧ x ≤ 2) (hls : 0 ≤ ls ∧ ls ≤ 6) (hp : 1 ≤ p ∧ p ≤ L) (hcl : 0 ≤ cl ∧ cl ≤ 23) : wl_R n (d + 4) 33 0 [some (.ref 93), some (wp_i x), none] [] h (fun v1 h1 => v1 = none ∧ ∃ (k' v' q' r' f' st' : Int) (w' : List Int) (ls' as' z : Int) (m : Nat), lr (bt bl L) x m p (if x = 2 then 0 else 1) [] ls 0 f' q' r' ∧ (0 ≤ z ∧ z ≤ 300) ∧ (0 ≤ q' ∧ p ≤ q' ∧ q' ≤ r' ∧ r' ≤ L) ∧ (f' = 0 → 0 ≤ ls' ∧ ls' ≤ 6) ∧ cH h0 h1 bl t L k' v' q' r' f' (if f' = 0 then q else q') x st' w' ls' as' (cl + 1) (fr.set x.toNat (wp_i z))) := by
  refine wl_s (pc' := 1) ji_33_0 rfl rfl rfl ?_
  refine wl_s (pc' := 2) ji_33_1 rfl rfl rfl ?_
  refine cl_p (y := x) (f' := 0) (q' := q) (law' := x) (st' := st) (wn' := wn) (op' := op) (br' := br) (ls' := ls) (as_' := as_) ht V ji_33_2 jf_33_22 (by decide) rfl rfl rfl (fun h V => ?_)
  refine wl_s (pc' := 6) ji_33_5 rfl rfl rfl ?_
  refine wl_s (pc' := 7) ji_33_6 rfl rfl rfl ?_
  refine cl_p (y := 0) (f' := 0) (q' := q) (law' := x) (st' := st) (wn' := 0) (op' := op) (br' := br) (ls' := ls) (as_' := as_) ht V ji_33_7 jf_33_32 (by decide) rfl rfl rfl (fun h V => ?_)
  refine wl_s (pc' := 11) ji_33_10 rfl rfl rfl ?_
  refine wl_s (pc' := 12) ji_33_11 rfl rfl rfl ?_
  refine cl_p (y := 0) (f' := 0) (q' := q) (law' := x) (st' := st) (wn' := 0) (op' := 0) (br' := br) (ls' := ls) (as_' := as_) ht V ji_33_12 jf_33_35 (by decide) rfl rfl rfl (fun h V => ?_)
  refine wl_s (pc' := 16) ji_33_15 rfl rfl rfl ?_
  refine wl_s (pc' := 17) ji_33_16 rfl rfl rfl ?_
  refine cl_p (y := 0) (f' := 0) (q' := q) (law' := x) (st' := st) (wn' := 0) (op' := 0) (br' := 0) (ls' := ls) (as_' := as_) ht V ji_33_17 jf_33_38 (by decide) rfl rfl rfl (fun h V => ?_)
  refine wl_s (pc' := 21) ji_33_20 rfl rfl rfl ?_
  refine wl_s (pc' := 22) ji_33_21 rfl rfl rfl ?_
  refine cl_p (y := 0) (f' := 0) (q' := q) (law' := x) (st' := st) (wn' := 0) (op' := 0) (br' := 0) (ls' := ls) (as_' := 0) ht V ji_33_22 jf_33_44 (by decide) rfl rfl rfl (fun h V => ?_)
  refine wl_s (pc' := 26) ji_33_25 rfl rfl rfl ?_
  refine wl_s (pc' := 27) ji_33_26 rfl rfl rfl ?_
  refine cl_g V ji_33_27 jf_33_22 rfl ?_
  refine wl_s (pc' := 31) ji_33_30 rfl rfl rfl ?_
  refine wl_icmp (t := 38) ji_33_31 rfl (by omega) (by omega) (fun (hb1 : ¬ (x : Int) = 2) => ?_) (fun (hb1 : ¬ (¬ (x : Int) = 2)) => ?_)
  · refine wl_s (pc' := 39) ji_33_38 rfl rfl rfl ?_
    refine cl_p (y := 1) (f' := 0) (q' := q) (law' := x) (st' := 1) (wn' := 0) (op' := 0) (br' := 0) (ls' := ls) (as_' := 0) ht V ji_33_39 jf_33_25 (by decide) rfl rfl rfl (fun h V => ?_)
    refine wl_s (pc' := 43) ji_33_42 rfl rfl rfl ?_
    refine cl_g V ji_33_43 jf_33_51 rfl ?_
    refine wl_s (pc' := 47) ji_33_46 rfl rfl rfl ?_
    refine cl_g V ji_33_47 jf_33_22 rfl ?_
    obtain ⟨tfs, htc⟩ := cl_tc V
    refine wl_vc (d := d + 3) (as := [.ref t, wp_i x]) (rest := []) ji_33_50 jc_33_124 rfl htc jk_34.symm (Nat.le_of_ble_eq_true rfl) rfl (by rw [jn_34]; rfl) (wc_bl ht V (by omega)) (fun v1 h1 R => ?_)
    obtain ⟨rfl, z, hz, V⟩ := R
    show wl_R _ (d + 4) 33 53 [some (.ref 93), some (wp_i x), none] [] h1 _
    refine wl_s (pc' := 54) ji_33_53 rfl rfl rfl ?_
    refine wl_s (pc' := 55) (lv' := [some (.ref 93), some (wp_i x), some (wp_i 0)]) ji_33_54 rfl rfl rfl ?_
    have hK : cI x 1 [] ls 0 := ⟨trivial, by decide, Or.inl rfl, fun _ c hc => (by cases hc), hls, by omega, fun z => ⟨by omega, rfl, by decide⟩⟩
    refine wc_law (d := d) (law := x) D hL H8 ht hx n _ 0 k v s p 1 [] ls 0 hK ⟨ws, trivial, by decide, V⟩ (by omega) (by omega) (fun h i k' v' q' r' f' st' w' ls' as' m lrn hq hl V => ?_)
    obtain ⟨ws2, e2, hlen2, V⟩ := V
    refine wl_s (pc' := 132) ji_33_131 rfl rfl rfl ?_
    refine cl_g V ji_33_132 jf_33_51 rfl ?_
    refine wl_s (pc' := 136) ji_33_135 rfl rfl rfl ?_
    refine cl_g V ji_33_136 jf_33_22 rfl ?_
    obtain ⟨tfs, htc⟩ := cl_tc V
    refine wl_vc (d := d + 3) (as := [.ref t, wp_i x]) (rest := []) ji_33_139 jc_33_136 rfl htc jk_49.symm (Nat.le_of_ble_eq_true rfl) rfl (by rw [jn_49]; rfl) (wc_el ht V (by omega)) (fun v9 h9 R => ?_)
    obtain ⟨rfl, V⟩ := R
    show wl_R _ (d + 4) 33 142 [some (.ref 93), some (wp_i x), some (wp_i i)] [] h9 _
    refine wl_s (pc' := 143) ji_33_142 rfl rfl rfl ?_
    refine cl_g V ji_33_143 jf_33_51 rfl ?_
    refine wl_s (pc' := 147) ji_33_146 rfl rfl rfl ?_
    refine cl_g V ji_33_147 jf_33_22 rfl ?_
    refine wl_s (pc' := 151) ji_33_150 rfl rfl rfl ?_
    refine wl_s (pc' := 152) ji_33_151 rfl rfl rfl ?_
    obtain ⟨tfs2, htc2⟩ := cl_tc V
    refine wl_vc (d := d + 3) (as := [.ref t, wp_i x, wp_i 0, wp_i 0]) (rest := []) ji_33_152 jc_33_120 rfl htc2 jk_50.symm (Nat.le_of_ble_eq_true rfl) rfl (by rw [jn_50]; rfl) (wc_ac ht V hcl) (fun v9 h8 R => ?_)
    obtain ⟨rfl, V⟩ := R
    exact wl_rv ji_33_155 jr_33 ⟨rfl, k', v', q', r', f', st', w', ls', as', z, m, (by rw [if_neg (by omega)]; exact lrn), hz, hq, hl, ws2, e2, hlen2, V⟩
  · refine wl_s (pc' := 35) ji_33_34 rfl rfl rfl ?_
    refine wl_goto (t := 39) ji_33_35 rfl ?_
    refine cl_p (y := 0) (f' := 0) (q' := q) (law' := x) (st' := 0) (wn' := 0) (op' := 0) (br' := 0) (ls' := ls) (as_' := 0) ht V ji_33_39 jf_33_25 (by decide) rfl rfl rfl (fun h V => ?_)
    refine wl_s (pc' := 43) ji_33_42 rfl rfl rfl ?_
    refine cl_g V ji_33_43 jf_33_51 rfl ?_
    refine wl_s (pc' := 47) ji_33_46 rfl rfl rfl ?_
    refine cl_g V ji_33_47 jf_33_22 rfl ?_
    obtain ⟨tfs, htc⟩ := cl_tc V
    refine wl_vc (d := d + 3) (as := [.ref t, wp_i x]) (rest := []) ji_33_50 jc_33_124 rfl htc jk_34.symm (Nat.le_of_ble_eq_true rfl) rfl (by rw [jn_34]; rfl) (wc_bl ht V (by omega)) (fun v1 h1 R => ?_)
    obtain ⟨rfl, z, hz, V⟩ := R
    show wl_R _ (d + 4) 33 53 [some (.ref 93), some (wp_i x), none] [] h1 _
    refine wl_s (pc' := 54) ji_33_53 rfl rfl rfl ?_
    refine wl_s (pc' := 55) (lv' := [some (.ref 93), some (wp_i x), some (wp_i 0)]) ji_33_54 rfl rfl rfl ?_
    have hK : cI x 0 [] ls 0 := ⟨trivial, by decide, Or.inl rfl, fun _ c hc => (by cases hc), hls, by omega, fun z => ⟨by omega, rfl, by decide⟩⟩
    refine wc_law (d := d) (law := x) D hL H8 ht hx n _ 0 k v s p 0 [] ls 0 hK ⟨ws, trivial, by decide, V⟩ (by omega) (by omega) (fun h i k' v' q' r' f' st' w' ls' as' m lrn hq hl V => ?_)
    obtain ⟨ws2, e2, hlen2, V⟩ := V
    refine wl_s (pc' := 132) ji_33_131 rfl rfl rfl ?_
    refine cl_g V ji_33_132 jf_33_51 rfl ?_
    refine wl_s (pc' := 136) ji_33_135 rfl rfl rfl ?_
    refine cl_g V ji_33_136 jf_33_22 rfl ?_
    obtain ⟨tfs, htc⟩ := cl_tc V
    refine wl_vc (d := d + 3) (as := [.ref t, wp_i x]) (rest := []) ji_33_139 jc_33_136 rfl htc jk_49.symm (Nat.le_of_ble_eq_true rfl) rfl (by rw [jn_49]; rfl) (wc_el ht V (by omega)) (fun v9 h9 R => ?_)
    obtain ⟨rfl, V⟩ := R
    show wl_R _ (d + 4) 33 142 [some (.ref 93), some (wp_i x), some (wp_i i)] [] h9 _
    refine wl_s (pc' := 143) ji_33_142 rfl rfl rfl ?_
    refine cl_g V ji_33_143 jf_33_51 rfl ?_
    refine wl_s (pc' := 147) ji_33_146 rfl rfl rfl ?_
    refine cl_g V ji_33_147 jf_33_22 rfl ?_
    refine wl_s (pc' := 151) ji_33_150 rfl rfl rfl ?_
    refine wl_s (pc' := 152) ji_33_151 rfl rfl rfl ?_
    obtain ⟨tfs2, htc2⟩ := cl_tc V
    refine wl_vc (d := d + 3) (as := [.ref t, wp_i x, wp_i 0, wp_i 0]) (rest := []) ji_33_152 jc_33_120 rfl htc2 jk_50.symm (Nat.le_of_ble_eq_true rfl) rfl (by rw [jn_50]; rfl) (wc_ac ht V hcl) (fun v9 h8 R => ?_)
    obtain ⟨rfl, V⟩ := R
    exact wl_rv ji_33_155 jr_33 ⟨rfl, k', v', q', r', f', st', w', ls', as', z, m, (by rw [if_pos (by omega)]; exact lrn), hz, hq, hl, ws2, e2, hlen2, V⟩
