/-! -/
set_option maxRecDepth 100000 in
theorem ji_31_0 : mj_ins 31 0 = some (.aload_n 0) := by decide +kernel
set_option maxRecDepth 100000 in
theorem ji_31_1 : mj_ins 31 1 = some (.iload_n 1) := by decide +kernel
set_option maxRecDepth 100000 in
theorem ji_31_2 : mj_ins 31 2 = some (.putfield 15) := by decide +kernel
set_option maxRecDepth 100000 in
theorem jf_31_15 : mj_fld 31 15 = some (9, 3, .int, true) := by decide +kernel
set_option maxRecDepth 100000 in
theorem ji_31_5 : mj_ins 31 5 = some (.aload_n 0) := by decide +kernel
set_option maxRecDepth 100000 in
theorem ji_31_6 : mj_ins 31 6 = some (.aload_n 0) := by decide +kernel
set_option maxRecDepth 100000 in
theorem ji_31_7 : mj_ins 31 7 = some (.getfield 47) := by decide +kernel
set_option maxRecDepth 100000 in
theorem jf_31_47 : mj_fld 31 47 = some (9, 0, (.object "ForestOfPoles$Tape"), false) := by decide +kernel
set_option maxRecDepth 100000 in
theorem ji_31_10 : mj_ins 31 10 = some (.getfield 74) := by decide +kernel
set_option maxRecDepth 100000 in
theorem jf_31_74 : mj_fld 31 74 = some (8, 4, .int, true) := by decide +kernel
set_option maxRecDepth 100000 in
theorem ji_31_13 : mj_ins 31 13 = some (.putfield 19) := by decide +kernel
set_option maxRecDepth 100000 in
theorem jf_31_19 : mj_fld 31 19 = some (9, 4, .int, true) := by decide +kernel
set_option maxRecDepth 100000 in
theorem ji_31_16 : mj_ins 31 16 = some (.return_) := by decide +kernel
set_option maxRecDepth 100000 in
theorem jr_31 : mj_ret 31 = none := by decide +kernel
set_option maxRecDepth 100000 in
theorem ji_36_0 : mj_ins 36 0 = some (.aload_n 0) := by decide +kernel
set_option maxRecDepth 100000 in
theorem ji_36_1 : mj_ins 36 1 = some (.getfield 17) := by decide +kernel
set_option maxRecDepth 100000 in
theorem jf_36_17 : mj_fld 36 17 = some (1, 1, .int, true) := by decide +kernel
set_option maxRecDepth 100000 in
theorem ji_36_4 : mj_ins 36 4 = some (.sipush 300) := by decide +kernel
set_option maxRecDepth 100000 in
theorem ji_36_7 : mj_ins 36 7 = some (.if_icmp .ge 23) := by decide +kernel
set_option maxRecDepth 100000 in
theorem ji_36_30 : mj_ins 36 30 = some (.return_) := by decide +kernel
set_option maxRecDepth 100000 in
theorem jr_36 : mj_ret 36 = none := by decide +kernel
set_option maxRecDepth 100000 in
theorem ji_36_10 : mj_ins 36 10 = some (.aload_n 0) := by decide +kernel
set_option maxRecDepth 100000 in
theorem ji_36_11 : mj_ins 36 11 = some (.getfield 11) := by decide +kernel
set_option maxRecDepth 100000 in
theorem jf_36_11 : mj_fld 36 11 = some (1, 0, (.array .int), false) := by decide +kernel
set_option maxRecDepth 100000 in
theorem ji_36_14 : mj_ins 36 14 = some (.aload_n 0) := by decide +kernel
set_option maxRecDepth 100000 in
theorem ji_36_15 : mj_ins 36 15 = some (.getfield 17) := by decide +kernel
set_option maxRecDepth 100000 in
theorem ji_36_18 : mj_ins 36 18 = some (.iload_n 1) := by decide +kernel
set_option maxRecDepth 100000 in
theorem ji_36_19 : mj_ins 36 19 = some (.iastore) := by decide +kernel
set_option maxRecDepth 100000 in
theorem ji_36_20 : mj_ins 36 20 = some (.aload_n 0) := by decide +kernel
set_option maxRecDepth 100000 in
theorem ji_36_21 : mj_ins 36 21 = some (.dup) := by decide +kernel
set_option maxRecDepth 100000 in
theorem ji_36_22 : mj_ins 36 22 = some (.getfield 17) := by decide +kernel
set_option maxRecDepth 100000 in
theorem ji_36_25 : mj_ins 36 25 = some (.iconst 1) := by decide +kernel
set_option maxRecDepth 100000 in
theorem ji_36_26 : mj_ins 36 26 = some (.iadd) := by decide +kernel
set_option maxRecDepth 100000 in
theorem ji_36_27 : mj_ins 36 27 = some (.putfield 17) := by decide +kernel
set_option maxRecDepth 100000 in
theorem ji_43_124 : mj_ins 43 124 = some (.iconst 1) := by decide +kernel
set_option maxRecDepth 100000 in
theorem ji_43_125 : mj_ins 43 125 = some (.ireturn) := by decide +kernel
set_option maxRecDepth 100000 in
theorem jr_43 : mj_ret 43 = some .int := by decide +kernel
set_option maxRecDepth 100000 in
theorem ji_43_126 : mj_ins 43 126 = some (.iconst 2) := by decide +kernel
set_option maxRecDepth 100000 in
theorem ji_43_127 : mj_ins 43 127 = some (.ireturn) := by decide +kernel
set_option maxRecDepth 100000 in
theorem ji_43_128 : mj_ins 43 128 = some (.iconst 3) := by decide +kernel
set_option maxRecDepth 100000 in
theorem ji_43_129 : mj_ins 43 129 = some (.ireturn) := by decide +kernel
set_option maxRecDepth 100000 in
theorem ji_43_130 : mj_ins 43 130 = some (.iconst 4) := by decide +kernel
set_option maxRecDepth 100000 in
theorem ji_43_131 : mj_ins 43 131 = some (.ireturn) := by decide +kernel
set_option maxRecDepth 100000 in
theorem ji_43_132 : mj_ins 43 132 = some (.iconst 5) := by decide +kernel
set_option maxRecDepth 100000 in
theorem ji_43_133 : mj_ins 43 133 = some (.ireturn) := by decide +kernel
set_option maxRecDepth 100000 in
theorem ji_43_134 : mj_ins 43 134 = some (.bipush 6) := by decide +kernel
set_option maxRecDepth 100000 in
theorem ji_43_136 : mj_ins 43 136 = some (.ireturn) := by decide +kernel
set_option maxRecDepth 100000 in
theorem ji_43_137 : mj_ins 43 137 = some (.bipush 7) := by decide +kernel
set_option maxRecDepth 100000 in
theorem ji_43_139 : mj_ins 43 139 = some (.ireturn) := by decide +kernel
set_option maxRecDepth 100000 in
theorem ji_43_140 : mj_ins 43 140 = some (.iconst 0) := by decide +kernel
set_option maxRecDepth 100000 in
theorem ji_43_141 : mj_ins 43 141 = some (.ireturn) := by decide +kernel
set_option maxRecDepth 100000 in
theorem ji_43_0 : mj_ins 43 0 = some (.iload_n 0) := by decide +kernel
set_option maxRecDepth 100000 in
theorem ji_43_1 : mj_ins 43 1 = some (.lookupswitch 139 #[(33, 127), (35, 129), (38, 125), (42, 133), (43, 131), (45, 131), (47, 133), (60, 129), (61, 129), (62, 129), (103, 129), (108, 129), (110, 136), (124, 123)]) := by decide +kernel
set_option maxRecDepth 100000 in
theorem jn_43 : mj_nl 43 = 1 := by decide +kernel
set_option maxRecDepth 100000 in
theorem jn_36 : mj_nl 36 = 2 := by decide +kernel
set_option maxRecDepth 100000 in
theorem jk_36 : mj_cls 36 = 1 := by decide +kernel
set_option maxRecDepth 100000 in
theorem jn_31 : mj_nl 31 = 2 := by decide +kernel
set_option maxRecDepth 100000 in
theorem jk_31 : mj_cls 31 = 9 := by decide +kernel
set_option maxRecDepth 100000 in
theorem ji_39_0 : mj_ins 39 0 = some (.aload_n 0) := by decide +kernel
set_option maxRecDepth 100000 in
theorem ji_39_1 : mj_ins 39 1 = some (.getfield 32) := by decide +kernel
set_option maxRecDepth 100000 in
theorem jf_39_32 : mj_fld 39 32 = some (9, 8, .int, true) := by decide +kernel
set_option maxRecDepth 100000 in
theorem ji_39_4 : mj_ins 39 4 = some (.bipush 40) := by decide +kernel
set_option maxRecDepth 100000 in
theorem ji_39_6 : mj_ins 39 6 = some (.if_icmp .ge 23) := by decide +kernel
set_option maxRecDepth 100000 in
theorem ji_39_9 : mj_ins 39 9 = some (.aload_n 0) := by decide +kernel
set_option maxRecDepth 100000 in
theorem ji_39_10 : mj_ins 39 10 = some (.getfield 28) := by decide +kernel
set_option maxRecDepth 100000 in
theorem jf_39_28 : mj_fld 39 28 = some (9, 7, (.array .int), false) := by decide +kernel
set_option maxRecDepth 100000 in
theorem ji_39_13 : mj_ins 39 13 = some (.aload_n 0) := by decide +kernel
set_option maxRecDepth 100000 in
theorem ji_39_14 : mj_ins 39 14 = some (.getfield 32) := by decide +kernel
set_option maxRecDepth 100000 in
theorem ji_39_17 : mj_ins 39 17 = some (.iload_n 1) := by decide +kernel
set_option maxRecDepth 100000 in
theorem ji_39_18 : mj_ins 39 18 = some (.iastore) := by decide +kernel
set_option maxRecDepth 100000 in
theorem ji_39_19 : mj_ins 39 19 = some (.aload_n 0) := by decide +kernel
set_option maxRecDepth 100000 in
theorem ji_39_20 : mj_ins 39 20 = some (.dup) := by decide +kernel
set_option maxRecDepth 100000 in
theorem ji_39_21 : mj_ins 39 21 = some (.getfield 32) := by decide +kernel
set_option maxRecDepth 100000 in
theorem ji_39_24 : mj_ins 39 24 = some (.iconst 1) := by decide +kernel
set_option maxRecDepth 100000 in
theorem ji_39_25 : mj_ins 39 25 = some (.iadd) := by decide +kernel
set_option maxRecDepth 100000 in
theorem ji_39_26 : mj_ins 39 26 = some (.putfield 32) := by decide +kernel
set_option maxRecDepth 100000 in
theorem ji_39_29 : mj_ins 39 29 = some (.return_) := by decide +kernel
set_option maxRecDepth 100000 in
theorem jr_39 : mj_ret 39 = none := by decide +kernel
set_option maxRecDepth 100000 in
theorem ji_45_0 : mj_ins 45 0 = some (.aload_n 0) := by decide +kernel
set_option maxRecDepth 100000 in
theorem ji_45_1 : mj_ins 45 1 = some (.getfield 32) := by decide +kernel
set_option maxRecDepth 100000 in
theorem jf_45_32 : mj_fld 45 32 = some (9, 8, .int, true) := by decide +kernel
set_option maxRecDepth 100000 in
theorem ji_45_4 : mj_ins 45 4 = some (.ifCond .le 78) := by decide +kernel
set_option maxRecDepth 100000 in
theorem ji_45_7 : mj_ins 45 7 = some (.aload_n 0) := by decide +kernel
set_option maxRecDepth 100000 in
theorem ji_45_8 : mj_ins 45 8 = some (.getfield 28) := by decide +kernel
set_option maxRecDepth 100000 in
theorem jf_45_28 : mj_fld 45 28 = some (9, 7, (.array .int), false) := by decide +kernel
set_option maxRecDepth 100000 in
theorem ji_45_11 : mj_ins 45 11 = some (.aload_n 0) := by decide +kernel
set_option maxRecDepth 100000 in
theorem ji_45_12 : mj_ins 45 12 = some (.getfield 32) := by decide +kernel
set_option maxRecDepth 100000 in
theorem ji_45_15 : mj_ins 45 15 = some (.iconst 1) := by decide +kernel
set_option maxRecDepth 100000 in
theorem ji_45_16 : mj_ins 45 16 = some (.isub) := by decide +kernel
set_option maxRecDepth 100000 in
theorem ji_45_17 : mj_ins 45 17 = some (.iaload) := by decide +kernel
set_option maxRecDepth 100000 in
theorem ji_45_18 : mj_ins 45 18 = some (.invokestatic 155) := by decide +kernel
set_option maxRecDepth 100000 in
theorem jc_45_155 : mj_cal 45 155 = some (1, 43, 1) := by decide +kernel
set_option maxRecDepth 100000 in
theorem ji_45_21 : mj_ins 45 21 = some (.iload_n 1) := by decide +kernel
set_option maxRecDepth 100000 in
theorem ji_45_22 : mj_ins 45 22 = some (.if_icmp .lt 60) := by decide +kernel
set_option maxRecDepth 100000 in
theorem ji_45_82 : mj_ins 45 82 = some (.return_) := by decide +kernel
set_option maxRecDepth 100000 in
theorem jr_45 : mj_ret 45 = none := by decide +kernel
set_option maxRecDepth 100000 in
theorem ji_45_25 : mj_ins 45 25 = some (.aload_n 0) := by decide +kernel
set_option maxRecDepth 100000 in
theorem ji_45_26 : mj_ins 45 26 = some (.dup) := by decide +kernel
set_option maxRecDepth 100000 in
theorem ji_45_27 : mj_ins 45 27 = some (.getfield 32) := by decide +kernel
set_option maxRecDepth 100000 in
theorem ji_45_30 : mj_ins 45 30 = some (.iconst 1) := by decide +kernel
set_option maxRecDepth 100000 in
theorem ji_45_31 : mj_ins 45 31 = some (.isub) := by decide +kernel
set_option maxRecDepth 100000 in
theorem ji_45_32 : mj_ins 45 32 = some (.putfield 32) := by decide +kernel
set_option maxRecDepth 100000 in
theorem ji_45_35 : mj_ins 45 35 = some (.aload_n 0) := by decide +kernel
set_option maxRecDepth 100000 in
theorem ji_45_36 : mj_ins 45 36 = some (.getfield 28) := by decide +kernel
set_option maxRecDepth 100000 in
theorem ji_45_39 : mj_ins 45 39 = some (.aload_n 0) := by decide +kernel
set_option maxRecDepth 100000 in
theorem ji_45_40 : mj_ins 45 40 = some (.getfield 32) := by decide +kernel
set_option maxRecDepth 100000 in
theorem ji_45_43 : mj_ins 45 43 = some (.iaload) := by decide +kernel
set_option maxRecDepth 100000 in
theorem ji_45_44 : mj_ins 45 44 = some (.istore_n 2) := by decide +kernel
set_option maxRecDepth 100000 in
theorem ji_45_45 : mj_ins 45 45 = some (.iload_n 2) := by decide +kernel
set_option maxRecDepth 100000 in
theorem ji_45_46 : mj_ins 45 46 = some (.bipush 110) := by decide +kernel
set_option maxRecDepth 100000 in
theorem ji_45_48 : mj_ins 45 48 = some (.if_icmp .eq 9) := by decide +kernel
set_option maxRecDepth 100000 in
theorem ji_45_57 : mj_ins 45 57 = some (.aload_n 0) := by decide +kernel
set_option maxRecDepth 100000 in
theorem ji_45_58 : mj_ins 45 58 = some (.dup) := by decide +kernel
set_option maxRecDepth 100000 in
theorem ji_45_59 : mj_ins 45 59 = some (.getfield 35) := by decide +kernel
set_option maxRecDepth 100000 in
theorem jf_45_35 : mj_fld 45 35 = some (9, 9, .int, true) := by decide +kernel
set_option maxRecDepth 100000 in
theorem ji_45_62 : mj_ins 45 62 = some (.iconst 1) := by decide +kernel
set_option maxRecDepth 100000 in
theorem ji_45_63 : mj_ins 45 63 = some (.isub) := by decide +kernel
set_option maxRecDepth 100000 in
theorem ji_45_64 : mj_ins 45 64 = some (.putfield 35) := by decide +kernel
set_option maxRecDepth 100000 in
theorem ji_45_67 : mj_ins 45 67 = some (.aload_n 0) := by decide +kernel
set_option maxRecDepth 100000 in
theorem ji_45_68 : mj_ins 45 68 = some (.getfield 51) := by decide +kernel
set_option maxRecDepth 100000 in
theorem jf_45_51 : mj_fld 45 51 = some (9, 1, (.object "ForestOfPoles$Text"), true) := by decide +kernel
set_option maxRecDepth 100000 in
theorem ji_45_71 : mj_ins 45 71 = some (.sipush 20000) := by decide +kernel
set_option maxRecDepth 100000 in
theorem ji_45_74 : mj_ins 45 74 = some (.iload_n 2) := by decide +kernel
set_option maxRecDepth 100000 in
theorem ji_45_75 : mj_ins 45 75 = some (.iadd) := by decide +kernel
set_option maxRecDepth 100000 in
theorem ji_45_76 : mj_ins 45 76 = some (.invokevirtual 139) := by decide +kernel
set_option maxRecDepth 100000 in
theorem jc_45_139 : mj_cal 45 139 = some (2, 36, 1) := by decide +kernel
set_option maxRecDepth 100000 in
theorem ji_45_79 : mj_ins 45 79 = some (.goto (-79)) := by decide +kernel
set_option maxRecDepth 100000 in
theorem ji_45_51 : mj_ins 45 51 = some (.iload_n 2) := by decide +kernel
set_option maxRecDepth 100000 in
theorem ji_45_52 : mj_ins 45 52 = some (.bipush 33) := by decide +kernel
set_option maxRecDepth 100000 in
theorem ji_45_54 : mj_ins 45 54 = some (.if_icmp .ne 13) := by decide +kernel
/-! the class's reader: its cells, and its leaves, exactly; laid by program (wp_cread.py) -/
def tx (h : mj_H) (t : Nat) (cl : Int) (fr : List Value) : Prop := ∃ (sz : Int) (c1 c3 c4 c5 c6 : List Value), h[t]? = some (1, [Value.ref (t + 1), wp_i sz, Value.ref (t + 2), Value.ref (t + 3), Value.ref (t + 4), Value.ref (t + 5), Value.ref (t + 6), wp_i cl, Value.ref 10]) ∧ (0 ≤ sz ∧ sz ≤ 300) ∧ h[t + 1]? = some (1000, c1) ∧ h[t + 2]? = some (1000, fr) ∧ h[t + 3]? = some (1000, c3) ∧ h[t + 4]? = some (1000, c4) ∧ h[t + 5]? = some (1000, c5) ∧ h[t + 6]? = some (1000, c6)
theorem tx_fr {h h1 : mj_H} {t : Nat} {cl : Int} {fr : List Value} (X : tx h t cl fr) (e : ∀ a, t ≤ a → a ≤ t + 6 → h1[a]? = h[a]?) : tx h1 t cl fr := by
  obtain ⟨sz, c1, c3, c4, c5, c6, x0, x, x1, x2, x3, x4, x5, x6⟩ := X
  exact ⟨sz, c1, c3, c4, c5, c6, (e t (by omega) (by omega)).trans x0, x, (e _ (by omega) (by omega)).trans x1, (e _ (by omega) (by omega)).trans x2, (e _ (by omega) (by omega)).trans x3, (e _ (by omega) (by omega)).trans x4, (e _ (by omega) (by omega)).trans x5, (e _ (by omega) (by omega)).trans x6⟩
def cL (h0 h : mj_H) (bl : List Value) (t : Nat) (L k v s p f q law st wn op br ls as_ cl : Int) (ws fr : List Value) : Prop := h[91]? = some (8, [Value.ref 92, wp_i L, wp_i k, wp_i v, wp_i s, wp_i p]) ∧ h[92]? = some (1000, bl) ∧ h[93]? = some (9, [Value.ref 91, Value.ref t, wp_i 1, wp_i f, wp_i q, wp_i law, wp_i st, Value.ref 94, wp_i wn, wp_i op, wp_i br, wp_i ls, wp_i as_]) ∧ (h[94]? = some (1000, ws) ∧ ws.length = 40) ∧ tx h t cl fr ∧ ∀ a, ¬ (t ≤ a ∧ a ≤ t + 6) → a ≠ 91 → a ≠ 93 → a ≠ 94 → h[a]? = h0[a]?
section WCL
variable {nn d m pc : Nat} {lv : mj_L} {st0 : List Value} {h h0 : mj_H} {Q : Option Value → mj_H → Prop} {bl ws fr : List Value} {t : Nat} {L k v s p f q law st wn op br ls as_ cl : Int}
theorem cl_t {x kk : Nat} {ty : FieldType} {w : Bool} {y : Value} (V : cL h0 h bl t L k v s p f q law st wn op br ls as_ cl ws fr) (hi : mj_ins m pc = some (.getfield x)) (hf : mj_fld m x = some (8, kk, ty, w)) (hy : [Value.ref 92, wp_i L, wp_i k, wp_i v, wp_i s, wp_i p][kk]? = some y) (hr : wl_R nn d m (pc + 3) lv (y :: st0) h Q) : wl_R nn d m pc lv (.ref 91 :: st0) h Q := wl_gf hi hf V.1 hy hr
theorem cl_g {x kk : Nat} {ty : FieldType} {w : Bool} {y : Value} (V : cL h0 h bl t L k v s p f q law st wn op br ls as_ cl ws fr) (hi : mj_ins m pc = some (.getfield x)) (hf : mj_fld m x = some (9, kk, ty, w)) (hy : [Value.ref 91, Value.ref t, wp_i 1, wp_i f, wp_i q, wp_i law, wp_i st, Value.ref 94, wp_i wn, wp_i op, wp_i br, wp_i ls, wp_i as_][kk]? = some y) (hr : wl_R nn d m (pc + 3) lv (y :: st0) h Q) : wl_R nn d m pc lv (.ref 93 :: st0) h Q := wl_gf hi hf V.2.2.1 hy hr
theorem cl_p {x kk : Nat} {ty : FieldType} {y f' q' law' st' wn' op' br' ls' as_' : Int} (ht : 12 ≤ t ∧ t ≤ 33) (V : cL h0 h bl t L k v s p f q law st wn op br ls as_ cl ws fr) (hi : mj_ins m pc = some (.putfield x)) (hf : mj_fld m x = some (9, kk, ty, true)) (hkk : kk < 13) (hn : narrow ty (wp_i y) = wp_i y) (hfi : fits ty (wp_i y) = true) (hs : [Value.ref 91, Value.ref t, wp_i 1, wp_i f, wp_i q, wp_i law, wp_i st, Value.ref 94, wp_i wn, wp_i op, wp_i br, wp_i ls, wp_i as_].set kk (wp_i y) = [Value.ref 91, Value.ref t, wp_i 1, wp_i f', wp_i q', wp_i law', wp_i st', Value.ref 94, wp_i wn', wp_i op', wp_i br', wp_i ls', wp_i as_']) (hr : ∀ h, cL h0 h bl t L k v s p f' q' law' st' wn' op' br' ls' as_' cl ws fr → wl_R nn d m (pc + 3) lv st0 h Q) : wl_R nn d m pc lv (wp_i y :: .ref 93 :: st0) h Q := by
  obtain ⟨e1, e2, e3, ⟨e4, e5⟩, e6, e7⟩ := V
  refine wl_pf hi hf e3 (by decide) hkk hn hfi (hr _ ⟨?_, ?_, ?_, ⟨?_, e5⟩, tx_fr e6 (fun a a1 a2 => List.getElem?_set_ne (by omega)), fun a a1 a2 a3 a4 => ?_⟩)
  · rw [List.getElem?_set_ne (by decide)]; exact e1
  · rw [List.getElem?_set_ne (by decide)]; exact e2
  · rw [hs]; exact List.getElem?_set_self (fd_lt e3)
  · rw [List.getElem?_set_ne (by decide)]; exact e4
  · rw [List.getElem?_set_ne (Ne.symm a3)]; exact e7 a a1 a2 a3 a4
theorem cl_l {x : Int} (V : cL h0 h bl t L k v s p f q law st wn op br ls as_ cl ws fr) (hx : wp_r x) (hi : mj_ins m pc = some .iaload) (hr : ∀ y, 0 ≤ x → x < 40 → ws[x.toNat]? = some y → wl_R nn d m (pc + 1) lv (y :: st0) h Q) : wl_R nn d m pc lv (wp_i x :: .ref 94 :: st0) h Q := by
  obtain ⟨e1, e2, e3, ⟨e4, e5⟩, e6, e7⟩ := V
  exact wl_al hi e4 hx (fun y y1 y2 y3 => hr y y1 (by omega) y3)
theorem cl_s {x y : Int} (ht : 12 ≤ t ∧ t ≤ 33) (V : cL h0 h bl t L k v s p f q law st wn op br ls as_ cl ws fr) (hx : wp_r x) (hi : mj_ins m pc = some .iastore) (hr : ∀ h, 0 ≤ x → x < 40 → cL h0 h bl t L k v s p f q law st wn op br ls as_ cl (ws.set x.toNat (wp_i y)) fr → wl_R nn d m (pc + 1) lv st0 h Q) : wl_R nn d m pc lv (wp_i y :: wp_i x :: .ref 94 :: st0) h Q := by
  obtain ⟨e1, e2, e3, ⟨e4, e5⟩, e6, e7⟩ := V
  refine wl_as hi e4 hx (fun x1 x2 => hr _ x1 (by omega) ⟨?_, ?_, ?_, ⟨List.getElem?_set_self (fd_lt e4), by rw [List.length_set]; exact e5⟩, tx_fr e6 (fun a a1 a2 => List.getElem?_set_ne (by omega)), fun a a1 a2 a3 a4 => ?_⟩)
  · rw [List.getElem?_set_ne (by decide)]; exact e1
  · rw [List.getElem?_set_ne (by decide)]; exact e2
  · rw [List.getElem?_set_ne (by decide)]; exact e3
  · rw [List.getElem?_set_ne (Ne.symm a4)]; exact e7 a a1 a2 a3 a4
theorem cl_93 (V : cL h0 h bl t L k v s p f q law st wn op br ls as_ cl ws fr) : h[93]? = some (9, [Value.ref 91, Value.ref t, wp_i 1, wp_i f, wp_i q, wp_i law, wp_i st, Value.ref 94, wp_i wn, wp_i op, wp_i br, wp_i ls, wp_i as_]) := V.2.2.1
theorem cl_tc (V : cL h0 h bl t L k v s p f q law st wn op br ls as_ cl ws fr) : ∃ fs, h[t]? = some (1, fs) := by
  obtain ⟨sz, c1, c3, c4, c5, c6, x0, -⟩ := V.2.2.2.2.1
  exact ⟨_, x0⟩
/-- what an item of the text's own cells is set to -/
theorem cl_tx {b : Nat} {c : mj_C} {cl2 : Int} {fr2 : List Value} (ht : 12 ≤ t ∧ t ≤ 33) (hb : t ≤ b ∧ b ≤ t + 6) (V : cL h0 h bl t L k v s p f q law st wn op br ls as_ cl ws fr) (X : tx (h.set b c) t cl2 fr2) : cL h0 (h.set b c) bl t L k v s p f q law st wn op br ls as_ cl2 ws fr2 := by
  obtain ⟨e1, e2, e3, ⟨e4, e5⟩, e6, e7⟩ := V
  refine ⟨?_, ?_, ?_, ⟨?_, e5⟩, X, fun a a1 a2 a3 a4 => ?_⟩
  · rw [List.getElem?_set_ne (by omega)]; exact e1
  · rw [List.getElem?_set_ne (by omega)]; exact e2
  · rw [List.getElem?_set_ne (by omega)]; exact e3
  · rw [List.getElem?_set_ne (by omega)]; exact e4
  · rw [List.getElem?_set_ne (by omega)]; exact e7 a a1 a2 a3 a4
end WCL
theorem wc_fail {nn d : Nat} {n : Int} {h0 h : mj_H} {bl ws fr : List Value} {t : Nat} {L k v s p f q law st wn op br ls as_ cl : Int} (ht : 12 ≤ t ∧ t ≤ 33) (V : cL h0 h bl t L k v s p f q law st wn op br ls as_ cl ws fr) : wl_R nn d 31 0 [some (.ref 93), some (wp_i n)] [] h (fun w h1 => w = none ∧ cL h0 h1 bl t L k v s p n s law st wn op br ls as_ cl ws fr) := by
  refine wl_s (pc' := 1) ji_31_0 rfl rfl rfl ?_
  refine wl_s (pc' := 2) ji_31_1 rfl rfl rfl ?_
  refine cl_p (y := n) (f' := n) (q' := q) (law' := law) (st' := st) (wn' := wn) (op' := op) (br' := br) (ls' := ls) (as_' := as_) ht V ji_31_2 jf_31_15 (by decide) rfl rfl rfl (fun h V => ?_)
  refine wl_s (pc' := 6) ji_31_5 rfl rfl rfl ?_
  refine wl_s (pc' := 7) ji_31_6 rfl rfl rfl ?_
  refine cl_g V ji_31_7 jf_31_47 rfl ?_
  refine cl_t V ji_31_10 jf_31_74 rfl ?_
  refine cl_p (y := s) (f' := n) (q' := s) (law' := law) (st' := st) (wn' := wn) (op' := op) (br' := br) (ls' := ls) (as_' := as_) ht V ji_31_13 jf_31_19 (by decide) rfl rfl rfl (fun h V => ?_)
  exact wl_rv ji_31_16 jr_31 ⟨rfl, V⟩
theorem wc_write {nn d : Nat} {y : Int} {h0 h : mj_H} {bl ws fr : List Value} {t : Nat} {L k v s p f q law st wn op br ls as_ cl : Int} (ht : 12 ≤ t ∧ t ≤ 33) (V : cL h0 h bl t L k v s p f q law st wn op br ls as_ cl ws fr) : wl_R nn d 36 0 [some (.ref t), some (wp_i y)] [] h (fun w h1 => w = none ∧ cL h0 h1 bl t L k v s p f q law st wn op br ls as_ cl ws fr) := by
  obtain ⟨sz, c1, c3, c4, c5, c6, x0, x, x1, x2, x3, x4, x5, x6⟩ := V.2.2.2.2.1
  refine wl_s (pc' := 1) ji_36_0 rfl rfl rfl ?_
  refine wl_gf ji_36_1 jf_36_17 x0 rfl ?_
  refine wl_sp ji_36_4 rfl ?_
  refine wl_icmp (t := 30) ji_36_7 rfl (by omega) (by omega) (fun _ => wl_rv ji_36_30 jr_36 ⟨rfl, V⟩) (fun (hlt : ¬ ((300 : Int) ≤ sz)) => ?_)
  refine wl_s (pc' := 11) ji_36_10 rfl rfl rfl ?_
  refine wl_gf ji_36_11 jf_36_11 x0 rfl ?_
  refine wl_s (pc' := 15) ji_36_14 rfl rfl rfl ?_
  refine wl_gf ji_36_15 jf_36_17 x0 rfl ?_
  refine wl_s (pc' := 19) ji_36_18 rfl rfl rfl ?_
  refine wl_as ji_36_19 x1 (by omega) (fun y1 y2 => ?_)
  have V := cl_tx (b := t + 1) (c := (1000, c1.set sz.toNat (wp_i y))) ht (by omega) V (cl2 := cl) (fr2 := fr) ⟨sz, c1.set sz.toNat (wp_i y), c3, c4, c5, c6, by rw [List.getElem?_set_ne (by omega)]; exact x0, x, List.getElem?_set_self (fd_lt x1), by rw [List.getElem?_set_ne (by omega)]; exact x2, by rw [List.getElem?_set_ne (by omega)]; exact x3, by rw [List.getElem?_set_ne (by omega)]; exact x4, by rw [List.getElem?_set_ne (by omega)]; exact x5, by rw [List.getElem?_set_ne (by omega)]; exact x6⟩
  have z0 : (h.set (t + 1) (1000, c1.set sz.toNat (wp_i y)))[t]? = some (1, [Value.ref (t + 1), wp_i sz, Value.ref (t + 2), Value.ref (t + 3), Value.ref (t + 4), Value.ref (t + 5), Value.ref (t + 6), wp_i cl, Value.ref 10]) := by rw [List.getElem?_set_ne (by omega)]; exact x0
  refine wl_s (pc' := 21) ji_36_20 rfl rfl rfl ?_
  refine wl_s (pc' := 22) ji_36_21 rfl rfl rfl ?_
  refine wl_gf ji_36_22 jf_36_17 z0 rfl ?_
  refine wl_s (pc' := 26) ji_36_25 rfl rfl rfl ?_
  refine wl_iadd (x := sz) (y := 1) (z := sz + 1) ji_36_26 rfl ?_
  refine wl_pf ji_36_27 jf_36_17 z0 (Nat.le_trans (by decide) ht.1) (Nat.le_of_ble_eq_true rfl) rfl rfl ?_
  exact wl_rv ji_36_30 jr_36 ⟨rfl, cl_tx (b := t) ht (by omega) V ⟨sz + 1, c1.set sz.toNat (wp_i y), c3, c4, c5, c6, List.getElem?_set_self (fd_lt z0), by omega, by rw [List.getElem?_set_ne (by omega)]; exact List.getElem?_set_self (fd_lt x1), by rw [List.getElem?_set_ne (by omega), List.getElem?_set_ne (by omega)]; exact x2, by rw [List.getElem?_set_ne (by omega), List.getElem?_set_ne (by omega)]; exact x3, by rw [List.getElem?_set_ne (by omega), List.getElem?_set_ne (by omega)]; exact x4, by rw [List.getElem?_set_ne (by omega), List.getElem?_set_ne (by omega)]; exact x5, by rw [List.getElem?_set_ne (by omega), List.getElem?_set_ne (by omega)]; exact x6⟩⟩
/-! the stack of what waits -/
def ck (c : Int) : Int := if c = 33 then 3 else if c = 35 ∨ c = 60 ∨ c = 61 ∨ c = 62 ∨ c = 103 ∨ c = 108 then 4 else if c = 38 then 2 else if c = 42 ∨ c = 47 then 6 else if c = 43 ∨ c = 45 then 5 else if c = 110 then 7 else if c = 124 then 1 else 0
def jwt (r : Int) : List Int → List Int
  | [] => []
  | c :: w => if r ≤ ck c then jwt r w else c :: w
def opc (c : Int) : Int := if c = 40 ∨ c = 91 ∨ c = 110 ∨ c = 33 then 1 else 0
def brc (c : Int) : Int := if c = 40 ∨ c = 91 then 1 else 0
def opn : List Int → Int
  | [] => 0
  | c :: w => opn w + opc c
def brn : List Int → Int
  | [] => 0
  | c :: w => brn w + brc c
def en (ws : List Value) : List Int → Prop
  | [] => True
  | c :: w => (ws[w.length]? = some (wp_i c) ∧ (0 ≤ c ∧ c ≤ 200)) ∧ en ws w
theorem en_set {ws : List Value} {v : Value} {j : Nat} : ∀ {w : List Int}, w.length ≤ j → en ws w → en (ws.set j v) w
  | [], _, _ => trivial
  | c :: w, h, e => by
    have h1 : w.length + 1 ≤ j := h
    refine ⟨⟨?_, e.1.2⟩, en_set (by omega) e.2⟩
    rw [List.getElem?_set_ne (by omega)]
    exact e.1.1
theorem opn_0 : ∀ w : List Int, 0 ≤ opn w ∧ opn w ≤ (w.length : Int)
  | [] => ⟨Int.le_refl _, Int.le_refl _⟩
  | c :: w => by
    have := opn_0 w
    show 0 ≤ opn w + opc c ∧ opn w + opc c ≤ ((w.length + 1 : Nat) : Int)
    unfold opc
    split <;> omega
theorem brn_0 : ∀ w : List Int, 0 ≤ brn w ∧ brn w ≤ opn w
  | [] => ⟨Int.le_refl _, Int.le_refl _⟩
  | c :: w => by
    have := brn_0 w
    show 0 ≤ brn w + brc c ∧ brn w + brc c ≤ opn w + opc c
    unfold opc brc
    split <;> split <;> omega
theorem ck_r (c : Int) : 0 ≤ ck c ∧ ck c ≤ 7 := by
  unfold ck
  repeat' split
  all_goals omega
def cH (h0 h : mj_H) (bl : List Value) (t : Nat) (L k v s p f q law st : Int) (w : List Int) (ls as_ cl : Int) (fr : List Value) : Prop := ∃ ws, en ws w ∧ w.length ≤ 40 ∧ cL h0 h bl t L k v s p f q law st (w.length : Int) (opn w) (brn w) ls as_ cl ws fr
theorem wc_rank {n d : Nat} {h : mj_H} {c : Int} (hc : wp_r c) : wl_R n d 43 0 [some (wp_i c)] [] h (fun v h1 => h1 = h ∧ v = some (wp_i (ck c))) := by
  refine wl_s (pc' := 1) ji_43_0 rfl rfl rfl ?_
  have K124 : (c = 124) → wl_R n d 43 124 [some (wp_i c)] [] h (fun v h1 => h1 = h ∧ v = some (wp_i (ck c))) := by
    intro e
    rw [show ck c = 1 by unfold ck; repeat' split; all_goals omega]
    refine wl_s (pc' := 125) ji_43_124 rfl rfl rfl ?_
    exact wl_ri ji_43_125 jr_43 rfl ⟨rfl, rfl⟩
  have K126 : (c = 38) → wl_R n d 43 126 [some (wp_i c)] [] h (fun v h1 => h1 = h ∧ v = some (wp_i (ck c))) := by
    intro e
    rw [show ck c = 2 by unfold ck; repeat' split; all_goals omega]
    refine wl_s (pc' := 127) ji_43_126 rfl rfl rfl ?_
    exact wl_ri ji_43_127 jr_43 rfl ⟨rfl, rfl⟩
  have K128 : (c = 33) → wl_R n d 43 128 [some (wp_i c)] [] h (fun v h1 => h1 = h ∧ v = some (wp_i (ck c))) := by
    intro e
    rw [show ck c = 3 by unfold ck; repeat' split; all_goals omega]
    refine wl_s (pc' := 129) ji_43_128 rfl rfl rfl ?_
    exact wl_ri ji_43_129 jr_43 rfl ⟨rfl, rfl⟩
  have K130 : (c = 35 ∨ c = 60 ∨ c = 61 ∨ c = 62 ∨ c = 103 ∨ c = 108) → wl_R n d 43 130 [some (wp_i c)] [] h (fun v h1 => h1 = h ∧ v = some (wp_i (ck c))) := by
    intro e
    rw [show ck c = 4 by unfold ck; repeat' split; all_goals omega]
    refine wl_s (pc' := 131) ji_43_130 rfl rfl rfl ?_
    exact wl_ri ji_43_131 jr_43 rfl ⟨rfl, rfl⟩
  have K132 : (c = 43 ∨ c = 45) → wl_R n d 43 132 [some (wp_i c)] [] h (fun v h1 => h1 = h ∧ v = some (wp_i (ck c))) := by
    intro e
    rw [show ck c = 5 by unfold ck; repeat' split; all_goals omega]
    refine wl_s (pc' := 133) ji_43_132 rfl rfl rfl ?_
    exact wl_ri ji_43_133 jr_43 rfl ⟨rfl, rfl⟩
  have K134 : (c = 42 ∨ c = 47) → wl_R n d 43 134 [some (wp_i c)] [] h (fun v h1 => h1 = h ∧ v = some (wp_i (ck c))) := by
    intro e
    rw [show ck c = 6 by unfold ck; repeat' split; all_goals omega]
    refine wl_bp ji_43_134 rfl ?_
    exact wl_ri ji_43_136 jr_43 rfl ⟨rfl, rfl⟩
  have K137 : (c = 110) → wl_R n d 43 137 [some (wp_i c)] [] h (fun v h1 => h1 = h ∧ v = some (wp_i (ck c))) := by
    intro e
    rw [show ck c = 7 by unfold ck; repeat' split; all_goals omega]
    refine wl_bp ji_43_137 rfl ?_
    exact wl_ri ji_43_139 jr_43 rfl ⟨rfl, rfl⟩
  have K140 : (¬ c = 33 ∧ ¬ c = 35 ∧ ¬ c = 38 ∧ ¬ c = 42 ∧ ¬ c = 43 ∧ ¬ c = 45 ∧ ¬ c = 47 ∧ ¬ c = 60 ∧ ¬ c = 61 ∧ ¬ c = 62 ∧ ¬ c = 103 ∧ ¬ c = 108 ∧ ¬ c = 110 ∧ ¬ c = 124) → wl_R n d 43 140 [some (wp_i c)] [] h (fun v h1 => h1 = h ∧ v = some (wp_i (ck c))) := by
    intro e
    rw [show ck c = 0 by unfold ck; repeat' split; all_goals omega]
    refine wl_s (pc' := 141) ji_43_140 rfl rfl rfl ?_
    exact wl_ri ji_43_141 jr_43 rfl ⟨rfl, rfl⟩
  by_cases hr : c = 33 ∨ c = 35 ∨ c = 38 ∨ c = 42 ∨ c = 43 ∨ c = 45 ∨ c = 47 ∨ c = 60 ∨ c = 61 ∨ c = 62 ∨ c = 103 ∨ c = 108 ∨ c = 110 ∨ c = 124
  · rcases hr with e | e | e | e | e | e | e | e | e | e | e | e | e | e
    · exact wl_s (pc' := 128) (lv' := [some (wp_i c)]) (st' := []) (h' := h) ji_43_1 rfl rfl (by subst e; simp only [mj_st, wp_ti (show wp_r 33 by omega)]; rfl) (K128 (by omega))
    · exact wl_s (pc' := 130) (lv' := [some (wp_i c)]) (st' := []) (h' := h) ji_43_1 rfl rfl (by subst e; simp only [mj_st, wp_ti (show wp_r 35 by omega)]; rfl) (K130 (by omega))
    · exact wl_s (pc' := 126) (lv' := [some (wp_i c)]) (st' := []) (h' := h) ji_43_1 rfl rfl (by subst e; simp only [mj_st, wp_ti (show wp_r 38 by omega)]; rfl) (K126 (by omega))
    · exact wl_s (pc' := 134) (lv' := [some (wp_i c)]) (st' := []) (h' := h) ji_43_1 rfl rfl (by subst e; simp only [mj_st, wp_ti (show wp_r 42 by omega)]; rfl) (K134 (by omega))
    · exact wl_s (pc' := 132) (lv' := [some (wp_i c)]) (st' := []) (h' := h) ji_43_1 rfl rfl (by subst e; simp only [mj_st, wp_ti (show wp_r 43 by omega)]; rfl) (K132 (by omega))
    · exact wl_s (pc' := 132) (lv' := [some (wp_i c)]) (st' := []) (h' := h) ji_43_1 rfl rfl (by subst e; simp only [mj_st, wp_ti (show wp_r 45 by omega)]; rfl) (K132 (by omega))
    · exact wl_s (pc' := 134) (lv' := [some (wp_i c)]) (st' := []) (h' := h) ji_43_1 rfl rfl (by subst e; simp only [mj_st, wp_ti (show wp_r 47 by omega)]; rfl) (K134 (by omega))
    · exact wl_s (pc' := 130) (lv' := [some (wp_i c)]) (st' := []) (h' := h) ji_43_1 rfl rfl (by subst e; simp only [mj_st, wp_ti (show wp_r 60 by omega)]; rfl) (K130 (by omega))
    · exact wl_s (pc' := 130) (lv' := [some (wp_i c)]) (st' := []) (h' := h) ji_43_1 rfl rfl (by subst e; simp only [mj_st, wp_ti (show wp_r 61 by omega)]; rfl) (K130 (by omega))
    · exact wl_s (pc' := 130) (lv' := [some (wp_i c)]) (st' := []) (h' := h) ji_43_1 rfl rfl (by subst e; simp only [mj_st, wp_ti (show wp_r 62 by omega)]; rfl) (K130 (by omega))
    · exact wl_s (pc' := 130) (lv' := [some (wp_i c)]) (st' := []) (h' := h) ji_43_1 rfl rfl (by subst e; simp only [mj_st, wp_ti (show wp_r 103 by omega)]; rfl) (K130 (by omega))
    · exact wl_s (pc' := 130) (lv' := [some (wp_i c)]) (st' := []) (h' := h) ji_43_1 rfl rfl (by subst e; simp only [mj_st, wp_ti (show wp_r 108 by omega)]; rfl) (K130 (by omega))
    · exact wl_s (pc' := 137) (lv' := [some (wp_i c)]) (st' := []) (h' := h) ji_43_1 rfl rfl (by subst e; simp only [mj_st, wp_ti (show wp_r 110 by omega)]; rfl) (K137 (by omega))
    · exact wl_s (pc' := 124) (lv' := [some (wp_i c)]) (st' := []) (h' := h) ji_43_1 rfl rfl (by subst e; simp only [mj_st, wp_ti (show wp_r 124 by omega)]; rfl) (K124 (by omega))
  · refine wl_s (pc' := 140) (lv' := [some (wp_i c)]) (st' := []) (h' := h) ji_43_1 rfl rfl ?_ (K140 (by omega))
    simp only [mj_st, wp_ti hc]
    rw [if_pos (by decide)]
    simp only [Op.lookupswitch.offset_cons, Op.lookupswitch.offset_nil]
    rw [if_neg (by omega), if_neg (by omega), if_neg (by omega), if_neg (by omega), if_neg (by omega), if_neg (by omega), if_neg (by omega), if_neg (by omega), if_neg (by omega), if_neg (by omega), if_neg (by omega), if_neg (by omega), if_neg (by omega), if_neg (by omega)]
    rfl
theorem wc_aw {nn d : Nat} {c : Int} {w : List Int} {h0 h : mj_H} {bl ws fr : List Value} {t : Nat} {L k v s p f q law st op br ls as_ cl : Int} (ht : 12 ≤ t ∧ t ≤ 33) (V : cL h0 h bl t L k v s p f q law st (w.length : Int) op br ls as_ cl ws fr) (hen : en ws w) (hw : w.length ≤ 39) (hc : 0 ≤ c ∧ c ≤ 200) : wl_R nn d 39 0 [some (.ref 93), some (wp_i c)] [] h (fun v1 h1 => v1 = none ∧ ∃ ws', en ws' (c :: w) ∧ cL h0 h1 bl t L k v s p f q law st ((w.length : Int) + 1) op br ls as_ cl ws' fr) := by
  have hwl := V.2.2.2.1.2
  refine wl_s (pc' := 1) ji_39_0 rfl rfl rfl ?_
  refine cl_g V ji_39_1 jf_39_32 rfl ?_
  refine wl_bp ji_39_4 rfl ?_
  refine wl_icmp (t := 29) ji_39_6 rfl (by omega) (by omega) (fun (hb1 : (40 : Int) ≤ ((w.length : Int))) => (by exfalso; omega)) (fun (hb1 : ¬ ((40 : Int) ≤ ((w.length : Int)))) => ?_)
  refine wl_s (pc' := 10) ji_39_9 rfl rfl rfl ?_
  refine cl_g V ji_39_10 jf_39_28 rfl ?_
  refine wl_s (pc' := 14) ji_39_13 rfl rfl rfl ?_
  refine cl_g V ji_39_14 jf_39_32 rfl ?_
  refine wl_s (pc' := 18) ji_39_17 rfl rfl rfl ?_
  refine cl_s (x := (w.length : Int)) (y := c) ht V (by omega) ji_39_18 (fun h x1 x2 V => ?_)
  refine wl_s (pc' := 20) ji_39_19 rfl rfl rfl ?_
  refine wl_s (pc' := 21) ji_39_20 rfl rfl rfl ?_
  refine cl_g V ji_39_21 jf_39_32 rfl ?_
  refine wl_s (pc' := 25) ji_39_24 rfl rfl rfl ?_
  refine wl_iadd (x := (w.length : Int)) (y := 1) (z := (w.length : Int) + 1) ji_39_25 (by omega) ?_
  refine cl_p (y := (w.length : Int) + 1) (f' := f) (q' := q) (law' := law) (st' := st) (wn' := (w.length : Int) + 1) (op' := op) (br' := br) (ls' := ls) (as_' := as_) ht V ji_39_26 jf_39_32 (by decide) rfl rfl rfl (fun h V => ?_)
  exact wl_rv ji_39_29 jr_39 ⟨rfl, ws.set ((w.length : Int)).toNat (wp_i c), ⟨⟨by rw [show ((w.length : Int)).toNat = w.length by omega]; exact List.getElem?_set_self (by rw [hwl]; omega), hc⟩, en_set (by omega) hen⟩, V⟩
theorem wc_jw {d : Nat} {h0 : mj_H} {bl fr : List Value} {t : Nat} {L k v s p f q law st ls as_ cl r : Int} (ht : 12 ≤ t ∧ t ≤ 33) (hr : 1 ≤ r ∧ r ≤ 7) : ∀ (n : Nat) (w : List Int) (h : mj_H) (o : Option Value), cH h0 h bl t L k v s p f q law st w ls as_ cl fr → wl_R n (d + 1) 45 0 [some (.ref 93), some (wp_i r), o] [] h (fun v1 h1 => v1 = none ∧ cH h0 h1 bl t L k v s p f q law st (jwt r w) ls as_ cl fr) := by
  intro n
  induction n with
  | zero => intro w h o V; exact wl_0
  | succ n ih =>
    intro w h o V
    obtain ⟨ws, e, hlen, V⟩ := V
    cases w with
    | nil =>
      refine wl_s (pc' := 1) ji_45_0 rfl rfl rfl ?_
      refine cl_g V ji_45_1 jf_45_32 rfl ?_
      refine wl_if (t := 82) ji_45_4 rfl (x := 0) (by omega) (fun _ => wl_rv ji_45_82 jr_45 ⟨rfl, ws, e, hlen, V⟩) (fun (q : ¬ ((0 : Int) ≤ 0)) => absurd (Int.le_refl _) q)
    | cons c w =>
      obtain ⟨⟨e1, e1b⟩, e2⟩ := e
      have hck := ck_r c
      have hop := opn_0 w
      have hbr0 := brn_0 w
      have hb_ck : r ≤ ck c → ¬ (c = 40 ∨ c = 91) := fun x y => by rcases y with y | y <;> (subst y; unfold ck at x; simp at x; omega)
      have hw40 : w.length + 1 ≤ 40 := hlen
      have hoc : 0 ≤ opc c ∧ opc c ≤ 1 := by unfold opc; split <;> omega
      have hbc : 0 ≤ brc c ∧ brc c ≤ 1 := by unfold brc; split <;> omega
      have hbr1 : r ≤ ck c → brc c = 0 := fun x => if_neg (hb_ck x)
      have V : cL h0 h bl t L k v s p f q law st ((w.length : Int) + 1) (opn w + opc c) (brn w + brc c) ls as_ cl ws fr := V
      refine wl_s1 (pc' := 1) ji_45_0 rfl rfl rfl ?_
      refine cl_g V ji_45_1 jf_45_32 rfl ?_
      refine wl_if (t := 82) ji_45_4 rfl (by omega) (fun (hb1 : ((w.length : Int) + 1 : Int) ≤ 0) => (by exfalso; omega)) (fun (hb1 : ¬ (((w.length : Int) + 1 : Int) ≤ 0)) => ?_)
      refine wl_s (pc' := 8) ji_45_7 rfl rfl rfl ?_
      refine cl_g V ji_45_8 jf_45_28 rfl ?_
      refine wl_s (pc' := 12) ji_45_11 rfl rfl rfl ?_
      refine cl_g V ji_45_12 jf_45_32 rfl ?_
      refine wl_s (pc' := 16) ji_45_15 rfl rfl rfl ?_
      refine wl_isub (x := (w.length : Int) + 1) (y := 1) (z := (w.length : Int) + 1 - 1) ji_45_16 (by omega) ?_
      refine cl_l (x := (w.length : Int) + 1 - 1) V (by omega) ji_45_17 (fun y y1 y2 y3 => ?_)
      rw [show ((w.length : Int) + 1 - 1).toNat = w.length by omega, e1] at y3
      cases y3
      refine wl_sc (d := d) (as := [wp_i c]) (rest := []) ji_45_18 jc_45_155 (Nat.le_of_ble_eq_true rfl) rfl (Nat.le_of_ble_eq_true rfl) rfl (by rw [jn_43]; rfl) (wc_rank (c := c) (by omega)) (fun v1 h1 R => ?_)
      obtain ⟨ee, rfl⟩ := R
      subst ee
      show wl_R _ (d + 1) 45 21 [some (.ref 93), some (wp_i r), o] [wp_i (ck c)] h1 _
      refine wl_s (pc' := 22) ji_45_21 rfl rfl rfl ?_
      refine wl_icmp (t := 82) ji_45_22 rfl (by omega) (by omega) (fun (hb2 : (ck c : Int) < r) => ?_) (fun (hb2 : ¬ ((ck c : Int) < r)) => ?_)
      · rw [show jwt r (c :: w) = c :: w from if_neg (by omega)]
        exact wl_rv ji_45_82 jr_45 ⟨rfl, ws, ⟨⟨e1, e1b⟩, e2⟩, hlen, V⟩
      · refine wl_s (pc' := 26) ji_45_25 rfl rfl rfl ?_
        refine wl_s (pc' := 27) ji_45_26 rfl rfl rfl ?_
        refine cl_g V ji_45_27 jf_45_32 rfl ?_
        refine wl_s (pc' := 31) ji_45_30 rfl rfl rfl ?_
        refine wl_isub (x := (w.length : Int) + 1) (y := 1) (z := (w.length : Int) + 1 - 1) ji_45_31 (by omega) ?_
        refine cl_p (y := (w.length : Int) + 1 - 1) (f' := f) (q' := q) (law' := law) (st' := st) (wn' := (w.length : Int) + 1 - 1) (op' := opn w + opc c) (br' := brn w + brc c) (ls' := ls) (as_' := as_) ht V ji_45_32 jf_45_32 (by decide) rfl rfl rfl (fun h V => ?_)
        refine wl_s (pc' := 36) ji_45_35 rfl rfl rfl ?_
        refine cl_g V ji_45_36 jf_45_28 rfl ?_
        refine wl_s (pc' := 40) ji_45_39 rfl rfl rfl ?_
        refine cl_g V ji_45_40 jf_45_32 rfl ?_
        refine cl_l (x := (w.length : Int) + 1 - 1) V (by omega) ji_45_43 (fun y y1 y2 y3 => ?_)
        rw [show ((w.length : Int) + 1 - 1).toNat = w.length by omega, e1] at y3
        cases y3
        refine wl_s (pc' := 45) (lv' := [some (.ref 93), some (wp_i r), some (wp_i c)]) ji_45_44 rfl rfl rfl ?_
        refine wl_s (pc' := 46) ji_45_45 rfl rfl rfl ?_
        refine wl_bp ji_45_46 rfl ?_
        refine wl_icmp (t := 57) ji_45_48 rfl (by omega) (by omega) (fun (hb3 : (c : Int) = 110) => ?_) (fun (hb3 : ¬ ((c : Int) = 110)) => ?_)
        · refine wl_s (pc' := 58) ji_45_57 rfl rfl rfl ?_
          refine wl_s (pc' := 59) ji_45_58 rfl rfl rfl ?_
          refine cl_g V ji_45_59 jf_45_35 rfl ?_
          refine wl_s (pc' := 63) ji_45_62 rfl rfl rfl ?_
          refine wl_isub (x := opn w + opc c) (y := 1) (z := opn w + opc c - 1) ji_45_63 (by omega) ?_
          refine cl_p (y := opn w + opc c - 1) (f' := f) (q' := q) (law' := law) (st' := st) (wn' := (w.length : Int) + 1 - 1) (op' := opn w + opc c - 1) (br' := brn w + brc c) (ls' := ls) (as_' := as_) ht V ji_45_64 jf_45_35 (by decide) rfl rfl rfl (fun h V => ?_)
          refine wl_s (pc' := 68) ji_45_67 rfl rfl rfl ?_
          refine cl_g V ji_45_68 jf_45_51 rfl ?_
          refine wl_sp ji_45_71 rfl ?_
          refine wl_s (pc' := 75) ji_45_74 rfl rfl rfl ?_
          refine wl_iadd (x := 20000) (y := c) (z := 20000 + c) ji_45_75 (by omega) ?_
          obtain ⟨tfs, htc⟩ := cl_tc V
          refine wl_vc (d := d) (as := [.ref t, wp_i (20000 + c)]) (rest := []) ji_45_76 jc_45_139 rfl htc jk_36.symm (Nat.le_of_ble_eq_true rfl) rfl (by rw [jn_36]; rfl) (wc_write ht V) (fun v1 h2 R => ?_)
          obtain ⟨rfl, V⟩ := R
          show wl_R _ (d + 1) 45 79 [some (.ref 93), some (wp_i r), some (wp_i c)] [] h2 _
          refine wl_goto (t := 0) ji_45_79 rfl ?_
          rw [show jwt r (c :: w) = jwt r w from if_pos (by omega)]
          rw [show opn w + opc c - 1 = opn w by unfold opc; rw [if_pos (by omega)]; omega] at V
          rw [show brc c = 0 from hbr1 (by omega), Int.add_zero, show (w.length : Int) + 1 - 1 = (w.length : Int) by omega] at V
          exact ih w _ (some (wp_i c)) ⟨ws, e2, by have : w.length + 1 ≤ 40 := hlen; omega, V⟩
        · refine wl_s (pc' := 52) ji_45_51 rfl rfl rfl ?_
          refine wl_bp ji_45_52 rfl ?_
          refine wl_icmp (t := 67) ji_45_54 rfl (by omega) (by omega) (fun (hb4 : ¬ (c : Int) = 33) => ?_) (fun (hb4 : ¬ (¬ (c : Int) = 33)) => ?_)
          · refine wl_s (pc' := 68) ji_45_67 rfl rfl rfl ?_
            refine cl_g V ji_45_68 jf_45_51 rfl ?_
            refine wl_sp ji_45_71 rfl ?_
            refine wl_s (pc' := 75) ji_45_74 rfl rfl rfl ?_
            refine wl_iadd (x := 20000) (y := c) (z := 20000 + c) ji_45_75 (by omega) ?_
            obtain ⟨tfs, htc⟩ := cl_tc V
            refine wl_vc (d := d) (as := [.ref t, wp_i (20000 + c)]) (rest := []) ji_45_76 jc_45_139 rfl htc jk_36.symm (Nat.le_of_ble_eq_true rfl) rfl (by rw [jn_36]; rfl) (wc_write ht V) (fun v1 h2 R => ?_)
            obtain ⟨rfl, V⟩ := R
            show wl_R _ (d + 1) 45 79 [some (.ref 93), some (wp_i r), some (wp_i c)] [] h2 _
            refine wl_goto (t := 0) ji_45_79 rfl ?_
            rw [show jwt r (c :: w) = jwt r w from if_pos (by omega)]
            rw [show opc c = 0 from if_neg (by have := hb_ck (by omega); omega), Int.add_zero] at V
            rw [show brc c = 0 from hbr1 (by omega), Int.add_zero, show (w.length : Int) + 1 - 1 = (w.length : Int) by omega] at V
            exact ih w _ (some (wp_i c)) ⟨ws, e2, by have : w.length + 1 ≤ 40 := hlen; omega, V⟩
          · refine wl_s (pc' := 58) ji_45_57 rfl rfl rfl ?_
            refine wl_s (pc' := 59) ji_45_58 rfl rfl rfl ?_
            refine cl_g V ji_45_59 jf_45_35 rfl ?_
            refine wl_s (pc' := 63) ji_45_62 rfl rfl rfl ?_
            refine wl_isub (x := opn w + opc c) (y := 1) (z := opn w + opc c - 1) ji_45_63 (by omega) ?_
            refine cl_p (y := opn w + opc c - 1) (f' := f) (q' := q) (law' := law) (st' := st) (wn' := (w.length : Int) + 1 - 1) (op' := opn w + opc c - 1) (br' := brn w + brc c) (ls' := ls) (as_' := as_) ht V ji_45_64 jf_45_35 (by decide) rfl rfl rfl (fun h V => ?_)
            refine wl_s (pc' := 68) ji_45_67 rfl rfl rfl ?_
            refine cl_g V ji_45_68 jf_45_51 rfl ?_
            refine wl_sp ji_45_71 rfl ?_
            refine wl_s (pc' := 75) ji_45_74 rfl rfl rfl ?_
            refine wl_iadd (x := 20000) (y := c) (z := 20000 + c) ji_45_75 (by omega) ?_
            obtain ⟨tfs, htc⟩ := cl_tc V
            refine wl_vc (d := d) (as := [.ref t, wp_i (20000 + c)]) (rest := []) ji_45_76 jc_45_139 rfl htc jk_36.symm (Nat.le_of_ble_eq_true rfl) rfl (by rw [jn_36]; rfl) (wc_write ht V) (fun v1 h2 R => ?_)
            obtain ⟨rfl, V⟩ := R
            show wl_R _ (d + 1) 45 79 [some (.ref 93), some (wp_i r), some (wp_i c)] [] h2 _
            refine wl_goto (t := 0) ji_45_79 rfl ?_
            rw [show jwt r (c :: w) = jwt r w from if_pos (by omega)]
            rw [show opn w + opc c - 1 = opn w by unfold opc; rw [if_pos (by omega)]; omega] at V
            rw [show brc c = 0 from hbr1 (by omega), Int.add_zero, show (w.length : Int) + 1 - 1 = (w.length : Int) by omega] at V
            exact ih w _ (some (wp_i c)) ⟨ws, e2, by have : w.length + 1 ≤ 40 := hlen; omega, V⟩
