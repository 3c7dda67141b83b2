/-! -/
/-! -/
set_option maxRecDepth 100000 in
theorem jcn_70_265 : mj_con 70 265 = some (.int 1431655765) := by decide +kernel
set_option maxRecDepth 100000 in
theorem jcn_70_266 : mj_con 70 266 = some (.int 858993459) := by decide +kernel
set_option maxRecDepth 100000 in
theorem jcn_70_267 : mj_con 70 267 = some (.int 252645135) := by decide +kernel
set_option maxRecDepth 100000 in
theorem ji_70_0 : mj_ins 70 0 = some (.iload_n 0) := by decide +kernel
set_option maxRecDepth 100000 in
theorem ji_70_1 : mj_ins 70 1 = some (.iload_n 0) := by decide +kernel
set_option maxRecDepth 100000 in
theorem ji_70_2 : mj_ins 70 2 = some (.iconst 1) := by decide +kernel
set_option maxRecDepth 100000 in
theorem ji_70_3 : mj_ins 70 3 = some (.iushr) := by decide +kernel
set_option maxRecDepth 100000 in
theorem ji_70_4 : mj_ins 70 4 = some (.ldc_w 265) := by decide +kernel
set_option maxRecDepth 100000 in
theorem ji_70_7 : mj_ins 70 7 = some (.iand) := by decide +kernel
set_option maxRecDepth 100000 in
theorem ji_70_8 : mj_ins 70 8 = some (.isub) := by decide +kernel
set_option maxRecDepth 100000 in
theorem ji_70_9 : mj_ins 70 9 = some (.istore_n 0) := by decide +kernel
set_option maxRecDepth 100000 in
theorem ji_70_10 : mj_ins 70 10 = some (.iload_n 0) := by decide +kernel
set_option maxRecDepth 100000 in
theorem ji_70_11 : mj_ins 70 11 = some (.ldc_w 266) := by decide +kernel
set_option maxRecDepth 100000 in
theorem ji_70_14 : mj_ins 70 14 = some (.iand) := by decide +kernel
set_option maxRecDepth 100000 in
theorem ji_70_15 : mj_ins 70 15 = some (.iload_n 0) := by decide +kernel
set_option maxRecDepth 100000 in
theorem ji_70_16 : mj_ins 70 16 = some (.iconst 2) := by decide +kernel
set_option maxRecDepth 100000 in
theorem ji_70_17 : mj_ins 70 17 = some (.iushr) := by decide +kernel
set_option maxRecDepth 100000 in
theorem ji_70_18 : mj_ins 70 18 = some (.ldc_w 266) := by decide +kernel
set_option maxRecDepth 100000 in
theorem ji_70_21 : mj_ins 70 21 = some (.iand) := by decide +kernel
set_option maxRecDepth 100000 in
theorem ji_70_22 : mj_ins 70 22 = some (.iadd) := by decide +kernel
set_option maxRecDepth 100000 in
theorem ji_70_23 : mj_ins 70 23 = some (.istore_n 0) := by decide +kernel
set_option maxRecDepth 100000 in
theorem ji_70_24 : mj_ins 70 24 = some (.iload_n 0) := by decide +kernel
set_option maxRecDepth 100000 in
theorem ji_70_25 : mj_ins 70 25 = some (.iload_n 0) := by decide +kernel
set_option maxRecDepth 100000 in
theorem ji_70_26 : mj_ins 70 26 = some (.iconst 4) := by decide +kernel
set_option maxRecDepth 100000 in
theorem ji_70_27 : mj_ins 70 27 = some (.iushr) := by decide +kernel
set_option maxRecDepth 100000 in
theorem ji_70_28 : mj_ins 70 28 = some (.iadd) := by decide +kernel
set_option maxRecDepth 100000 in
theorem ji_70_29 : mj_ins 70 29 = some (.ldc_w 267) := by decide +kernel
set_option maxRecDepth 100000 in
theorem ji_70_32 : mj_ins 70 32 = some (.iand) := by decide +kernel
set_option maxRecDepth 100000 in
theorem ji_70_33 : mj_ins 70 33 = some (.istore_n 0) := by decide +kernel
set_option maxRecDepth 100000 in
theorem ji_70_34 : mj_ins 70 34 = some (.iload_n 0) := by decide +kernel
set_option maxRecDepth 100000 in
theorem ji_70_35 : mj_ins 70 35 = some (.iload_n 0) := by decide +kernel
set_option maxRecDepth 100000 in
theorem ji_70_36 : mj_ins 70 36 = some (.bipush 8) := by decide +kernel
set_option maxRecDepth 100000 in
theorem ji_70_38 : mj_ins 70 38 = some (.iushr) := by decide +kernel
set_option maxRecDepth 100000 in
theorem ji_70_39 : mj_ins 70 39 = some (.iadd) := by decide +kernel
set_option maxRecDepth 100000 in
theorem ji_70_40 : mj_ins 70 40 = some (.istore_n 0) := by decide +kernel
set_option maxRecDepth 100000 in
theorem ji_70_41 : mj_ins 70 41 = some (.iload_n 0) := by decide +kernel
set_option maxRecDepth 100000 in
theorem ji_70_42 : mj_ins 70 42 = some (.iload_n 0) := by decide +kernel
set_option maxRecDepth 100000 in
theorem ji_70_43 : mj_ins 70 43 = some (.bipush 16) := by decide +kernel
set_option maxRecDepth 100000 in
theorem ji_70_45 : mj_ins 70 45 = some (.iushr) := by decide +kernel
set_option maxRecDepth 100000 in
theorem ji_70_46 : mj_ins 70 46 = some (.iadd) := by decide +kernel
set_option maxRecDepth 100000 in
theorem ji_70_47 : mj_ins 70 47 = some (.istore_n 0) := by decide +kernel
set_option maxRecDepth 100000 in
theorem ji_70_48 : mj_ins 70 48 = some (.iload_n 0) := by decide +kernel
set_option maxRecDepth 100000 in
theorem ji_70_49 : mj_ins 70 49 = some (.bipush 63) := by decide +kernel
set_option maxRecDepth 100000 in
theorem ji_70_51 : mj_ins 70 51 = some (.iand) := by decide +kernel
set_option maxRecDepth 100000 in
theorem ji_70_52 : mj_ins 70 52 = some (.ireturn) := by decide +kernel
set_option maxRecDepth 100000 in
theorem jr_70 : mj_ret 70 = some .int := by decide +kernel
set_option maxRecDepth 100000 in
theorem ji_69_4 : mj_ins 69 4 = some (.iload_n 3) := by decide +kernel
set_option maxRecDepth 100000 in
theorem ji_69_5 : mj_ins 69 5 = some (.aload_n 0) := by decide +kernel
set_option maxRecDepth 100000 in
theorem ji_69_6 : mj_ins 69 6 = some (.getfield 15) := by decide +kernel
set_option maxRecDepth 100000 in
theorem jf_69_15 : mj_fld 69 15 = some (3, 1, .int, true) := by decide +kernel
set_option maxRecDepth 100000 in
theorem ji_69_9 : mj_ins 69 9 = some (.if_icmp .ge 30) := by decide +kernel
set_option maxRecDepth 100000 in
theorem ji_69_39 : mj_ins 69 39 = some (.iload_n 2) := by decide +kernel
set_option maxRecDepth 100000 in
theorem ji_69_40 : mj_ins 69 40 = some (.ireturn) := by decide +kernel
set_option maxRecDepth 100000 in
theorem jr_69 : mj_ret 69 = some .int := by decide +kernel
set_option maxRecDepth 100000 in
theorem ji_69_12 : mj_ins 69 12 = some (.aload_n 0) := by decide +kernel
set_option maxRecDepth 100000 in
theorem ji_69_13 : mj_ins 69 13 = some (.getfield 34) := by decide +kernel
set_option maxRecDepth 100000 in
theorem jf_69_34 : mj_fld 69 34 = some (3, 7, (.array .int), false) := by decide +kernel
set_option maxRecDepth 100000 in
theorem ji_69_16 : mj_ins 69 16 = some (.iload_n 1) := by decide +kernel
set_option maxRecDepth 100000 in
theorem ji_69_17 : mj_ins 69 17 = some (.bipush 6) := by decide +kernel
set_option maxRecDepth 100000 in
theorem ji_69_19 : mj_ins 69 19 = some (.imul) := by decide +kernel
set_option maxRecDepth 100000 in
theorem ji_69_20 : mj_ins 69 20 = some (.iload_n 3) := by decide +kernel
set_option maxRecDepth 100000 in
theorem ji_69_21 : mj_ins 69 21 = some (.iadd) := by decide +kernel
set_option maxRecDepth 100000 in
theorem ji_69_22 : mj_ins 69 22 = some (.iaload) := by decide +kernel
set_option maxRecDepth 100000 in
theorem ji_69_23 : mj_ins 69 23 = some (.iconst (-1)) := by decide +kernel
set_option maxRecDepth 100000 in
theorem ji_69_24 : mj_ins 69 24 = some (.if_icmp .eq 9) := by decide +kernel
set_option maxRecDepth 100000 in
theorem ji_69_33 : mj_ins 69 33 = some (.iinc 3 1) := by decide +kernel
set_option maxRecDepth 100000 in
theorem ji_69_36 : mj_ins 69 36 = some (.goto (-32)) := by decide +kernel
set_option maxRecDepth 100000 in
theorem ji_69_27 : mj_ins 69 27 = some (.iload_n 2) := by decide +kernel
set_option maxRecDepth 100000 in
theorem ji_69_28 : mj_ins 69 28 = some (.iconst 1) := by decide +kernel
set_option maxRecDepth 100000 in
theorem ji_69_29 : mj_ins 69 29 = some (.iload_n 3) := by decide +kernel
set_option maxRecDepth 100000 in
theorem ji_69_30 : mj_ins 69 30 = some (.ishl) := by decide +kernel
set_option maxRecDepth 100000 in
theorem ji_69_31 : mj_ins 69 31 = some (.ior) := by decide +kernel
set_option maxRecDepth 100000 in
theorem ji_69_32 : mj_ins 69 32 = some (.istore_n 2) := by decide +kernel
set_option maxRecDepth 100000 in
theorem ji_69_0 : mj_ins 69 0 = some (.iconst 0) := by decide +kernel
set_option maxRecDepth 100000 in
theorem ji_69_1 : mj_ins 69 1 = some (.istore_n 2) := by decide +kernel
set_option maxRecDepth 100000 in
theorem ji_69_2 : mj_ins 69 2 = some (.iconst 0) := by decide +kernel
set_option maxRecDepth 100000 in
theorem ji_69_3 : mj_ins 69 3 = some (.istore_n 3) := by decide +kernel
/-! the class's forest: bits, cuts, draws; laid by program (wp_u2.py) -/
/-- how many of nine bits are set -/
def bcn (x : Int) : Int := x % 2 + x / 2 % 2 + x / 4 % 2 + x / 8 % 2 + x / 16 % 2 + x / 32 % 2 + x / 64 % 2 + x / 128 % 2 + x / 256 % 2
def bsr (i k : Int32) : Int32 := (i.toUInt32 >>> (k.toUInt32 &&& Int32.toUInt32 31)).toInt32
def bc1 (i : Int32) : Int32 := i - (bsr i (Int32.ofInt 1) &&& Int32.ofInt 1431655765)
def bc2 (i : Int32) : Int32 := (i &&& Int32.ofInt 858993459) + (bsr i (Int32.ofInt 2) &&& Int32.ofInt 858993459)
def bc3 (i : Int32) : Int32 := (i + bsr i (Int32.ofInt 4)) &&& Int32.ofInt 252645135
def bc4 (i : Int32) : Int32 := i + bsr i (Int32.ofInt 8)
def bc5 (i : Int32) : Int32 := i + bsr i (Int32.ofInt 16)
def bcT (i : Int32) : Int32 := bc5 (bc4 (bc3 (bc2 (bc1 i)))) &&& Int32.ofInt 63
theorem bc_all : ∀ x : Fin 512, bcT (Int32.ofInt x.val) = Int32.ofInt (bcn x.val) := by decide +kernel
theorem uc_70 {nn d : Nat} {h : mj_H} {x : Int} (hx : 0 ≤ x ∧ x ≤ 511) : wl_R nn d 70 0 [some (wp_i x)] [] h (fun v1 h1 => h1 = h ∧ v1 = some (wp_i (bcn x))) := by
  obtain ⟨z, ez⟩ : ∃ z, Int32.ofInt x = z := ⟨_, rfl⟩
  have hz : Value.int (bcT z) = wp_i (bcn x) := by
    have := bc_all ⟨x.toNat, by omega⟩
    have e : ((x.toNat : Nat) : Int) = x := by omega
    simp only [e] at this
    rw [← ez, this]
  show wl_R nn d 70 0 [some (.int (Int32.ofInt x))] [] h _
  rw [ez]
  refine wl_s (pc' := 1) (lv' := [some (.int z)]) (st' := [.int z]) (h' := h) ji_70_0 rfl rfl rfl ?_
  refine wl_s (pc' := 2) (lv' := [some (.int z)]) (st' := [.int z, .int z]) (h' := h) ji_70_1 rfl rfl rfl ?_
  refine wl_s (pc' := 3) (lv' := [some (.int z)]) (st' := [.int (Int32.ofInt 1), .int z, .int z]) (h' := h) ji_70_2 rfl rfl rfl ?_
  refine wl_s (pc' := 4) (lv' := [some (.int z)]) (st' := [.int (bsr z (Int32.ofInt 1)), .int z]) (h' := h) ji_70_3 rfl rfl rfl ?_
  refine wl_s (pc' := 7) (lv' := [some (.int z)]) (st' := [.int (Int32.ofInt 1431655765), .int (bsr z (Int32.ofInt 1)), .int z]) (h' := h) ji_70_4 rfl rfl (by simp only [mj_st, jcn_70_265]; rfl) ?_
  refine wl_s (pc' := 8) (lv' := [some (.int z)]) (st' := [.int ((bsr z (Int32.ofInt 1)) &&& (Int32.ofInt 1431655765)), .int z]) (h' := h) ji_70_7 rfl rfl rfl ?_
  refine wl_s (pc' := 9) (lv' := [some (.int z)]) (st' := [.int (z - ((bsr z (Int32.ofInt 1)) &&& (Int32.ofInt 1431655765)))]) (h' := h) ji_70_8 rfl rfl rfl ?_
  refine wl_s (pc' := 10) (lv' := [some (.int (bc1 z))]) (st' := []) (h' := h) ji_70_9 rfl rfl rfl ?_
  refine wl_s (pc' := 11) (lv' := [some (.int (bc1 z))]) (st' := [.int (bc1 z)]) (h' := h) ji_70_10 rfl rfl rfl ?_
  refine wl_s (pc' := 14) (lv' := [some (.int (bc1 z))]) (st' := [.int (Int32.ofInt 858993459), .int (bc1 z)]) (h' := h) ji_70_11 rfl rfl (by simp only [mj_st, jcn_70_266]; rfl) ?_
  refine wl_s (pc' := 15) (lv' := [some (.int (bc1 z))]) (st' := [.int ((bc1 z) &&& (Int32.ofInt 858993459))]) (h' := h) ji_70_14 rfl rfl rfl ?_
  refine wl_s (pc' := 16) (lv' := [some (.int (bc1 z))]) (st' := [.int (bc1 z), .int ((bc1 z) &&& (Int32.ofInt 858993459))]) (h' := h) ji_70_15 rfl rfl rfl ?_
  refine wl_s (pc' := 17) (lv' := [some (.int (bc1 z))]) (st' := [.int (Int32.ofInt 2), .int (bc1 z), .int ((bc1 z) &&& (Int32.ofInt 858993459))]) (h' := h) ji_70_16 rfl rfl rfl ?_
  refine wl_s (pc' := 18) (lv' := [some (.int (bc1 z))]) (st' := [.int (bsr (bc1 z) (Int32.ofInt 2)), .int ((bc1 z) &&& (Int32.ofInt 858993459))]) (h' := h) ji_70_17 rfl rfl rfl ?_
  refine wl_s (pc' := 21) (lv' := [some (.int (bc1 z))]) (st' := [.int (Int32.ofInt 858993459), .int (bsr (bc1 z) (Int32.ofInt 2)), .int ((bc1 z) &&& (Int32.ofInt 858993459))]) (h' := h) ji_70_18 rfl rfl (by simp only [mj_st, jcn_70_266]; rfl) ?_
  refine wl_s (pc' := 22) (lv' := [some (.int (bc1 z))]) (st' := [.int ((bsr (bc1 z) (Int32.ofInt 2)) &&& (Int32.ofInt 858993459)), .int ((bc1 z) &&& (Int32.ofInt 858993459))]) (h' := h) ji_70_21 rfl rfl rfl ?_
  refine wl_s (pc' := 23) (lv' := [some (.int (bc1 z))]) (st' := [.int (((bc1 z) &&& (Int32.ofInt 858993459)) + ((bsr (bc1 z) (Int32.ofInt 2)) &&& (Int32.ofInt 858993459)))]) (h' := h) ji_70_22 rfl rfl rfl ?_
  refine wl_s (pc' := 24) (lv' := [some (.int (bc2 (bc1 z)))]) (st' := []) (h' := h) ji_70_23 rfl rfl rfl ?_
  refine wl_s (pc' := 25) (lv' := [some (.int (bc2 (bc1 z)))]) (st' := [.int (bc2 (bc1 z))]) (h' := h) ji_70_24 rfl rfl rfl ?_
  refine wl_s (pc' := 26) (lv' := [some (.int (bc2 (bc1 z)))]) (st' := [.int (bc2 (bc1 z)), .int (bc2 (bc1 z))]) (h' := h) ji_70_25 rfl rfl rfl ?_
  refine wl_s (pc' := 27) (lv' := [some (.int (bc2 (bc1 z)))]) (st' := [.int (Int32.ofInt 4), .int (bc2 (bc1 z)), .int (bc2 (bc1 z))]) (h' := h) ji_70_26 rfl rfl rfl ?_
  refine wl_s (pc' := 28) (lv' := [some (.int (bc2 (bc1 z)))]) (st' := [.int (bsr (bc2 (bc1 z)) (Int32.ofInt 4)), .int (bc2 (bc1 z))]) (h' := h) ji_70_27 rfl rfl rfl ?_
  refine wl_s (pc' := 29) (lv' := [some (.int (bc2 (bc1 z)))]) (st' := [.int ((bc2 (bc1 z)) + (bsr (bc2 (bc1 z)) (Int32.ofInt 4)))]) (h' := h) ji_70_28 rfl rfl rfl ?_
  refine wl_s (pc' := 32) (lv' := [some (.int (bc2 (bc1 z)))]) (st' := [.int (Int32.ofInt 252645135), .int ((bc2 (bc1 z)) + (bsr (bc2 (bc1 z)) (Int32.ofInt 4)))]) (h' := h) ji_70_29 rfl rfl (by simp only [mj_st, jcn_70_267]; rfl) ?_
  refine wl_s (pc' := 33) (lv' := [some (.int (bc2 (bc1 z)))]) (st' := [.int (((bc2 (bc1 z)) + (bsr (bc2 (bc1 z)) (Int32.ofInt 4))) &&& (Int32.ofInt 252645135))]) (h' := h) ji_70_32 rfl rfl rfl ?_
  refine wl_s (pc' := 34) (lv' := [some (.int (bc3 (bc2 (bc1 z))))]) (st' := []) (h' := h) ji_70_33 rfl rfl rfl ?_
  refine wl_s (pc' := 35) (lv' := [some (.int (bc3 (bc2 (bc1 z))))]) (st' := [.int (bc3 (bc2 (bc1 z)))]) (h' := h) ji_70_34 rfl rfl rfl ?_
  refine wl_s (pc' := 36) (lv' := [some (.int (bc3 (bc2 (bc1 z))))]) (st' := [.int (bc3 (bc2 (bc1 z))), .int (bc3 (bc2 (bc1 z)))]) (h' := h) ji_70_35 rfl rfl rfl ?_
  refine wl_s (pc' := 38) (lv' := [some (.int (bc3 (bc2 (bc1 z))))]) (st' := [.int (Int32.ofInt 8), .int (bc3 (bc2 (bc1 z))), .int (bc3 (bc2 (bc1 z)))]) (h' := h) ji_70_36 rfl rfl rfl ?_
  refine wl_s (pc' := 39) (lv' := [some (.int (bc3 (bc2 (bc1 z))))]) (st' := [.int (bsr (bc3 (bc2 (bc1 z))) (Int32.ofInt 8)), .int (bc3 (bc2 (bc1 z)))]) (h' := h) ji_70_38 rfl rfl rfl ?_
  refine wl_s (pc' := 40) (lv' := [some (.int (bc3 (bc2 (bc1 z))))]) (st' := [.int ((bc3 (bc2 (bc1 z))) + (bsr (bc3 (bc2 (bc1 z))) (Int32.ofInt 8)))]) (h' := h) ji_70_39 rfl rfl rfl ?_
  refine wl_s (pc' := 41) (lv' := [some (.int (bc4 (bc3 (bc2 (bc1 z)))))]) (st' := []) (h' := h) ji_70_40 rfl rfl rfl ?_
  refine wl_s (pc' := 42) (lv' := [some (.int (bc4 (bc3 (bc2 (bc1 z)))))]) (st' := [.int (bc4 (bc3 (bc2 (bc1 z))))]) (h' := h) ji_70_41 rfl rfl rfl ?_
  refine wl_s (pc' := 43) (lv' := [some (.int (bc4 (bc3 (bc2 (bc1 z)))))]) (st' := [.int (bc4 (bc3 (bc2 (bc1 z)))), .int (bc4 (bc3 (bc2 (bc1 z))))]) (h' := h) ji_70_42 rfl rfl rfl ?_
  refine wl_s (pc' := 45) (lv' := [some (.int (bc4 (bc3 (bc2 (bc1 z)))))]) (st' := [.int (Int32.ofInt 16), .int (bc4 (bc3 (bc2 (bc1 z)))), .int (bc4 (bc3 (bc2 (bc1 z))))]) (h' := h) ji_70_43 rfl rfl rfl ?_
  refine wl_s (pc' := 46) (lv' := [some (.int (bc4 (bc3 (bc2 (bc1 z)))))]) (st' := [.int (bsr (bc4 (bc3 (bc2 (bc1 z)))) (Int32.ofInt 16)), .int (bc4 (bc3 (bc2 (bc1 z))))]) (h' := h) ji_70_45 rfl rfl rfl ?_
  refine wl_s (pc' := 47) (lv' := [some (.int (bc4 (bc3 (bc2 (bc1 z)))))]) (st' := [.int ((bc4 (bc3 (bc2 (bc1 z)))) + (bsr (bc4 (bc3 (bc2 (bc1 z)))) (Int32.ofInt 16)))]) (h' := h) ji_70_46 rfl rfl rfl ?_
  refine wl_s (pc' := 48) (lv' := [some (.int (bc5 (bc4 (bc3 (bc2 (bc1 z))))))]) (st' := []) (h' := h) ji_70_47 rfl rfl rfl ?_
  refine wl_s (pc' := 49) (lv' := [some (.int (bc5 (bc4 (bc3 (bc2 (bc1 z))))))]) (st' := [.int (bc5 (bc4 (bc3 (bc2 (bc1 z)))))]) (h' := h) ji_70_48 rfl rfl rfl ?_
  refine wl_s (pc' := 51) (lv' := [some (.int (bc5 (bc4 (bc3 (bc2 (bc1 z))))))]) (st' := [.int (Int32.ofInt 63), .int (bc5 (bc4 (bc3 (bc2 (bc1 z)))))]) (h' := h) ji_70_49 rfl rfl rfl ?_
  refine wl_s (pc' := 52) (lv' := [some (.int (bc5 (bc4 (bc3 (bc2 (bc1 z))))))]) (st' := [.int ((bc5 (bc4 (bc3 (bc2 (bc1 z))))) &&& (Int32.ofInt 63))]) (h' := h) ji_70_51 rfl rfl rfl ?_
  show wl_R _ _ 70 52 _ [.int (bcT z)] _ _
  rw [hz]
  exact wl_ri ji_70_52 jr_70 rfl ⟨rfl, rfl⟩
/-- powers with a flag on a pole, as bits: of the first n -/
def flg (g : Int → Int) : Nat → Int
  | 0 => 0
  | n + 1 => flg g n + (if g (n : Int) = -1 then 0 else 2 ^ n)
theorem flg_r (g : Int → Int) : ∀ n : Nat, 0 ≤ flg g n ∧ flg g n < 2 ^ n
  | 0 => ⟨Int.le_refl _, (by show (0 : Int) < 1; decide)⟩
  | n + 1 => by
    have ih := flg_r g n
    have h2 : (2 : Int) ^ (n + 1) = 2 ^ n + 2 ^ n := by rw [Int.pow_succ]; omega
    unfold flg
    split <;> omega
theorem bi_or : ∀ b : Fin 64, ∀ w : Fin 6, b.val < 2 ^ w.val → Int32.ofInt b.val ||| (Int32.ofInt 1 <<< (Int32.ofInt w.val &&& 31)) = Int32.ofInt (b.val + 2 ^ w.val) := by decide +kernel
theorem bi_or2 {b : Int} {w : Nat} (hb : 0 ≤ b ∧ b < 2 ^ w) (hw : w < 6) : Int32.ofInt b ||| (Int32.ofInt 1 <<< (Int32.ofInt (w : Int) &&& 31)) = Int32.ofInt (b + 2 ^ w) := by
  have h64 : (2 : Int) ^ w ≤ 64 := by
    have : w = 0 ∨ w = 1 ∨ w = 2 ∨ w = 3 ∨ w = 4 ∨ w = 5 := by omega
    rcases this with e | e | e | e | e | e <;> (subst e; decide)
  have e : ((b.toNat : Nat) : Int) = b := by omega
  have hp : ((2 ^ w : Nat) : Int) = (2 : Int) ^ w := by exact_mod_cast rfl
  have := bi_or ⟨b.toNat, by omega⟩ ⟨w, hw⟩ (by show b.toNat < 2 ^ w; omega)
  simp only [e] at this
  exact this
theorem uc_69l {d : Nat} {h : mj_H} {s : sg_} (C : CS h s) {F : Nat} (hF : isF F) (I : IF s F) {p : Int} (hp : 0 ≤ p ∧ p < 8) : ∀ (nn w : Nat), (w : Int) ≤ s F 1 → wl_R nn d 69 4 [some (.ref F), some (wp_i p), some (wp_i (flg (fun j => s (F + 6) (p * 6 + j)) w)), some (wp_i ((w : Int)))] [] h (fun v1 h1 => h1 = h ∧ v1 = some (wp_i (flg (fun j => s (F + 6) (p * 6 + j)) (s F 1).toNat))) := by
  intro nn
  induction nn with
  | zero => intros; exact wl_0
  | succ nn ih =>
    intro w hw
    have hfl := flg_r (fun j => s (F + 6) (p * 6 + j)) w
    have hI1 := I.2.1
    refine wl_s1 (pc' := 5) ji_69_4 rfl rfl rfl ?_
    refine wl_s (pc' := 6) ji_69_5 rfl rfl rfl ?_
    refine cs_gi (k := 1) (kI := 1) C (Nat.lt_of_lt_of_le (by decide) hF.1) (isF_n hF 0 (by decide)) hF.2.1 rfl rfl ji_69_6 jf_69_15 ?_
    have bd1 := I.2.1
    refine wl_icmp (t := 39) ji_69_9 rfl (by omega) (by omega) (fun (hb2 : (s F 1 : Int) ≤ ((w : Int))) => ?_) (fun (hb2 : ¬ ((s F 1 : Int) ≤ ((w : Int)))) => ?_)
    · refine wl_s (pc' := 40) ji_69_39 rfl rfl rfl ?_
      exact wl_ri ji_69_40 jr_69 rfl (⟨rfl, by rw [show w = (s F 1).toNat by omega]⟩)
    · refine wl_s (pc' := 13) ji_69_12 rfl rfl rfl ?_
      refine cs_gr (r := F + 6) (k := 7) C (Nat.lt_of_lt_of_le (by decide) hF.1) hF.2.1 rfl ji_69_13 jf_69_34 ?_
      refine wl_s (pc' := 17) ji_69_16 rfl rfl rfl ?_
      refine wl_bp ji_69_17 rfl ?_
      refine wl_imul (x := p) (y := 6) (z := p * 6) ji_69_19 (by omega) ?_
      refine wl_s (pc' := 21) ji_69_20 rfl rfl rfl ?_
      refine wl_iadd (x := p * 6) (y := (w : Int)) (z := p * 6 + ((w : Int))) ji_69_21 (by omega) ?_
      refine cs_l (x := p * 6 + ((w : Int))) C (Nat.lt_of_lt_of_le (by decide) (Nat.le_trans hF.1 (Nat.le_add_right _ _))) (isF_n hF 6 (by decide)) hF.2.2.2.2.2.2.2.1 (by omega) ji_69_22 (fun ld30 ld31 ld32 => ?_)
      have bd4 := I.2.2.2.2.1 (p * 6 + ((w : Int))) (by omega) (by omega)
      refine wl_s (pc' := 24) ji_69_23 rfl rfl rfl ?_
      refine wl_icmp (t := 33) ji_69_24 rfl (by omega) (by omega) (fun (hb5 : (s (F + 6) (p * 6 + ((w : Int))) : Int) = (-1)) => ?_) (fun (hb5 : ¬ ((s (F + 6) (p * 6 + ((w : Int))) : Int) = (-1))) => ?_)
      · refine wl_iinc (x := (w : Int)) (z := (w : Int) + 1) (lv' := [some (.ref F), some (wp_i p), some (wp_i (flg (fun j => s (F + 6) (p * 6 + j)) w)), some (wp_i ((w : Int) + 1))]) ji_69_33 rfl (Nat.le_of_ble_eq_true rfl) (by omega) rfl ?_
        refine wl_goto (t := 4) ji_69_36 rfl ?_
        have e1 : (w : Int) + 1 = ((w + 1 : Nat) : Int) := by omega
        rw [e1]
        rw [show flg (fun j => s (F + 6) (p * 6 + j)) w = flg (fun j => s (F + 6) (p * 6 + j)) (w + 1) by show _ = flg (fun j => s (F + 6) (p * 6 + j)) w + _; rw [if_pos (by omega)]; omega]
        exact ih (w + 1) (by omega)
      · refine wl_s (pc' := 28) ji_69_27 rfl rfl rfl ?_
        refine wl_s (pc' := 29) ji_69_28 rfl rfl rfl ?_
        refine wl_s (pc' := 30) ji_69_29 rfl rfl rfl ?_
        refine wl_s (pc' := 31) ji_69_30 rfl rfl rfl ?_
        refine wl_s (pc' := 32) (lv' := [some (.ref F), some (wp_i p), some (wp_i (flg (fun j => s (F + 6) (p * 6 + j)) w)), some (wp_i ((w : Int)))]) (st' := [wp_i (flg (fun j => s (F + 6) (p * 6 + j)) w + 2 ^ w)]) (h' := h) ji_69_31 rfl rfl (congrArg (fun z => (some (32, [some (.ref F), some (wp_i p), some (wp_i (flg (fun j => s (F + 6) (p * 6 + j)) w)), some (wp_i ((w : Int)))], [Value.int z], h) : Option mj_S)) (bi_or2 hfl (by omega))) ?_
        refine wl_s (pc' := 33) (lv' := [some (.ref F), some (wp_i p), some (wp_i (flg (fun j => s (F + 6) (p * 6 + j)) w + 2 ^ w)), some (wp_i ((w : Int)))]) ji_69_32 rfl rfl rfl ?_
        refine wl_iinc (x := (w : Int)) (z := (w : Int) + 1) (lv' := [some (.ref F), some (wp_i p), some (wp_i (flg (fun j => s (F + 6) (p * 6 + j)) w + 2 ^ w)), some (wp_i ((w : Int) + 1))]) ji_69_33 rfl (Nat.le_of_ble_eq_true rfl) (by omega) rfl ?_
        refine wl_goto (t := 4) ji_69_36 rfl ?_
        have e1 : (w : Int) + 1 = ((w + 1 : Nat) : Int) := by omega
        rw [e1]
        rw [show flg (fun j => s (F + 6) (p * 6 + j)) w + 2 ^ w = flg (fun j => s (F + 6) (p * 6 + j)) (w + 1) by show _ = flg (fun j => s (F + 6) (p * 6 + j)) w + _; rw [if_neg (by omega)]]
        exact ih (w + 1) (by omega)
theorem uc_69 {nn d : Nat} {h : mj_H} {s : sg_} (C : CS h s) {F : Nat} (hF : isF F) (I : IF s F) {p : Int} (hp : 0 ≤ p ∧ p < 8) : wl_R nn d 69 0 [some (.ref F), some (wp_i p), none, none] [] h (fun v1 h1 => h1 = h ∧ v1 = some (wp_i (flg (fun j => s (F + 6) (p * 6 + j)) (s F 1).toNat))) := by
  refine wl_s (pc' := 1) ji_69_0 rfl rfl rfl ?_
  refine wl_s (pc' := 2) (lv' := [some (.ref F), some (wp_i p), some (wp_i 0), none]) ji_69_1 rfl rfl rfl ?_
  refine wl_s (pc' := 3) ji_69_2 rfl rfl rfl ?_
  refine wl_s (pc' := 4) (lv' := [some (.ref F), some (wp_i p), some (wp_i 0), some (wp_i 0)]) ji_69_3 rfl rfl rfl ?_
  exact uc_69l C hF I hp nn 0 (by have := I.2.1; omega)
