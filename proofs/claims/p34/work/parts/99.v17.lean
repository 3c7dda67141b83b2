/-! -/
set_option maxRecDepth 100000 in
theorem ji_133_0 : mj_ins 133 0 = some (.iconst 1) := by decide +kernel
set_option maxRecDepth 100000 in
theorem ji_133_1 : mj_ins 133 1 = some (.istore_n 2) := by decide +kernel
set_option maxRecDepth 100000 in
theorem ji_133_2 : mj_ins 133 2 = some (.iconst 0) := by decide +kernel
set_option maxRecDepth 100000 in
theorem ji_133_3 : mj_ins 133 3 = some (.istore_n 3) := by decide +kernel
set_option maxRecDepth 100000 in
theorem ji_133_4 : mj_ins 133 4 = some (.iload_n 3) := by decide +kernel
set_option maxRecDepth 100000 in
theorem ji_133_5 : mj_ins 133 5 = some (.iconst 3) := by decide +kernel
set_option maxRecDepth 100000 in
theorem ji_133_6 : mj_ins 133 6 = some (.if_icmp .ge 44) := by decide +kernel
set_option maxRecDepth 100000 in
theorem ji_133_9 : mj_ins 133 9 = some (.bipush 7) := by decide +kernel
set_option maxRecDepth 100000 in
theorem ji_133_11 : mj_ins 133 11 = some (.iconst 3) := by decide +kernel
set_option maxRecDepth 100000 in
theorem ji_133_12 : mj_ins 133 12 = some (.iload_n 3) := by decide +kernel
set_option maxRecDepth 100000 in
theorem ji_133_13 : mj_ins 133 13 = some (.imul) := by decide +kernel
set_option maxRecDepth 100000 in
theorem ji_133_14 : mj_ins 133 14 = some (.ishl) := by decide +kernel
set_option maxRecDepth 100000 in
theorem ji_133_15 : mj_ins 133 15 = some (.istore 4) := by decide +kernel
set_option maxRecDepth 100000 in
theorem ji_133_17 : mj_ins 133 17 = some (.iload_n 2) := by decide +kernel
set_option maxRecDepth 100000 in
theorem ji_133_18 : mj_ins 133 18 = some (.ifCond .eq 24) := by decide +kernel
set_option maxRecDepth 100000 in
theorem ji_133_21 : mj_ins 133 21 = some (.iload_n 0) := by decide +kernel
set_option maxRecDepth 100000 in
theorem ji_133_22 : mj_ins 133 22 = some (.iload 4) := by decide +kernel
set_option maxRecDepth 100000 in
theorem ji_133_24 : mj_ins 133 24 = some (.iand) := by decide +kernel
set_option maxRecDepth 100000 in
theorem ji_133_25 : mj_ins 133 25 = some (.invokestatic 9) := by decide +kernel
set_option maxRecDepth 100000 in
theorem jc_133_9 : mj_cal 133 9 = some (1, 70, 1) := by decide +kernel
set_option maxRecDepth 100000 in
theorem ji_133_28 : mj_ins 133 28 = some (.iload_n 1) := by decide +kernel
set_option maxRecDepth 100000 in
theorem ji_133_29 : mj_ins 133 29 = some (.iload 4) := by decide +kernel
set_option maxRecDepth 100000 in
theorem ji_133_31 : mj_ins 133 31 = some (.iand) := by decide +kernel
set_option maxRecDepth 100000 in
theorem ji_133_32 : mj_ins 133 32 = some (.invokestatic 9) := by decide +kernel
set_option maxRecDepth 100000 in
theorem ji_133_35 : mj_ins 133 35 = some (.if_icmp .ne 7) := by decide +kernel
set_option maxRecDepth 100000 in
theorem ji_133_42 : mj_ins 133 42 = some (.iconst 0) := by decide +kernel
set_option maxRecDepth 100000 in
theorem ji_133_43 : mj_ins 133 43 = some (.istore_n 2) := by decide +kernel
set_option maxRecDepth 100000 in
theorem ji_133_44 : mj_ins 133 44 = some (.iinc 3 1) := by decide +kernel
set_option maxRecDepth 100000 in
theorem ji_133_47 : mj_ins 133 47 = some (.goto (-43)) := by decide +kernel
set_option maxRecDepth 100000 in
theorem ji_133_50 : mj_ins 133 50 = some (.iload_n 2) := by decide +kernel
set_option maxRecDepth 100000 in
theorem ji_133_51 : mj_ins 133 51 = some (.ireturn) := by decide +kernel
set_option maxRecDepth 100000 in
theorem jr_133 : mj_ret 133 = some .boolean := by decide +kernel
set_option maxRecDepth 100000 in
theorem ji_133_38 : mj_ins 133 38 = some (.iconst 1) := by decide +kernel
set_option maxRecDepth 100000 in
theorem ji_133_39 : mj_ins 133 39 = some (.goto 4) := by decide +kernel
set_option maxRecDepth 100000 in
theorem ji_132_16 : mj_ins 132 16 = some (.iload_n 3) := by decide +kernel
set_option maxRecDepth 100000 in
theorem ji_132_17 : mj_ins 132 17 = some (.aload_n 0) := by decide +kernel
set_option maxRecDepth 100000 in
theorem ji_132_18 : mj_ins 132 18 = some (.getfield 21) := by decide +kernel
set_option maxRecDepth 100000 in
theorem jf_132_21 : mj_fld 132 21 = some (3, 1, .int, true) := by decide +kernel
set_option maxRecDepth 100000 in
theorem ji_132_21 : mj_ins 132 21 = some (.if_icmp .ge 30) := by decide +kernel
set_option maxRecDepth 100000 in
theorem ji_132_51 : mj_ins 132 51 = some (.iinc 2 1) := by decide +kernel
set_option maxRecDepth 100000 in
theorem ji_132_54 : mj_ins 132 54 = some (.goto (-50)) := by decide +kernel
set_option maxRecDepth 100000 in
theorem ji_132_4 : mj_ins 132 4 = some (.iload_n 2) := by decide +kernel
set_option maxRecDepth 100000 in
theorem ji_132_5 : mj_ins 132 5 = some (.aload_n 0) := by decide +kernel
set_option maxRecDepth 100000 in
theorem ji_132_6 : mj_ins 132 6 = some (.getfield 21) := by decide +kernel
set_option maxRecDepth 100000 in
theorem ji_132_9 : mj_ins 132 9 = some (.if_icmp .ge 48) := by decide +kernel
set_option maxRecDepth 100000 in
theorem ji_132_57 : mj_ins 132 57 = some (.iload_n 1) := by decide +kernel
set_option maxRecDepth 100000 in
theorem ji_132_58 : mj_ins 132 58 = some (.ireturn) := by decide +kernel
set_option maxRecDepth 100000 in
theorem jr_132 : mj_ret 132 = some .int := by decide +kernel
set_option maxRecDepth 100000 in
theorem ji_132_12 : mj_ins 132 12 = some (.iload_n 2) := by decide +kernel
set_option maxRecDepth 100000 in
theorem ji_132_13 : mj_ins 132 13 = some (.iconst 1) := by decide +kernel
set_option maxRecDepth 100000 in
theorem ji_132_14 : mj_ins 132 14 = some (.iadd) := by decide +kernel
set_option maxRecDepth 100000 in
theorem ji_132_15 : mj_ins 132 15 = some (.istore_n 3) := by decide +kernel
set_option maxRecDepth 100000 in
theorem ji_132_24 : mj_ins 132 24 = some (.aload_n 0) := by decide +kernel
set_option maxRecDepth 100000 in
theorem ji_132_25 : mj_ins 132 25 = some (.getfield 27) := by decide +kernel
set_option maxRecDepth 100000 in
theorem jf_132_27 : mj_fld 132 27 = some (3, 6, (.array .int), false) := by decide +kernel
set_option maxRecDepth 100000 in
theorem ji_132_28 : mj_ins 132 28 = some (.iload_n 2) := by decide +kernel
set_option maxRecDepth 100000 in
theorem ji_132_29 : mj_ins 132 29 = some (.iaload) := by decide +kernel
set_option maxRecDepth 100000 in
theorem ji_132_30 : mj_ins 132 30 = some (.aload_n 0) := by decide +kernel
set_option maxRecDepth 100000 in
theorem ji_132_31 : mj_ins 132 31 = some (.getfield 27) := by decide +kernel
set_option maxRecDepth 100000 in
theorem ji_132_34 : mj_ins 132 34 = some (.iload_n 3) := by decide +kernel
set_option maxRecDepth 100000 in
theorem ji_132_35 : mj_ins 132 35 = some (.iaload) := by decide +kernel
set_option maxRecDepth 100000 in
theorem ji_132_36 : mj_ins 132 36 = some (.invokestatic 31) := by decide +kernel
set_option maxRecDepth 100000 in
theorem jc_132_31 : mj_cal 132 31 = some (1, 133, 2) := by decide +kernel
set_option maxRecDepth 100000 in
theorem jn_133 : mj_nl 133 = 5 := by decide +kernel
set_option maxRecDepth 100000 in
theorem ji_132_39 : mj_ins 132 39 = some (.ifCond .eq 6) := by decide +kernel
set_option maxRecDepth 100000 in
theorem ji_132_45 : mj_ins 132 45 = some (.iinc 3 1) := by decide +kernel
set_option maxRecDepth 100000 in
theorem ji_132_48 : mj_ins 132 48 = some (.goto (-32)) := by decide +kernel
set_option maxRecDepth 100000 in
theorem ji_132_42 : mj_ins 132 42 = some (.iinc 1 1) := by decide +kernel
set_option maxRecDepth 100000 in
theorem ji_132_0 : mj_ins 132 0 = some (.iconst 0) := by decide +kernel
set_option maxRecDepth 100000 in
theorem ji_132_1 : mj_ins 132 1 = some (.istore_n 1) := by decide +kernel
set_option maxRecDepth 100000 in
theorem ji_132_2 : mj_ins 132 2 = some (.iconst 0) := by decide +kernel
set_option maxRecDepth 100000 in
theorem ji_132_3 : mj_ins 132 3 = some (.istore_n 2) := by decide +kernel
set_option maxRecDepth 100000 in
theorem ji_131_0 : mj_ins 131 0 = some (.aload_n 0) := by decide +kernel
set_option maxRecDepth 100000 in
theorem ji_131_1 : mj_ins 131 1 = some (.getfield 19) := by decide +kernel
set_option maxRecDepth 100000 in
theorem jf_131_19 : mj_fld 131 19 = some (0, 0, (.object "ForestOfPoles$State"), false) := by decide +kernel
set_option maxRecDepth 100000 in
theorem ji_131_4 : mj_ins 131 4 = some (.getfield 49) := by decide +kernel
set_option maxRecDepth 100000 in
theorem jf_131_49 : mj_fld 131 49 = some (2, 0, (.object "ForestOfPoles$Forest"), false) := by decide +kernel
set_option maxRecDepth 100000 in
theorem ji_131_7 : mj_ins 131 7 = some (.invokestatic 264) := by decide +kernel
set_option maxRecDepth 100000 in
theorem jc_131_264 : mj_cal 131 264 = some (1, 132, 1) := by decide +kernel
set_option maxRecDepth 100000 in
theorem jn_132 : mj_nl 132 = 4 := by decide +kernel
set_option maxRecDepth 100000 in
theorem ji_131_10 : mj_ins 131 10 = some (.ireturn) := by decide +kernel
set_option maxRecDepth 100000 in
theorem jr_131 : mj_ret 131 = some .int := by decide +kernel
set_option maxRecDepth 100000 in
theorem ji_292_16 : mj_ins 292 16 = some (.iload_n 3) := by decide +kernel
set_option maxRecDepth 100000 in
theorem ji_292_17 : mj_ins 292 17 = some (.iload_n 2) := by decide +kernel
set_option maxRecDepth 100000 in
theorem ji_292_18 : mj_ins 292 18 = some (.if_icmp .ge 84) := by decide +kernel
set_option maxRecDepth 100000 in
theorem ji_292_102 : mj_ins 292 102 = some (.iinc 2 1) := by decide +kernel
set_option maxRecDepth 100000 in
theorem ji_292_105 : mj_ins 292 105 = some (.goto (-101)) := by decide +kernel
set_option maxRecDepth 100000 in
theorem ji_292_4 : mj_ins 292 4 = some (.iload_n 2) := by decide +kernel
set_option maxRecDepth 100000 in
theorem ji_292_5 : mj_ins 292 5 = some (.aload_n 0) := by decide +kernel
set_option maxRecDepth 100000 in
theorem ji_292_6 : mj_ins 292 6 = some (.getfield 7) := by decide +kernel
set_option maxRecDepth 100000 in
theorem jf_292_7 : mj_fld 292 7 = some (11, 0, (.array .int), false) := by decide +kernel
set_option maxRecDepth 100000 in
theorem ji_292_9 : mj_ins 292 9 = some (.iconst 1) := by decide +kernel
set_option maxRecDepth 100000 in
theorem ji_292_10 : mj_ins 292 10 = some (.iaload) := by decide +kernel
set_option maxRecDepth 100000 in
theorem ji_292_11 : mj_ins 292 11 = some (.if_icmp .ge 97) := by decide +kernel
set_option maxRecDepth 100000 in
theorem ji_292_108 : mj_ins 292 108 = some (.iload_n 1) := by decide +kernel
set_option maxRecDepth 100000 in
theorem ji_292_109 : mj_ins 292 109 = some (.ireturn) := by decide +kernel
set_option maxRecDepth 100000 in
theorem jr_292 : mj_ret 292 = some .int := by decide +kernel
set_option maxRecDepth 100000 in
theorem ji_292_14 : mj_ins 292 14 = some (.iconst 0) := by decide +kernel
set_option maxRecDepth 100000 in
theorem ji_292_15 : mj_ins 292 15 = some (.istore_n 3) := by decide +kernel
set_option maxRecDepth 100000 in
theorem ji_292_21 : mj_ins 292 21 = some (.iconst 1) := by decide +kernel
set_option maxRecDepth 100000 in
theorem ji_292_22 : mj_ins 292 22 = some (.istore 4) := by decide +kernel
set_option maxRecDepth 100000 in
theorem ji_292_24 : mj_ins 292 24 = some (.iconst 0) := by decide +kernel
set_option maxRecDepth 100000 in
theorem ji_292_25 : mj_ins 292 25 = some (.istore 5) := by decide +kernel
set_option maxRecDepth 100000 in
theorem ji_292_27 : mj_ins 292 27 = some (.iload 5) := by decide +kernel
set_option maxRecDepth 100000 in
theorem ji_292_29 : mj_ins 292 29 = some (.bipush 9) := by decide +kernel
set_option maxRecDepth 100000 in
theorem ji_292_31 : mj_ins 292 31 = some (.if_icmp .ge 52) := by decide +kernel
set_option maxRecDepth 100000 in
theorem ji_292_34 : mj_ins 292 34 = some (.iload 4) := by decide +kernel
set_option maxRecDepth 100000 in
theorem ji_292_36 : mj_ins 292 36 = some (.ifCond .eq 38) := by decide +kernel
set_option maxRecDepth 100000 in
theorem ji_292_39 : mj_ins 292 39 = some (.aload_n 0) := by decide +kernel
set_option maxRecDepth 100000 in
theorem ji_292_40 : mj_ins 292 40 = some (.iload_n 2) := by decide +kernel
set_option maxRecDepth 100000 in
theorem ji_292_41 : mj_ins 292 41 = some (.invokevirtual 384) := by decide +kernel
set_option maxRecDepth 100000 in
theorem jc_292_384 : mj_cal 292 384 = some (2, 261, 1) := by decide +kernel
set_option maxRecDepth 100000 in
theorem ji_292_44 : mj_ins 292 44 = some (.iload 5) := by decide +kernel
set_option maxRecDepth 100000 in
theorem ji_292_46 : mj_ins 292 46 = some (.ishr) := by decide +kernel
set_option maxRecDepth 100000 in
theorem ji_292_47 : mj_ins 292 47 = some (.bipush 7) := by decide +kernel
set_option maxRecDepth 100000 in
theorem ji_292_49 : mj_ins 292 49 = some (.iand) := by decide +kernel
set_option maxRecDepth 100000 in
theorem ji_292_50 : mj_ins 292 50 = some (.invokestatic 295) := by decide +kernel
set_option maxRecDepth 100000 in
theorem jc_292_295 : mj_cal 292 295 = some (1, 229, 1) := by decide +kernel
set_option maxRecDepth 100000 in
theorem ji_292_53 : mj_ins 292 53 = some (.aload_n 0) := by decide +kernel
set_option maxRecDepth 100000 in
theorem ji_292_54 : mj_ins 292 54 = some (.iload_n 3) := by decide +kernel
set_option maxRecDepth 100000 in
theorem ji_292_55 : mj_ins 292 55 = some (.invokevirtual 384) := by decide +kernel
set_option maxRecDepth 100000 in
theorem ji_292_58 : mj_ins 292 58 = some (.iload 5) := by decide +kernel
set_option maxRecDepth 100000 in
theorem ji_292_60 : mj_ins 292 60 = some (.ishr) := by decide +kernel
set_option maxRecDepth 100000 in
theorem ji_292_61 : mj_ins 292 61 = some (.bipush 7) := by decide +kernel
set_option maxRecDepth 100000 in
theorem ji_292_63 : mj_ins 292 63 = some (.iand) := by decide +kernel
set_option maxRecDepth 100000 in
theorem ji_292_64 : mj_ins 292 64 = some (.invokestatic 295) := by decide +kernel
set_option maxRecDepth 100000 in
theorem ji_292_67 : mj_ins 292 67 = some (.if_icmp .ne 7) := by decide +kernel
set_option maxRecDepth 100000 in
theorem ji_292_74 : mj_ins 292 74 = some (.iconst 0) := by decide +kernel
set_option maxRecDepth 100000 in
theorem ji_292_75 : mj_ins 292 75 = some (.istore 4) := by decide +kernel
set_option maxRecDepth 100000 in
theorem ji_292_77 : mj_ins 292 77 = some (.iinc 5 3) := by decide +kernel
set_option maxRecDepth 100000 in
theorem ji_292_80 : mj_ins 292 80 = some (.goto (-53)) := by decide +kernel
set_option maxRecDepth 100000 in
theorem ji_292_83 : mj_ins 292 83 = some (.iload_n 1) := by decide +kernel
set_option maxRecDepth 100000 in
theorem ji_292_84 : mj_ins 292 84 = some (.iload 4) := by decide +kernel
set_option maxRecDepth 100000 in
theorem ji_292_86 : mj_ins 292 86 = some (.ifCond .eq 7) := by decide +kernel
set_option maxRecDepth 100000 in
theorem ji_292_93 : mj_ins 292 93 = some (.iconst 0) := by decide +kernel
set_option maxRecDepth 100000 in
theorem ji_292_94 : mj_ins 292 94 = some (.iadd) := by decide +kernel
set_option maxRecDepth 100000 in
theorem ji_292_95 : mj_ins 292 95 = some (.istore_n 1) := by decide +kernel
set_option maxRecDepth 100000 in
theorem ji_292_96 : mj_ins 292 96 = some (.iinc 3 1) := by decide +kernel
set_option maxRecDepth 100000 in
theorem ji_292_99 : mj_ins 292 99 = some (.goto (-83)) := by decide +kernel
set_option maxRecDepth 100000 in
theorem ji_292_70 : mj_ins 292 70 = some (.iconst 1) := by decide +kernel
set_option maxRecDepth 100000 in
theorem ji_292_71 : mj_ins 292 71 = some (.goto 4) := by decide +kernel
set_option maxRecDepth 100000 in
theorem ji_292_89 : mj_ins 292 89 = some (.iconst 1) := by decide +kernel
set_option maxRecDepth 100000 in
theorem ji_292_90 : mj_ins 292 90 = some (.goto 4) := by decide +kernel
set_option maxRecDepth 100000 in
theorem ji_292_0 : mj_ins 292 0 = some (.iconst 0) := by decide +kernel
set_option maxRecDepth 100000 in
theorem ji_292_1 : mj_ins 292 1 = some (.istore_n 1) := by decide +kernel
set_option maxRecDepth 100000 in
theorem ji_292_2 : mj_ins 292 2 = some (.iconst 0) := by decide +kernel
set_option maxRecDepth 100000 in
theorem ji_292_3 : mj_ins 292 3 = some (.istore_n 2) := by decide +kernel
/-! afar, in both; laid by program (wp_v17.py) -/
/-- alike row by row, from afar -/
def alk_ (x y : Int) : Int := if bcn (x % 8) = bcn (y % 8) ∧ bcn (x / 8 % 8) = bcn (y / 8 % 8) ∧ bcn (x / 64 % 8) = bcn (y / 64 % 8) then 1 else 0
theorem al_b (x y : Int) : 0 ≤ alk_ x y ∧ alk_ x y ≤ 1 := by
  unfold alk_
  split <;> decide
theorem al_s (x y : Int) : alk_ x y = alk_ y x := by
  unfold alk_
  by_cases c : bcn (x % 8) = bcn (y % 8) ∧ bcn (x / 8 % 8) = bcn (y / 8 % 8) ∧ bcn (x / 64 % 8) = bcn (y / 64 % 8)
  · rw [if_pos c, if_pos ⟨c.1.symm, c.2.1.symm, c.2.2.symm⟩]
  · rw [if_neg c, if_neg (fun z => c ⟨z.1.symm, z.2.1.symm, z.2.2.symm⟩)]
theorem tot_B {g : Int → Int} {B : Int} : ∀ n : Nat, (∀ j : Int, 0 ≤ j → j < n → 0 ≤ g j ∧ g j ≤ B) → 0 ≤ tot g n ∧ tot g n ≤ B * (n : Int)
  | 0, _ => by
    show (0 : Int) ≤ 0 ∧ (0 : Int) ≤ B * 0
    rw [Int.mul_zero]
    decide
  | n + 1, h => by
    have a := tot_B n (fun j a b => h j a (by omega))
    have b := h n (by omega) (by omega)
    show 0 ≤ tot g n + g (n : Int) ∧ tot g n + g (n : Int) ≤ B * ((n : Int) + 1)
    rw [Int.mul_add, Int.mul_one]
    omega
theorem tot_z {g : Int → Int} : ∀ n : Nat, (∀ j : Int, 0 ≤ j → j < n → g j = 0) → tot g n = 0
  | 0, _ => rfl
  | n + 1, h => by
    show tot g n + g (n : Int) = 0
    rw [tot_z n (fun j a b => h j a (by omega)), h n (by omega) (by omega)]
    rfl
theorem tot_p {g f : Int → Int} : ∀ n : Nat, tot (fun j => g j + f j) n = tot g n + tot f n
  | 0 => rfl
  | n + 1 => by
    show tot (fun j => g j + f j) n + (g (n : Int) + f (n : Int)) = tot g n + g (n : Int) + (tot f n + f (n : Int))
    rw [tot_p n]
    omega
/-- twos of unlike places: counted from either end -/
theorem tot_2 {a : Int → Int → Int} (hs : ∀ i k, a i k = a k i) : ∀ n : Nat, tot (fun i => tot (fun k => if i < k then a i k else 0) n) n = tot (fun i => tot (fun k => a i k) i.toNat) n
  | 0 => rfl
  | n + 1 => by
    have ih := tot_2 hs n
    show tot (fun i => tot (fun k => if i < k then a i k else 0) (n + 1)) n + tot (fun k => if (n : Int) < k then a (n : Int) k else 0) (n + 1) = tot (fun i => tot (fun k => a i k) i.toNat) n + tot (fun k => a (n : Int) k) ((n : Int)).toNat
    rw [tot_z (n + 1) (fun j a b => if_neg (by omega)), show ((n : Int)).toNat = n from rfl]
    rw [tot_c (g := fun i => tot (fun k => if i < k then a i k else 0) (n + 1)) (k := fun i => tot (fun k => if i < k then a i k else 0) n + a i (n : Int)) n (fun j x y => by
      show tot (fun k => if j < k then a j k else 0) n + (if j < (n : Int) then a j (n : Int) else 0) = _
      rw [if_pos y])]
    rw [tot_p, ih, tot_c (g := fun i => a i (n : Int)) (k := fun k => a (n : Int) k) n (fun j _ _ => hs j (n : Int))]
    omega
theorem af_c0 : ∀ x : Fin 512, Int32.ofInt x.val &&& Int32.ofInt 7 = Int32.ofInt ((x.val : Int) % 8) := by decide +kernel
theorem af_d0 : ∀ x : Fin 512, bcn ((x.val : Int) % 8) = bcn ((x.val : Int) % 8) := by decide +kernel
theorem af_s0 : Int32.ofInt 7 <<< (Int32.ofInt 0 &&& 31) = Int32.ofInt 7 := by decide +kernel
theorem af_r0 : ∀ x : Fin 512, (Int32.ofInt x.val >>> (Int32.ofInt 0 &&& 31)) &&& Int32.ofInt 7 = Int32.ofInt ((x.val : Int) % 8) := by decide +kernel
theorem af_c0x {x : Int} (hx : 0 ≤ x ∧ x ≤ 511) : Int32.ofInt x &&& Int32.ofInt 7 = Int32.ofInt (x % 8) := by
  have e : ((x.toNat : Nat) : Int) = x := by omega
  have := af_c0 ⟨x.toNat, by omega⟩
  simp only [e] at this
  exact this
theorem af_d0x {x : Int} (hx : 0 ≤ x ∧ x ≤ 511) : bcn (x % 8) = bcn (x % 8) := rfl
theorem af_r0x {x : Int} (hx : 0 ≤ x ∧ x ≤ 511) : (Int32.ofInt x >>> (Int32.ofInt 0 &&& 31)) &&& Int32.ofInt 7 = Int32.ofInt (x % 8) := by
  have e : ((x.toNat : Nat) : Int) = x := by omega
  have := af_r0 ⟨x.toNat, by omega⟩
  simp only [e] at this
  exact this
theorem af_c1 : ∀ x : Fin 512, Int32.ofInt x.val &&& Int32.ofInt 56 = Int32.ofInt ((x.val : Int) / 8 % 8 * 8) := by decide +kernel
theorem af_d1 : ∀ x : Fin 512, bcn ((x.val : Int) / 8 % 8 * 8) = bcn ((x.val : Int) / 8 % 8) := by decide +kernel
theorem af_s1 : Int32.ofInt 7 <<< (Int32.ofInt 3 &&& 31) = Int32.ofInt 56 := by decide +kernel
theorem af_r1 : ∀ x : Fin 512, (Int32.ofInt x.val >>> (Int32.ofInt 3 &&& 31)) &&& Int32.ofInt 7 = Int32.ofInt ((x.val : Int) / 8 % 8) := by decide +kernel
theorem af_c1x {x : Int} (hx : 0 ≤ x ∧ x ≤ 511) : Int32.ofInt x &&& Int32.ofInt 56 = Int32.ofInt (x / 8 % 8 * 8) := by
  have e : ((x.toNat : Nat) : Int) = x := by omega
  have := af_c1 ⟨x.toNat, by omega⟩
  simp only [e] at this
  exact this
theorem af_d1x {x : Int} (hx : 0 ≤ x ∧ x ≤ 511) : bcn (x / 8 % 8 * 8) = bcn (x / 8 % 8) := by
  have e : ((x.toNat : Nat) : Int) = x := by omega
  have := af_d1 ⟨x.toNat, by omega⟩
  simp only [e] at this
  exact this
theorem af_r1x {x : Int} (hx : 0 ≤ x ∧ x ≤ 511) : (Int32.ofInt x >>> (Int32.ofInt 3 &&& 31)) &&& Int32.ofInt 7 = Int32.ofInt (x / 8 % 8) := by
  have e : ((x.toNat : Nat) : Int) = x := by omega
  have := af_r1 ⟨x.toNat, by omega⟩
  simp only [e] at this
  exact this
theorem af_c2 : ∀ x : Fin 512, Int32.ofInt x.val &&& Int32.ofInt 448 = Int32.ofInt ((x.val : Int) / 64 % 8 * 64) := by decide +kernel
theorem af_d2 : ∀ x : Fin 512, bcn ((x.val : Int) / 64 % 8 * 64) = bcn ((x.val : Int) / 64 % 8) := by decide +kernel
theorem af_s2 : Int32.ofInt 7 <<< (Int32.ofInt 6 &&& 31) = Int32.ofInt 448 := by decide +kernel
theorem af_r2 : ∀ x : Fin 512, (Int32.ofInt x.val >>> (Int32.ofInt 6 &&& 31)) &&& Int32.ofInt 7 = Int32.ofInt ((x.val : Int) / 64 % 8) := by decide +kernel
theorem af_c2x {x : Int} (hx : 0 ≤ x ∧ x ≤ 511) : Int32.ofInt x &&& Int32.ofInt 448 = Int32.ofInt (x / 64 % 8 * 64) := by
  have e : ((x.toNat : Nat) : Int) = x := by omega
  have := af_c2 ⟨x.toNat, by omega⟩
  simp only [e] at this
  exact this
theorem af_d2x {x : Int} (hx : 0 ≤ x ∧ x ≤ 511) : bcn (x / 64 % 8 * 64) = bcn (x / 64 % 8) := by
  have e : ((x.toNat : Nat) : Int) = x := by omega
  have := af_d2 ⟨x.toNat, by omega⟩
  simp only [e] at this
  exact this
theorem af_r2x {x : Int} (hx : 0 ≤ x ∧ x ≤ 511) : (Int32.ofInt x >>> (Int32.ofInt 6 &&& 31)) &&& Int32.ofInt 7 = Int32.ofInt (x / 64 % 8) := by
  have e : ((x.toNat : Nat) : Int) = x := by omega
  have := af_r2 ⟨x.toNat, by omega⟩
  simp only [e] at this
  exact this
theorem uc_133 {nn d : Nat} {h : mj_H} {x y : Int} (hx : 0 ≤ x ∧ x ≤ 511) (hy : 0 ≤ y ∧ y ≤ 511) : wl_R nn (d + 1) 133 0 [some (wp_i x), some (wp_i y), none, none, none] [] h (fun v1 h1 => h1 = h ∧ ∃ u : Int, v1 = some (wp_i u) ∧ (u = 0 ∨ u = 1) ∧ (u = 1 ↔ (bcn (x % 8) = bcn (y % 8) ∧ bcn (x / 8 % 8) = bcn (y / 8 % 8) ∧ bcn (x / 64 % 8) = bcn (y / 64 % 8)))) := by
  refine wl_s (pc' := 1) ji_133_0 rfl rfl rfl ?_
  refine wl_s (pc' := 2) (lv' := [some (wp_i x), some (wp_i y), some (wp_i 1), none, none]) ji_133_1 rfl rfl rfl ?_
  refine wl_s (pc' := 3) ji_133_2 rfl rfl rfl ?_
  refine wl_s (pc' := 4) (lv' := [some (wp_i x), some (wp_i y), some (wp_i 1), some (wp_i 0), none]) ji_133_3 rfl rfl rfl ?_
  refine wl_s (pc' := 5) ji_133_4 rfl rfl rfl ?_
  refine wl_s (pc' := 6) ji_133_5 rfl rfl rfl ?_
  refine wl_icmp (t := 50) ji_133_6 rfl (by omega) (by omega) (fun (hb1 : (3 : Int) ≤ 0) => (by exfalso; omega)) (fun (hb1 : ¬ ((3 : Int) ≤ 0)) => ?_)
  refine wl_bp ji_133_9 rfl ?_
  refine wl_s (pc' := 12) ji_133_11 rfl rfl rfl ?_
  refine wl_s (pc' := 13) ji_133_12 rfl rfl rfl ?_
  refine wl_imul (x := 3) (y := 0) (z := 0) ji_133_13 (by omega) ?_
  refine wl_s (pc' := 15) (lv' := [some (wp_i x), some (wp_i y), some (wp_i 1), some (wp_i 0), none]) (st' := [wp_i (7)]) (h' := h) ji_133_14 rfl rfl (congrArg (fun z => (some (15, [some (wp_i x), some (wp_i y), some (wp_i 1), some (wp_i 0), none], [Value.int z], h) : Option mj_S)) af_s0) ?_
  refine wl_s (pc' := 17) (lv' := [some (wp_i x), some (wp_i y), some (wp_i 1), some (wp_i 0), some (wp_i 7)]) ji_133_15 rfl rfl rfl ?_
  refine wl_s (pc' := 18) ji_133_17 rfl rfl rfl ?_
  refine wl_if (t := 42) ji_133_18 rfl (by omega) (fun (hb2 : (1 : Int) = 0) => (by exfalso; omega)) (fun (hb2 : ¬ ((1 : Int) = 0)) => ?_)
  refine wl_s (pc' := 22) ji_133_21 rfl rfl rfl ?_
  refine wl_s (pc' := 24) ji_133_22 rfl rfl rfl ?_
  refine wl_s (pc' := 25) (lv' := [some (wp_i x), some (wp_i y), some (wp_i 1), some (wp_i 0), some (wp_i 7)]) (st' := [wp_i (x % 8)]) (h' := h) ji_133_24 rfl rfl (congrArg (fun z => (some (25, [some (wp_i x), some (wp_i y), some (wp_i 1), some (wp_i 0), some (wp_i 7)], [Value.int z], h) : Option mj_S)) (af_c0x hx)) ?_
  have ra3 : 0 ≤ x % 8 ∧ x % 8 ≤ 511 := by omega
  refine wl_sc (d := d) (as := [wp_i (x % 8)]) (rest := []) ji_133_25 jc_133_9 (Nat.le_of_ble_eq_true rfl) rfl (Nat.le_of_ble_eq_true rfl) rfl (by rw [jn_70]; rfl) (uc_70 (d := d) (x := x % 8) (by omega)) (fun v1 h4 R => ?_)
  obtain ⟨ee, rfl⟩ := R
  rw [ee, af_d0x hx]
  clear ee
  have hb5 := bcn_r (x % 8)
  show wl_R _ _ 133 28 [some (wp_i x), some (wp_i y), some (wp_i 1), some (wp_i 0), some (wp_i 7)] [wp_i (bcn (x % 8))] _ _
  refine wl_s (pc' := 29) ji_133_28 rfl rfl rfl ?_
  refine wl_s (pc' := 31) ji_133_29 rfl rfl rfl ?_
  refine wl_s (pc' := 32) (lv' := [some (wp_i x), some (wp_i y), some (wp_i 1), some (wp_i 0), some (wp_i 7)]) (st' := [wp_i (y % 8), wp_i (bcn (x % 8))]) (h' := h) ji_133_31 rfl rfl (congrArg (fun z => (some (32, [some (wp_i x), some (wp_i y), some (wp_i 1), some (wp_i 0), some (wp_i 7)], [Value.int z, wp_i (bcn (x % 8))], h) : Option mj_S)) (af_c0x hy)) ?_
  have ra6 : 0 ≤ y % 8 ∧ y % 8 ≤ 511 := by omega
  refine wl_sc (d := d) (as := [wp_i (y % 8)]) (rest := [wp_i (bcn (x % 8))]) ji_133_32 jc_133_9 (Nat.le_of_ble_eq_true rfl) rfl (Nat.le_of_ble_eq_true rfl) rfl (by rw [jn_70]; rfl) (uc_70 (d := d) (x := y % 8) (by omega)) (fun v1 h7 R => ?_)
  obtain ⟨ee, rfl⟩ := R
  rw [ee, af_d0x hy]
  clear ee
  have hb8 := bcn_r (y % 8)
  show wl_R _ _ 133 35 [some (wp_i x), some (wp_i y), some (wp_i 1), some (wp_i 0), some (wp_i 7)] [wp_i (bcn (y % 8)), wp_i (bcn (x % 8))] _ _
  refine wl_icmp (t := 42) ji_133_35 rfl (by omega) (by omega) (fun (hb9 : ¬ (bcn (x % 8) : Int) = (bcn (y % 8))) => ?_) (fun (hb9 : ¬ (¬ (bcn (x % 8) : Int) = (bcn (y % 8)))) => ?_)
  · refine wl_s (pc' := 43) ji_133_42 rfl rfl rfl ?_
    refine wl_s (pc' := 44) (lv' := [some (wp_i x), some (wp_i y), some (wp_i 0), some (wp_i 0), some (wp_i 7)]) ji_133_43 rfl rfl rfl ?_
    refine wl_iinc (x := 0) (z := 1) (lv' := [some (wp_i x), some (wp_i y), some (wp_i 0), some (wp_i 1), some (wp_i 7)]) ji_133_44 rfl (Nat.le_of_ble_eq_true rfl) (by omega) rfl ?_
    refine wl_goto (t := 4) ji_133_47 rfl ?_
    refine wl_s (pc' := 5) ji_133_4 rfl rfl rfl ?_
    refine wl_s (pc' := 6) ji_133_5 rfl rfl rfl ?_
    refine wl_icmp (t := 50) ji_133_6 rfl (by omega) (by omega) (fun (hb10 : (3 : Int) ≤ 1) => (by exfalso; omega)) (fun (hb10 : ¬ ((3 : Int) ≤ 1)) => ?_)
    refine wl_bp ji_133_9 rfl ?_
    refine wl_s (pc' := 12) ji_133_11 rfl rfl rfl ?_
    refine wl_s (pc' := 13) ji_133_12 rfl rfl rfl ?_
    refine wl_imul (x := 3) (y := 1) (z := 3) ji_133_13 (by omega) ?_
    refine wl_s (pc' := 15) (lv' := [some (wp_i x), some (wp_i y), some (wp_i 0), some (wp_i 1), some (wp_i 7)]) (st' := [wp_i (56)]) (h' := h) ji_133_14 rfl rfl (congrArg (fun z => (some (15, [some (wp_i x), some (wp_i y), some (wp_i 0), some (wp_i 1), some (wp_i 7)], [Value.int z], h) : Option mj_S)) af_s1) ?_
    refine wl_s (pc' := 17) (lv' := [some (wp_i x), some (wp_i y), some (wp_i 0), some (wp_i 1), some (wp_i 56)]) ji_133_15 rfl rfl rfl ?_
    refine wl_s (pc' := 18) ji_133_17 rfl rfl rfl ?_
    refine wl_if (t := 42) ji_133_18 rfl (by omega) (fun (hb11 : (0 : Int) = 0) => ?_) (fun (hb11 : ¬ ((0 : Int) = 0)) => (by exfalso; omega))
    refine wl_s (pc' := 43) ji_133_42 rfl rfl rfl ?_
    refine wl_s (pc' := 44) (lv' := [some (wp_i x), some (wp_i y), some (wp_i 0), some (wp_i 1), some (wp_i 56)]) ji_133_43 rfl rfl rfl ?_
    refine wl_iinc (x := 1) (z := 2) (lv' := [some (wp_i x), some (wp_i y), some (wp_i 0), some (wp_i 2), some (wp_i 56)]) ji_133_44 rfl (Nat.le_of_ble_eq_true rfl) (by omega) rfl ?_
    refine wl_goto (t := 4) ji_133_47 rfl ?_
    refine wl_s (pc' := 5) ji_133_4 rfl rfl rfl ?_
    refine wl_s (pc' := 6) ji_133_5 rfl rfl rfl ?_
    refine wl_icmp (t := 50) ji_133_6 rfl (by omega) (by omega) (fun (hb12 : (3 : Int) ≤ 2) => (by exfalso; omega)) (fun (hb12 : ¬ ((3 : Int) ≤ 2)) => ?_)
    refine wl_bp ji_133_9 rfl ?_
    refine wl_s (pc' := 12) ji_133_11 rfl rfl rfl ?_
    refine wl_s (pc' := 13) ji_133_12 rfl rfl rfl ?_
    refine wl_imul (x := 3) (y := 2) (z := 6) ji_133_13 (by omega) ?_
    refine wl_s (pc' := 15) (lv' := [some (wp_i x), some (wp_i y), some (wp_i 0), some (wp_i 2), some (wp_i 56)]) (st' := [wp_i (448)]) (h' := h) ji_133_14 rfl rfl (congrArg (fun z => (some (15, [some (wp_i x), some (wp_i y), some (wp_i 0), some (wp_i 2), some (wp_i 56)], [Value.int z], h) : Option mj_S)) af_s2) ?_
    refine wl_s (pc' := 17) (lv' := [some (wp_i x), some (wp_i y), some (wp_i 0), some (wp_i 2), some (wp_i 448)]) ji_133_15 rfl rfl rfl ?_
    refine wl_s (pc' := 18) ji_133_17 rfl rfl rfl ?_
    refine wl_if (t := 42) ji_133_18 rfl (by omega) (fun (hb13 : (0 : Int) = 0) => ?_) (fun (hb13 : ¬ ((0 : Int) = 0)) => (by exfalso; omega))
    refine wl_s (pc' := 43) ji_133_42 rfl rfl rfl ?_
    refine wl_s (pc' := 44) (lv' := [some (wp_i x), some (wp_i y), some (wp_i 0), some (wp_i 2), some (wp_i 448)]) ji_133_43 rfl rfl rfl ?_
    refine wl_iinc (x := 2) (z := 3) (lv' := [some (wp_i x), some (wp_i y), some (wp_i 0), some (wp_i 3), some (wp_i 448)]) ji_133_44 rfl (Nat.le_of_ble_eq_true rfl) (by omega) rfl ?_
    refine wl_goto (t := 4) ji_133_47 rfl ?_
    refine wl_s (pc' := 5) ji_133_4 rfl rfl rfl ?_
    refine wl_s (pc' := 6) ji_133_5 rfl rfl rfl ?_
    refine wl_icmp (t := 50) ji_133_6 rfl (by omega) (by omega) (fun (hb14 : (3 : Int) ≤ 3) => ?_) (fun (hb14 : ¬ ((3 : Int) ≤ 3)) => (by exfalso; omega))
    refine wl_s (pc' := 51) ji_133_50 rfl rfl rfl ?_
    exact wl_ri ji_133_51 jr_133 (pv_nb (by omega)) (⟨rfl, 0, rfl, by omega, by omega⟩)
  · refine wl_s (pc' := 39) ji_133_38 rfl rfl rfl ?_
    refine wl_goto (t := 43) ji_133_39 rfl ?_
    refine wl_s (pc' := 44) (lv' := [some (wp_i x), some (wp_i y), some (wp_i 1), some (wp_i 0), some (wp_i 7)]) ji_133_43 rfl rfl rfl ?_
    refine wl_iinc (x := 0) (z := 1) (lv' := [some (wp_i x), some (wp_i y), some (wp_i 1), some (wp_i 1), some (wp_i 7)]) ji_133_44 rfl (Nat.le_of_ble_eq_true rfl) (by omega) rfl ?_
    refine wl_goto (t := 4) ji_133_47 rfl ?_
    refine wl_s (pc' := 5) ji_133_4 rfl rfl rfl ?_
    refine wl_s (pc' := 6) ji_133_5 rfl rfl rfl ?_
    refine wl_icmp (t := 50) ji_133_6 rfl (by omega) (by omega) (fun (hb15 : (3 : Int) ≤ 1) => (by exfalso; omega)) (fun (hb15 : ¬ ((3 : Int) ≤ 1)) => ?_)
    refine wl_bp ji_133_9 rfl ?_
    refine wl_s (pc' := 12) ji_133_11 rfl rfl rfl ?_
    refine wl_s (pc' := 13) ji_133_12 rfl rfl rfl ?_
    refine wl_imul (x := 3) (y := 1) (z := 3) ji_133_13 (by omega) ?_
    refine wl_s (pc' := 15) (lv' := [some (wp_i x), some (wp_i y), some (wp_i 1), some (wp_i 1), some (wp_i 7)]) (st' := [wp_i (56)]) (h' := h) ji_133_14 rfl rfl (congrArg (fun z => (some (15, [some (wp_i x), some (wp_i y), some (wp_i 1), some (wp_i 1), some (wp_i 7)], [Value.int z], h) : Option mj_S)) af_s1) ?_
    refine wl_s (pc' := 17) (lv' := [some (wp_i x), some (wp_i y), some (wp_i 1), some (wp_i 1), some (wp_i 56)]) ji_133_15 rfl rfl rfl ?_
    refine wl_s (pc' := 18) ji_133_17 rfl rfl rfl ?_
    refine wl_if (t := 42) ji_133_18 rfl (by omega) (fun (hb16 : (1 : Int) = 0) => (by exfalso; omega)) (fun (hb16 : ¬ ((1 : Int) = 0)) => ?_)
    refine wl_s (pc' := 22) ji_133_21 rfl rfl rfl ?_
    refine wl_s (pc' := 24) ji_133_22 rfl rfl rfl ?_
    refine wl_s (pc' := 25) (lv' := [some (wp_i x), some (wp_i y), some (wp_i 1), some (wp_i 1), some (wp_i 56)]) (st' := [wp_i (x / 8 % 8 * 8)]) (h' := h) ji_133_24 rfl rfl (congrArg (fun z => (some (25, [some (wp_i x), some (wp_i y), some (wp_i 1), some (wp_i 1), some (wp_i 56)], [Value.int z], h) : Option mj_S)) (af_c1x hx)) ?_
    have ra17 : 0 ≤ x / 8 % 8 * 8 ∧ x / 8 % 8 * 8 ≤ 511 := by omega
    refine wl_sc (d := d) (as := [wp_i (x / 8 % 8 * 8)]) (rest := []) ji_133_25 jc_133_9 (Nat.le_of_ble_eq_true rfl) rfl (Nat.le_of_ble_eq_true rfl) rfl (by rw [jn_70]; rfl) (uc_70 (d := d) (x := x / 8 % 8 * 8) (by omega)) (fun v1 h18 R => ?_)
    obtain ⟨ee, rfl⟩ := R
    rw [ee, af_d1x hx]
    clear ee
    have hb19 := bcn_r (x / 8 % 8)
    show wl_R _ _ 133 28 [some (wp_i x), some (wp_i y), some (wp_i 1), some (wp_i 1), some (wp_i 56)] [wp_i (bcn (x / 8 % 8))] _ _
    refine wl_s (pc' := 29) ji_133_28 rfl rfl rfl ?_
    refine wl_s (pc' := 31) ji_133_29 rfl rfl rfl ?_
    refine wl_s (pc' := 32) (lv' := [some (wp_i x), some (wp_i y), some (wp_i 1), some (wp_i 1), some (wp_i 56)]) (st' := [wp_i (y / 8 % 8 * 8), wp_i (bcn (x / 8 % 8))]) (h' := h) ji_133_31 rfl rfl (congrArg (fun z => (some (32, [some (wp_i x), some (wp_i y), some (wp_i 1), some (wp_i 1), some (wp_i 56)], [Value.int z, wp_i (bcn (x / 8 % 8))], h) : Option mj_S)) (af_c1x hy)) ?_
    have ra20 : 0 ≤ y / 8 % 8 * 8 ∧ y / 8 % 8 * 8 ≤ 511 := by omega
    refine wl_sc (d := d) (as := [wp_i (y / 8 % 8 * 8)]) (rest := [wp_i (bcn (x / 8 % 8))]) ji_133_32 jc_133_9 (Nat.le_of_ble_eq_true rfl) rfl (Nat.le_of_ble_eq_true rfl) rfl (by rw [jn_70]; rfl) (uc_70 (d := d) (x := y / 8 % 8 * 8) (by omega)) (fun v1 h21 R => ?_)
    obtain ⟨ee, rfl⟩ := R
    rw [ee, af_d1x hy]
    clear ee
    have hb22 := bcn_r (y / 8 % 8)
    show wl_R _ _ 133 35 [some (wp_i x), some (wp_i y), some (wp_i 1), some (wp_i 1), some (wp_i 56)] [wp_i (bcn (y / 8 % 8)), wp_i (bcn (x / 8 % 8))] _ _
    refine wl_icmp (t := 42) ji_133_35 rfl (by omega) (by omega) (fun (hb23 : ¬ (bcn (x / 8 % 8) : Int) = (bcn (y / 8 % 8))) => ?_) (fun (hb23 : ¬ (¬ (bcn (x / 8 % 8) : Int) = (bcn (y / 8 % 8)))) => ?_)
    · refine wl_s (pc' := 43) ji_133_42 rfl rfl rfl ?_
      refine wl_s (pc' := 44) (lv' := [some (wp_i x), some (wp_i y), some (wp_i 0), some (wp_i 1), some (wp_i 56)]) ji_133_43 rfl rfl rfl ?_
      refine wl_iinc (x := 1) (z := 2) (lv' := [some (wp_i x), some (wp_i y), some (wp_i 0), some (wp_i 2), some (wp_i 56)]) ji_133_44 rfl (Nat.le_of_ble_eq_true rfl) (by omega) rfl ?_
      refine wl_goto (t := 4) ji_133_47 rfl ?_
      refine wl_s (pc' := 5) ji_133_4 rfl rfl rfl ?_
      refine wl_s (pc' := 6) ji_133_5 rfl rfl rfl ?_
      refine wl_icmp (t := 50) ji_133_6 rfl (by omega) (by omega) (fun (hb24 : (3 : Int) ≤ 2) => (by exfalso; omega)) (fun (hb24 : ¬ ((3 : Int) ≤ 2)) => ?_)
      refine wl_bp ji_133_9 rfl ?_
      refine wl_s (pc' := 12) ji_133_11 rfl rfl rfl ?_
      refine wl_s (pc' := 13) ji_133_12 rfl rfl rfl ?_
      refine wl_imul (x := 3) (y := 2) (z := 6) ji_133_13 (by omega) ?_
      refine wl_s (pc' := 15) (lv' := [some (wp_i x), some (wp_i y), some (wp_i 0), some (wp_i 2), some (wp_i 56)]) (st' := [wp_i (448)]) (h' := h) ji_133_14 rfl rfl (congrArg (fun z => (some (15, [some (wp_i x), some (wp_i y), some (wp_i 0), some (wp_i 2), some (wp_i 56)], [Value.int z], h) : Option mj_S)) af_s2) ?_
      refine wl_s (pc' := 17) (lv' := [some (wp_i x), some (wp_i y), some (wp_i 0), some (wp_i 2), some (wp_i 448)]) ji_133_15 rfl rfl rfl ?_
      refine wl_s (pc' := 18) ji_133_17 rfl rfl rfl ?_
      refine wl_if (t := 42) ji_133_18 rfl (by omega) (fun (hb25 : (0 : Int) = 0) => ?_) (fun (hb25 : ¬ ((0 : Int) = 0)) => (by exfalso; omega))
      refine wl_s (pc' := 43) ji_133_42 rfl rfl rfl ?_
      refine wl_s (pc' := 44) (lv' := [some (wp_i x), some (wp_i y), some (wp_i 0), some (wp_i 2), some (wp_i 448)]) ji_133_43 rfl rfl rfl ?_
      refine wl_iinc (x := 2) (z := 3) (lv' := [some (wp_i x), some (wp_i y), some (wp_i 0), some (wp_i 3), some (wp_i 448)]) ji_133_44 rfl (Nat.le_of_ble_eq_true rfl) (by omega) rfl ?_
      refine wl_goto (t := 4) ji_133_47 rfl ?_
      refine wl_s (pc' := 5) ji_133_4 rfl rfl rfl ?_
      refine wl_s (pc' := 6) ji_133_5 rfl rfl rfl ?_
      refine wl_icmp (t := 50) ji_133_6 rfl (by omega) (by omega) (fun (hb26 : (3 : Int) ≤ 3) => ?_) (fun (hb26 : ¬ ((3 : Int) ≤ 3)) => (by exfalso; omega))
      refine wl_s (pc' := 51) ji_133_50 rfl rfl rfl ?_
      exact wl_ri ji_133_51 jr_133 (pv_nb (by omega)) (⟨rfl, 0, rfl, by omega, by omega⟩)
    · refine wl_s (pc' := 39) ji_133_38 rfl rfl rfl ?_
      refine wl_goto (t := 43) ji_133_39 rfl ?_
      refine wl_s (pc' := 44) (lv' := [some (wp_i x), some (wp_i y), some (wp_i 1), some (wp_i 1), some (wp_i 56)]) ji_133_43 rfl rfl rfl ?_
      refine wl_iinc (x := 1) (z := 2) (lv' := [some (wp_i x), some (wp_i y), some (wp_i 1), some (wp_i 2), some (wp_i 56)]) ji_133_44 rfl (Nat.le_of_ble_eq_true rfl) (by omega) rfl ?_
      refine wl_goto (t := 4) ji_133_47 rfl ?_
      refine wl_s (pc' := 5) ji_133_4 rfl rfl rfl ?_
      refine wl_s (pc' := 6) ji_133_5 rfl rfl rfl ?_
      refine wl_icmp (t := 50) ji_133_6 rfl (by omega) (by omega) (fun (hb27 : (3 : Int) ≤ 2) => (by exfalso; omega)) (fun (hb27 : ¬ ((3 : Int) ≤ 2)) => ?_)
      refine wl_bp ji_133_9 rfl ?_
      refine wl_s (pc' := 12) ji_133_11 rfl rfl rfl ?_
      refine wl_s (pc' := 13) ji_133_12 rfl rfl rfl ?_
      refine wl_imul (x := 3) (y := 2) (z := 6) ji_133_13 (by omega) ?_
      refine wl_s (pc' := 15) (lv' := [some (wp_i x), some (wp_i y), some (wp_i 1), some (wp_i 2), some (wp_i 56)]) (st' := [wp_i (448)]) (h' := h) ji_133_14 rfl rfl (congrArg (fun z => (some (15, [some (wp_i x), some (wp_i y), some (wp_i 1), some (wp_i 2), some (wp_i 56)], [Value.int z], h) : Option mj_S)) af_s2) ?_
      refine wl_s (pc' := 17) (lv' := [some (wp_i x), some (wp_i y), some (wp_i 1), some (wp_i 2), some (wp_i 448)]) ji_133_15 rfl rfl rfl ?_
      refine wl_s (pc' := 18) ji_133_17 rfl rfl rfl ?_
      refine wl_if (t := 42) ji_133_18 rfl (by omega) (fun (hb28 : (1 : Int) = 0) => (by exfalso; omega)) (fun (hb28 : ¬ ((1 : Int) = 0)) => ?_)
      refine wl_s (pc' := 22) ji_133_21 rfl rfl rfl ?_
      refine wl_s (pc' := 24) ji_133_22 rfl rfl rfl ?_
      refine wl_s (pc' := 25) (lv' := [some (wp_i x), some (wp_i y), some (wp_i 1), some (wp_i 2), some (wp_i 448)]) (st' := [wp_i (x / 64 % 8 * 64)]) (h' := h) ji_133_24 rfl rfl (congrArg (fun z => (some (25, [some (wp_i x), some (wp_i y), some (wp_i 1), some (wp_i 2), some (wp_i 448)], [Value.int z], h) : Option mj_S)) (af_c2x hx)) ?_
      have ra29 : 0 ≤ x / 64 % 8 * 64 ∧ x / 64 % 8 * 64 ≤ 511 := by omega
      refine wl_sc (d := d) (as := [wp_i (x / 64 % 8 * 64)]) (rest := []) ji_133_25 jc_133_9 (Nat.le_of_ble_eq_true rfl) rfl (Nat.le_of_ble_eq_true rfl) rfl (by rw [jn_70]; rfl) (uc_70 (d := d) (x := x / 64 % 8 * 64) (by omega)) (fun v1 h30 R => ?_)
      obtain ⟨ee, rfl⟩ := R
      rw [ee, af_d2x hx]
      clear ee
      have hb31 := bcn_r (x / 64 % 8)
      show wl_R _ _ 133 28 [some (wp_i x), some (wp_i y), some (wp_i 1), some (wp_i 2), some (wp_i 448)] [wp_i (bcn (x / 64 % 8))] _ _
      refine wl_s (pc' := 29) ji_133_28 rfl rfl rfl ?_
      refine wl_s (pc' := 31) ji_133_29 rfl rfl rfl ?_
      refine wl_s (pc' := 32) (lv' := [some (wp_i x), some (wp_i y), some (wp_i 1), some (wp_i 2), some (wp_i 448)]) (st' := [wp_i (y / 64 % 8 * 64), wp_i (bcn (x / 64 % 8))]) (h' := h) ji_133_31 rfl rfl (congrArg (fun z => (some (32, [some (wp_i x), some (wp_i y), some (wp_i 1), some (wp_i 2), some (wp_i 448)], [Value.int z, wp_i (bcn (x / 64 % 8))], h) : Option mj_S)) (af_c2x hy)) ?_
      have ra32 : 0 ≤ y / 64 % 8 * 64 ∧ y / 64 % 8 * 64 ≤ 511 := by omega
      refine wl_sc (d := d) (as := [wp_i (y / 64 % 8 * 64)]) (rest := [wp_i (bcn (x / 64 % 8))]) ji_133_32 jc_133_9 (Nat.le_of_ble_eq_true rfl) rfl (Nat.le_of_ble_eq_true rfl) rfl (by rw [jn_70]; rfl) (uc_70 (d := d) (x := y / 64 % 8 * 64) (by omega)) (fun v1 h33 R => ?_)
      obtain ⟨ee, rfl⟩ := R
      rw [ee, af_d2x hy]
      clear ee
      have hb34 := bcn_r (y / 64 % 8)
      show wl_R _ _ 133 35 [some (wp_i x), some (wp_i y), some (wp_i 1), some (wp_i 2), some (wp_i 448)] [wp_i (bcn (y / 64 % 8)), wp_i (bcn (x / 64 % 8))] _ _
      refine wl_icmp (t := 42) ji_133_35 rfl (by omega) (by omega) (fun (hb35 : ¬ (bcn (x / 64 % 8) : Int) = (bcn (y / 64 % 8))) => ?_) (fun (hb35 : ¬ (¬ (bcn (x / 64 % 8) : Int) = (bcn (y / 64 % 8)))) => ?_)
      · refine wl_s (pc' := 43) ji_133_42 rfl rfl rfl ?_
        refine wl_s (pc' := 44) (lv' := [some (wp_i x), some (wp_i y), some (wp_i 0), some (wp_i 2), some (wp_i 448)]) ji_133_43 rfl rfl rfl ?_
        refine wl_iinc (x := 2) (z := 3) (lv' := [some (wp_i x), some (wp_i y), some (wp_i 0), some (wp_i 3), some (wp_i 448)]) ji_133_44 rfl (Nat.le_of_ble_eq_true rfl) (by omega) rfl ?_
        refine wl_goto (t := 4) ji_133_47 rfl ?_
        refine wl_s (pc' := 5) ji_133_4 rfl rfl rfl ?_
        refine wl_s (pc' := 6) ji_133_5 rfl rfl rfl ?_
        refine wl_icmp (t := 50) ji_133_6 rfl (by omega) (by omega) (fun (hb36 : (3 : Int) ≤ 3) => ?_) (fun (hb36 : ¬ ((3 : Int) ≤ 3)) => (by exfalso; omega))
        refine wl_s (pc' := 51) ji_133_50 rfl rfl rfl ?_
        exact wl_ri ji_133_51 jr_133 (pv_nb (by omega)) (⟨rfl, 0, rfl, by omega, by omega⟩)
      · refine wl_s (pc' := 39) ji_133_38 rfl rfl rfl ?_
        refine wl_goto (t := 43) ji_133_39 rfl ?_
        refine wl_s (pc' := 44) (lv' := [some (wp_i x), some (wp_i y), some (wp_i 1), some (wp_i 2), some (wp_i 448)]) ji_133_43 rfl rfl rfl ?_
        refine wl_iinc (x := 2) (z := 3) (lv' := [some (wp_i x), some (wp_i y), some (wp_i 1), some (wp_i 3), some (wp_i 448)]) ji_133_44 rfl (Nat.le_of_ble_eq_true rfl) (by omega) rfl ?_
        refine wl_goto (t := 4) ji_133_47 rfl ?_
        refine wl_s (pc' := 5) ji_133_4 rfl rfl rfl ?_
        refine wl_s (pc' := 6) ji_133_5 rfl rfl rfl ?_
        refine wl_icmp (t := 50) ji_133_6 rfl (by omega) (by omega) (fun (hb37 : (3 : Int) ≤ 3) => ?_) (fun (hb37 : ¬ ((3 : Int) ≤ 3)) => (by exfalso; omega))
        refine wl_s (pc' := 51) ji_133_50 rfl rfl rfl ?_
        exact wl_ri ji_133_51 jr_133 (pv_nb (by omega)) (⟨rfl, 1, rfl, by omega, by omega⟩)
def afG (p : Int → Int) (i : Int) : Int → Int := fun k => if i < k then alk_ (p i) (p k) else 0
def afF (p : Int → Int) (n : Nat) : Int → Int := fun i => tot (afG p i) n
theorem afG_b (p : Int → Int) (i k : Int) : 0 ≤ afG p i k ∧ afG p i k ≤ 1 := by
  unfold afG
  split
  · exact al_b _ _
  · decide
theorem afF_b (p : Int → Int) {n : Nat} (hn : n ≤ 6) (i : Int) : 0 ≤ afF p n i ∧ afF p n i ≤ 6 := by
  have := tot_B (g := afG p i) (B := 1) n (fun j _ _ => afG_b p i j)
  unfold afF
  omega
theorem af_n {p : Int → Int} {n i : Nat} : tot (afF p n) i + tot (afG p (i : Int)) n = tot (afF p n) (i + 1) + tot (afG p ((i + 1 : Nat) : Int)) (i + 1 + 1) := by
  rw [tot_z (g := afG p ((i + 1 : Nat) : Int)) (i + 1 + 1) (fun j a b => if_neg (by omega))]
  show tot (afF p n) i + afF p n (i : Int) = _
  exact (Int.add_zero _).symm
theorem uc_132l {d : Nat} {h : mj_H} {s : sg_} (C : CS h s) {n : Nat} (hn : n ≤ 6) (en : s 48 1 = (n : Int)) (hg : ∀ j : Int, 0 ≤ j → j < 6 → 0 ≤ s 53 j ∧ s 53 j ≤ 511) : ∀ (nn i k : Nat), i < n → i + 1 ≤ k → k ≤ n → wl_R nn (d + 2) 132 16 [some (.ref 48), some (wp_i (tot (afF (fun j => s 53 j) n) i + tot (afG (fun j => s 53 j) (i : Int)) k)), some (wp_i ((i : Int))), some (wp_i ((k : Int)))] [] h (fun v1 h1 => h1 = h ∧ v1 = some (wp_i (tot (afF (fun j => s 53 j) n) n))) := by
  intro nn
  induction nn with
  | zero => intros; exact wl_0
  | succ nn ih =>
    intro i k hi hk hkn
    have a1 := tot_B (g := afF (fun j => s 53 j) n) (B := 6) i (fun j _ _ => afF_b _ hn j)
    have a2 := tot_B (g := afG (fun j => s 53 j) (i : Int)) (B := 1) k (fun j _ _ => afG_b _ _ j)
    refine wl_s1 (pc' := 17) ji_132_16 rfl rfl rfl ?_
    refine wl_s (pc' := 18) ji_132_17 rfl rfl rfl ?_
    refine cs_gi (k := 1) (kI := 1) C (by decide) (by decide) sq_48 rfl rfl ji_132_18 jf_132_21 ?_
    have bd1 : wp_r (s 48 1) := cs_ri (k := 1) (kI := 1) C (by decide) (by decide) sq_48 rfl rfl (show 1 < 13 by decide)
    refine wl_icmp (t := 51) ji_132_21 rfl (by omega) (by omega) (fun (hb2 : (s 48 1 : Int) ≤ ((k : Int))) => ?_) (fun (hb2 : ¬ ((s 48 1 : Int) ≤ ((k : Int)))) => ?_)
    · refine wl_iinc (x := (i : Int)) (z := (i : Int) + 1) (lv' := [some (.ref 48), some (wp_i (tot (afF (fun j => s 53 j) n) i + tot (afG (fun j => s 53 j) (i : Int)) k)), some (wp_i ((i : Int) + 1)), some (wp_i ((k : Int)))]) ji_132_51 rfl (Nat.le_of_ble_eq_true rfl) (by omega) rfl ?_
      refine wl_goto (t := 4) ji_132_54 rfl ?_
      refine wl_s (pc' := 5) ji_132_4 rfl rfl rfl ?_
      refine wl_s (pc' := 6) ji_132_5 rfl rfl rfl ?_
      refine cs_gi (k := 1) (kI := 1) C (by decide) (by decide) sq_48 rfl rfl ji_132_6 jf_132_21 ?_
      refine wl_icmp (t := 57) ji_132_9 rfl (by omega) (by omega) (fun (hb3 : (s 48 1 : Int) ≤ ((i : Int) + 1)) => ?_) (fun (hb3 : ¬ ((s 48 1 : Int) ≤ ((i : Int) + 1))) => ?_)
      · refine wl_s (pc' := 58) ji_132_57 rfl rfl rfl ?_
        exact wl_ri ji_132_58 jr_132 rfl (⟨rfl, congrArg (fun z => some (wp_i z)) (by show _ = tot (afF (fun j => s 53 j) n) n; rw [show k = n by omega, show n = i + 1 by omega]; rfl)⟩)
      · refine wl_s (pc' := 13) ji_132_12 rfl rfl rfl ?_
        refine wl_s (pc' := 14) ji_132_13 rfl rfl rfl ?_
        refine wl_iadd (x := (i : Int) + 1) (y := 1) (z := (i : Int) + 1 + 1) ji_132_14 (by omega) ?_
        refine wl_s (pc' := 16) (lv' := [some (.ref 48), some (wp_i (tot (afF (fun j => s 53 j) n) i + tot (afG (fun j => s 53 j) (i : Int)) k)), some (wp_i ((i : Int) + 1)), some (wp_i ((i : Int) + 1 + 1))]) ji_132_15 rfl rfl rfl ?_
        have ek : k = n := by omega
        subst ek
        rw [af_n, show (i : Int) + 1 + 1 = ((i + 1 + 1 : Nat) : Int) by omega, show (i : Int) + 1 = ((i + 1 : Nat) : Int) by omega]
        exact ih (i + 1) (i + 1 + 1) (by omega) (by omega) (by omega)
    · refine wl_s (pc' := 25) ji_132_24 rfl rfl rfl ?_
      refine cs_gr (r := 53) (k := 6) C (by decide) sq_48 rfl ji_132_25 jf_132_27 ?_
      refine wl_s (pc' := 29) ji_132_28 rfl rfl rfl ?_
      refine cs_l (x := (i : Int)) C (by decide) (by decide) sq_53 (by omega) ji_132_29 (fun ld40 ld41 ld42 => ?_)
      have bd5 := hg ((i : Int)) (by omega) (by omega)
      refine wl_s (pc' := 31) ji_132_30 rfl rfl rfl ?_
      refine cs_gr (r := 53) (k := 6) C (by decide) sq_48 rfl ji_132_31 jf_132_27 ?_
      refine wl_s (pc' := 35) ji_132_34 rfl rfl rfl ?_
      refine cs_l (x := (k : Int)) C (by decide) (by decide) sq_53 (by omega) ji_132_35 (fun ld60 ld61 ld62 => ?_)
      have bd7 := hg ((k : Int)) (by omega) (by omega)
      refine wl_sc (d := d + 1) (as := [wp_i (s 53 ((i : Int))), wp_i (s 53 ((k : Int)))]) (rest := []) ji_132_36 jc_132_31 (Nat.le_of_ble_eq_true rfl) rfl (Nat.le_of_ble_eq_true rfl) rfl (by rw [jn_133]; rfl) (uc_133 (d := d) (x := s 53 ((i : Int))) (y := s 53 ((k : Int))) (by omega) (by omega)) (fun v1 h8 R => ?_)
      obtain ⟨ee, y9, rfl, hy9a, hy9b⟩ := R
      rw [ee]
      clear ee
      show wl_R _ _ 132 39 [some (.ref 48), some (wp_i (tot (afF (fun j => s 53 j) n) i + tot (afG (fun j => s 53 j) (i : Int)) k)), some (wp_i ((i : Int))), some (wp_i ((k : Int)))] [wp_i y9] _ _
      refine wl_if (t := 45) ji_132_39 rfl (by omega) (fun (hb10 : (y9 : Int) = 0) => ?_) (fun (hb10 : ¬ ((y9 : Int) = 0)) => ?_)
      · refine wl_iinc (x := (k : Int)) (z := (k : Int) + 1) (lv' := [some (.ref 48), some (wp_i (tot (afF (fun j => s 53 j) n) i + tot (afG (fun j => s 53 j) (i : Int)) k)), some (wp_i ((i : Int))), some (wp_i ((k : Int) + 1))]) ji_132_45 rfl (Nat.le_of_ble_eq_true rfl) (by omega) rfl ?_
        refine wl_goto (t := 16) ji_132_48 rfl ?_
        have eg : afG (fun j => s 53 j) (i : Int) (k : Int) = 0 := (if_pos (show (i : Int) < (k : Int) by omega)).trans (if_neg (fun z => by have := hy9b.mpr z; omega))
        rw [show (k : Int) + 1 = ((k + 1 : Nat) : Int) by omega, show tot (afF (fun j => s 53 j) n) i + tot (afG (fun j => s 53 j) (i : Int)) k = tot (afF (fun j => s 53 j) n) i + tot (afG (fun j => s 53 j) (i : Int)) (k + 1) by show _ = _ + (_ + afG (fun j => s 53 j) (i : Int) (k : Int)); rw [eg]; omega]
        exact ih i (k + 1) (by omega) (by omega) (by omega)
      · refine wl_iinc (x := tot (afF (fun j => s 53 j) n) i + tot (afG (fun j => s 53 j) (i : Int)) k) (z := tot (afF (fun j => s 53 j) n) i + tot (afG (fun j => s 53 j) (i : Int)) k + 1) (lv' := [some (.ref 48), some (wp_i (tot (afF (fun j => s 53 j) n) i + tot (afG (fun j => s 53 j) (i : Int)) k + 1)), some (wp_i ((i : Int))), some (wp_i ((k : Int)))]) ji_132_42 rfl (Nat.le_of_ble_eq_true rfl) (by omega) rfl ?_
        refine wl_iinc (x := (k : Int)) (z := (k : Int) + 1) (lv' := [some (.ref 48), some (wp_i (tot (afF (fun j => s 53 j) n) i + tot (afG (fun j => s 53 j) (i : Int)) k + 1)), some (wp_i ((i : Int))), some (wp_i ((k : Int) + 1))]) ji_132_45 rfl (Nat.le_of_ble_eq_true rfl) (by omega) rfl ?_
        refine wl_goto (t := 16) ji_132_48 rfl ?_
        have eg : afG (fun j => s 53 j) (i : Int) (k : Int) = 1 := (if_pos (show (i : Int) < (k : Int) by omega)).trans (if_pos (hy9b.mp (by omega)))
        rw [show (k : Int) + 1 = ((k + 1 : Nat) : Int) by omega, show tot (afF (fun j => s 53 j) n) i + tot (afG (fun j => s 53 j) (i : Int)) k + 1 = tot (afF (fun j => s 53 j) n) i + tot (afG (fun j => s 53 j) (i : Int)) (k + 1) by show _ = _ + (_ + afG (fun j => s 53 j) (i : Int) (k : Int)); rw [eg]; omega]
        exact ih i (k + 1) (by omega) (by omega) (by omega)
theorem uc_132 {nn d : Nat} {h : mj_H} {s : sg_} (C : CS h s) {n : Nat} (hn : n ≤ 6) (en : s 48 1 = (n : Int)) (hg : ∀ j : Int, 0 ≤ j → j < 6 → 0 ≤ s 53 j ∧ s 53 j ≤ 511) : wl_R nn (d + 2) 132 0 [some (.ref 48), none, none, none] [] h (fun v1 h1 => h1 = h ∧ v1 = some (wp_i (tot (afF (fun j => s 53 j) n) n))) := by
  refine wl_s (pc' := 1) ji_132_0 rfl rfl rfl ?_
  refine wl_s (pc' := 2) (lv' := [some (.ref 48), some (wp_i 0), none, none]) ji_132_1 rfl rfl rfl ?_
  refine wl_s (pc' := 3) ji_132_2 rfl rfl rfl ?_
  refine wl_s (pc' := 4) (lv' := [some (.ref 48), some (wp_i 0), some (wp_i 0), none]) ji_132_3 rfl rfl rfl ?_
  refine wl_s (pc' := 5) ji_132_4 rfl rfl rfl ?_
  refine wl_s (pc' := 6) ji_132_5 rfl rfl rfl ?_
  refine cs_gi (k := 1) (kI := 1) C (by decide) (by decide) sq_48 rfl rfl ji_132_6 jf_132_21 ?_
  have bd1 : wp_r (s 48 1) := cs_ri (k := 1) (kI := 1) C (by decide) (by decide) sq_48 rfl rfl (show 1 < 13 by decide)
  refine wl_icmp (t := 57) ji_132_9 rfl (by omega) (by omega) (fun (hb2 : (s 48 1 : Int) ≤ 0) => ?_) (fun (hb2 : ¬ ((s 48 1 : Int) ≤ 0)) => ?_)
  · refine wl_s (pc' := 58) ji_132_57 rfl rfl rfl ?_
    exact wl_ri ji_132_58 jr_132 rfl (⟨rfl, by rw [show n = 0 by omega]; rfl⟩)
  · refine wl_s (pc' := 13) ji_132_12 rfl rfl rfl ?_
    refine wl_s (pc' := 14) ji_132_13 rfl rfl rfl ?_
    refine wl_iadd (x := 0) (y := 1) (z := 1) ji_132_14 (by omega) ?_
    refine wl_s (pc' := 16) (lv' := [some (.ref 48), some (wp_i 0), some (wp_i 0), some (wp_i 1)]) ji_132_15 rfl rfl rfl ?_
    have q := uc_132l (d := d) C hn en hg nn 0 1 (by omega) (by omega) (by omega)
    rw [show tot (afF (fun j => s 53 j) n) 0 + tot (afG (fun j => s 53 j) ((0 : Nat) : Int)) 1 = 0 by show (0 : Int) + (0 + (if ((0 : Nat) : Int) < ((0 : Nat) : Int) then _ else 0)) = 0; rw [if_neg (by omega)]; rfl] at q
    exact q
theorem uc_131 {nn d : Nat} {h : mj_H} {s : sg_} (C : CS h s) {n : Nat} (hn : n ≤ 6) (en : s 48 1 = (n : Int)) (hg : ∀ j : Int, 0 ≤ j → j < 6 → 0 ≤ s 53 j ∧ s 53 j ≤ 511) : wl_R nn (d + 3) 131 0 [some (.ref 9)] [] h (fun v1 h1 => h1 = h ∧ v1 = some (wp_i (tot (afF (fun j => s 53 j) n) n))) := by
  refine wl_s (pc' := 1) ji_131_0 rfl rfl rfl ?_
  refine cs_gr (r := 47) (k := 0) C (by decide) sq_9 rfl ji_131_1 jf_131_19 ?_
  refine cs_gr (r := 48) (k := 0) C (by decide) sq_47 rfl ji_131_4 jf_131_49 ?_
  refine wl_sc (d := d + 2) (as := [.ref 48]) (rest := []) ji_131_7 jc_131_264 (Nat.le_of_ble_eq_true rfl) rfl (Nat.le_of_ble_eq_true rfl) rfl (by rw [jn_132]; rfl) (uc_132 (d := d) C hn en hg) (fun v1 h1 R => ?_)
  obtain ⟨ee, rfl⟩ := R
  rw [ee]
  clear ee
  show wl_R _ _ 131 10 [some (.ref 9)] [wp_i (tot (afF (fun j => s 53 j) n) n)] _ _
  exact wl_ri ji_131_10 jr_131 rfl (⟨rfl, rfl⟩)
def arG (p : Int → Int) (i : Int) : Int → Int := fun k => alk_ (p i) (p k)
def arF (p : Int → Int) : Int → Int := fun i => tot (arG p i) i.toNat
theorem arF_b (p : Int → Int) {i : Int} (hi : 0 ≤ i ∧ i < 6) : 0 ≤ arF p i ∧ arF p i ≤ 6 := by
  have := tot_B (g := arG p i) (B := 1) i.toNat (fun j _ _ => al_b _ _)
  unfold arF
  omega
theorem ar_n {p : Int → Int} {i : Nat} : tot (arF p) i + tot (arG p (i : Int)) i = tot (arF p) (i + 1) + tot (arG p ((i + 1 : Nat) : Int)) 0 := by
  show _ = tot (arF p) i + tot (arG p (i : Int)) ((i : Int)).toNat + 0
  rw [Int.add_zero]
  rfl
theorem uc_292l {d : Nat} {h : mj_H} {s : sg_} (C : CS h s) {n : Nat} (hn : n ≤ 6) (en : s 139 1 = (n : Int)) (hg : ∀ j : Int, 0 ≤ j → j < 6 → 0 ≤ s 139 (40 + 2 * j + 1) ∧ s 139 (40 + 2 * j + 1) ≤ 511) : ∀ (nn i k : Nat) (l4 l5 : Option Value), i < n → k ≤ i → wl_R nn (d + 1) 292 16 [some (.ref 138), some (wp_i (tot (arF (fun j => s 139 (40 + 2 * j + 1))) i + tot (arG (fun j => s 139 (40 + 2 * j + 1)) (i : Int)) k)), some (wp_i ((i : Int))), some (wp_i ((k : Int))), l4, l5] [] h (fun v1 h1 => h1 = h ∧ v1 = some (wp_i (tot (arF (fun j => s 139 (40 + 2 * j + 1))) n))) := by
  intro nn
  induction nn with
  | zero => intros; exact wl_0
  | succ nn ih =>
    intro i k l4 l5 hi hk
    have a1 := tot_B (g := arF (fun j => s 139 (40 + 2 * j + 1))) (B := 6) i (fun j x y => arF_b _ (by omega))
    have a2 := tot_B (g := arG (fun j => s 139 (40 + 2 * j + 1)) (i : Int)) (B := 1) k (fun j _ _ => al_b _ _)
    refine wl_s1 (pc' := 17) ji_292_16 rfl rfl rfl ?_
    refine wl_s (pc' := 18) ji_292_17 rfl rfl rfl ?_
    refine wl_icmp (t := 102) ji_292_18 rfl (by omega) (by omega) (fun (hb1 : ((i : Int) : Int) ≤ ((k : Int))) => ?_) (fun (hb1 : ¬ (((i : Int) : Int) ≤ ((k : Int)))) => ?_)
    · refine wl_iinc (x := (i : Int)) (z := (i : Int) + 1) (lv' := [some (.ref 138), some (wp_i (tot (arF (fun j => s 139 (40 + 2 * j + 1))) i + tot (arG (fun j => s 139 (40 + 2 * j + 1)) (i : Int)) k)), some (wp_i ((i : Int) + 1)), some (wp_i ((k : Int))), l4, l5]) ji_292_102 rfl (Nat.le_of_ble_eq_true rfl) (by omega) rfl ?_
      refine wl_goto (t := 4) ji_292_105 rfl ?_
      refine wl_s (pc' := 5) ji_292_4 rfl rfl rfl ?_
      refine wl_s (pc' := 6) ji_292_5 rfl rfl rfl ?_
      refine cs_gr (r := 139) (k := 0) C (by decide) sq_138 rfl ji_292_6 jf_292_7 ?_
      refine wl_s (pc' := 10) ji_292_9 rfl rfl rfl ?_
      refine cs_l (x := 1) C (by decide) (by decide) sq_139 (by omega) ji_292_10 (fun ld20 ld21 ld22 => ?_)
      refine wl_icmp (t := 108) ji_292_11 rfl (by omega) (by omega) (fun (hb3 : (s 139 1 : Int) ≤ ((i : Int) + 1)) => ?_) (fun (hb3 : ¬ ((s 139 1 : Int) ≤ ((i : Int) + 1))) => ?_)
      · refine wl_s (pc' := 109) ji_292_108 rfl rfl rfl ?_
        exact wl_ri ji_292_109 jr_292 rfl (⟨rfl, congrArg (fun z => some (wp_i z)) (by show _ = tot (arF (fun j => s 139 (40 + 2 * j + 1))) n; rw [show k = i by omega, show n = i + 1 by omega]; rfl)⟩)
      · refine wl_s (pc' := 15) ji_292_14 rfl rfl rfl ?_
        refine wl_s (pc' := 16) (lv' := [some (.ref 138), some (wp_i (tot (arF (fun j => s 139 (40 + 2 * j + 1))) i + tot (arG (fun j => s 139 (40 + 2 * j + 1)) (i : Int)) k)), some (wp_i ((i : Int) + 1)), some (wp_i 0), l4, l5]) ji_292_15 rfl rfl rfl ?_
        have ek : k = i := by omega
        subst ek
        rw [ar_n, show (k : Int) + 1 = ((k + 1 : Nat) : Int) by omega]
        exact ih (k + 1) 0 _ _ (by omega) (by omega)
    · refine wl_s (pc' := 22) ji_292_21 rfl rfl rfl ?_
      refine wl_s (pc' := 24) (lv' := [some (.ref 138), some (wp_i (tot (arF (fun j => s 139 (40 + 2 * j + 1))) i + tot (arG (fun j => s 139 (40 + 2 * j + 1)) (i : Int)) k)), some (wp_i ((i : Int))), some (wp_i ((k : Int))), some (wp_i 1), l5]) ji_292_22 rfl rfl rfl ?_
      refine wl_s (pc' := 25) ji_292_24 rfl rfl rfl ?_
      refine wl_s (pc' := 27) (lv' := [some (.ref 138), some (wp_i (tot (arF (fun j => s 139 (40 + 2 * j + 1))) i + tot (arG (fun j => s 139 (40 + 2 * j + 1)) (i : Int)) k)), some (wp_i ((i : Int))), some (wp_i ((k : Int))), some (wp_i 1), some (wp_i 0)]) ji_292_25 rfl rfl rfl ?_
      refine wl_s (pc' := 29) ji_292_27 rfl rfl rfl ?_
      refine wl_bp ji_292_29 rfl ?_
      refine wl_icmp (t := 83) ji_292_31 rfl (by omega) (by omega) (fun (hb4 : (9 : Int) ≤ 0) => (by exfalso; omega)) (fun (hb4 : ¬ ((9 : Int) ≤ 0)) => ?_)
      refine wl_s (pc' := 36) ji_292_34 rfl rfl rfl ?_
      refine wl_if (t := 74) ji_292_36 rfl (by omega) (fun (hb5 : (1 : Int) = 0) => (by exfalso; omega)) (fun (hb5 : ¬ ((1 : Int) = 0)) => ?_)
      refine wl_s (pc' := 40) ji_292_39 rfl rfl rfl ?_
      refine wl_s (pc' := 41) ji_292_40 rfl rfl rfl ?_
      obtain ⟨q7, hq7⟩ := cs_c C (by decide) sq_138
      refine wl_vc (d := d) (as := [.ref 138, wp_i ((i : Int))]) (rest := []) ji_292_41 jc_292_384 rfl hq7 jk_261.symm (Nat.le_of_ble_eq_true rfl) rfl (by rw [jn_261]; rfl) (uc_261 (d := d) C (w := (i : Int)) (by omega)) (fun v1 h6 R => ?_)
      obtain ⟨ee, rfl⟩ := R
      rw [ee]
      clear ee
      show wl_R _ _ 292 44 [some (.ref 138), some (wp_i (tot (arF (fun j => s 139 (40 + 2 * j + 1))) i + tot (arG (fun j => s 139 (40 + 2 * j + 1)) (i : Int)) k)), some (wp_i ((i : Int))), some (wp_i ((k : Int))), some (wp_i 1), some (wp_i 0)] [wp_i (s 139 (40 + 2 * ((i : Int)) + 1))] _ _
      have gr8 := hg ((i : Int)) (by omega) (by omega)
      refine wl_s (pc' := 46) ji_292_44 rfl rfl rfl ?_
      refine wl_s (pc' := 47) (st' := [.int (Int32.ofInt (s 139 (40 + 2 * ((i : Int)) + 1)) >>> (Int32.ofInt 0 &&& 31))]) ji_292_46 rfl rfl rfl ?_
      refine wl_bp ji_292_47 rfl ?_
      refine wl_s (pc' := 50) (lv' := [some (.ref 138), some (wp_i (tot (arF (fun j => s 139 (40 + 2 * j + 1))) i + tot (arG (fun j => s 139 (40 + 2 * j + 1)) (i : Int)) k)), some (wp_i ((i : Int))), some (wp_i ((k : Int))), some (wp_i 1), some (wp_i 0)]) (st' := [wp_i ((s 139 (40 + 2 * ((i : Int)) + 1)) % 8)]) (h' := h) ji_292_49 rfl rfl (congrArg (fun z => (some (50, [some (.ref 138), some (wp_i (tot (arF (fun j => s 139 (40 + 2 * j + 1))) i + tot (arG (fun j => s 139 (40 + 2 * j + 1)) (i : Int)) k)), some (wp_i ((i : Int))), some (wp_i ((k : Int))), some (wp_i 1), some (wp_i 0)], [Value.int z], h) : Option mj_S)) (af_r0x (x := s 139 (40 + 2 * ((i : Int)) + 1)) (by omega))) ?_
      refine wl_sc (d := d) (as := [wp_i ((s 139 (40 + 2 * ((i : Int)) + 1)) % 8)]) (rest := []) ji_292_50 jc_292_295 (Nat.le_of_ble_eq_true rfl) rfl (Nat.le_of_ble_eq_true rfl) rfl (by rw [jn_229]; rfl) (uc_229 (d := d) (x := (s 139 (40 + 2 * ((i : Int)) + 1)) % 8) (by omega)) (fun v1 h9 R => ?_)
      obtain ⟨ee, rfl⟩ := R
      rw [ee]
      clear ee
      show wl_R _ _ 292 53 [some (.ref 138), some (wp_i (tot (arF (fun j => s 139 (40 + 2 * j + 1))) i + tot (arG (fun j => s 139 (40 + 2 * j + 1)) (i : Int)) k)), some (wp_i ((i : Int))), some (wp_i ((k : Int))), some (wp_i 1), some (wp_i 0)] [wp_i (bcn ((s 139 (40 + 2 * ((i : Int)) + 1)) % 8))] _ _
      have hb10 := bcn_r ((s 139 (40 + 2 * ((i : Int)) + 1)) % 8)
      refine wl_s (pc' := 54) ji_292_53 rfl rfl rfl ?_
      refine wl_s (pc' := 55) ji_292_54 rfl rfl rfl ?_
      obtain ⟨q12, hq12⟩ := cs_c C (by decide) sq_138
      refine wl_vc (d := d) (as := [.ref 138, wp_i ((k : Int))]) (rest := [wp_i (bcn ((s 139 (40 + 2 * ((i : Int)) + 1)) % 8))]) ji_292_55 jc_292_384 rfl hq12 jk_261.symm (Nat.le_of_ble_eq_true rfl) rfl (by rw [jn_261]; rfl) (uc_261 (d := d) C (w := (k : Int)) (by omega)) (fun v1 h11 R => ?_)
      obtain ⟨ee, rfl⟩ := R
      rw [ee]
      clear ee
      show wl_R _ _ 292 58 [some (.ref 138), some (wp_i (tot (arF (fun j => s 139 (40 + 2 * j + 1))) i + tot (arG (fun j => s 139 (40 + 2 * j + 1)) (i : Int)) k)), some (wp_i ((i : Int))), some (wp_i ((k : Int))), some (wp_i 1), some (wp_i 0)] [wp_i (s 139 (40 + 2 * ((k : Int)) + 1)), wp_i (bcn ((s 139 (40 + 2 * ((i : Int)) + 1)) % 8))] _ _
      have gr13 := hg ((k : Int)) (by omega) (by omega)
      refine wl_s (pc' := 60) ji_292_58 rfl rfl rfl ?_
      refine wl_s (pc' := 61) (st' := [.int (Int32.ofInt (s 139 (40 + 2 * ((k : Int)) + 1)) >>> (Int32.ofInt 0 &&& 31)), wp_i (bcn ((s 139 (40 + 2 * ((i : Int)) + 1)) % 8))]) ji_292_60 rfl rfl rfl ?_
      refine wl_bp ji_292_61 rfl ?_
      refine wl_s (pc' := 64) (lv' := [some (.ref 138), some (wp_i (tot (arF (fun j => s 139 (40 + 2 * j + 1))) i + tot (arG (fun j => s 139 (40 + 2 * j + 1)) (i : Int)) k)), some (wp_i ((i : Int))), some (wp_i ((k : Int))), some (wp_i 1), some (wp_i 0)]) (st' := [wp_i ((s 139 (40 + 2 * ((k : Int)) + 1)) % 8), wp_i (bcn ((s 139 (40 + 2 * ((i : Int)) + 1)) % 8))]) (h' := h) ji_292_63 rfl rfl (congrArg (fun z => (some (64, [some (.ref 138), some (wp_i (tot (arF (fun j => s 139 (40 + 2 * j + 1))) i + tot (arG (fun j => s 139 (40 + 2 * j + 1)) (i : Int)) k)), some (wp_i ((i : Int))), some (wp_i ((k : Int))), some (wp_i 1), some (wp_i 0)], [Value.int z, wp_i (bcn ((s 139 (40 + 2 * ((i : Int)) + 1)) % 8))], h) : Option mj_S)) (af_r0x (x := s 139 (40 + 2 * ((k : Int)) + 1)) (by omega))) ?_
      refine wl_sc (d := d) (as := [wp_i ((s 139 (40 + 2 * ((k : Int)) + 1)) % 8)]) (rest := [wp_i (bcn ((s 139 (40 + 2 * ((i : Int)) + 1)) % 8))]) ji_292_64 jc_292_295 (Nat.le_of_ble_eq_true rfl) rfl (Nat.le_of_ble_eq_true rfl) rfl (by rw [jn_229]; rfl) (uc_229 (d := d) (x := (s 139 (40 + 2 * ((k : Int)) + 1)) % 8) (by omega)) (fun v1 h14 R => ?_)
      obtain ⟨ee, rfl⟩ := R
      rw [ee]
      clear ee
      show wl_R _ _ 292 67 [some (.ref 138), some (wp_i (tot (arF (fun j => s 139 (40 + 2 * j + 1))) i + tot (arG (fun j => s 139 (40 + 2 * j + 1)) (i : Int)) k)), some (wp_i ((i : Int))), some (wp_i ((k : Int))), some (wp_i 1), some (wp_i 0)] [wp_i (bcn ((s 139 (40 + 2 * ((k : Int)) + 1)) % 8)), wp_i (bcn ((s 139 (40 + 2 * ((i : Int)) + 1)) % 8))] _ _
      have hb15 := bcn_r ((s 139 (40 + 2 * ((k : Int)) + 1)) % 8)
      refine wl_icmp (t := 74) ji_292_67 rfl (by omega) (by omega) (fun (hb16 : ¬ (bcn ((s 139 (40 + 2 * ((i : Int)) + 1)) % 8) : Int) = (bcn ((s 139 (40 + 2 * ((k : Int)) + 1)) % 8))) => ?_) (fun (hb16 : ¬ (¬ (bcn ((s 139 (40 + 2 * ((i : Int)) + 1)) % 8) : Int) = (bcn ((s 139 (40 + 2 * ((k : Int)) + 1)) % 8)))) => ?_)
      · refine wl_s (pc' := 75) ji_292_74 rfl rfl rfl ?_
        refine wl_s (pc' := 77) (lv' := [some (.ref 138), some (wp_i (tot (arF (fun j => s 139 (40 + 2 * j + 1))) i + tot (arG (fun j => s 139 (40 + 2 * j + 1)) (i : Int)) k)), some (wp_i ((i : Int))), some (wp_i ((k : Int))), some (wp_i 0), some (wp_i 0)]) ji_292_75 rfl rfl rfl ?_
        refine wl_iinc (x := 0) (z := 3) (lv' := [some (.ref 138), some (wp_i (tot (arF (fun j => s 139 (40 + 2 * j + 1))) i + tot (arG (fun j => s 139 (40 + 2 * j + 1)) (i : Int)) k)), some (wp_i ((i : Int))), some (wp_i ((k : Int))), some (wp_i 0), some (wp_i 3)]) ji_292_77 rfl (Nat.le_of_ble_eq_true rfl) (by omega) rfl ?_
        refine wl_goto (t := 27) ji_292_80 rfl ?_
        refine wl_s (pc' := 29) ji_292_27 rfl rfl rfl ?_
        refine wl_bp ji_292_29 rfl ?_
        refine wl_icmp (t := 83) ji_292_31 rfl (by omega) (by omega) (fun (hb17 : (9 : Int) ≤ 3) => (by exfalso; omega)) (fun (hb17 : ¬ ((9 : Int) ≤ 3)) => ?_)
        refine wl_s (pc' := 36) ji_292_34 rfl rfl rfl ?_
        refine wl_if (t := 74) ji_292_36 rfl (by omega) (fun (hb18 : (0 : Int) = 0) => ?_) (fun (hb18 : ¬ ((0 : Int) = 0)) => (by exfalso; omega))
        refine wl_s (pc' := 75) ji_292_74 rfl rfl rfl ?_
        refine wl_s (pc' := 77) (lv' := [some (.ref 138), some (wp_i (tot (arF (fun j => s 139 (40 + 2 * j + 1))) i + tot (arG (fun j => s 139 (40 + 2 * j + 1)) (i : Int)) k)), some (wp_i ((i : Int))), some (wp_i ((k : Int))), some (wp_i 0), some (wp_i 3)]) ji_292_75 rfl rfl rfl ?_
        refine wl_iinc (x := 3) (z := 6) (lv' := [some (.ref 138), some (wp_i (tot (arF (fun j => s 139 (40 + 2 * j + 1))) i + tot (arG (fun j => s 139 (40 + 2 * j + 1)) (i : Int)) k)), some (wp_i ((i : Int))), some (wp_i ((k : Int))), some (wp_i 0), some (wp_i 6)]) ji_292_77 rfl (Nat.le_of_ble_eq_true rfl) (by omega) rfl ?_
        refine wl_goto (t := 27) ji_292_80 rfl ?_
        refine wl_s (pc' := 29) ji_292_27 rfl rfl rfl ?_
        refine wl_bp ji_292_29 rfl ?_
        refine wl_icmp (t := 83) ji_292_31 rfl (by omega) (by omega) (fun (hb19 : (9 : Int) ≤ 6) => (by exfalso; omega)) (fun (hb19 : ¬ ((9 : Int) ≤ 6)) => ?_)
        refine wl_s (pc' := 36) ji_292_34 rfl rfl rfl ?_
        refine wl_if (t := 74) ji_292_36 rfl (by omega) (fun (hb20 : (0 : Int) = 0) => ?_) (fun (hb20 : ¬ ((0 : Int) = 0)) => (by exfalso; omega))
        refine wl_s (pc' := 75) ji_292_74 rfl rfl rfl ?_
        refine wl_s (pc' := 77) (lv' := [some (.ref 138), some (wp_i (tot (arF (fun j => s 139 (40 + 2 * j + 1))) i + tot (arG (fun j => s 139 (40 + 2 * j + 1)) (i : Int)) k)), some (wp_i ((i : Int))), some (wp_i ((k : Int))), some (wp_i 0), some (wp_i 6)]) ji_292_75 rfl rfl rfl ?_
        refine wl_iinc (x := 6) (z := 9) (lv' := [some (.ref 138), some (wp_i (tot (arF (fun j => s 139 (40 + 2 * j + 1))) i + tot (arG (fun j => s 139 (40 + 2 * j + 1)) (i : Int)) k)), some (wp_i ((i : Int))), some (wp_i ((k : Int))), some (wp_i 0), some (wp_i 9)]) ji_292_77 rfl (Nat.le_of_ble_eq_true rfl) (by omega) rfl ?_
        refine wl_goto (t := 27) ji_292_80 rfl ?_
        refine wl_s (pc' := 29) ji_292_27 rfl rfl rfl ?_
        refine wl_bp ji_292_29 rfl ?_
        refine wl_icmp (t := 83) ji_292_31 rfl (by omega) (by omega) (fun (hb21 : (9 : Int) ≤ 9) => ?_) (fun (hb21 : ¬ ((9 : Int) ≤ 9)) => (by exfalso; omega))
        refine wl_s (pc' := 84) ji_292_83 rfl rfl rfl ?_
        refine wl_s (pc' := 86) ji_292_84 rfl rfl rfl ?_
        refine wl_if (t := 93) ji_292_86 rfl (by omega) (fun (hb22 : (0 : Int) = 0) => ?_) (fun (hb22 : ¬ ((0 : Int) = 0)) => (by exfalso; omega))
        refine wl_s (pc' := 94) ji_292_93 rfl rfl rfl ?_
        refine wl_iadd (x := tot (arF (fun j => s 139 (40 + 2 * j + 1))) i + tot (arG (fun j => s 139 (40 + 2 * j + 1)) (i : Int)) k) (y := 0) (z := tot (arF (fun j => s 139 (40 + 2 * j + 1))) i + tot (arG (fun j => s 139 (40 + 2 * j + 1)) (i : Int)) k) ji_292_94 (by omega) ?_
        refine wl_s (pc' := 96) (lv' := [some (.ref 138), some (wp_i (tot (arF (fun j => s 139 (40 + 2 * j + 1))) i + tot (arG (fun j => s 139 (40 + 2 * j + 1)) (i : Int)) k)), some (wp_i ((i : Int))), some (wp_i ((k : Int))), some (wp_i 0), some (wp_i 9)]) ji_292_95 rfl rfl rfl ?_
        refine wl_iinc (x := (k : Int)) (z := (k : Int) + 1) (lv' := [some (.ref 138), some (wp_i (tot (arF (fun j => s 139 (40 + 2 * j + 1))) i + tot (arG (fun j => s 139 (40 + 2 * j + 1)) (i : Int)) k)), some (wp_i ((i : Int))), some (wp_i ((k : Int) + 1)), some (wp_i 0), some (wp_i 9)]) ji_292_96 rfl (Nat.le_of_ble_eq_true rfl) (by omega) rfl ?_
        refine wl_goto (t := 16) ji_292_99 rfl ?_
        have eg : arG (fun j => s 139 (40 + 2 * j + 1)) (i : Int) (k : Int) = 0 := if_neg (show ¬ (bcn (s 139 (40 + 2 * (i : Int) + 1) % 8) = bcn (s 139 (40 + 2 * (k : Int) + 1) % 8) ∧ bcn (s 139 (40 + 2 * (i : Int) + 1) / 8 % 8) = bcn (s 139 (40 + 2 * (k : Int) + 1) / 8 % 8) ∧ bcn (s 139 (40 + 2 * (i : Int) + 1) / 64 % 8) = bcn (s 139 (40 + 2 * (k : Int) + 1) / 64 % 8)) by omega)
        rw [show (k : Int) + 1 = ((k + 1 : Nat) : Int) by omega, show tot (arF (fun j => s 139 (40 + 2 * j + 1))) i + tot (arG (fun j => s 139 (40 + 2 * j + 1)) (i : Int)) k = tot (arF (fun j => s 139 (40 + 2 * j + 1))) i + tot (arG (fun j => s 139 (40 + 2 * j + 1)) (i : Int)) (k + 1) by show _ = _ + (_ + arG (fun j => s 139 (40 + 2 * j + 1)) (i : Int) (k : Int)); rw [eg]; omega]
        exact ih i (k + 1) _ _ (by omega) (by omega)
      · refine wl_s (pc' := 71) ji_292_70 rfl rfl rfl ?_
        refine wl_goto (t := 75) ji_292_71 rfl ?_
        refine wl_s (pc' := 77) (lv' := [some (.ref 138), some (wp_i (tot (arF (fun j => s 139 (40 + 2 * j + 1))) i + tot (arG (fun j => s 139 (40 + 2 * j + 1)) (i : Int)) k)), some (wp_i ((i : Int))), some (wp_i ((k : Int))), some (wp_i 1), some (wp_i 0)]) ji_292_75 rfl rfl rfl ?_
        refine wl_iinc (x := 0) (z := 3) (lv' := [some (.ref 138), some (wp_i (tot (arF (fun j => s 139 (40 + 2 * j + 1))) i + tot (arG (fun j => s 139 (40 + 2 * j + 1)) (i : Int)) k)), some (wp_i ((i : Int))), some (wp_i ((k : Int))), some (wp_i 1), some (wp_i 3)]) ji_292_77 rfl (Nat.le_of_ble_eq_true rfl) (by omega) rfl ?_
        refine wl_goto (t := 27) ji_292_80 rfl ?_
        refine wl_s (pc' := 29) ji_292_27 rfl rfl rfl ?_
        refine wl_bp ji_292_29 rfl ?_
        refine wl_icmp (t := 83) ji_292_31 rfl (by omega) (by omega) (fun (hb23 : (9 : Int) ≤ 3) => (by exfalso; omega)) (fun (hb23 : ¬ ((9 : Int) ≤ 3)) => ?_)
        refine wl_s (pc' := 36) ji_292_34 rfl rfl rfl ?_
        refine wl_if (t := 74) ji_292_36 rfl (by omega) (fun (hb24 : (1 : Int) = 0) => (by exfalso; omega)) (fun (hb24 : ¬ ((1 : Int) = 0)) => ?_)
        refine wl_s (pc' := 40) ji_292_39 rfl rfl rfl ?_
        refine wl_s (pc' := 41) ji_292_40 rfl rfl rfl ?_
        obtain ⟨q26, hq26⟩ := cs_c C (by decide) sq_138
        refine wl_vc (d := d) (as := [.ref 138, wp_i ((i : Int))]) (rest := []) ji_292_41 jc_292_384 rfl hq26 jk_261.symm (Nat.le_of_ble_eq_true rfl) rfl (by rw [jn_261]; rfl) (uc_261 (d := d) C (w := (i : Int)) (by omega)) (fun v1 h25 R => ?_)
        obtain ⟨ee, rfl⟩ := R
        rw [ee]
        clear ee
        show wl_R _ _ 292 44 [some (.ref 138), some (wp_i (tot (arF (fun j => s 139 (40 + 2 * j + 1))) i + tot (arG (fun j => s 139 (40 + 2 * j + 1)) (i : Int)) k)), some (wp_i ((i : Int))), some (wp_i ((k : Int))), some (wp_i 1), some (wp_i 3)] [wp_i (s 139 (40 + 2 * ((i : Int)) + 1))] _ _
        have gr27 := hg ((i : Int)) (by omega) (by omega)
        refine wl_s (pc' := 46) ji_292_44 rfl rfl rfl ?_
        refine wl_s (pc' := 47) (st' := [.int (Int32.ofInt (s 139 (40 + 2 * ((i : Int)) + 1)) >>> (Int32.ofInt 3 &&& 31))]) ji_292_46 rfl rfl rfl ?_
        refine wl_bp ji_292_47 rfl ?_
        refine wl_s (pc' := 50) (lv' := [some (.ref 138), some (wp_i (tot (arF (fun j => s 139 (40 + 2 * j + 1))) i + tot (arG (fun j => s 139 (40 + 2 * j + 1)) (i : Int)) k)), some (wp_i ((i : Int))), some (wp_i ((k : Int))), some (wp_i 1), some (wp_i 3)]) (st' := [wp_i ((s 139 (40 + 2 * ((i : Int)) + 1)) / 8 % 8)]) (h' := h) ji_292_49 rfl rfl (congrArg (fun z => (some (50, [some (.ref 138), some (wp_i (tot (arF (fun j => s 139 (40 + 2 * j + 1))) i + tot (arG (fun j => s 139 (40 + 2 * j + 1)) (i : Int)) k)), some (wp_i ((i : Int))), some (wp_i ((k : Int))), some (wp_i 1), some (wp_i 3)], [Value.int z], h) : Option mj_S)) (af_r1x (x := s 139 (40 + 2 * ((i : Int)) + 1)) (by omega))) ?_
        refine wl_sc (d := d) (as := [wp_i ((s 139 (40 + 2 * ((i : Int)) + 1)) / 8 % 8)]) (rest := []) ji_292_50 jc_292_295 (Nat.le_of_ble_eq_true rfl) rfl (Nat.le_of_ble_eq_true rfl) rfl (by rw [jn_229]; rfl) (uc_229 (d := d) (x := (s 139 (40 + 2 * ((i : Int)) + 1)) / 8 % 8) (by omega)) (fun v1 h28 R => ?_)
        obtain ⟨ee, rfl⟩ := R
        rw [ee]
        clear ee
        show wl_R _ _ 292 53 [some (.ref 138), some (wp_i (tot (arF (fun j => s 139 (40 + 2 * j + 1))) i + tot (arG (fun j => s 139 (40 + 2 * j + 1)) (i : Int)) k)), some (wp_i ((i : Int))), some (wp_i ((k : Int))), some (wp_i 1), some (wp_i 3)] [wp_i (bcn ((s 139 (40 + 2 * ((i : Int)) + 1)) / 8 % 8))] _ _
        have hb29 := bcn_r ((s 139 (40 + 2 * ((i : Int)) + 1)) / 8 % 8)
        refine wl_s (pc' := 54) ji_292_53 rfl rfl rfl ?_
        refine wl_s (pc' := 55) ji_292_54 rfl rfl rfl ?_
        obtain ⟨q31, hq31⟩ := cs_c C (by decide) sq_138
        refine wl_vc (d := d) (as := [.ref 138, wp_i ((k : Int))]) (rest := [wp_i (bcn ((s 139 (40 + 2 * ((i : Int)) + 1)) / 8 % 8))]) ji_292_55 jc_292_384 rfl hq31 jk_261.symm (Nat.le_of_ble_eq_true rfl) rfl (by rw [jn_261]; rfl) (uc_261 (d := d) C (w := (k : Int)) (by omega)) (fun v1 h30 R => ?_)
        obtain ⟨ee, rfl⟩ := R
        rw [ee]
        clear ee
        show wl_R _ _ 292 58 [some (.ref 138), some (wp_i (tot (arF (fun j => s 139 (40 + 2 * j + 1))) i + tot (arG (fun j => s 139 (40 + 2 * j + 1)) (i : Int)) k)), some (wp_i ((i : Int))), some (wp_i ((k : Int))), some (wp_i 1), some (wp_i 3)] [wp_i (s 139 (40 + 2 * ((k : Int)) + 1)), wp_i (bcn ((s 139 (40 + 2 * ((i : Int)) + 1)) / 8 % 8))] _ _
        have gr32 := hg ((k : Int)) (by omega) (by omega)
        refine wl_s (pc' := 60) ji_292_58 rfl rfl rfl ?_
        refine wl_s (pc' := 61) (st' := [.int (Int32.ofInt (s 139 (40 + 2 * ((k : Int)) + 1)) >>> (Int32.ofInt 3 &&& 31)), wp_i (bcn ((s 139 (40 + 2 * ((i : Int)) + 1)) / 8 % 8))]) ji_292_60 rfl rfl rfl ?_
        refine wl_bp ji_292_61 rfl ?_
        refine wl_s (pc' := 64) (lv' := [some (.ref 138), some (wp_i (tot (arF (fun j => s 139 (40 + 2 * j + 1))) i + tot (arG (fun j => s 139 (40 + 2 * j + 1)) (i : Int)) k)), some (wp_i ((i : Int))), some (wp_i ((k : Int))), some (wp_i 1), some (wp_i 3)]) (st' := [wp_i ((s 139 (40 + 2 * ((k : Int)) + 1)) / 8 % 8), wp_i (bcn ((s 139 (40 + 2 * ((i : Int)) + 1)) / 8 % 8))]) (h' := h) ji_292_63 rfl rfl (congrArg (fun z => (some (64, [some (.ref 138), some (wp_i (tot (arF (fun j => s 139 (40 + 2 * j + 1))) i + tot (arG (fun j => s 139 (40 + 2 * j + 1)) (i : Int)) k)), some (wp_i ((i : Int))), some (wp_i ((k : Int))), some (wp_i 1), some (wp_i 3)], [Value.int z, wp_i (bcn ((s 139 (40 + 2 * ((i : Int)) + 1)) / 8 % 8))], h) : Option mj_S)) (af_r1x (x := s 139 (40 + 2 * ((k : Int)) + 1)) (by omega))) ?_
        refine wl_sc (d := d) (as := [wp_i ((s 139 (40 + 2 * ((k : Int)) + 1)) / 8 % 8)]) (rest := [wp_i (bcn ((s 139 (40 + 2 * ((i : Int)) + 1)) / 8 % 8))]) ji_292_64 jc_292_295 (Nat.le_of_ble_eq_true rfl) rfl (Nat.le_of_ble_eq_true rfl) rfl (by rw [jn_229]; rfl) (uc_229 (d := d) (x := (s 139 (40 + 2 * ((k : Int)) + 1)) / 8 % 8) (by omega)) (fun v1 h33 R => ?_)
        obtain ⟨ee, rfl⟩ := R
        rw [ee]
        clear ee
        show wl_R _ _ 292 67 [some (.ref 138), some (wp_i (tot (arF (fun j => s 139 (40 + 2 * j + 1))) i + tot (arG (fun j => s 139 (40 + 2 * j + 1)) (i : Int)) k)), some (wp_i ((i : Int))), some (wp_i ((k : Int))), some (wp_i 1), some (wp_i 3)] [wp_i (bcn ((s 139 (40 + 2 * ((k : Int)) + 1)) / 8 % 8)), wp_i (bcn ((s 139 (40 + 2 * ((i : Int)) + 1)) / 8 % 8))] _ _
        have hb34 := bcn_r ((s 139 (40 + 2 * ((k : Int)) + 1)) / 8 % 8)
        refine wl_icmp (t := 74) ji_292_67 rfl (by omega) (by omega) (fun (hb35 : ¬ (bcn ((s 139 (40 + 2 * ((i : Int)) + 1)) / 8 % 8) : Int) = (bcn ((s 139 (40 + 2 * ((k : Int)) + 1)) / 8 % 8))) => ?_) (fun (hb35 : ¬ (¬ (bcn ((s 139 (40 + 2 * ((i : Int)) + 1)) / 8 % 8) : Int) = (bcn ((s 139 (40 + 2 * ((k : Int)) + 1)) / 8 % 8)))) => ?_)
        · refine wl_s (pc' := 75) ji_292_74 rfl rfl rfl ?_
          refine wl_s (pc' := 77) (lv' := [some (.ref 138), some (wp_i (tot (arF (fun j => s 139 (40 + 2 * j + 1))) i + tot (arG (fun j => s 139 (40 + 2 * j + 1)) (i : Int)) k)), some (wp_i ((i : Int))), some (wp_i ((k : Int))), some (wp_i 0), some (wp_i 3)]) ji_292_75 rfl rfl rfl ?_
          refine wl_iinc (x := 3) (z := 6) (lv' := [some (.ref 138), some (wp_i (tot (arF (fun j => s 139 (40 + 2 * j + 1))) i + tot (arG (fun j => s 139 (40 + 2 * j + 1)) (i : Int)) k)), some (wp_i ((i : Int))), some (wp_i ((k : Int))), some (wp_i 0), some (wp_i 6)]) ji_292_77 rfl (Nat.le_of_ble_eq_true rfl) (by omega) rfl ?_
          refine wl_goto (t := 27) ji_292_80 rfl ?_
          refine wl_s (pc' := 29) ji_292_27 rfl rfl rfl ?_
          refine wl_bp ji_292_29 rfl ?_
          refine wl_icmp (t := 83) ji_292_31 rfl (by omega) (by omega) (fun (hb36 : (9 : Int) ≤ 6) => (by exfalso; omega)) (fun (hb36 : ¬ ((9 : Int) ≤ 6)) => ?_)
          refine wl_s (pc' := 36) ji_292_34 rfl rfl rfl ?_
          refine wl_if (t := 74) ji_292_36 rfl (by omega) (fun (hb37 : (0 : Int) = 0) => ?_) (fun (hb37 : ¬ ((0 : Int) = 0)) => (by exfalso; omega))
          refine wl_s (pc' := 75) ji_292_74 rfl rfl rfl ?_
          refine wl_s (pc' := 77) (lv' := [some (.ref 138), some (wp_i (tot (arF (fun j => s 139 (40 + 2 * j + 1))) i + tot (arG (fun j => s 139 (40 + 2 * j + 1)) (i : Int)) k)), some (wp_i ((i : Int))), some (wp_i ((k : Int))), some (wp_i 0), some (wp_i 6)]) ji_292_75 rfl rfl rfl ?_
          refine wl_iinc (x := 6) (z := 9) (lv' := [some (.ref 138), some (wp_i (tot (arF (fun j => s 139 (40 + 2 * j + 1))) i + tot (arG (fun j => s 139 (40 + 2 * j + 1)) (i : Int)) k)), some (wp_i ((i : Int))), some (wp_i ((k : Int))), some (wp_i 0), some (wp_i 9)]) ji_292_77 rfl (Nat.le_of_ble_eq_true rfl) (by omega) rfl ?_
          refine wl_goto (t := 27) ji_292_80 rfl ?_
          refine wl_s (pc' := 29) ji_292_27 rfl rfl rfl ?_
          refine wl_bp ji_292_29 rfl ?_
          refine wl_icmp (t := 83) ji_292_31 rfl (by omega) (by omega) (fun (hb38 : (9 : Int) ≤ 9) => ?_) (fun (hb38 : ¬ ((9 : Int) ≤ 9)) => (by exfalso; omega))
          refine wl_s (pc' := 84) ji_292_83 rfl rfl rfl ?_
          refine wl_s (pc' := 86) ji_292_84 rfl rfl rfl ?_
          refine wl_if (t := 93) ji_292_86 rfl (by omega) (fun (hb39 : (0 : Int) = 0) => ?_) (fun (hb39 : ¬ ((0 : Int) = 0)) => (by exfalso; omega))
          refine wl_s (pc' := 94) ji_292_93 rfl rfl rfl ?_
          refine wl_iadd (x := tot (arF (fun j => s 139 (40 + 2 * j + 1))) i + tot (arG (fun j => s 139 (40 + 2 * j + 1)) (i : Int)) k) (y := 0) (z := tot (arF (fun j => s 139 (40 + 2 * j + 1))) i + tot (arG (fun j => s 139 (40 + 2 * j + 1)) (i : Int)) k) ji_292_94 (by omega) ?_
          refine wl_s (pc' := 96) (lv' := [some (.ref 138), some (wp_i (tot (arF (fun j => s 139 (40 + 2 * j + 1))) i + tot (arG (fun j => s 139 (40 + 2 * j + 1)) (i : Int)) k)), some (wp_i ((i : Int))), some (wp_i ((k : Int))), some (wp_i 0), some (wp_i 9)]) ji_292_95 rfl rfl rfl ?_
          refine wl_iinc (x := (k : Int)) (z := (k : Int) + 1) (lv' := [some (.ref 138), some (wp_i (tot (arF (fun j => s 139 (40 + 2 * j + 1))) i + tot (arG (fun j => s 139 (40 + 2 * j + 1)) (i : Int)) k)), some (wp_i ((i : Int))), some (wp_i ((k : Int) + 1)), some (wp_i 0), some (wp_i 9)]) ji_292_96 rfl (Nat.le_of_ble_eq_true rfl) (by omega) rfl ?_
          refine wl_goto (t := 16) ji_292_99 rfl ?_
          have eg : arG (fun j => s 139 (40 + 2 * j + 1)) (i : Int) (k : Int) = 0 := if_neg (show ¬ (bcn (s 139 (40 + 2 * (i : Int) + 1) % 8) = bcn (s 139 (40 + 2 * (k : Int) + 1) % 8) ∧ bcn (s 139 (40 + 2 * (i : Int) + 1) / 8 % 8) = bcn (s 139 (40 + 2 * (k : Int) + 1) / 8 % 8) ∧ bcn (s 139 (40 + 2 * (i : Int) + 1) / 64 % 8) = bcn (s 139 (40 + 2 * (k : Int) + 1) / 64 % 8)) by omega)
          rw [show (k : Int) + 1 = ((k + 1 : Nat) : Int) by omega, show tot (arF (fun j => s 139 (40 + 2 * j + 1))) i + tot (arG (fun j => s 139 (40 + 2 * j + 1)) (i : Int)) k = tot (arF (fun j => s 139 (40 + 2 * j + 1))) i + tot (arG (fun j => s 139 (40 + 2 * j + 1)) (i : Int)) (k + 1) by show _ = _ + (_ + arG (fun j => s 139 (40 + 2 * j + 1)) (i : Int) (k : Int)); rw [eg]; omega]
          exact ih i (k + 1) _ _ (by omega) (by omega)
        · refine wl_s (pc' := 71) ji_292_70 rfl rfl rfl ?_
          refine wl_goto (t := 75) ji_292_71 rfl ?_
          refine wl_s (pc' := 77) (lv' := [some (.ref 138), some (wp_i (tot (arF (fun j => s 139 (40 + 2 * j + 1))) i + tot (arG (fun j => s 139 (40 + 2 * j + 1)) (i : Int)) k)), some (wp_i ((i : Int))), some (wp_i ((k : Int))), some (wp_i 1), some (wp_i 3)]) ji_292_75 rfl rfl rfl ?_
          refine wl_iinc (x := 3) (z := 6) (lv' := [some (.ref 138), some (wp_i (tot (arF (fun j => s 139 (40 + 2 * j + 1))) i + tot (arG (fun j => s 139 (40 + 2 * j + 1)) (i : Int)) k)), some (wp_i ((i : Int))), some (wp_i ((k : Int))), some (wp_i 1), some (wp_i 6)]) ji_292_77 rfl (Nat.le_of_ble_eq_true rfl) (by omega) rfl ?_
          refine wl_goto (t := 27) ji_292_80 rfl ?_
          refine wl_s (pc' := 29) ji_292_27 rfl rfl rfl ?_
          refine wl_bp ji_292_29 rfl ?_
          refine wl_icmp (t := 83) ji_292_31 rfl (by omega) (by omega) (fun (hb40 : (9 : Int) ≤ 6) => (by exfalso; omega)) (fun (hb40 : ¬ ((9 : Int) ≤ 6)) => ?_)
          refine wl_s (pc' := 36) ji_292_34 rfl rfl rfl ?_
          refine wl_if (t := 74) ji_292_36 rfl (by omega) (fun (hb41 : (1 : Int) = 0) => (by exfalso; omega)) (fun (hb41 : ¬ ((1 : Int) = 0)) => ?_)
          refine wl_s (pc' := 40) ji_292_39 rfl rfl rfl ?_
          refine wl_s (pc' := 41) ji_292_40 rfl rfl rfl ?_
          obtain ⟨q43, hq43⟩ := cs_c C (by decide) sq_138
          refine wl_vc (d := d) (as := [.ref 138, wp_i ((i : Int))]) (rest := []) ji_292_41 jc_292_384 rfl hq43 jk_261.symm (Nat.le_of_ble_eq_true rfl) rfl (by rw [jn_261]; rfl) (uc_261 (d := d) C (w := (i : Int)) (by omega)) (fun v1 h42 R => ?_)
          obtain ⟨ee, rfl⟩ := R
          rw [ee]
          clear ee
          show wl_R _ _ 292 44 [some (.ref 138), some (wp_i (tot (arF (fun j => s 139 (40 + 2 * j + 1))) i + tot (arG (fun j => s 139 (40 + 2 * j + 1)) (i : Int)) k)), some (wp_i ((i : Int))), some (wp_i ((k : Int))), some (wp_i 1), some (wp_i 6)] [wp_i (s 139 (40 + 2 * ((i : Int)) + 1))] _ _
          have gr44 := hg ((i : Int)) (by omega) (by omega)
          refine wl_s (pc' := 46) ji_292_44 rfl rfl rfl ?_
          refine wl_s (pc' := 47) (st' := [.int (Int32.ofInt (s 139 (40 + 2 * ((i : Int)) + 1)) >>> (Int32.ofInt 6 &&& 31))]) ji_292_46 rfl rfl rfl ?_
          refine wl_bp ji_292_47 rfl ?_
          refine wl_s (pc' := 50) (lv' := [some (.ref 138), some (wp_i (tot (arF (fun j => s 139 (40 + 2 * j + 1))) i + tot (arG (fun j => s 139 (40 + 2 * j + 1)) (i : Int)) k)), some (wp_i ((i : Int))), some (wp_i ((k : Int))), some (wp_i 1), some (wp_i 6)]) (st' := [wp_i ((s 139 (40 + 2 * ((i : Int)) + 1)) / 64 % 8)]) (h' := h) ji_292_49 rfl rfl (congrArg (fun z => (some (50, [some (.ref 138), some (wp_i (tot (arF (fun j => s 139 (40 + 2 * j + 1))) i + tot (arG (fun j => s 139 (40 + 2 * j + 1)) (i : Int)) k)), some (wp_i ((i : Int))), some (wp_i ((k : Int))), some (wp_i 1), some (wp_i 6)], [Value.int z], h) : Option mj_S)) (af_r2x (x := s 139 (40 + 2 * ((i : Int)) + 1)) (by omega))) ?_
          refine wl_sc (d := d) (as := [wp_i ((s 139 (40 + 2 * ((i : Int)) + 1)) / 64 % 8)]) (rest := []) ji_292_50 jc_292_295 (Nat.le_of_ble_eq_true rfl) rfl (Nat.le_of_ble_eq_true rfl) rfl (by rw [jn_229]; rfl) (uc_229 (d := d) (x := (s 139 (40 + 2 * ((i : Int)) + 1)) / 64 % 8) (by omega)) (fun v1 h45 R => ?_)
          obtain ⟨ee, rfl⟩ := R
          rw [ee]
          clear ee
          show wl_R _ _ 292 53 [some (.ref 138), some (wp_i (tot (arF (fun j => s 139 (40 + 2 * j + 1))) i + tot (arG (fun j => s 139 (40 + 2 * j + 1)) (i : Int)) k)), some (wp_i ((i : Int))), some (wp_i ((k : Int))), some (wp_i 1), some (wp_i 6)] [wp_i (bcn ((s 139 (40 + 2 * ((i : Int)) + 1)) / 64 % 8))] _ _
          have hb46 := bcn_r ((s 139 (40 + 2 * ((i : Int)) + 1)) / 64 % 8)
          refine wl_s (pc' := 54) ji_292_53 rfl rfl rfl ?_
          refine wl_s (pc' := 55) ji_292_54 rfl rfl rfl ?_
          obtain ⟨q48, hq48⟩ := cs_c C (by decide) sq_138
          refine wl_vc (d := d) (as := [.ref 138, wp_i ((k : Int))]) (rest := [wp_i (bcn ((s 139 (40 + 2 * ((i : Int)) + 1)) / 64 % 8))]) ji_292_55 jc_292_384 rfl hq48 jk_261.symm (Nat.le_of_ble_eq_true rfl) rfl (by rw [jn_261]; rfl) (uc_261 (d := d) C (w := (k : Int)) (by omega)) (fun v1 h47 R => ?_)
          obtain ⟨ee, rfl⟩ := R
          rw [ee]
          clear ee
          show wl_R _ _ 292 58 [some (.ref 138), some (wp_i (tot (arF (fun j => s 139 (40 + 2 * j + 1))) i + tot (arG (fun j => s 139 (40 + 2 * j + 1)) (i : Int)) k)), some (wp_i ((i : Int))), some (wp_i ((k : Int))), some (wp_i 1), some (wp_i 6)] [wp_i (s 139 (40 + 2 * ((k : Int)) + 1)), wp_i (bcn ((s 139 (40 + 2 * ((i : Int)) + 1)) / 64 % 8))] _ _
          have gr49 := hg ((k : Int)) (by omega) (by omega)
          refine wl_s (pc' := 60) ji_292_58 rfl rfl rfl ?_
          refine wl_s (pc' := 61) (st' := [.int (Int32.ofInt (s 139 (40 + 2 * ((k : Int)) + 1)) >>> (Int32.ofInt 6 &&& 31)), wp_i (bcn ((s 139 (40 + 2 * ((i : Int)) + 1)) / 64 % 8))]) ji_292_60 rfl rfl rfl ?_
          refine wl_bp ji_292_61 rfl ?_
          refine wl_s (pc' := 64) (lv' := [some (.ref 138), some (wp_i (tot (arF (fun j => s 139 (40 + 2 * j + 1))) i + tot (arG (fun j => s 139 (40 + 2 * j + 1)) (i : Int)) k)), some (wp_i ((i : Int))), some (wp_i ((k : Int))), some (wp_i 1), some (wp_i 6)]) (st' := [wp_i ((s 139 (40 + 2 * ((k : Int)) + 1)) / 64 % 8), wp_i (bcn ((s 139 (40 + 2 * ((i : Int)) + 1)) / 64 % 8))]) (h' := h) ji_292_63 rfl rfl (congrArg (fun z => (some (64, [some (.ref 138), some (wp_i (tot (arF (fun j => s 139 (40 + 2 * j + 1))) i + tot (arG (fun j => s 139 (40 + 2 * j + 1)) (i : Int)) k)), some (wp_i ((i : Int))), some (wp_i ((k : Int))), some (wp_i 1), some (wp_i 6)], [Value.int z, wp_i (bcn ((s 139 (40 + 2 * ((i : Int)) + 1)) / 64 % 8))], h) : Option mj_S)) (af_r2x (x := s 139 (40 + 2 * ((k : Int)) + 1)) (by omega))) ?_
          refine wl_sc (d := d) (as := [wp_i ((s 139 (40 + 2 * ((k : Int)) + 1)) / 64 % 8)]) (rest := [wp_i (bcn ((s 139 (40 + 2 * ((i : Int)) + 1)) / 64 % 8))]) ji_292_64 jc_292_295 (Nat.le_of_ble_eq_true rfl) rfl (Nat.le_of_ble_eq_true rfl) rfl (by rw [jn_229]; rfl) (uc_229 (d := d) (x := (s 139 (40 + 2 * ((k : Int)) + 1)) / 64 % 8) (by omega)) (fun v1 h50 R => ?_)
          obtain ⟨ee, rfl⟩ := R
          rw [ee]
          clear ee
          show wl_R _ _ 292 67 [some (.ref 138), some (wp_i (tot (arF (fun j => s 139 (40 + 2 * j + 1))) i + tot (arG (fun j => s 139 (40 + 2 * j + 1)) (i : Int)) k)), some (wp_i ((i : Int))), some (wp_i ((k : Int))), some (wp_i 1), some (wp_i 6)] [wp_i (bcn ((s 139 (40 + 2 * ((k : Int)) + 1)) / 64 % 8)), wp_i (bcn ((s 139 (40 + 2 * ((i : Int)) + 1)) / 64 % 8))] _ _
          have hb51 := bcn_r ((s 139 (40 + 2 * ((k : Int)) + 1)) / 64 % 8)
          refine wl_icmp (t := 74) ji_292_67 rfl (by omega) (by omega) (fun (hb52 : ¬ (bcn ((s 139 (40 + 2 * ((i : Int)) + 1)) / 64 % 8) : Int) = (bcn ((s 139 (40 + 2 * ((k : Int)) + 1)) / 64 % 8))) => ?_) (fun (hb52 : ¬ (¬ (bcn ((s 139 (40 + 2 * ((i : Int)) + 1)) / 64 % 8) : Int) = (bcn ((s 139 (40 + 2 * ((k : Int)) + 1)) / 64 % 8)))) => ?_)
          · refine wl_s (pc' := 75) ji_292_74 rfl rfl rfl ?_
            refine wl_s (pc' := 77) (lv' := [some (.ref 138), some (wp_i (tot (arF (fun j => s 139 (40 + 2 * j + 1))) i + tot (arG (fun j => s 139 (40 + 2 * j + 1)) (i : Int)) k)), some (wp_i ((i : Int))), some (wp_i ((k : Int))), some (wp_i 0), some (wp_i 6)]) ji_292_75 rfl rfl rfl ?_
            refine wl_iinc (x := 6) (z := 9) (lv' := [some (.ref 138), some (wp_i (tot (arF (fun j => s 139 (40 + 2 * j + 1))) i + tot (arG (fun j => s 139 (40 + 2 * j + 1)) (i : Int)) k)), some (wp_i ((i : Int))), some (wp_i ((k : Int))), some (wp_i 0), some (wp_i 9)]) ji_292_77 rfl (Nat.le_of_ble_eq_true rfl) (by omega) rfl ?_
            refine wl_goto (t := 27) ji_292_80 rfl ?_
            refine wl_s (pc' := 29) ji_292_27 rfl rfl rfl ?_
            refine wl_bp ji_292_29 rfl ?_
            refine wl_icmp (t := 83) ji_292_31 rfl (by omega) (by omega) (fun (hb53 : (9 : Int) ≤ 9) => ?_) (fun (hb53 : ¬ ((9 : Int) ≤ 9)) => (by exfalso; omega))
            refine wl_s (pc' := 84) ji_292_83 rfl rfl rfl ?_
            refine wl_s (pc' := 86) ji_292_84 rfl rfl rfl ?_
            refine wl_if (t := 93) ji_292_86 rfl (by omega) (fun (hb54 : (0 : Int) = 0) => ?_) (fun (hb54 : ¬ ((0 : Int) = 0)) => (by exfalso; omega))
            refine wl_s (pc' := 94) ji_292_93 rfl rfl rfl ?_
            refine wl_iadd (x := tot (arF (fun j => s 139 (40 + 2 * j + 1))) i + tot (arG (fun j => s 139 (40 + 2 * j + 1)) (i : Int)) k) (y := 0) (z := tot (arF (fun j => s 139 (40 + 2 * j + 1))) i + tot (arG (fun j => s 139 (40 + 2 * j + 1)) (i : Int)) k) ji_292_94 (by omega) ?_
            refine wl_s (pc' := 96) (lv' := [some (.ref 138), some (wp_i (tot (arF (fun j => s 139 (40 + 2 * j + 1))) i + tot (arG (fun j => s 139 (40 + 2 * j + 1)) (i : Int)) k)), some (wp_i ((i : Int))), some (wp_i ((k : Int))), some (wp_i 0), some (wp_i 9)]) ji_292_95 rfl rfl rfl ?_
            refine wl_iinc (x := (k : Int)) (z := (k : Int) + 1) (lv' := [some (.ref 138), some (wp_i (tot (arF (fun j => s 139 (40 + 2 * j + 1))) i + tot (arG (fun j => s 139 (40 + 2 * j + 1)) (i : Int)) k)), some (wp_i ((i : Int))), some (wp_i ((k : Int) + 1)), some (wp_i 0), some (wp_i 9)]) ji_292_96 rfl (Nat.le_of_ble_eq_true rfl) (by omega) rfl ?_
            refine wl_goto (t := 16) ji_292_99 rfl ?_
            have eg : arG (fun j => s 139 (40 + 2 * j + 1)) (i : Int) (k : Int) = 0 := if_neg (show ¬ (bcn (s 139 (40 + 2 * (i : Int) + 1) % 8) = bcn (s 139 (40 + 2 * (k : Int) + 1) % 8) ∧ bcn (s 139 (40 + 2 * (i : Int) + 1) / 8 % 8) = bcn (s 139 (40 + 2 * (k : Int) + 1) / 8 % 8) ∧ bcn (s 139 (40 + 2 * (i : Int) + 1) / 64 % 8) = bcn (s 139 (40 + 2 * (k : Int) + 1) / 64 % 8)) by omega)
            rw [show (k : Int) + 1 = ((k + 1 : Nat) : Int) by omega, show tot (arF (fun j => s 139 (40 + 2 * j + 1))) i + tot (arG (fun j => s 139 (40 + 2 * j + 1)) (i : Int)) k = tot (arF (fun j => s 139 (40 + 2 * j + 1))) i + tot (arG (fun j => s 139 (40 + 2 * j + 1)) (i : Int)) (k + 1) by show _ = _ + (_ + arG (fun j => s 139 (40 + 2 * j + 1)) (i : Int) (k : Int)); rw [eg]; omega]
            exact ih i (k + 1) _ _ (by omega) (by omega)
          · refine wl_s (pc' := 71) ji_292_70 rfl rfl rfl ?_
            refine wl_goto (t := 75) ji_292_71 rfl ?_
            refine wl_s (pc' := 77) (lv' := [some (.ref 138), some (wp_i (tot (arF (fun j => s 139 (40 + 2 * j + 1))) i + tot (arG (fun j => s 139 (40 + 2 * j + 1)) (i : Int)) k)), some (wp_i ((i : Int))), some (wp_i ((k : Int))), some (wp_i 1), some (wp_i 6)]) ji_292_75 rfl rfl rfl ?_
            refine wl_iinc (x := 6) (z := 9) (lv' := [some (.ref 138), some (wp_i (tot (arF (fun j => s 139 (40 + 2 * j + 1))) i + tot (arG (fun j => s 139 (40 + 2 * j + 1)) (i : Int)) k)), some (wp_i ((i : Int))), some (wp_i ((k : Int))), some (wp_i 1), some (wp_i 9)]) ji_292_77 rfl (Nat.le_of_ble_eq_true rfl) (by omega) rfl ?_
            refine wl_goto (t := 27) ji_292_80 rfl ?_
            refine wl_s (pc' := 29) ji_292_27 rfl rfl rfl ?_
            refine wl_bp ji_292_29 rfl ?_
            refine wl_icmp (t := 83) ji_292_31 rfl (by omega) (by omega) (fun (hb55 : (9 : Int) ≤ 9) => ?_) (fun (hb55 : ¬ ((9 : Int) ≤ 9)) => (by exfalso; omega))
            refine wl_s (pc' := 84) ji_292_83 rfl rfl rfl ?_
            refine wl_s (pc' := 86) ji_292_84 rfl rfl rfl ?_
            refine wl_if (t := 93) ji_292_86 rfl (by omega) (fun (hb56 : (1 : Int) = 0) => (by exfalso; omega)) (fun (hb56 : ¬ ((1 : Int) = 0)) => ?_)
            refine wl_s (pc' := 90) ji_292_89 rfl rfl rfl ?_
            refine wl_goto (t := 94) ji_292_90 rfl ?_
            refine wl_iadd (x := tot (arF (fun j => s 139 (40 + 2 * j + 1))) i + tot (arG (fun j => s 139 (40 + 2 * j + 1)) (i : Int)) k) (y := 1) (z := tot (arF (fun j => s 139 (40 + 2 * j + 1))) i + tot (arG (fun j => s 139 (40 + 2 * j + 1)) (i : Int)) k + 1) ji_292_94 (by omega) ?_
            refine wl_s (pc' := 96) (lv' := [some (.ref 138), some (wp_i (tot (arF (fun j => s 139 (40 + 2 * j + 1))) i + tot (arG (fun j => s 139 (40 + 2 * j + 1)) (i : Int)) k + 1)), some (wp_i ((i : Int))), some (wp_i ((k : Int))), some (wp_i 1), some (wp_i 9)]) ji_292_95 rfl rfl rfl ?_
            refine wl_iinc (x := (k : Int)) (z := (k : Int) + 1) (lv' := [some (.ref 138), some (wp_i (tot (arF (fun j => s 139 (40 + 2 * j + 1))) i + tot (arG (fun j => s 139 (40 + 2 * j + 1)) (i : Int)) k + 1)), some (wp_i ((i : Int))), some (wp_i ((k : Int) + 1)), some (wp_i 1), some (wp_i 9)]) ji_292_96 rfl (Nat.le_of_ble_eq_true rfl) (by omega) rfl ?_
            refine wl_goto (t := 16) ji_292_99 rfl ?_
            have eg : arG (fun j => s 139 (40 + 2 * j + 1)) (i : Int) (k : Int) = 1 := if_pos (show bcn (s 139 (40 + 2 * (i : Int) + 1) % 8) = bcn (s 139 (40 + 2 * (k : Int) + 1) % 8) ∧ bcn (s 139 (40 + 2 * (i : Int) + 1) / 8 % 8) = bcn (s 139 (40 + 2 * (k : Int) + 1) / 8 % 8) ∧ bcn (s 139 (40 + 2 * (i : Int) + 1) / 64 % 8) = bcn (s 139 (40 + 2 * (k : Int) + 1) / 64 % 8) from ⟨by omega, by omega, by omega⟩)
            rw [show (k : Int) + 1 = ((k + 1 : Nat) : Int) by omega, show tot (arF (fun j => s 139 (40 + 2 * j + 1))) i + tot (arG (fun j => s 139 (40 + 2 * j + 1)) (i : Int)) k + 1 = tot (arF (fun j => s 139 (40 + 2 * j + 1))) i + tot (arG (fun j => s 139 (40 + 2 * j + 1)) (i : Int)) (k + 1) by show _ = _ + (_ + arG (fun j => s 139 (40 + 2 * j + 1)) (i : Int) (k : Int)); rw [eg]; omega]
            exact ih i (k + 1) _ _ (by omega) (by omega)
theorem uc_292 {nn d : Nat} {h : mj_H} {s : sg_} (C : CS h s) {n : Nat} (hn : n ≤ 6) (en : s 139 1 = (n : Int)) (hg : ∀ j : Int, 0 ≤ j → j < 6 → 0 ≤ s 139 (40 + 2 * j + 1) ∧ s 139 (40 + 2 * j + 1) ≤ 511) : wl_R nn (d + 1) 292 0 [some (.ref 138), none, none, none, none, none] [] h (fun v1 h1 => h1 = h ∧ v1 = some (wp_i (tot (arF (fun j => s 139 (40 + 2 * j + 1))) n))) := by
  refine wl_s (pc' := 1) ji_292_0 rfl rfl rfl ?_
  refine wl_s (pc' := 2) (lv' := [some (.ref 138), some (wp_i 0), none, none, none, none]) ji_292_1 rfl rfl rfl ?_
  refine wl_s (pc' := 3) ji_292_2 rfl rfl rfl ?_
  refine wl_s (pc' := 4) (lv' := [some (.ref 138), some (wp_i 0), some (wp_i 0), none, none, none]) ji_292_3 rfl rfl rfl ?_
  refine wl_s (pc' := 5) ji_292_4 rfl rfl rfl ?_
  refine wl_s (pc' := 6) ji_292_5 rfl rfl rfl ?_
  refine cs_gr (r := 139) (k := 0) C (by decide) sq_138 rfl ji_292_6 jf_292_7 ?_
  refine wl_s (pc' := 10) ji_292_9 rfl rfl rfl ?_
  refine cs_l (x := 1) C (by decide) (by decide) sq_139 (by omega) ji_292_10 (fun ld10 ld11 ld12 => ?_)
  refine wl_icmp (t := 108) ji_292_11 rfl (by omega) (by omega) (fun (hb2 : (s 139 1 : Int) ≤ 0) => ?_) (fun (hb2 : ¬ ((s 139 1 : Int) ≤ 0)) => ?_)
  · refine wl_s (pc' := 109) ji_292_108 rfl rfl rfl ?_
    exact wl_ri ji_292_109 jr_292 rfl (⟨rfl, by rw [show n = 0 by omega]; rfl⟩)
  · refine wl_s (pc' := 15) ji_292_14 rfl rfl rfl ?_
    refine wl_s (pc' := 16) (lv' := [some (.ref 138), some (wp_i 0), some (wp_i 0), some (wp_i 0), none, none]) ji_292_15 rfl rfl rfl ?_
    exact uc_292l C hn en hg nn 0 0 none none (by omega) (by omega)
def afC (s : sg_) : Int := tot (afF (fun j => s 53 j) (s 48 1).toNat) (s 48 1).toNat
def afR (s : sg_) : Int := tot (arF (fun j => s 139 (40 + 2 * j + 1))) (s 139 1).toNat
theorem eq_afar {tc : tcs} {tr : Int → crs} {s : sg_} {M : Int} (L : LAWS tc tr s M) : afR s = afC s := by
  have H := L.1.1.2.1
  have dm := dm_ L
  have e : ∀ j : Int, 0 ≤ j → j < 6 → s 139 (40 + 2 * j + 1) = s 53 j := fun j a b => (H.2.2.1 j ⟨a, b⟩).2
  unfold afR afC
  rw [dm.2.1]
  refine Eq.trans ?_ (tot_2 (a := fun i k => alk_ (s 53 i) (s 53 k)) (fun i k => al_s _ _) (s 48 1).toNat).symm
  refine tot_c _ (fun i a b => ?_)
  refine tot_c (g := arG (fun j => s 139 (40 + 2 * j + 1)) i) (k := fun k => alk_ (s 53 i) (s 53 k)) i.toNat (fun k c d => ?_)
  show alk_ (s 139 (40 + 2 * i + 1)) (s 139 (40 + 2 * k + 1)) = _
  rw [e i a (by omega), e k c (by omega)]
theorem tc_afar (AM : lw_AM) {sl : List Value} {h : mj_H} {B : Int} {s : sg_} {tc : tcs} {tr : Int → crs} {M : Int} (L : LAWS tc tr s M) (W : WS sl h B s) (hB : 0 ≤ B ∧ B ≤ 130000000) : wp_R 1199 131 0 [some (.ref 9)] [] h (fun v h1 => v = some (wp_i (afC s)) ∧ WS sl h1 (B + (0 : Nat)) s) := by
  have C := W.2.2.2
  exact ws_c (n := 0) W (AM 1199 131 sx_K131 rfl) (vs := [.ref 9]) ⟨⟨9, rfl, rfl⟩, trivial⟩ (show (3 : Int) + 0 ≤ ((1199 : Nat) : Int) by decide) (by decide) (by omega) (by rw [jn_131]; rfl) (by decide +kernel) (fun nn => wl_mono (uc_131 (d := 1196) C (n := (s 48 1).toNat) (by have q := (INV_NV L.1).g.1.2.1; omega) (by have q := (INV_NV L.1).g.1.2.1; omega) (pt_ L).1) (fun v h1 R => ⟨R.2, R.1 ▸ C⟩))
theorem tr_afar (AM : lw_AM) {sl : List Value} {h : mj_H} {B : Int} {s : sg_} {tc : tcs} {tr : Int → crs} {M : Int} (L : LAWS tc tr s M) (W : WS sl h B s) (hB : 0 ≤ B ∧ B ≤ 130000000) : wp_R 1199 292 0 [some (.ref 138), none, none, none, none, none] [] h (fun v h1 => v = some (wp_i (afR s)) ∧ WS sl h1 (B + (0 : Nat)) s) := by
  have C := W.2.2.2
  exact ws_c (n := 0) W (AM 1199 292 sx_K292 rfl) (vs := [.ref 138]) ⟨⟨138, rfl, rfl⟩, trivial⟩ (show (1 : Int) + 0 ≤ ((1199 : Nat) : Int) by decide) (by decide) (by omega) (by rw [jn_292]; rfl) (by decide +kernel) (fun nn => wl_mono (uc_292 (d := 1198) C (n := (s 139 1).toNat) (by have q := (INV_RT L.1).1.rs.g.w0; omega) (by have q := (INV_RT L.1).1.rs.g.w0; omega) (pt_ L).2) (fun v h1 R => ⟨R.2, R.1 ▸ C⟩))
