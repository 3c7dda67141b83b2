/-! -/
set_option maxRecDepth 100000 in
theorem ji_130_34 : mj_ins 130 34 = some (.iload 5) := by decide +kernel
set_option maxRecDepth 100000 in
theorem ji_130_36 : mj_ins 130 36 = some (.aload_n 0) := by decide +kernel
set_option maxRecDepth 100000 in
theorem ji_130_37 : mj_ins 130 37 = some (.getfield 21) := by decide +kernel
set_option maxRecDepth 100000 in
theorem jf_130_21 : mj_fld 130 21 = some (3, 1, .int, true) := by decide +kernel
set_option maxRecDepth 100000 in
theorem ji_130_40 : mj_ins 130 40 = some (.if_icmp .ge 24) := by decide +kernel
set_option maxRecDepth 100000 in
theorem ji_130_64 : mj_ins 130 64 = some (.iconst (-1)) := by decide +kernel
set_option maxRecDepth 100000 in
theorem ji_130_65 : mj_ins 130 65 = some (.ireturn) := by decide +kernel
set_option maxRecDepth 100000 in
theorem jr_130 : mj_ret 130 = some .int := by decide +kernel
set_option maxRecDepth 100000 in
theorem ji_130_43 : mj_ins 130 43 = some (.aload_n 0) := by decide +kernel
set_option maxRecDepth 100000 in
theorem ji_130_44 : mj_ins 130 44 = some (.getfield 27) := by decide +kernel
set_option maxRecDepth 100000 in
theorem jf_130_27 : mj_fld 130 27 = some (3, 6, (.array .int), false) := by decide +kernel
set_option maxRecDepth 100000 in
theorem ji_130_47 : mj_ins 130 47 = some (.iload 5) := by decide +kernel
set_option maxRecDepth 100000 in
theorem ji_130_49 : mj_ins 130 49 = some (.iaload) := by decide +kernel
set_option maxRecDepth 100000 in
theorem ji_130_50 : mj_ins 130 50 = some (.iload 4) := by decide +kernel
set_option maxRecDepth 100000 in
theorem ji_130_52 : mj_ins 130 52 = some (.if_icmp .ne 6) := by decide +kernel
set_option maxRecDepth 100000 in
theorem ji_130_58 : mj_ins 130 58 = some (.iinc 5 1) := by decide +kernel
set_option maxRecDepth 100000 in
theorem ji_130_61 : mj_ins 130 61 = some (.goto (-27)) := by decide +kernel
set_option maxRecDepth 100000 in
theorem ji_130_55 : mj_ins 130 55 = some (.iload 5) := by decide +kernel
set_option maxRecDepth 100000 in
theorem ji_130_57 : mj_ins 130 57 = some (.ireturn) := by decide +kernel
set_option maxRecDepth 100000 in
theorem ji_130_0 : mj_ins 130 0 = some (.aload_n 0) := by decide +kernel
set_option maxRecDepth 100000 in
theorem ji_130_1 : mj_ins 130 1 = some (.getfield 27) := by decide +kernel
set_option maxRecDepth 100000 in
theorem ji_130_4 : mj_ins 130 4 = some (.iload_n 1) := by decide +kernel
set_option maxRecDepth 100000 in
theorem ji_130_5 : mj_ins 130 5 = some (.iaload) := by decide +kernel
set_option maxRecDepth 100000 in
theorem ji_130_6 : mj_ins 130 6 = some (.istore_n 2) := by decide +kernel
set_option maxRecDepth 100000 in
theorem ji_130_7 : mj_ins 130 7 = some (.iload_n 2) := by decide +kernel
set_option maxRecDepth 100000 in
theorem ji_130_8 : mj_ins 130 8 = some (.sipush 146) := by decide +kernel
set_option maxRecDepth 100000 in
theorem ji_130_11 : mj_ins 130 11 = some (.iand) := by decide +kernel
set_option maxRecDepth 100000 in
theorem ji_130_12 : mj_ins 130 12 = some (.istore_n 3) := by decide +kernel
set_option maxRecDepth 100000 in
theorem ji_130_13 : mj_ins 130 13 = some (.iload_n 2) := by decide +kernel
set_option maxRecDepth 100000 in
theorem ji_130_14 : mj_ins 130 14 = some (.bipush 73) := by decide +kernel
set_option maxRecDepth 100000 in
theorem ji_130_16 : mj_ins 130 16 = some (.iand) := by decide +kernel
set_option maxRecDepth 100000 in
theorem ji_130_17 : mj_ins 130 17 = some (.iconst 2) := by decide +kernel
set_option maxRecDepth 100000 in
theorem ji_130_18 : mj_ins 130 18 = some (.ishl) := by decide +kernel
set_option maxRecDepth 100000 in
theorem ji_130_19 : mj_ins 130 19 = some (.iload_n 3) := by decide +kernel
set_option maxRecDepth 100000 in
theorem ji_130_20 : mj_ins 130 20 = some (.ior) := by decide +kernel
set_option maxRecDepth 100000 in
theorem ji_130_21 : mj_ins 130 21 = some (.iload_n 2) := by decide +kernel
set_option maxRecDepth 100000 in
theorem ji_130_22 : mj_ins 130 22 = some (.sipush 292) := by decide +kernel
set_option maxRecDepth 100000 in
theorem ji_130_25 : mj_ins 130 25 = some (.iand) := by decide +kernel
set_option maxRecDepth 100000 in
theorem ji_130_26 : mj_ins 130 26 = some (.iconst 2) := by decide +kernel
set_option maxRecDepth 100000 in
theorem ji_130_27 : mj_ins 130 27 = some (.ishr) := by decide +kernel
set_option maxRecDepth 100000 in
theorem ji_130_28 : mj_ins 130 28 = some (.ior) := by decide +kernel
set_option maxRecDepth 100000 in
theorem ji_130_29 : mj_ins 130 29 = some (.istore 4) := by decide +kernel
set_option maxRecDepth 100000 in
theorem ji_130_31 : mj_ins 130 31 = some (.iconst 0) := by decide +kernel
set_option maxRecDepth 100000 in
theorem ji_130_32 : mj_ins 130 32 = some (.istore 5) := by decide +kernel
set_option maxRecDepth 100000 in
theorem ji_129_0 : mj_ins 129 0 = some (.aload_n 0) := by decide +kernel
set_option maxRecDepth 100000 in
theorem ji_129_1 : mj_ins 129 1 = some (.getfield 19) := by decide +kernel
set_option maxRecDepth 100000 in
theorem jf_129_19 : mj_fld 129 19 = some (0, 0, (.object "ForestOfPoles$State"), false) := by decide +kernel
set_option maxRecDepth 100000 in
theorem ji_129_4 : mj_ins 129 4 = some (.getfield 49) := by decide +kernel
set_option maxRecDepth 100000 in
theorem jf_129_49 : mj_fld 129 49 = some (2, 0, (.object "ForestOfPoles$Forest"), false) := by decide +kernel
set_option maxRecDepth 100000 in
theorem ji_129_7 : mj_ins 129 7 = some (.iload_n 1) := by decide +kernel
set_option maxRecDepth 100000 in
theorem ji_129_8 : mj_ins 129 8 = some (.invokevirtual 177) := by decide +kernel
set_option maxRecDepth 100000 in
theorem jc_129_177 : mj_cal 129 177 = some (2, 80, 1) := by decide +kernel
set_option maxRecDepth 100000 in
theorem ji_129_11 : mj_ins 129 11 = some (.ifCond .eq 17) := by decide +kernel
set_option maxRecDepth 100000 in
theorem ji_129_28 : mj_ins 129 28 = some (.iconst (-1)) := by decide +kernel
set_option maxRecDepth 100000 in
theorem ji_129_29 : mj_ins 129 29 = some (.ireturn) := by decide +kernel
set_option maxRecDepth 100000 in
theorem jr_129 : mj_ret 129 = some .int := by decide +kernel
set_option maxRecDepth 100000 in
theorem ji_129_14 : mj_ins 129 14 = some (.aload_n 0) := by decide +kernel
set_option maxRecDepth 100000 in
theorem ji_129_15 : mj_ins 129 15 = some (.getfield 19) := by decide +kernel
set_option maxRecDepth 100000 in
theorem ji_129_18 : mj_ins 129 18 = some (.getfield 49) := by decide +kernel
set_option maxRecDepth 100000 in
theorem ji_129_21 : mj_ins 129 21 = some (.iload_n 1) := by decide +kernel
set_option maxRecDepth 100000 in
theorem ji_129_22 : mj_ins 129 22 = some (.invokestatic 261) := by decide +kernel
set_option maxRecDepth 100000 in
theorem jc_129_261 : mj_cal 129 261 = some (1, 130, 2) := by decide +kernel
set_option maxRecDepth 100000 in
theorem jn_130 : mj_nl 130 = 6 := by decide +kernel
set_option maxRecDepth 100000 in
theorem ji_129_25 : mj_ins 129 25 = some (.goto 4) := by decide +kernel
set_option maxRecDepth 100000 in
theorem ji_291_4 : mj_ins 291 4 = some (.iload_n 2) := by decide +kernel
set_option maxRecDepth 100000 in
theorem ji_291_5 : mj_ins 291 5 = some (.bipush 9) := by decide +kernel
set_option maxRecDepth 100000 in
theorem ji_291_7 : mj_ins 291 7 = some (.if_icmp .ge 37) := by decide +kernel
set_option maxRecDepth 100000 in
theorem ji_291_44 : mj_ins 291 44 = some (.iload_n 1) := by decide +kernel
set_option maxRecDepth 100000 in
theorem ji_291_45 : mj_ins 291 45 = some (.ireturn) := by decide +kernel
set_option maxRecDepth 100000 in
theorem jr_291 : mj_ret 291 = some .int := by decide +kernel
set_option maxRecDepth 100000 in
theorem ji_291_10 : mj_ins 291 10 = some (.iload_n 1) := by decide +kernel
set_option maxRecDepth 100000 in
theorem ji_291_11 : mj_ins 291 11 = some (.iload_n 0) := by decide +kernel
set_option maxRecDepth 100000 in
theorem ji_291_12 : mj_ins 291 12 = some (.iload_n 2) := by decide +kernel
set_option maxRecDepth 100000 in
theorem ji_291_13 : mj_ins 291 13 = some (.invokestatic 244) := by decide +kernel
set_option maxRecDepth 100000 in
theorem jc_291_244 : mj_cal 291 244 = some (1, 191, 2) := by decide +kernel
set_option maxRecDepth 100000 in
theorem ji_291_16 : mj_ins 291 16 = some (.ifCond .eq 19) := by decide +kernel
set_option maxRecDepth 100000 in
theorem ji_291_35 : mj_ins 291 35 = some (.iconst 0) := by decide +kernel
set_option maxRecDepth 100000 in
theorem ji_291_36 : mj_ins 291 36 = some (.ior) := by decide +kernel
set_option maxRecDepth 100000 in
theorem ji_291_37 : mj_ins 291 37 = some (.istore_n 1) := by decide +kernel
set_option maxRecDepth 100000 in
theorem ji_291_38 : mj_ins 291 38 = some (.iinc 2 1) := by decide +kernel
set_option maxRecDepth 100000 in
theorem ji_291_41 : mj_ins 291 41 = some (.goto (-37)) := by decide +kernel
set_option maxRecDepth 100000 in
theorem ji_291_19 : mj_ins 291 19 = some (.iconst 1) := by decide +kernel
set_option maxRecDepth 100000 in
theorem ji_291_20 : mj_ins 291 20 = some (.iload_n 2) := by decide +kernel
set_option maxRecDepth 100000 in
theorem ji_291_21 : mj_ins 291 21 = some (.iconst 3) := by decide +kernel
set_option maxRecDepth 100000 in
theorem ji_291_22 : mj_ins 291 22 = some (.idiv) := by decide +kernel
set_option maxRecDepth 100000 in
theorem ji_291_23 : mj_ins 291 23 = some (.iconst 3) := by decide +kernel
set_option maxRecDepth 100000 in
theorem ji_291_24 : mj_ins 291 24 = some (.imul) := by decide +kernel
set_option maxRecDepth 100000 in
theorem ji_291_25 : mj_ins 291 25 = some (.iconst 2) := by decide +kernel
set_option maxRecDepth 100000 in
theorem ji_291_26 : mj_ins 291 26 = some (.iadd) := by decide +kernel
set_option maxRecDepth 100000 in
theorem ji_291_27 : mj_ins 291 27 = some (.iload_n 2) := by decide +kernel
set_option maxRecDepth 100000 in
theorem ji_291_28 : mj_ins 291 28 = some (.iconst 3) := by decide +kernel
set_option maxRecDepth 100000 in
theorem ji_291_29 : mj_ins 291 29 = some (.irem) := by decide +kernel
set_option maxRecDepth 100000 in
theorem ji_291_30 : mj_ins 291 30 = some (.isub) := by decide +kernel
set_option maxRecDepth 100000 in
theorem ji_291_31 : mj_ins 291 31 = some (.ishl) := by decide +kernel
set_option maxRecDepth 100000 in
theorem ji_291_32 : mj_ins 291 32 = some (.goto 4) := by decide +kernel
set_option maxRecDepth 100000 in
theorem ji_291_0 : mj_ins 291 0 = some (.iconst 0) := by decide +kernel
set_option maxRecDepth 100000 in
theorem ji_291_1 : mj_ins 291 1 = some (.istore_n 1) := by decide +kernel
set_option maxRecDepth 100000 in
theorem ji_291_2 : mj_ins 291 2 = some (.iconst 0) := by decide +kernel
set_option maxRecDepth 100000 in
theorem ji_291_3 : mj_ins 291 3 = some (.istore_n 2) := by decide +kernel
set_option maxRecDepth 100000 in
theorem ji_290_2 : mj_ins 290 2 = some (.iload_n 2) := by decide +kernel
set_option maxRecDepth 100000 in
theorem ji_290_3 : mj_ins 290 3 = some (.aload_n 0) := by decide +kernel
set_option maxRecDepth 100000 in
theorem ji_290_4 : mj_ins 290 4 = some (.getfield 7) := by decide +kernel
set_option maxRecDepth 100000 in
theorem jf_290_7 : mj_fld 290 7 = some (11, 0, (.array .int), false) := by decide +kernel
set_option maxRecDepth 100000 in
theorem ji_290_7 : mj_ins 290 7 = some (.iconst 1) := by decide +kernel
set_option maxRecDepth 100000 in
theorem ji_290_8 : mj_ins 290 8 = some (.iaload) := by decide +kernel
set_option maxRecDepth 100000 in
theorem ji_290_9 : mj_ins 290 9 = some (.if_icmp .ge 35) := by decide +kernel
set_option maxRecDepth 100000 in
theorem ji_290_44 : mj_ins 290 44 = some (.iconst (-1)) := by decide +kernel
set_option maxRecDepth 100000 in
theorem ji_290_45 : mj_ins 290 45 = some (.ireturn) := by decide +kernel
set_option maxRecDepth 100000 in
theorem jr_290 : mj_ret 290 = some .int := by decide +kernel
set_option maxRecDepth 100000 in
theorem ji_290_12 : mj_ins 290 12 = some (.aload_n 0) := by decide +kernel
set_option maxRecDepth 100000 in
theorem ji_290_13 : mj_ins 290 13 = some (.iload_n 1) := by decide +kernel
set_option maxRecDepth 100000 in
theorem ji_290_14 : mj_ins 290 14 = some (.invokevirtual 345) := by decide +kernel
set_option maxRecDepth 100000 in
theorem jc_290_345 : mj_cal 290 345 = some (2, 247, 1) := by decide +kernel
set_option maxRecDepth 100000 in
theorem ji_290_17 : mj_ins 290 17 = some (.ifCond .eq 27) := by decide +kernel
set_option maxRecDepth 100000 in
theorem ji_290_20 : mj_ins 290 20 = some (.aload_n 0) := by decide +kernel
set_option maxRecDepth 100000 in
theorem ji_290_21 : mj_ins 290 21 = some (.iload_n 2) := by decide +kernel
set_option maxRecDepth 100000 in
theorem ji_290_22 : mj_ins 290 22 = some (.invokevirtual 384) := by decide +kernel
set_option maxRecDepth 100000 in
theorem jc_290_384 : mj_cal 290 384 = some (2, 261, 1) := by decide +kernel
set_option maxRecDepth 100000 in
theorem ji_290_25 : mj_ins 290 25 = some (.aload_n 0) := by decide +kernel
set_option maxRecDepth 100000 in
theorem ji_290_26 : mj_ins 290 26 = some (.iload_n 1) := by decide +kernel
set_option maxRecDepth 100000 in
theorem ji_290_27 : mj_ins 290 27 = some (.invokevirtual 384) := by decide +kernel
set_option maxRecDepth 100000 in
theorem ji_290_30 : mj_ins 290 30 = some (.invokestatic 437) := by decide +kernel
set_option maxRecDepth 100000 in
theorem jc_290_437 : mj_cal 290 437 = some (1, 291, 1) := by decide +kernel
set_option maxRecDepth 100000 in
theorem jn_291 : mj_nl 291 = 3 := by decide +kernel
set_option maxRecDepth 100000 in
theorem ji_290_33 : mj_ins 290 33 = some (.if_icmp .ne 5) := by decide +kernel
set_option maxRecDepth 100000 in
theorem ji_290_38 : mj_ins 290 38 = some (.iinc 2 1) := by decide +kernel
set_option maxRecDepth 100000 in
theorem ji_290_41 : mj_ins 290 41 = some (.goto (-39)) := by decide +kernel
set_option maxRecDepth 100000 in
theorem ji_290_36 : mj_ins 290 36 = some (.iload_n 2) := by decide +kernel
set_option maxRecDepth 100000 in
theorem ji_290_37 : mj_ins 290 37 = some (.ireturn) := by decide +kernel
set_option maxRecDepth 100000 in
theorem ji_290_0 : mj_ins 290 0 = some (.iconst 0) := by decide +kernel
set_option maxRecDepth 100000 in
theorem ji_290_1 : mj_ins 290 1 = some (.istore_n 2) := by decide +kernel
/-! behind, in both; laid by program (wp_v16.py) -/
/-- where bit i goes: rows of three, turned about -/
def mip (i : Nat) : Nat := i / 3 * 3 + 2 - i % 3
def mir (p : Int) : Nat → Int
  | 0 => 0
  | n + 1 => mir p n + (if p / 2 ^ n % 2 = 1 then 2 ^ mip n else 0)
theorem mi_c : ∀ p : Fin 512, (((Int32.ofInt p.val &&& Int32.ofInt 73) <<< (Int32.ofInt 2 &&& 31)) ||| (Int32.ofInt p.val &&& Int32.ofInt 146)) ||| ((Int32.ofInt p.val &&& Int32.ofInt 292) >>> (Int32.ofInt 2 &&& 31)) = Int32.ofInt (mir p.val 9) := by decide +kernel
theorem mi_r : ∀ p : Fin 512, ∀ i : Fin 9, (p.val : Int) / 2 ^ i.val % 2 = 1 → Int32.ofInt (mir p.val i.val) ||| (Int32.ofInt 1 <<< (Int32.ofInt ((i.val : Int) / 3 * 3 + 2 - (i.val : Int) % 3) &&& 31)) = Int32.ofInt (mir p.val (i.val + 1)) := by decide +kernel
theorem mi_b : ∀ p : Fin 512, 0 ≤ mir p.val 9 ∧ mir p.val 9 ≤ 511 := by decide +kernel
theorem mi_c2 {p : Int} (hp : 0 ≤ p ∧ p ≤ 511) : (((Int32.ofInt p &&& Int32.ofInt 73) <<< (Int32.ofInt 2 &&& 31)) ||| (Int32.ofInt p &&& Int32.ofInt 146)) ||| ((Int32.ofInt p &&& Int32.ofInt 292) >>> (Int32.ofInt 2 &&& 31)) = Int32.ofInt (mir p 9) := by
  have := mi_c ⟨p.toNat, by omega⟩
  have e : ((p.toNat : Nat) : Int) = p := by omega
  simp only [e] at this
  exact this
theorem mi_b2 {p : Int} (hp : 0 ≤ p ∧ p ≤ 511) : 0 ≤ mir p 9 ∧ mir p 9 ≤ 511 := by
  have := mi_b ⟨p.toNat, by omega⟩
  have e : ((p.toNat : Nat) : Int) = p := by omega
  simp only [e] at this
  exact this
theorem mi_r2 {p : Int} (hp : 0 ≤ p ∧ p ≤ 511) {i : Nat} (hi : i < 9) (hb : p / 2 ^ i % 2 = 1) : Int32.ofInt (mir p i) ||| (Int32.ofInt 1 <<< (Int32.ofInt ((i : Int) / 3 * 3 + 2 - (i : Int) % 3) &&& 31)) = Int32.ofInt (mir p (i + 1)) := by
  have e : ((p.toNat : Nat) : Int) = p := by omega
  have := mi_r ⟨p.toNat, by omega⟩ ⟨i, hi⟩ (by show ((p.toNat : Nat) : Int) / 2 ^ i % 2 = 1; rw [e]; exact hb)
  simp only [e] at this
  exact this
/-- the first of k from i that is x, or -1 -/
def fnd (g : Int → Int) (x : Int) : Nat → Nat → Int
  | 0, _ => -1
  | k + 1, i => if g (i : Int) = x then (i : Int) else fnd g x k (i + 1)
theorem fnd_c {g f : Int → Int} {x : Int} : ∀ k i : Nat, (∀ j : Int, (i : Int) ≤ j → j < (i : Int) + k → g j = f j) → fnd g x k i = fnd f x k i
  | 0, _, _ => rfl
  | k + 1, i, h => by
    show (if g (i : Int) = x then (i : Int) else fnd g x k (i + 1)) = (if f (i : Int) = x then (i : Int) else fnd f x k (i + 1))
    rw [fnd_c k (i + 1) (fun j a b => h j (by omega) (by omega)), h i (by omega) (by omega)]
theorem mi_o : ∀ p : Fin 512, ∀ i : Fin 10, 0 ≤ mir p.val i.val ∧ mir p.val i.val ≤ 511 := by decide +kernel
theorem mi_z : ∀ q : Fin 512, Int32.ofInt q.val ||| Int32.ofInt 0 = Int32.ofInt q.val := by decide +kernel
theorem mi_o2 {p : Int} (hp : 0 ≤ p ∧ p ≤ 511) {i : Nat} (hi : i ≤ 9) : 0 ≤ mir p i ∧ mir p i ≤ 511 := by
  have e : ((p.toNat : Nat) : Int) = p := by omega
  have := mi_o ⟨p.toNat, by omega⟩ ⟨i, by omega⟩
  simp only [e] at this
  exact this
theorem mi_z2 {q : Int} (hq : 0 ≤ q ∧ q ≤ 511) : Int32.ofInt q ||| Int32.ofInt 0 = Int32.ofInt q := by
  have e : ((q.toNat : Nat) : Int) = q := by omega
  have := mi_z ⟨q.toNat, by omega⟩
  simp only [e] at this
  exact this
theorem uc_130l {d : Nat} {h : mj_H} {s : sg_} (C : CS h s) (i1 : 0 ≤ s 48 1 ∧ s 48 1 ≤ 6) (hg : ∀ j : Int, 0 ≤ j → j < 6 → 0 ≤ s 53 j ∧ s 53 j ≤ 511) {w l2 x : Int} {l3 : Option Value} (hx : wp_r x) : ∀ (nn k i : Nat), (i : Int) + k = s 48 1 → wl_R nn d 130 34 [some (.ref 48), some (wp_i w), some (wp_i l2), l3, some (wp_i x), some (wp_i (i : Int))] [] h (fun v1 h1 => h1 = h ∧ v1 = some (wp_i (fnd (fun j => s 53 j) x k i))) := by
  intro nn
  induction nn with
  | zero => intros; exact wl_0
  | succ nn ih =>
    intro k i hi
    rcases k with _ | k
    · refine wl_s1 (pc' := 36) ji_130_34 rfl rfl rfl ?_
      refine wl_s (pc' := 37) ji_130_36 rfl rfl rfl ?_
      refine cs_gi (k := 1) (kI := 1) C (by decide) (by decide) sq_48 rfl rfl ji_130_37 jf_130_21 ?_
      have bd1 : wp_r (s 48 1) := cs_ri (k := 1) (kI := 1) C (by decide) (by decide) sq_48 rfl rfl (show 1 < 13 by decide)
      refine wl_icmp (t := 64) ji_130_40 rfl (by omega) (by omega) (fun (hb2 : (s 48 1 : Int) ≤ ((i : Int))) => ?_) (fun (hb2 : ¬ ((s 48 1 : Int) ≤ ((i : Int)))) => (by exfalso; omega))
      refine wl_s (pc' := 65) ji_130_64 rfl rfl rfl ?_
      exact wl_ri ji_130_65 jr_130 rfl (⟨rfl, rfl⟩)
    · refine wl_s1 (pc' := 36) ji_130_34 rfl rfl rfl ?_
      refine wl_s (pc' := 37) ji_130_36 rfl rfl rfl ?_
      refine cs_gi (k := 1) (kI := 1) C (by decide) (by decide) sq_48 rfl rfl ji_130_37 jf_130_21 ?_
      have bd1 : wp_r (s 48 1) := cs_ri (k := 1) (kI := 1) C (by decide) (by decide) sq_48 rfl rfl (show 1 < 13 by decide)
      refine wl_icmp (t := 64) ji_130_40 rfl (by omega) (by omega) (fun (hb2 : (s 48 1 : Int) ≤ ((i : Int))) => (by exfalso; omega)) (fun (hb2 : ¬ ((s 48 1 : Int) ≤ ((i : Int)))) => ?_)
      refine wl_s (pc' := 44) ji_130_43 rfl rfl rfl ?_
      refine cs_gr (r := 53) (k := 6) C (by decide) sq_48 rfl ji_130_44 jf_130_27 ?_
      refine wl_s (pc' := 49) ji_130_47 rfl rfl rfl ?_
      refine cs_l (x := (i : Int)) C (by decide) (by decide) sq_53 (by omega) ji_130_49 (fun ld30 ld31 ld32 => ?_)
      have bd4 := hg ((i : Int)) (by omega) (by omega)
      refine wl_s (pc' := 52) ji_130_50 rfl rfl rfl ?_
      refine wl_icmp (t := 58) ji_130_52 rfl (by omega) (by omega) (fun (hb5 : ¬ (s 53 ((i : Int)) : Int) = x) => ?_) (fun (hb5 : ¬ (¬ (s 53 ((i : Int)) : Int) = x)) => ?_)
      · refine wl_iinc (x := (i : Int)) (z := (i : Int) + 1) (lv' := [some (.ref 48), some (wp_i w), some (wp_i l2), l3, some (wp_i x), some (wp_i ((i : Int) + 1))]) ji_130_58 rfl (Nat.le_of_ble_eq_true rfl) (by omega) rfl ?_
        refine wl_goto (t := 34) ji_130_61 rfl ?_
        rw [show fnd (fun j => s 53 j) x (k + 1) i = fnd (fun j => s 53 j) x k (i + 1) from if_neg (show ¬ s 53 (i : Int) = x by omega)]
        rw [show (i : Int) + 1 = ((i + 1 : Nat) : Int) by omega]
        exact ih k (i + 1) (by omega)
      · refine wl_s (pc' := 57) ji_130_55 rfl rfl rfl ?_
        exact wl_ri ji_130_57 jr_130 rfl (⟨rfl, congrArg (fun z => some (wp_i z)) (show fnd (fun j => s 53 j) x (k + 1) i = (i : Int) from if_pos (show s 53 (i : Int) = x by omega)).symm⟩)
theorem uc_130 {nn d : Nat} {h : mj_H} {s : sg_} (C : CS h s) (i1 : 0 ≤ s 48 1 ∧ s 48 1 ≤ 6) (hg : ∀ j : Int, 0 ≤ j → j < 6 → 0 ≤ s 53 j ∧ s 53 j ≤ 511) {w : Int} (hw : 0 ≤ w ∧ w < s 48 1) : wl_R nn d 130 0 [some (.ref 48), some (wp_i w), none, none, none, none] [] h (fun v1 h1 => h1 = h ∧ v1 = some (wp_i (fnd (fun j => s 53 j) (mir (s 53 w) 9) (s 48 1).toNat 0))) := by
  have hq := hg w (by omega) (by omega)
  refine wl_s (pc' := 1) ji_130_0 rfl rfl rfl ?_
  refine cs_gr (r := 53) (k := 6) C (by decide) sq_48 rfl ji_130_1 jf_130_27 ?_
  refine wl_s (pc' := 5) ji_130_4 rfl rfl rfl ?_
  refine cs_l (x := w) C (by decide) (by decide) sq_53 (by omega) ji_130_5 (fun ld10 ld11 ld12 => ?_)
  have bd2 := hg w (by omega) (by omega)
  refine wl_s (pc' := 7) (lv' := [some (.ref 48), some (wp_i w), some (wp_i (s 53 w)), none, none, none]) ji_130_6 rfl rfl rfl ?_
  refine wl_s (pc' := 8) ji_130_7 rfl rfl rfl ?_
  refine wl_sp ji_130_8 rfl ?_
  refine wl_s (pc' := 12) (st' := [.int (Int32.ofInt (s 53 w) &&& Int32.ofInt 146)]) ji_130_11 rfl rfl rfl ?_
  refine wl_s (pc' := 13) (lv' := [some (.ref 48), some (wp_i w), some (wp_i (s 53 w)), some (.int (Int32.ofInt (s 53 w) &&& Int32.ofInt 146)), none, none]) ji_130_12 rfl rfl rfl ?_
  refine wl_s (pc' := 14) ji_130_13 rfl rfl rfl ?_
  refine wl_bp ji_130_14 rfl ?_
  refine wl_s (pc' := 17) (st' := [.int (Int32.ofInt (s 53 w) &&& Int32.ofInt 73)]) ji_130_16 rfl rfl rfl ?_
  refine wl_s (pc' := 18) ji_130_17 rfl rfl rfl ?_
  refine wl_s (pc' := 19) (st' := [.int ((Int32.ofInt (s 53 w) &&& Int32.ofInt 73) <<< (Int32.ofInt 2 &&& 31))]) ji_130_18 rfl rfl rfl ?_
  refine wl_s (pc' := 20) ji_130_19 rfl rfl rfl ?_
  refine wl_s (pc' := 21) (st' := [.int (((Int32.ofInt (s 53 w) &&& Int32.ofInt 73) <<< (Int32.ofInt 2 &&& 31)) ||| (Int32.ofInt (s 53 w) &&& Int32.ofInt 146))]) ji_130_20 rfl rfl rfl ?_
  refine wl_s (pc' := 22) ji_130_21 rfl rfl rfl ?_
  refine wl_sp ji_130_22 rfl ?_
  refine wl_s (pc' := 26) (st' := [.int (Int32.ofInt (s 53 w) &&& Int32.ofInt 292), .int (((Int32.ofInt (s 53 w) &&& Int32.ofInt 73) <<< (Int32.ofInt 2 &&& 31)) ||| (Int32.ofInt (s 53 w) &&& Int32.ofInt 146))]) ji_130_25 rfl rfl rfl ?_
  refine wl_s (pc' := 27) ji_130_26 rfl rfl rfl ?_
  refine wl_s (pc' := 28) (st' := [.int ((Int32.ofInt (s 53 w) &&& Int32.ofInt 292) >>> (Int32.ofInt 2 &&& 31)), .int (((Int32.ofInt (s 53 w) &&& Int32.ofInt 73) <<< (Int32.ofInt 2 &&& 31)) ||| (Int32.ofInt (s 53 w) &&& Int32.ofInt 146))]) ji_130_27 rfl rfl rfl ?_
  refine wl_s (pc' := 29) (lv' := [some (.ref 48), some (wp_i w), some (wp_i (s 53 w)), some (.int (Int32.ofInt (s 53 w) &&& Int32.ofInt 146)), none, none]) (st' := [wp_i (mir (s 53 w) 9)]) (h' := h) ji_130_28 rfl rfl (congrArg (fun z => (some (29, [some (.ref 48), some (wp_i w), some (wp_i (s 53 w)), some (.int (Int32.ofInt (s 53 w) &&& Int32.ofInt 146)), none, none], [Value.int z], h) : Option mj_S)) (mi_c2 hq)) ?_
  have mb := mi_o2 hq (i := 9) (by decide)
  refine wl_s (pc' := 31) (lv' := [some (.ref 48), some (wp_i w), some (wp_i (s 53 w)), some (.int (Int32.ofInt (s 53 w) &&& Int32.ofInt 146)), some (wp_i (mir (s 53 w) 9)), none]) ji_130_29 rfl rfl rfl ?_
  refine wl_s (pc' := 32) ji_130_31 rfl rfl rfl ?_
  refine wl_s (pc' := 34) (lv' := [some (.ref 48), some (wp_i w), some (wp_i (s 53 w)), some (.int (Int32.ofInt (s 53 w) &&& Int32.ofInt 146)), some (wp_i (mir (s 53 w) 9)), some (wp_i 0)]) ji_130_32 rfl rfl rfl ?_
  exact uc_130l C i1 hg (x := mir (s 53 w) 9) (by omega) nn (s 48 1).toNat 0 (by omega)
def beC (s : sg_) (w : Int) : Int := if 0 ≤ w ∧ w < s 48 1 then fnd (fun j => s 53 j) (mir (s 53 w) 9) (s 48 1).toNat 0 else -1
def beR (s : sg_) (w : Int) : Int := if 0 ≤ w ∧ w < s 139 1 then fnd (fun j => s 139 (40 + 2 * j + 1)) (mir (s 139 (40 + 2 * w + 1)) 9) (s 139 1).toNat 0 else -1
theorem uc_129 {nn d : Nat} {h : mj_H} {s : sg_} (C : CS h s) (i1 : 0 ≤ s 48 1 ∧ s 48 1 ≤ 6) (hg : ∀ j : Int, 0 ≤ j → j < 6 → 0 ≤ s 53 j ∧ s 53 j ≤ 511) {w : Int} (hw : wp_r w) : wl_R nn (d + 1) 129 0 [some (.ref 9), some (wp_i w)] [] h (fun v1 h1 => h1 = h ∧ v1 = some (wp_i (beC s w))) := by
  refine wl_s (pc' := 1) ji_129_0 rfl rfl rfl ?_
  refine cs_gr (r := 47) (k := 0) C (by decide) sq_9 rfl ji_129_1 jf_129_19 ?_
  refine cs_gr (r := 48) (k := 0) C (by decide) sq_47 rfl ji_129_4 jf_129_49 ?_
  refine wl_s (pc' := 8) ji_129_7 rfl rfl rfl ?_
  obtain ⟨q2, hq2⟩ := cs_c C (by decide) sq_48
  refine wl_vc (d := d) (as := [.ref 48, wp_i w]) (rest := []) ji_129_8 jc_129_177 rfl hq2 jk_80.symm (Nat.le_of_ble_eq_true rfl) rfl (by rw [jn_80]; rfl) (uc_80 (d := d) C isF_48 (p := w) hw) (fun v1 h1 R => ?_)
  obtain ⟨ee, y3, rfl, hy3a, hy3b⟩ := R
  rw [ee]
  clear ee
  show wl_R _ _ 129 11 [some (.ref 9), some (wp_i w)] [wp_i y3] _ _
  refine wl_if (t := 28) ji_129_11 rfl (by omega) (fun (hb4 : (y3 : Int) = 0) => ?_) (fun (hb4 : ¬ ((y3 : Int) = 0)) => ?_)
  · refine wl_s (pc' := 29) ji_129_28 rfl rfl rfl ?_
    exact wl_ri ji_129_29 jr_129 rfl (⟨rfl, congrArg (fun z => some (wp_i z)) (by unfold beC; exact (if_neg (by omega)).symm)⟩)
  · refine wl_s (pc' := 15) ji_129_14 rfl rfl rfl ?_
    refine cs_gr (r := 47) (k := 0) C (by decide) sq_9 rfl ji_129_15 jf_129_19 ?_
    refine cs_gr (r := 48) (k := 0) C (by decide) sq_47 rfl ji_129_18 jf_129_49 ?_
    refine wl_s (pc' := 22) ji_129_21 rfl rfl rfl ?_
    refine wl_sc (d := d) (as := [.ref 48, wp_i w]) (rest := []) ji_129_22 jc_129_261 (Nat.le_of_ble_eq_true rfl) rfl (Nat.le_of_ble_eq_true rfl) rfl (by rw [jn_130]; rfl) (uc_130 (d := d) C i1 hg (w := w) (by omega)) (fun v1 h5 R => ?_)
    obtain ⟨ee, rfl⟩ := R
    rw [ee]
    clear ee
    show wl_R _ _ 129 25 [some (.ref 9), some (wp_i w)] [wp_i (fnd (fun j => s 53 j) (mir (s 53 w) 9) (s 48 1).toNat 0)] _ _
    refine wl_goto (t := 29) ji_129_25 rfl ?_
    exact wl_ri ji_129_29 jr_129 rfl (⟨rfl, congrArg (fun z => some (wp_i z)) (by unfold beC; exact (if_pos (by omega)).symm)⟩)
theorem uc_191 {nn d : Nat} {h : mj_H} {x : Int} {i : Nat} (hx : 0 ≤ x ∧ x ≤ 511) (hi : i < 9) : wl_R nn d 191 0 [some (wp_i x), some (wp_i ((i : Int)))] [] h (fun v1 h1 => h1 = h ∧ ∃ y : Int, v1 = some (wp_i y) ∧ (y = 0 ∨ y = 1) ∧ (y = 1 ↔ x / 2 ^ i % 2 = 1)) := by
  refine wl_s (pc' := 1) ji_191_0 rfl rfl rfl ?_
  refine wl_s (pc' := 2) ji_191_1 rfl rfl rfl ?_
  refine wl_s (pc' := 3) (st' := [.int (Int32.ofInt x >>> (Int32.ofInt ((i : Int)) &&& 31))]) ji_191_2 rfl rfl rfl ?_
  refine wl_s (pc' := 4) ji_191_3 rfl rfl rfl ?_
  refine wl_s (pc' := 5) (lv' := [some (wp_i x), some (wp_i ((i : Int)))]) (st' := [wp_i (x / 2 ^ i % 2)]) (h' := h) ji_191_4 rfl rfl (congrArg (fun z => (some (5, [some (wp_i x), some (wp_i ((i : Int)))], [Value.int z], h) : Option mj_S)) (sb_i hx i hi)) ?_
  have rb : wp_r (x / 2 ^ i % 2) := by omega
  refine wl_s (pc' := 6) ji_191_5 rfl rfl rfl ?_
  refine wl_icmp (t := 13) ji_191_6 rfl (by omega) (by omega) (fun (hb1 : ¬ (x / 2 ^ i % 2 : Int) = 1) => ?_) (fun (hb1 : ¬ (¬ (x / 2 ^ i % 2 : Int) = 1)) => ?_)
  · refine wl_s (pc' := 14) ji_191_13 rfl rfl rfl ?_
    exact wl_ri ji_191_14 jr_191 (pv_nb (by omega)) (⟨rfl, 0, rfl, by omega, by omega⟩)
  · refine wl_s (pc' := 10) ji_191_9 rfl rfl rfl ?_
    refine wl_goto (t := 14) ji_191_10 rfl ?_
    exact wl_ri ji_191_14 jr_191 (pv_nb (by omega)) (⟨rfl, 1, rfl, by omega, by omega⟩)
theorem uc_291l {d : Nat} {h : mj_H} {x : Int} (hx : 0 ≤ x ∧ x ≤ 511) : ∀ (nn i : Nat), i ≤ 9 → wl_R nn (d + 1) 291 4 [some (wp_i x), some (wp_i (mir x i)), some (wp_i ((i : Int)))] [] h (fun v1 h1 => h1 = h ∧ v1 = some (wp_i (mir x 9))) := by
  intro nn
  induction nn with
  | zero => intros; exact wl_0
  | succ nn ih =>
    intro i hi
    refine wl_s1 (pc' := 5) ji_291_4 rfl rfl rfl ?_
    refine wl_bp ji_291_5 rfl ?_
    refine wl_icmp (t := 44) ji_291_7 rfl (by omega) (by omega) (fun (hb1 : (9 : Int) ≤ ((i : Int))) => ?_) (fun (hb1 : ¬ ((9 : Int) ≤ ((i : Int)))) => ?_)
    · refine wl_s (pc' := 45) ji_291_44 rfl rfl rfl ?_
      exact wl_ri ji_291_45 jr_291 rfl (⟨rfl, by rw [show i = 9 by omega]⟩)
    · refine wl_s (pc' := 11) ji_291_10 rfl rfl rfl ?_
      refine wl_s (pc' := 12) ji_291_11 rfl rfl rfl ?_
      refine wl_s (pc' := 13) ji_291_12 rfl rfl rfl ?_
      refine wl_sc (d := d) (as := [wp_i x, wp_i ((i : Int))]) (rest := [wp_i (mir x i)]) ji_291_13 jc_291_244 (Nat.le_of_ble_eq_true rfl) rfl (Nat.le_of_ble_eq_true rfl) rfl (by rw [jn_191]; rfl) (uc_191 (d := d) hx (i := i) (by omega)) (fun v1 h2 R => ?_)
      obtain ⟨ee, y3, rfl, hy3a, hy3b⟩ := R
      rw [ee]
      clear ee
      show wl_R _ _ 291 16 [some (wp_i x), some (wp_i (mir x i)), some (wp_i ((i : Int)))] [wp_i y3, wp_i (mir x i)] _ _
      refine wl_if (t := 35) ji_291_16 rfl (by omega) (fun (hb4 : (y3 : Int) = 0) => ?_) (fun (hb4 : ¬ ((y3 : Int) = 0)) => ?_)
      · refine wl_s (pc' := 36) ji_291_35 rfl rfl rfl ?_
        refine wl_s (pc' := 37) (lv' := [some (wp_i x), some (wp_i (mir x i)), some (wp_i ((i : Int)))]) (st' := [wp_i (mir x i)]) (h' := h) ji_291_36 rfl rfl (congrArg (fun z => (some (37, [some (wp_i x), some (wp_i (mir x i)), some (wp_i ((i : Int)))], [Value.int z], h) : Option mj_S)) (mi_z2 (mi_o2 hx (i := i) (by omega)))) ?_
        refine wl_s (pc' := 38) (lv' := [some (wp_i x), some (wp_i (mir x i)), some (wp_i ((i : Int)))]) ji_291_37 rfl rfl rfl ?_
        refine wl_iinc (x := (i : Int)) (z := (i : Int) + 1) (lv' := [some (wp_i x), some (wp_i (mir x i)), some (wp_i ((i : Int) + 1))]) ji_291_38 rfl (Nat.le_of_ble_eq_true rfl) (by omega) rfl ?_
        refine wl_goto (t := 4) ji_291_41 rfl ?_
        rw [show (i : Int) + 1 = ((i + 1 : Nat) : Int) by omega]
        rw [show mir x i = mir x (i + 1) by show _ = mir x i + _; rw [if_neg (by omega)]; omega]
        exact ih (i + 1) (by omega)
      · refine wl_s (pc' := 20) ji_291_19 rfl rfl rfl ?_
        refine wl_s (pc' := 21) ji_291_20 rfl rfl rfl ?_
        refine wl_s (pc' := 22) ji_291_21 rfl rfl rfl ?_
        refine wl_idiv (x := (i : Int)) (y := 3) ji_291_22 (by omega) (by omega) ?_
        refine wl_s (pc' := 24) ji_291_23 rfl rfl rfl ?_
        refine wl_imul (x := ((i : Int)) / 3) (y := 3) (z := (((i : Int)) / 3) * 3) ji_291_24 (by omega) ?_
        refine wl_s (pc' := 26) ji_291_25 rfl rfl rfl ?_
        refine wl_iadd (x := (((i : Int)) / 3) * 3) (y := 2) (z := (((i : Int)) / 3) * 3 + 2) ji_291_26 (by omega) ?_
        refine wl_s (pc' := 28) ji_291_27 rfl rfl rfl ?_
        refine wl_s (pc' := 29) ji_291_28 rfl rfl rfl ?_
        refine wl_irem (x := (i : Int)) (y := 3) ji_291_29 (by omega) (by omega) ?_
        refine wl_isub (x := (((i : Int)) / 3) * 3 + 2) (y := ((i : Int)) % 3) (z := (((i : Int)) / 3) * 3 + 2 - (((i : Int)) % 3)) ji_291_30 (by omega) ?_
        refine wl_s (pc' := 32) (st' := [.int (Int32.ofInt 1 <<< (Int32.ofInt ((((i : Int)) / 3) * 3 + 2 - (((i : Int)) % 3)) &&& 31)), wp_i (mir x i)]) ji_291_31 rfl rfl rfl ?_
        refine wl_goto (t := 36) ji_291_32 rfl ?_
        refine wl_s (pc' := 37) (lv' := [some (wp_i x), some (wp_i (mir x i)), some (wp_i ((i : Int)))]) (st' := [wp_i (mir x (i + 1))]) (h' := h) ji_291_36 rfl rfl (congrArg (fun z => (some (37, [some (wp_i x), some (wp_i (mir x i)), some (wp_i ((i : Int)))], [Value.int z], h) : Option mj_S)) (mi_r2 hx (i := i) (by omega) (by omega))) ?_
        refine wl_s (pc' := 38) (lv' := [some (wp_i x), some (wp_i (mir x (i + 1))), some (wp_i ((i : Int)))]) ji_291_37 rfl rfl rfl ?_
        refine wl_iinc (x := (i : Int)) (z := (i : Int) + 1) (lv' := [some (wp_i x), some (wp_i (mir x (i + 1))), some (wp_i ((i : Int) + 1))]) ji_291_38 rfl (Nat.le_of_ble_eq_true rfl) (by omega) rfl ?_
        refine wl_goto (t := 4) ji_291_41 rfl ?_
        rw [show (i : Int) + 1 = ((i + 1 : Nat) : Int) by omega]
        exact ih (i + 1) (by omega)
theorem uc_291 {nn d : Nat} {h : mj_H} {x : Int} (hx : 0 ≤ x ∧ x ≤ 511) : wl_R nn (d + 1) 291 0 [some (wp_i x), none, none] [] h (fun v1 h1 => h1 = h ∧ v1 = some (wp_i (mir x 9))) := by
  refine wl_s (pc' := 1) ji_291_0 rfl rfl rfl ?_
  refine wl_s (pc' := 2) (lv' := [some (wp_i x), some (wp_i 0), none]) ji_291_1 rfl rfl rfl ?_
  refine wl_s (pc' := 3) ji_291_2 rfl rfl rfl ?_
  refine wl_s (pc' := 4) (lv' := [some (wp_i x), some (wp_i 0), some (wp_i 0)]) ji_291_3 rfl rfl rfl ?_
  exact uc_291l hx nn 0 (by omega)
theorem uc_290l {d : Nat} {h : mj_H} {s : sg_} (C : CS h s) (i1 : 0 ≤ s 139 1 ∧ s 139 1 ≤ 6) (hg : ∀ j : Int, 0 ≤ j → j < 6 → 0 ≤ s 139 (40 + 2 * j + 1) ∧ s 139 (40 + 2 * j + 1) ≤ 511) {w : Int} (hw : 0 ≤ w ∧ w < s 139 1) : ∀ (nn k i : Nat), (i : Int) + k = s 139 1 → wl_R nn (d + 2) 290 2 [some (.ref 138), some (wp_i w), some (wp_i (i : Int))] [] h (fun v1 h1 => h1 = h ∧ v1 = some (wp_i (fnd (fun j => s 139 (40 + 2 * j + 1)) (mir (s 139 (40 + 2 * w + 1)) 9) k i))) := by
  intro nn
  induction nn with
  | zero => intros; exact wl_0
  | succ nn ih =>
    intro k i hi
    rcases k with _ | k
    · refine wl_s1 (pc' := 3) ji_290_2 rfl rfl rfl ?_
      refine wl_s (pc' := 4) ji_290_3 rfl rfl rfl ?_
      refine cs_gr (r := 139) (k := 0) C (by decide) sq_138 rfl ji_290_4 jf_290_7 ?_
      refine wl_s (pc' := 8) ji_290_7 rfl rfl rfl ?_
      refine cs_l (x := 1) C (by decide) (by decide) sq_139 (by omega) ji_290_8 (fun ld10 ld11 ld12 => ?_)
      refine wl_icmp (t := 44) ji_290_9 rfl (by omega) (by omega) (fun (hb2 : (s 139 1 : Int) ≤ ((i : Int))) => ?_) (fun (hb2 : ¬ ((s 139 1 : Int) ≤ ((i : Int)))) => (by exfalso; omega))
      refine wl_s (pc' := 45) ji_290_44 rfl rfl rfl ?_
      exact wl_ri ji_290_45 jr_290 rfl (⟨rfl, rfl⟩)
    · refine wl_s1 (pc' := 3) ji_290_2 rfl rfl rfl ?_
      refine wl_s (pc' := 4) ji_290_3 rfl rfl rfl ?_
      refine cs_gr (r := 139) (k := 0) C (by decide) sq_138 rfl ji_290_4 jf_290_7 ?_
      refine wl_s (pc' := 8) ji_290_7 rfl rfl rfl ?_
      refine cs_l (x := 1) C (by decide) (by decide) sq_139 (by omega) ji_290_8 (fun ld10 ld11 ld12 => ?_)
      refine wl_icmp (t := 44) ji_290_9 rfl (by omega) (by omega) (fun (hb2 : (s 139 1 : Int) ≤ ((i : Int))) => (by exfalso; omega)) (fun (hb2 : ¬ ((s 139 1 : Int) ≤ ((i : Int)))) => ?_)
      refine wl_s (pc' := 13) ji_290_12 rfl rfl rfl ?_
      refine wl_s (pc' := 14) ji_290_13 rfl rfl rfl ?_
      obtain ⟨q4, hq4⟩ := cs_c C (by decide) sq_138
      refine wl_vc (d := d + 1) (as := [.ref 138, wp_i w]) (rest := []) ji_290_14 jc_290_345 rfl hq4 jk_247.symm (Nat.le_of_ble_eq_true rfl) rfl (by rw [jn_247]; rfl) (uc_247 (d := d) C i1 (w := w) (by omega)) (fun v1 h3 R => ?_)
      obtain ⟨ee, y5, rfl, hy5a, hy5b⟩ := R
      rw [ee]
      clear ee
      show wl_R _ _ 290 17 [some (.ref 138), some (wp_i w), some (wp_i ((i : Int)))] [wp_i y5] _ _
      refine wl_if (t := 44) ji_290_17 rfl (by omega) (fun (hb6 : (y5 : Int) = 0) => (by exfalso; omega)) (fun (hb6 : ¬ ((y5 : Int) = 0)) => ?_)
      refine wl_s (pc' := 21) ji_290_20 rfl rfl rfl ?_
      refine wl_s (pc' := 22) ji_290_21 rfl rfl rfl ?_
      obtain ⟨q8, hq8⟩ := cs_c C (by decide) sq_138
      refine wl_vc (d := d + 1) (as := [.ref 138, wp_i ((i : Int))]) (rest := []) ji_290_22 jc_290_384 rfl hq8 jk_261.symm (Nat.le_of_ble_eq_true rfl) rfl (by rw [jn_261]; rfl) (uc_261 (d := d + 1) C (w := (i : Int)) (by omega)) (fun v1 h7 R => ?_)
      obtain ⟨ee, rfl⟩ := R
      rw [ee]
      clear ee
      show wl_R _ _ 290 25 [some (.ref 138), some (wp_i w), some (wp_i ((i : Int)))] [wp_i (s 139 (40 + 2 * ((i : Int)) + 1))] _ _
      have gr9 := hg ((i : Int)) (by omega) (by omega)
      refine wl_s (pc' := 26) ji_290_25 rfl rfl rfl ?_
      refine wl_s (pc' := 27) ji_290_26 rfl rfl rfl ?_
      obtain ⟨q11, hq11⟩ := cs_c C (by decide) sq_138
      refine wl_vc (d := d + 1) (as := [.ref 138, wp_i w]) (rest := [wp_i (s 139 (40 + 2 * ((i : Int)) + 1))]) ji_290_27 jc_290_384 rfl hq11 jk_261.symm (Nat.le_of_ble_eq_true rfl) rfl (by rw [jn_261]; rfl) (uc_261 (d := d + 1) C (w := w) (by omega)) (fun v1 h10 R => ?_)
      obtain ⟨ee, rfl⟩ := R
      rw [ee]
      clear ee
      show wl_R _ _ 290 30 [some (.ref 138), some (wp_i w), some (wp_i ((i : Int)))] [wp_i (s 139 (40 + 2 * w + 1)), wp_i (s 139 (40 + 2 * ((i : Int)) + 1))] _ _
      have gr12 := hg w (by omega) (by omega)
      refine wl_sc (d := d + 1) (as := [wp_i (s 139 (40 + 2 * w + 1))]) (rest := [wp_i (s 139 (40 + 2 * ((i : Int)) + 1))]) ji_290_30 jc_290_437 (Nat.le_of_ble_eq_true rfl) rfl (Nat.le_of_ble_eq_true rfl) rfl (by rw [jn_291]; rfl) (uc_291 (d := d) (x := s 139 (40 + 2 * w + 1)) (by omega)) (fun v1 h13 R => ?_)
      obtain ⟨ee, rfl⟩ := R
      rw [ee]
      clear ee
      show wl_R _ _ 290 33 [some (.ref 138), some (wp_i w), some (wp_i ((i : Int)))] [wp_i (mir (s 139 (40 + 2 * w + 1)) 9), wp_i (s 139 (40 + 2 * ((i : Int)) + 1))] _ _
      have mo14 := mi_o2 (p := s 139 (40 + 2 * w + 1)) (by omega) (i := 9) (by decide)
      refine wl_icmp (t := 38) ji_290_33 rfl (by omega) (by omega) (fun (hb15 : ¬ (s 139 (40 + 2 * ((i : Int)) + 1) : Int) = (mir (s 139 (40 + 2 * w + 1)) 9)) => ?_) (fun (hb15 : ¬ (¬ (s 139 (40 + 2 * ((i : Int)) + 1) : Int) = (mir (s 139 (40 + 2 * w + 1)) 9))) => ?_)
      · refine wl_iinc (x := (i : Int)) (z := (i : Int) + 1) (lv' := [some (.ref 138), some (wp_i w), some (wp_i ((i : Int) + 1))]) ji_290_38 rfl (Nat.le_of_ble_eq_true rfl) (by omega) rfl ?_
        refine wl_goto (t := 2) ji_290_41 rfl ?_
        rw [show fnd (fun j => s 139 (40 + 2 * j + 1)) (mir (s 139 (40 + 2 * w + 1)) 9) (k + 1) i = fnd (fun j => s 139 (40 + 2 * j + 1)) (mir (s 139 (40 + 2 * w + 1)) 9) k (i + 1) from if_neg (show ¬ s 139 (40 + 2 * (i : Int) + 1) = (mir (s 139 (40 + 2 * w + 1)) 9) by omega)]
        rw [show (i : Int) + 1 = ((i + 1 : Nat) : Int) by omega]
        exact ih k (i + 1) (by omega)
      · refine wl_s (pc' := 37) ji_290_36 rfl rfl rfl ?_
        exact wl_ri ji_290_37 jr_290 rfl (⟨rfl, congrArg (fun z => some (wp_i z)) (show fnd (fun j => s 139 (40 + 2 * j + 1)) (mir (s 139 (40 + 2 * w + 1)) 9) (k + 1) i = (i : Int) from if_pos (show s 139 (40 + 2 * (i : Int) + 1) = (mir (s 139 (40 + 2 * w + 1)) 9) by omega)).symm⟩)
theorem uc_290n {nn d : Nat} {h : mj_H} {s : sg_} (C : CS h s) (i1 : 0 ≤ s 139 1 ∧ s 139 1 ≤ 6) {w : Int} (hr : wp_r w) (hw : ¬ (0 ≤ w ∧ w < s 139 1)) : wl_R nn (d + 2) 290 2 [some (.ref 138), some (wp_i w), some (wp_i 0)] [] h (fun v1 h1 => h1 = h ∧ v1 = some (wp_i (-1))) := by
  refine wl_s (pc' := 3) ji_290_2 rfl rfl rfl ?_
  refine wl_s (pc' := 4) ji_290_3 rfl rfl rfl ?_
  refine cs_gr (r := 139) (k := 0) C (by decide) sq_138 rfl ji_290_4 jf_290_7 ?_
  refine wl_s (pc' := 8) ji_290_7 rfl rfl rfl ?_
  refine cs_l (x := 1) C (by decide) (by decide) sq_139 (by omega) ji_290_8 (fun ld10 ld11 ld12 => ?_)
  refine wl_icmp (t := 44) ji_290_9 rfl (by omega) (by omega) (fun (hb2 : (s 139 1 : Int) ≤ 0) => ?_) (fun (hb2 : ¬ ((s 139 1 : Int) ≤ 0)) => ?_)
  · refine wl_s (pc' := 45) ji_290_44 rfl rfl rfl ?_
    exact wl_ri ji_290_45 jr_290 rfl (⟨rfl, rfl⟩)
  · refine wl_s (pc' := 13) ji_290_12 rfl rfl rfl ?_
    refine wl_s (pc' := 14) ji_290_13 rfl rfl rfl ?_
    obtain ⟨q4, hq4⟩ := cs_c C (by decide) sq_138
    refine wl_vc (d := d + 1) (as := [.ref 138, wp_i w]) (rest := []) ji_290_14 jc_290_345 rfl hq4 jk_247.symm (Nat.le_of_ble_eq_true rfl) rfl (by rw [jn_247]; rfl) (uc_247 (d := d) C i1 (w := w) (by omega)) (fun v1 h3 R => ?_)
    obtain ⟨ee, y5, rfl, hy5a, hy5b⟩ := R
    rw [ee]
    clear ee
    show wl_R _ _ 290 17 [some (.ref 138), some (wp_i w), some (wp_i 0)] [wp_i y5] _ _
    refine wl_if (t := 44) ji_290_17 rfl (by omega) (fun (hb6 : (y5 : Int) = 0) => ?_) (fun (hb6 : ¬ ((y5 : Int) = 0)) => (by exfalso; omega))
    refine wl_s (pc' := 45) ji_290_44 rfl rfl rfl ?_
    exact wl_ri ji_290_45 jr_290 rfl (⟨rfl, rfl⟩)
theorem uc_290 {nn d : Nat} {h : mj_H} {s : sg_} (C : CS h s) (i1 : 0 ≤ s 139 1 ∧ s 139 1 ≤ 6) (hg : ∀ j : Int, 0 ≤ j → j < 6 → 0 ≤ s 139 (40 + 2 * j + 1) ∧ s 139 (40 + 2 * j + 1) ≤ 511) {w : Int} (hw : wp_r w) : wl_R nn (d + 2) 290 0 [some (.ref 138), some (wp_i w), none] [] h (fun v1 h1 => h1 = h ∧ v1 = some (wp_i (beR s w))) := by
  refine wl_s (pc' := 1) ji_290_0 rfl rfl rfl ?_
  refine wl_s (pc' := 2) (lv' := [some (.ref 138), some (wp_i w), some (wp_i 0)]) ji_290_1 rfl rfl rfl ?_
  by_cases q0 : 0 ≤ w ∧ w < s 139 1
  · rw [show beR s w = fnd (fun j => s 139 (40 + 2 * j + 1)) (mir (s 139 (40 + 2 * w + 1)) 9) (s 139 1).toNat 0 from if_pos q0]
    exact uc_290l C i1 hg q0 nn (s 139 1).toNat 0 (by omega)
  · rw [show beR s w = -1 from if_neg q0]
    exact uc_290n C i1 hw q0
theorem eq_behind {tc : tcs} {tr : Int → crs} {s : sg_} {M : Int} (L : LAWS tc tr s M) {w : Int} : beR s w = beC s w := by
  have H := L.1.1.2.1
  have dm := dm_ L
  have e : ∀ j : Int, 0 ≤ j → j < 6 → s 139 (40 + 2 * j + 1) = s 53 j := fun j a b => (H.2.2.1 j ⟨a, b⟩).2
  unfold beR beC
  rw [dm.2.1]
  by_cases q : 0 ≤ w ∧ w < s 48 1
  · rw [if_pos q, if_pos q, e w q.1 (by omega)]
    exact fnd_c (s 48 1).toNat 0 (fun j a b => e j (by omega) (by omega))
  · rw [if_neg q, if_neg q]
theorem pt_ {tc : tcs} {tr : Int → crs} {s : sg_} {M : Int} (L : LAWS tc tr s M) : (∀ j : Int, 0 ≤ j → j < 6 → 0 ≤ s 53 j ∧ s 53 j ≤ 511) ∧ ∀ j : Int, 0 ≤ j → j < 6 → 0 ≤ s 139 (40 + 2 * j + 1) ∧ s 139 (40 + 2 * j + 1) ≤ 511 := by
  have a1 : ∀ j : Int, 0 ≤ j → j < 6 → 0 ≤ s 53 j ∧ s 53 j ≤ 511 := fun j a b => L.1.1.1.2.2.2.2.2.2.2.1 j ⟨a, b⟩
  refine ⟨a1, fun j a b => ?_⟩
  have e : s 139 (40 + 2 * j + 1) = s 53 j := (L.1.1.2.1.2.2.1 j ⟨a, b⟩).2
  rw [e]
  exact a1 j a b
theorem tc_behind (AM : lw_AM) {sl : List Value} {h : mj_H} {B : Int} {s : sg_} {tc : tcs} {tr : Int → crs} {M : Int} (L : LAWS tc tr s M) {w : Int} (hw : wp_r w) (W : WS sl h B s) (hB : 0 ≤ B ∧ B ≤ 130000000) : wp_R 1199 129 0 [some (.ref 9), some (wp_i w)] [] h (fun v h1 => v = some (wp_i (beC s w)) ∧ WS sl h1 (B + (0 : Nat)) s) := by
  have C := W.2.2.2
  exact ws_c (n := 0) W (AM 1199 129 sx_K129 rfl) (vs := [.ref 9, wp_i w]) ⟨⟨9, rfl, rfl⟩, ⟨_, rfl, (sx_r32 _).1, (sx_r32 _).2⟩, trivial⟩ (show (1 : Int) + 0 ≤ ((1199 : Nat) : Int) by decide) (by decide) (by omega) (by rw [jn_129]; rfl) (by decide +kernel) (fun nn => wl_mono (uc_129 (d := 1198) C (INV_NV L.1).g.1.2.1 (pt_ L).1 hw) (fun v h1 R => ⟨R.2, R.1 ▸ C⟩))
theorem tr_behind (AM : lw_AM) {sl : List Value} {h : mj_H} {B : Int} {s : sg_} {tc : tcs} {tr : Int → crs} {M : Int} (L : LAWS tc tr s M) {w : Int} (hw : wp_r w) (W : WS sl h B s) (hB : 0 ≤ B ∧ B ≤ 130000000) : wp_R 1199 290 0 [some (.ref 138), some (wp_i w), none] [] h (fun v h1 => v = some (wp_i (beR s w)) ∧ WS sl h1 (B + (0 : Nat)) s) := by
  have C := W.2.2.2
  exact ws_c (n := 0) W (AM 1199 290 sx_K290 rfl) (vs := [.ref 138, wp_i w]) ⟨⟨138, rfl, rfl⟩, ⟨_, rfl, (sx_r32 _).1, (sx_r32 _).2⟩, trivial⟩ (show (2 : Int) + 0 ≤ ((1199 : Nat) : Int) by decide) (by decide) (by omega) (by rw [jn_290]; rfl) (by decide +kernel) (fun nn => wl_mono (uc_290 (d := 1197) C (INV_RT L.1).1.rs.g.w0 (pt_ L).2 hw) (fun v h1 R => ⟨R.2, R.1 ▸ C⟩))
