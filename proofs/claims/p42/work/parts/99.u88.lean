/-! -/
set_option maxRecDepth 100000 in
theorem ji_139_14 : mj_ins 139 14 = some (.iload 4) := by decide +kernel
set_option maxRecDepth 100000 in
theorem ji_139_16 : mj_ins 139 16 = some (.aload_n 0) := by decide +kernel
set_option maxRecDepth 100000 in
theorem ji_139_17 : mj_ins 139 17 = some (.getfield 21) := by decide +kernel
set_option maxRecDepth 100000 in
theorem jf_139_21 : mj_fld 139 21 = some (3, 1, .int, true) := by decide +kernel
set_option maxRecDepth 100000 in
theorem ji_139_20 : mj_ins 139 20 = some (.if_icmp .ge 30) := by decide +kernel
set_option maxRecDepth 100000 in
theorem ji_139_50 : mj_ins 139 50 = some (.iload_n 3) := by decide +kernel
set_option maxRecDepth 100000 in
theorem ji_139_51 : mj_ins 139 51 = some (.ireturn) := by decide +kernel
set_option maxRecDepth 100000 in
theorem jr_139 : mj_ret 139 = some .int := by decide +kernel
set_option maxRecDepth 100000 in
theorem ji_139_23 : mj_ins 139 23 = some (.aload_n 0) := by decide +kernel
set_option maxRecDepth 100000 in
theorem ji_139_24 : mj_ins 139 24 = some (.iload_n 2) := by decide +kernel
set_option maxRecDepth 100000 in
theorem ji_139_25 : mj_ins 139 25 = some (.iconst 1) := by decide +kernel
set_option maxRecDepth 100000 in
theorem ji_139_26 : mj_ins 139 26 = some (.iload 4) := by decide +kernel
set_option maxRecDepth 100000 in
theorem ji_139_28 : mj_ins 139 28 = some (.ishl) := by decide +kernel
set_option maxRecDepth 100000 in
theorem ji_139_29 : mj_ins 139 29 = some (.ixor) := by decide +kernel
set_option maxRecDepth 100000 in
theorem ji_139_30 : mj_ins 139 30 = some (.invokestatic 38) := by decide +kernel
set_option maxRecDepth 100000 in
theorem jc_139_38 : mj_cal 139 38 = some (1, 136, 2) := by decide +kernel
set_option maxRecDepth 100000 in
theorem jn_136 : mj_nl 136 = 4 := by decide +kernel
set_option maxRecDepth 100000 in
theorem ji_139_33 : mj_ins 139 33 = some (.iload_n 1) := by decide +kernel
set_option maxRecDepth 100000 in
theorem ji_139_34 : mj_ins 139 34 = some (.if_icmp .ge 10) := by decide +kernel
set_option maxRecDepth 100000 in
theorem ji_139_44 : mj_ins 139 44 = some (.iinc 4 1) := by decide +kernel
set_option maxRecDepth 100000 in
theorem ji_139_47 : mj_ins 139 47 = some (.goto (-33)) := by decide +kernel
set_option maxRecDepth 100000 in
theorem ji_139_37 : mj_ins 139 37 = some (.iload_n 3) := by decide +kernel
set_option maxRecDepth 100000 in
theorem ji_139_38 : mj_ins 139 38 = some (.iconst 1) := by decide +kernel
set_option maxRecDepth 100000 in
theorem ji_139_39 : mj_ins 139 39 = some (.iload 4) := by decide +kernel
set_option maxRecDepth 100000 in
theorem ji_139_41 : mj_ins 139 41 = some (.ishl) := by decide +kernel
set_option maxRecDepth 100000 in
theorem ji_139_42 : mj_ins 139 42 = some (.ior) := by decide +kernel
set_option maxRecDepth 100000 in
theorem ji_139_43 : mj_ins 139 43 = some (.istore_n 3) := by decide +kernel
set_option maxRecDepth 100000 in
theorem ji_139_0 : mj_ins 139 0 = some (.iconst 1) := by decide +kernel
set_option maxRecDepth 100000 in
theorem ji_139_1 : mj_ins 139 1 = some (.aload_n 0) := by decide +kernel
set_option maxRecDepth 100000 in
theorem ji_139_2 : mj_ins 139 2 = some (.getfield 21) := by decide +kernel
set_option maxRecDepth 100000 in
theorem ji_139_5 : mj_ins 139 5 = some (.ishl) := by decide +kernel
set_option maxRecDepth 100000 in
theorem ji_139_6 : mj_ins 139 6 = some (.iconst 1) := by decide +kernel
set_option maxRecDepth 100000 in
theorem ji_139_7 : mj_ins 139 7 = some (.isub) := by decide +kernel
set_option maxRecDepth 100000 in
theorem ji_139_8 : mj_ins 139 8 = some (.istore_n 2) := by decide +kernel
set_option maxRecDepth 100000 in
theorem ji_139_9 : mj_ins 139 9 = some (.iconst 0) := by decide +kernel
set_option maxRecDepth 100000 in
theorem ji_139_10 : mj_ins 139 10 = some (.istore_n 3) := by decide +kernel
set_option maxRecDepth 100000 in
theorem ji_139_11 : mj_ins 139 11 = some (.iconst 0) := by decide +kernel
set_option maxRecDepth 100000 in
theorem ji_139_12 : mj_ins 139 12 = some (.istore 4) := by decide +kernel
set_option maxRecDepth 100000 in
theorem ji_138_0 : mj_ins 138 0 = some (.iload_n 1) := by decide +kernel
set_option maxRecDepth 100000 in
theorem ji_138_1 : mj_ins 138 1 = some (.iconst 1) := by decide +kernel
set_option maxRecDepth 100000 in
theorem ji_138_2 : mj_ins 138 2 = some (.if_icmp .lt 9) := by decide +kernel
set_option maxRecDepth 100000 in
theorem ji_138_11 : mj_ins 138 11 = some (.iconst (-1)) := by decide +kernel
set_option maxRecDepth 100000 in
theorem ji_138_12 : mj_ins 138 12 = some (.goto 14) := by decide +kernel
set_option maxRecDepth 100000 in
theorem ji_138_26 : mj_ins 138 26 = some (.ireturn) := by decide +kernel
set_option maxRecDepth 100000 in
theorem jr_138 : mj_ret 138 = some .int := by decide +kernel
set_option maxRecDepth 100000 in
theorem ji_138_5 : mj_ins 138 5 = some (.iload_n 1) := by decide +kernel
set_option maxRecDepth 100000 in
theorem ji_138_6 : mj_ins 138 6 = some (.bipush 99) := by decide +kernel
set_option maxRecDepth 100000 in
theorem ji_138_8 : mj_ins 138 8 = some (.if_icmp .le 7) := by decide +kernel
set_option maxRecDepth 100000 in
theorem ji_138_15 : mj_ins 138 15 = some (.aload_n 0) := by decide +kernel
set_option maxRecDepth 100000 in
theorem ji_138_16 : mj_ins 138 16 = some (.getfield 19) := by decide +kernel
set_option maxRecDepth 100000 in
theorem jf_138_19 : mj_fld 138 19 = some (0, 0, (.object "ForestOfPoles$State"), false) := by decide +kernel
set_option maxRecDepth 100000 in
theorem ji_138_19 : mj_ins 138 19 = some (.getfield 49) := by decide +kernel
set_option maxRecDepth 100000 in
theorem jf_138_49 : mj_fld 138 49 = some (2, 0, (.object "ForestOfPoles$Forest"), false) := by decide +kernel
set_option maxRecDepth 100000 in
theorem ji_138_22 : mj_ins 138 22 = some (.iload_n 1) := by decide +kernel
set_option maxRecDepth 100000 in
theorem ji_138_23 : mj_ins 138 23 = some (.invokestatic 275) := by decide +kernel
set_option maxRecDepth 100000 in
theorem jc_138_275 : mj_cal 138 275 = some (1, 139, 2) := by decide +kernel
set_option maxRecDepth 100000 in
theorem jn_139 : mj_nl 139 = 5 := by decide +kernel
set_option maxRecDepth 100000 in
theorem ji_297_45 : mj_ins 297 45 = some (.iload 4) := by decide +kernel
set_option maxRecDepth 100000 in
theorem ji_297_47 : mj_ins 297 47 = some (.aload_n 0) := by decide +kernel
set_option maxRecDepth 100000 in
theorem ji_297_48 : mj_ins 297 48 = some (.getfield 7) := by decide +kernel
set_option maxRecDepth 100000 in
theorem jf_297_7 : mj_fld 297 7 = some (11, 0, (.array .int), false) := by decide +kernel
set_option maxRecDepth 100000 in
theorem ji_297_51 : mj_ins 297 51 = some (.iconst 1) := by decide +kernel
set_option maxRecDepth 100000 in
theorem ji_297_52 : mj_ins 297 52 = some (.iaload) := by decide +kernel
set_option maxRecDepth 100000 in
theorem ji_297_53 : mj_ins 297 53 = some (.if_icmp .ge 32) := by decide +kernel
set_option maxRecDepth 100000 in
theorem ji_297_85 : mj_ins 297 85 = some (.iload_n 3) := by decide +kernel
set_option maxRecDepth 100000 in
theorem ji_297_86 : mj_ins 297 86 = some (.ireturn) := by decide +kernel
set_option maxRecDepth 100000 in
theorem jr_297 : mj_ret 297 = some .int := by decide +kernel
set_option maxRecDepth 100000 in
theorem ji_297_56 : mj_ins 297 56 = some (.iload_n 3) := by decide +kernel
set_option maxRecDepth 100000 in
theorem ji_297_57 : mj_ins 297 57 = some (.iload_n 2) := by decide +kernel
set_option maxRecDepth 100000 in
theorem ji_297_58 : mj_ins 297 58 = some (.aload_n 0) := by decide +kernel
set_option maxRecDepth 100000 in
theorem ji_297_59 : mj_ins 297 59 = some (.iload 4) := by decide +kernel
set_option maxRecDepth 100000 in
theorem ji_297_61 : mj_ins 297 61 = some (.invokevirtual 286) := by decide +kernel
set_option maxRecDepth 100000 in
theorem jc_297_286 : mj_cal 297 286 = some (2, 227, 1) := by decide +kernel
set_option maxRecDepth 100000 in
theorem ji_297_64 : mj_ins 297 64 = some (.isub) := by decide +kernel
set_option maxRecDepth 100000 in
theorem ji_297_65 : mj_ins 297 65 = some (.iload_n 1) := by decide +kernel
set_option maxRecDepth 100000 in
theorem ji_297_66 : mj_ins 297 66 = some (.if_icmp .ge 10) := by decide +kernel
set_option maxRecDepth 100000 in
theorem ji_297_76 : mj_ins 297 76 = some (.iconst 0) := by decide +kernel
set_option maxRecDepth 100000 in
theorem ji_297_77 : mj_ins 297 77 = some (.ior) := by decide +kernel
set_option maxRecDepth 100000 in
theorem ji_297_78 : mj_ins 297 78 = some (.istore_n 3) := by decide +kernel
set_option maxRecDepth 100000 in
theorem ji_297_79 : mj_ins 297 79 = some (.iinc 4 1) := by decide +kernel
set_option maxRecDepth 100000 in
theorem ji_297_82 : mj_ins 297 82 = some (.goto (-37)) := by decide +kernel
set_option maxRecDepth 100000 in
theorem ji_297_69 : mj_ins 297 69 = some (.iconst 1) := by decide +kernel
set_option maxRecDepth 100000 in
theorem ji_297_70 : mj_ins 297 70 = some (.iload 4) := by decide +kernel
set_option maxRecDepth 100000 in
theorem ji_297_72 : mj_ins 297 72 = some (.ishl) := by decide +kernel
set_option maxRecDepth 100000 in
theorem ji_297_73 : mj_ins 297 73 = some (.goto 4) := by decide +kernel
set_option maxRecDepth 100000 in
theorem ji_297_16 : mj_ins 297 16 = some (.iload_n 3) := by decide +kernel
set_option maxRecDepth 100000 in
theorem ji_297_17 : mj_ins 297 17 = some (.aload_n 0) := by decide +kernel
set_option maxRecDepth 100000 in
theorem ji_297_18 : mj_ins 297 18 = some (.getfield 7) := by decide +kernel
set_option maxRecDepth 100000 in
theorem ji_297_21 : mj_ins 297 21 = some (.iconst 1) := by decide +kernel
set_option maxRecDepth 100000 in
theorem ji_297_22 : mj_ins 297 22 = some (.iaload) := by decide +kernel
set_option maxRecDepth 100000 in
theorem ji_297_23 : mj_ins 297 23 = some (.if_icmp .ge 17) := by decide +kernel
set_option maxRecDepth 100000 in
theorem ji_297_40 : mj_ins 297 40 = some (.iconst 0) := by decide +kernel
set_option maxRecDepth 100000 in
theorem ji_297_41 : mj_ins 297 41 = some (.istore_n 3) := by decide +kernel
set_option maxRecDepth 100000 in
theorem ji_297_42 : mj_ins 297 42 = some (.iconst 0) := by decide +kernel
set_option maxRecDepth 100000 in
theorem ji_297_43 : mj_ins 297 43 = some (.istore 4) := by decide +kernel
set_option maxRecDepth 100000 in
theorem ji_297_26 : mj_ins 297 26 = some (.iload_n 2) := by decide +kernel
set_option maxRecDepth 100000 in
theorem ji_297_27 : mj_ins 297 27 = some (.aload_n 0) := by decide +kernel
set_option maxRecDepth 100000 in
theorem ji_297_28 : mj_ins 297 28 = some (.iload_n 3) := by decide +kernel
set_option maxRecDepth 100000 in
theorem ji_297_29 : mj_ins 297 29 = some (.invokevirtual 286) := by decide +kernel
set_option maxRecDepth 100000 in
theorem ji_297_32 : mj_ins 297 32 = some (.iadd) := by decide +kernel
set_option maxRecDepth 100000 in
theorem ji_297_33 : mj_ins 297 33 = some (.istore_n 2) := by decide +kernel
set_option maxRecDepth 100000 in
theorem ji_297_34 : mj_ins 297 34 = some (.iinc 3 1) := by decide +kernel
set_option maxRecDepth 100000 in
theorem ji_297_37 : mj_ins 297 37 = some (.goto (-21)) := by decide +kernel
set_option maxRecDepth 100000 in
theorem ji_297_0 : mj_ins 297 0 = some (.iload_n 1) := by decide +kernel
set_option maxRecDepth 100000 in
theorem ji_297_1 : mj_ins 297 1 = some (.iconst 1) := by decide +kernel
set_option maxRecDepth 100000 in
theorem ji_297_2 : mj_ins 297 2 = some (.bipush 99) := by decide +kernel
set_option maxRecDepth 100000 in
theorem ji_297_4 : mj_ins 297 4 = some (.invokestatic 66) := by decide +kernel
set_option maxRecDepth 100000 in
theorem jc_297_66 : mj_cal 297 66 = some (1, 171, 3) := by decide +kernel
set_option maxRecDepth 100000 in
theorem ji_297_7 : mj_ins 297 7 = some (.ifCond .ne 5) := by decide +kernel
set_option maxRecDepth 100000 in
theorem ji_297_12 : mj_ins 297 12 = some (.iconst 0) := by decide +kernel
set_option maxRecDepth 100000 in
theorem ji_297_13 : mj_ins 297 13 = some (.istore_n 2) := by decide +kernel
set_option maxRecDepth 100000 in
theorem ji_297_14 : mj_ins 297 14 = some (.iconst 0) := by decide +kernel
set_option maxRecDepth 100000 in
theorem ji_297_15 : mj_ins 297 15 = some (.istore_n 3) := by decide +kernel
set_option maxRecDepth 100000 in
theorem ji_297_10 : mj_ins 297 10 = some (.iconst (-1)) := by decide +kernel
set_option maxRecDepth 100000 in
theorem ji_297_11 : mj_ins 297 11 = some (.ireturn) := by decide +kernel
/-! veto's walks, in both; laid by program (wp_u88.py) -/
/-- those without whom the hands are less than x: of the first n; T all hands -/
def vt (g : Int → Int) (T x : Int) : Nat → Int
  | 0 => 0
  | n + 1 => vt g T x n + (if T - g (n : Int) < x then 2 ^ n else 0)
theorem vt_r (g : Int → Int) (T x : Int) : ∀ n : Nat, 0 ≤ vt g T x n ∧ vt g T x n < 2 ^ n
  | 0 => ⟨Int.le_refl _, (by show (0 : Int) < 1; decide)⟩
  | n + 1 => by
    have ih := vt_r g T x n
    have h2 : (2 : Int) ^ (n + 1) = 2 ^ n + 2 ^ n := by rw [Int.pow_succ]; omega
    unfold vt
    split <;> omega
theorem vt_c {g k : Int → Int} {T x : Int} : ∀ n : Nat, (∀ j : Int, 0 ≤ j → j < n → g j = k j) → vt g T x n = vt k T x n
  | 0, _ => rfl
  | n + 1, h => by
    show vt g T x n + (if T - g (n : Int) < x then 2 ^ n else 0) = vt k T x n + (if T - k (n : Int) < x then 2 ^ n else 0)
    rw [vt_c n (fun j a b => h j a (by omega)), h n (by omega) (by omega)]
theorem uc_139l {d : Nat} {h : mj_H} {s : sg_} (C : CS h s) {n : Nat} (hn : n ≤ 6) (en : s 48 1 = (n : Int)) (hg : ∀ j : Int, 0 ≤ j → j < n → 0 ≤ s 52 j ∧ s 52 j ≤ 9) {x : Int} (hx : wp_r x) : ∀ (nn i : Nat), i ≤ n → wl_R nn (d + 1) 139 14 [some (.ref 48), some (wp_i x), some (wp_i (2 ^ n - 1)), some (wp_i (vt (fun j => s 52 j) (tot (fun j => s 52 j) n) x i)), some (wp_i ((i : Int)))] [] h (fun v1 h1 => h1 = h ∧ v1 = some (wp_i (vt (fun j => s 52 j) (tot (fun j => s 52 j) n) x n))) := by
  intro nn
  induction nn with
  | zero => intros; exact wl_0
  | succ nn ih =>
    intro i hi
    have hfl := vt_r (fun j => s 52 j) (tot (fun j => s 52 j) n) x i
    have tb := tot_b (g := (fun j => s 52 j)) n hg
    have gb := hg (i : Int) (by omega)
    refine wl_s1 (pc' := 16) ji_139_14 rfl rfl rfl ?_
    refine wl_s (pc' := 17) ji_139_16 rfl rfl rfl ?_
    refine cs_gi (k := 1) (kI := 1) C (by decide) (by decide) sq_48 rfl rfl ji_139_17 jf_139_21 ?_
    rw [en]
    have bd1 : wp_r ((n : Int)) := en ▸ cs_ri (k := 1) (kI := 1) C (by decide) (by decide) sq_48 rfl rfl (show 1 < 13 by decide)
    refine wl_icmp (t := 50) ji_139_20 rfl (by omega) (by omega) (fun (hb2 : ((n : Int) : Int) ≤ ((i : Int))) => ?_) (fun (hb2 : ¬ (((n : Int) : Int) ≤ ((i : Int)))) => ?_)
    · refine wl_s (pc' := 51) ji_139_50 rfl rfl rfl ?_
      exact wl_ri ji_139_51 jr_139 rfl (⟨rfl, by rw [show i = n by omega]⟩)
    · refine wl_s (pc' := 24) ji_139_23 rfl rfl rfl ?_
      refine wl_s (pc' := 25) ji_139_24 rfl rfl rfl ?_
      refine wl_s (pc' := 26) ji_139_25 rfl rfl rfl ?_
      refine wl_s (pc' := 28) ji_139_26 rfl rfl rfl ?_
      refine wl_s (pc' := 29) (st' := [.int (Int32.ofInt 1 <<< (Int32.ofInt (i : Int) &&& 31)), wp_i (2 ^ n - 1), .ref 48]) ji_139_28 rfl rfl rfl ?_
      refine wl_s (pc' := 30) (lv' := [some (.ref 48), some (wp_i x), some (wp_i (2 ^ n - 1)), some (wp_i (vt (fun j => s 52 j) (tot (fun j => s 52 j) n) x i)), some (wp_i ((i : Int)))]) (st' := [wp_i (2 ^ n - 1 - 2 ^ i), .ref 48]) (h' := h) ji_139_29 rfl rfl (congrArg (fun z => (some (30, [some (.ref 48), some (wp_i x), some (wp_i (2 ^ n - 1)), some (wp_i (vt (fun j => s 52 j) (tot (fun j => s 52 j) n) x i)), some (wp_i ((i : Int)))], [Value.int z, .ref 48], h) : Option mj_S)) (mk_xr ⟨n, by omega⟩ ⟨i, by omega⟩ (show i < n by omega))) ?_
      refine wl_sc (d := d) (as := [.ref 48, wp_i (2 ^ n - 1 - 2 ^ i)]) (rest := []) ji_139_30 jc_139_38 (Nat.le_of_ble_eq_true rfl) rfl (Nat.le_of_ble_eq_true rfl) rfl (by rw [jn_136]; rfl) (uc_136 (d := d) C (by omega) (mk_rg ⟨n, by omega⟩ ⟨i, by omega⟩ (show i < n by omega))) (fun v1 h3 R => ?_)
      obtain ⟨ee, rfl⟩ := R
      rw [ee]
      clear ee
      rw [show hdM (fun j => s 52 j) (2 ^ n - 1 - 2 ^ i) (s 48 1).toNat = tot (fun j => s 52 j) n - s 52 (i : Int) by rw [show (s 48 1).toNat = n by omega, hdM_v hn (by omega) n (Nat.le_refl n), if_pos (by omega)]]
      show wl_R _ _ 139 33 [some (.ref 48), some (wp_i x), some (wp_i (2 ^ n - 1)), some (wp_i (vt (fun j => s 52 j) (tot (fun j => s 52 j) n) x i)), some (wp_i ((i : Int)))] [wp_i (tot (fun j => s 52 j) n - s 52 (i : Int))] _ _
      refine wl_s (pc' := 34) ji_139_33 rfl rfl rfl ?_
      refine wl_icmp (t := 44) ji_139_34 rfl (by omega) (by omega) (fun (hb4 : (x : Int) ≤ (tot (fun j => s 52 j) n - s 52 (i : Int))) => ?_) (fun (hb4 : ¬ ((x : Int) ≤ (tot (fun j => s 52 j) n - s 52 (i : Int)))) => ?_)
      · refine wl_iinc (x := (i : Int)) (z := (i : Int) + 1) (lv' := [some (.ref 48), some (wp_i x), some (wp_i (2 ^ n - 1)), some (wp_i (vt (fun j => s 52 j) (tot (fun j => s 52 j) n) x i)), some (wp_i ((i : Int) + 1))]) ji_139_44 rfl (Nat.le_of_ble_eq_true rfl) (by omega) rfl ?_
        refine wl_goto (t := 14) ji_139_47 rfl ?_
        rw [show (i : Int) + 1 = ((i + 1 : Nat) : Int) by omega]
        rw [show vt (fun j => s 52 j) (tot (fun j => s 52 j) n) x i = vt (fun j => s 52 j) (tot (fun j => s 52 j) n) x (i + 1) by show _ = vt (fun j => s 52 j) (tot (fun j => s 52 j) n) x i + _; rw [if_neg (by dsimp only; omega)]; omega]
        exact ih (i + 1) (by omega)
      · refine wl_s (pc' := 38) ji_139_37 rfl rfl rfl ?_
        refine wl_s (pc' := 39) ji_139_38 rfl rfl rfl ?_
        refine wl_s (pc' := 41) ji_139_39 rfl rfl rfl ?_
        refine wl_s (pc' := 42) (st' := [.int (Int32.ofInt 1 <<< (Int32.ofInt (i : Int) &&& 31)), wp_i (vt (fun j => s 52 j) (tot (fun j => s 52 j) n) x i)]) ji_139_41 rfl rfl rfl ?_
        refine wl_s (pc' := 43) (lv' := [some (.ref 48), some (wp_i x), some (wp_i (2 ^ n - 1)), some (wp_i (vt (fun j => s 52 j) (tot (fun j => s 52 j) n) x i)), some (wp_i ((i : Int)))]) (st' := [wp_i (vt (fun j => s 52 j) (tot (fun j => s 52 j) n) x i + 2 ^ i)]) (h' := h) ji_139_42 rfl rfl (congrArg (fun z => (some (43, [some (.ref 48), some (wp_i x), some (wp_i (2 ^ n - 1)), some (wp_i (vt (fun j => s 52 j) (tot (fun j => s 52 j) n) x i)), some (wp_i ((i : Int)))], [Value.int z], h) : Option mj_S)) (bi_or9 hfl (by omega))) ?_
        refine wl_s (pc' := 44) (lv' := [some (.ref 48), some (wp_i x), some (wp_i (2 ^ n - 1)), some (wp_i (vt (fun j => s 52 j) (tot (fun j => s 52 j) n) x i + 2 ^ i)), some (wp_i ((i : Int)))]) ji_139_43 rfl rfl rfl ?_
        refine wl_iinc (x := (i : Int)) (z := (i : Int) + 1) (lv' := [some (.ref 48), some (wp_i x), some (wp_i (2 ^ n - 1)), some (wp_i (vt (fun j => s 52 j) (tot (fun j => s 52 j) n) x i + 2 ^ i)), some (wp_i ((i : Int) + 1))]) ji_139_44 rfl (Nat.le_of_ble_eq_true rfl) (by omega) rfl ?_
        refine wl_goto (t := 14) ji_139_47 rfl ?_
        rw [show (i : Int) + 1 = ((i + 1 : Nat) : Int) by omega]
        rw [show vt (fun j => s 52 j) (tot (fun j => s 52 j) n) x i + 2 ^ i = vt (fun j => s 52 j) (tot (fun j => s 52 j) n) x (i + 1) by show _ = vt (fun j => s 52 j) (tot (fun j => s 52 j) n) x i + _; rw [if_pos (by dsimp only; omega)]]
        exact ih (i + 1) (by omega)
theorem uc_139 {nn d : Nat} {h : mj_H} {s : sg_} (C : CS h s) {n : Nat} (hn : n ≤ 6) (en : s 48 1 = (n : Int)) (hg : ∀ j : Int, 0 ≤ j → j < n → 0 ≤ s 52 j ∧ s 52 j ≤ 9) {x : Int} (hx : wp_r x) : wl_R nn (d + 1) 139 0 [some (.ref 48), some (wp_i x), none, none, none] [] h (fun v1 h1 => h1 = h ∧ v1 = some (wp_i (vt (fun j => s 52 j) (tot (fun j => s 52 j) n) x n))) := by
  refine wl_s (pc' := 1) ji_139_0 rfl rfl rfl ?_
  refine wl_s (pc' := 2) ji_139_1 rfl rfl rfl ?_
  refine cs_gi (k := 1) (kI := 1) C (by decide) (by decide) sq_48 rfl rfl ji_139_2 jf_139_21 ?_
  rw [en]
  have bd1 : wp_r ((n : Int)) := en ▸ cs_ri (k := 1) (kI := 1) C (by decide) (by decide) sq_48 rfl rfl (show 1 < 13 by decide)
  refine wl_s (pc' := 6) (lv' := [some (.ref 48), some (wp_i x), none, none, none]) (st' := [wp_i (2 ^ n)]) (h' := h) ji_139_5 rfl rfl (congrArg (fun z => (some (6, [some (.ref 48), some (wp_i x), none, none, none], [Value.int z], h) : Option mj_S)) (mk_sh ⟨n, by omega⟩)) ?_
  refine wl_s (pc' := 7) ji_139_6 rfl rfl rfl ?_
  refine wl_isub (x := 2 ^ n) (y := 1) (z := 2 ^ n - 1) ji_139_7 (by omega) ?_
  refine wl_s (pc' := 9) (lv' := [some (.ref 48), some (wp_i x), some (wp_i (2 ^ n - 1)), none, none]) ji_139_8 rfl rfl rfl ?_
  refine wl_s (pc' := 10) ji_139_9 rfl rfl rfl ?_
  refine wl_s (pc' := 11) (lv' := [some (.ref 48), some (wp_i x), some (wp_i (2 ^ n - 1)), some (wp_i 0), none]) ji_139_10 rfl rfl rfl ?_
  refine wl_s (pc' := 12) ji_139_11 rfl rfl rfl ?_
  refine wl_s (pc' := 14) (lv' := [some (.ref 48), some (wp_i x), some (wp_i (2 ^ n - 1)), some (wp_i 0), some (wp_i 0)]) ji_139_12 rfl rfl rfl ?_
  exact uc_139l C hn en hg hx nn 0 (by omega)
def veC (s : sg_) (x : Int) : Int := if 1 ≤ x ∧ x ≤ 99 then vt (fun j => s 52 j) (tot (fun j => s 52 j) (s 48 1).toNat) x (s 48 1).toNat else -1
def veR (s : sg_) (x : Int) : Int := if 1 ≤ x ∧ x ≤ 99 then vt (fun j => s 139 (40 + 2 * j)) (tot (fun j => s 139 (40 + 2 * j)) (s 139 1).toNat) x (s 139 1).toNat else -1
theorem uc_138 {nn d : Nat} {h : mj_H} {s : sg_} (C : CS h s) {n : Nat} (hn : n ≤ 6) (en : s 48 1 = (n : Int)) (hg : ∀ j : Int, 0 ≤ j → j < n → 0 ≤ s 52 j ∧ s 52 j ≤ 9) {x : Int} (hx : wp_r x) : wl_R nn (d + 2) 138 0 [some (.ref 9), some (wp_i x)] [] h (fun v1 h1 => h1 = h ∧ v1 = some (wp_i (veC s x))) := by
  refine wl_s (pc' := 1) ji_138_0 rfl rfl rfl ?_
  refine wl_s (pc' := 2) ji_138_1 rfl rfl rfl ?_
  refine wl_icmp (t := 11) ji_138_2 rfl (by omega) (by omega) (fun (hb1 : (x : Int) < 1) => ?_) (fun (hb1 : ¬ ((x : Int) < 1)) => ?_)
  · refine wl_s (pc' := 12) ji_138_11 rfl rfl rfl ?_
    refine wl_goto (t := 26) ji_138_12 rfl ?_
    exact wl_ri ji_138_26 jr_138 rfl (⟨rfl, congrArg (fun z => some (wp_i z)) (by unfold veC; rw [if_neg (by omega)])⟩)
  · refine wl_s (pc' := 6) ji_138_5 rfl rfl rfl ?_
    refine wl_bp ji_138_6 rfl ?_
    refine wl_icmp (t := 15) ji_138_8 rfl (by omega) (by omega) (fun (hb2 : (x : Int) ≤ 99) => ?_) (fun (hb2 : ¬ ((x : Int) ≤ 99)) => ?_)
    · refine wl_s (pc' := 16) ji_138_15 rfl rfl rfl ?_
      refine cs_gr (r := 47) (k := 0) C (by decide) sq_9 rfl ji_138_16 jf_138_19 ?_
      refine cs_gr (r := 48) (k := 0) C (by decide) sq_47 rfl ji_138_19 jf_138_49 ?_
      refine wl_s (pc' := 23) ji_138_22 rfl rfl rfl ?_
      refine wl_sc (d := d + 1) (as := [.ref 48, wp_i x]) (rest := []) ji_138_23 jc_138_275 (Nat.le_of_ble_eq_true rfl) rfl (Nat.le_of_ble_eq_true rfl) rfl (by rw [jn_139]; rfl) (uc_139 (d := d) C hn en hg (x := x) (by omega)) (fun v1 h3 R => ?_)
      obtain ⟨ee, rfl⟩ := R
      rw [ee]
      clear ee
      show wl_R _ _ 138 26 [some (.ref 9), some (wp_i x)] [wp_i (vt (fun j => s 52 j) (tot (fun j => s 52 j) n) x n)] _ _
      exact wl_ri ji_138_26 jr_138 rfl (⟨rfl, congrArg (fun z => some (wp_i z)) (by unfold veC; rw [if_pos (by omega), show (s 48 1).toNat = n by omega])⟩)
    · refine wl_s (pc' := 12) ji_138_11 rfl rfl rfl ?_
      refine wl_goto (t := 26) ji_138_12 rfl ?_
      exact wl_ri ji_138_26 jr_138 rfl (⟨rfl, congrArg (fun z => some (wp_i z)) (by unfold veC; rw [if_neg (by omega)])⟩)
theorem uc_297m {d : Nat} {h : mj_H} {s : sg_} (C : CS h s) {n : Nat} (hn : n ≤ 6) (en : s 139 1 = (n : Int)) (hg : ∀ j : Int, 0 ≤ j → j < n → 0 ≤ s 139 (40 + 2 * j) ∧ s 139 (40 + 2 * j) ≤ 9) {x : Int} (hx : wp_r x) : ∀ (nn i : Nat), i ≤ n → wl_R nn (d + 1) 297 45 [some (.ref 138), some (wp_i x), some (wp_i (tot (fun j => s 139 (40 + 2 * j)) n)), some (wp_i (vt (fun j => s 139 (40 + 2 * j)) (tot (fun j => s 139 (40 + 2 * j)) n) x i)), some (wp_i ((i : Int)))] [] h (fun v1 h1 => h1 = h ∧ v1 = some (wp_i (vt (fun j => s 139 (40 + 2 * j)) (tot (fun j => s 139 (40 + 2 * j)) n) x n))) := by
  intro nn
  induction nn with
  | zero => intros; exact wl_0
  | succ nn ih =>
    intro i hi
    have hfl := vt_r (fun j => s 139 (40 + 2 * j)) (tot (fun j => s 139 (40 + 2 * j)) n) x i
    have tb := tot_b (g := (fun j => s 139 (40 + 2 * j))) n hg
    have gb := hg (i : Int) (by omega)
    refine wl_s1 (pc' := 47) ji_297_45 rfl rfl rfl ?_
    refine wl_s (pc' := 48) ji_297_47 rfl rfl rfl ?_
    refine cs_gr (r := 139) (k := 0) C (by decide) sq_138 rfl ji_297_48 jf_297_7 ?_
    refine wl_s (pc' := 52) ji_297_51 rfl rfl rfl ?_
    refine cs_l (x := 1) C (by decide) (by decide) sq_139 (by omega) ji_297_52 (fun ld10 ld11 ld12 => ?_)
    rw [en] at ld12 ⊢
    refine wl_icmp (t := 85) ji_297_53 rfl (by omega) (by omega) (fun (hb2 : ((n : Int) : Int) ≤ ((i : Int))) => ?_) (fun (hb2 : ¬ (((n : Int) : Int) ≤ ((i : Int)))) => ?_)
    · refine wl_s (pc' := 86) ji_297_85 rfl rfl rfl ?_
      exact wl_ri ji_297_86 jr_297 rfl (⟨rfl, by rw [show i = n by omega]⟩)
    · refine wl_s (pc' := 57) ji_297_56 rfl rfl rfl ?_
      refine wl_s (pc' := 58) ji_297_57 rfl rfl rfl ?_
      refine wl_s (pc' := 59) ji_297_58 rfl rfl rfl ?_
      refine wl_s (pc' := 61) ji_297_59 rfl rfl rfl ?_
      obtain ⟨q4, hq4⟩ := cs_c C (by decide) sq_138
      refine wl_vc (d := d) (as := [.ref 138, wp_i ((i : Int))]) (rest := [wp_i (tot (fun j => s 139 (40 + 2 * j)) n), wp_i (vt (fun j => s 139 (40 + 2 * j)) (tot (fun j => s 139 (40 + 2 * j)) n) x i)]) ji_297_61 jc_297_286 rfl hq4 jk_227.symm (Nat.le_of_ble_eq_true rfl) rfl (by rw [jn_227]; rfl) (uc_227 (d := d) C (w := (i : Int)) (by omega)) (fun v1 h3 R => ?_)
      obtain ⟨ee, rfl⟩ := R
      rw [ee]
      clear ee
      show wl_R _ _ 297 64 [some (.ref 138), some (wp_i x), some (wp_i (tot (fun j => s 139 (40 + 2 * j)) n)), some (wp_i (vt (fun j => s 139 (40 + 2 * j)) (tot (fun j => s 139 (40 + 2 * j)) n) x i)), some (wp_i ((i : Int)))] [wp_i (s 139 (40 + 2 * ((i : Int)))), wp_i (tot (fun j => s 139 (40 + 2 * j)) n), wp_i (vt (fun j => s 139 (40 + 2 * j)) (tot (fun j => s 139 (40 + 2 * j)) n) x i)] _ _
      refine wl_isub (x := tot (fun j => s 139 (40 + 2 * j)) n) (y := s 139 (40 + 2 * ((i : Int)))) (z := tot (fun j => s 139 (40 + 2 * j)) n - (s 139 (40 + 2 * ((i : Int))))) ji_297_64 (by omega) ?_
      refine wl_s (pc' := 66) ji_297_65 rfl rfl rfl ?_
      refine wl_icmp (t := 76) ji_297_66 rfl (by omega) (by omega) (fun (hb5 : (x : Int) ≤ (tot (fun j => s 139 (40 + 2 * j)) n - (s 139 (40 + 2 * ((i : Int)))))) => ?_) (fun (hb5 : ¬ ((x : Int) ≤ (tot (fun j => s 139 (40 + 2 * j)) n - (s 139 (40 + 2 * ((i : Int))))))) => ?_)
      · refine wl_s (pc' := 77) ji_297_76 rfl rfl rfl ?_
        refine wl_s (pc' := 78) (lv' := [some (.ref 138), some (wp_i x), some (wp_i (tot (fun j => s 139 (40 + 2 * j)) n)), some (wp_i (vt (fun j => s 139 (40 + 2 * j)) (tot (fun j => s 139 (40 + 2 * j)) n) x i)), some (wp_i ((i : Int)))]) (st' := [wp_i (vt (fun j => s 139 (40 + 2 * j)) (tot (fun j => s 139 (40 + 2 * j)) n) x i)]) (h' := h) ji_297_77 rfl rfl (congrArg (fun z => (some (78, [some (.ref 138), some (wp_i x), some (wp_i (tot (fun j => s 139 (40 + 2 * j)) n)), some (wp_i (vt (fun j => s 139 (40 + 2 * j)) (tot (fun j => s 139 (40 + 2 * j)) n) x i)), some (wp_i ((i : Int)))], [Value.int z], h) : Option mj_S)) (bi_or0 _)) ?_
        refine wl_s (pc' := 79) (lv' := [some (.ref 138), some (wp_i x), some (wp_i (tot (fun j => s 139 (40 + 2 * j)) n)), some (wp_i (vt (fun j => s 139 (40 + 2 * j)) (tot (fun j => s 139 (40 + 2 * j)) n) x i)), some (wp_i ((i : Int)))]) ji_297_78 rfl rfl rfl ?_
        refine wl_iinc (x := (i : Int)) (z := (i : Int) + 1) (lv' := [some (.ref 138), some (wp_i x), some (wp_i (tot (fun j => s 139 (40 + 2 * j)) n)), some (wp_i (vt (fun j => s 139 (40 + 2 * j)) (tot (fun j => s 139 (40 + 2 * j)) n) x i)), some (wp_i ((i : Int) + 1))]) ji_297_79 rfl (Nat.le_of_ble_eq_true rfl) (by omega) rfl ?_
        refine wl_goto (t := 45) ji_297_82 rfl ?_
        rw [show (i : Int) + 1 = ((i + 1 : Nat) : Int) by omega]
        rw [show vt (fun j => s 139 (40 + 2 * j)) (tot (fun j => s 139 (40 + 2 * j)) n) x i = vt (fun j => s 139 (40 + 2 * j)) (tot (fun j => s 139 (40 + 2 * j)) n) x (i + 1) by show _ = vt (fun j => s 139 (40 + 2 * j)) (tot (fun j => s 139 (40 + 2 * j)) n) x i + _; rw [if_neg (by dsimp only; omega)]; omega]
        exact ih (i + 1) (by omega)
      · refine wl_s (pc' := 70) ji_297_69 rfl rfl rfl ?_
        refine wl_s (pc' := 72) ji_297_70 rfl rfl rfl ?_
        refine wl_s (pc' := 73) (st' := [.int (Int32.ofInt 1 <<< (Int32.ofInt (i : Int) &&& 31)), wp_i (vt (fun j => s 139 (40 + 2 * j)) (tot (fun j => s 139 (40 + 2 * j)) n) x i)]) ji_297_72 rfl rfl rfl ?_
        refine wl_goto (t := 77) ji_297_73 rfl ?_
        refine wl_s (pc' := 78) (lv' := [some (.ref 138), some (wp_i x), some (wp_i (tot (fun j => s 139 (40 + 2 * j)) n)), some (wp_i (vt (fun j => s 139 (40 + 2 * j)) (tot (fun j => s 139 (40 + 2 * j)) n) x i)), some (wp_i ((i : Int)))]) (st' := [wp_i (vt (fun j => s 139 (40 + 2 * j)) (tot (fun j => s 139 (40 + 2 * j)) n) x i + 2 ^ i)]) (h' := h) ji_297_77 rfl rfl (congrArg (fun z => (some (78, [some (.ref 138), some (wp_i x), some (wp_i (tot (fun j => s 139 (40 + 2 * j)) n)), some (wp_i (vt (fun j => s 139 (40 + 2 * j)) (tot (fun j => s 139 (40 + 2 * j)) n) x i)), some (wp_i ((i : Int)))], [Value.int z], h) : Option mj_S)) (bi_or9 hfl (by omega))) ?_
        refine wl_s (pc' := 79) (lv' := [some (.ref 138), some (wp_i x), some (wp_i (tot (fun j => s 139 (40 + 2 * j)) n)), some (wp_i (vt (fun j => s 139 (40 + 2 * j)) (tot (fun j => s 139 (40 + 2 * j)) n) x i + 2 ^ i)), some (wp_i ((i : Int)))]) ji_297_78 rfl rfl rfl ?_
        refine wl_iinc (x := (i : Int)) (z := (i : Int) + 1) (lv' := [some (.ref 138), some (wp_i x), some (wp_i (tot (fun j => s 139 (40 + 2 * j)) n)), some (wp_i (vt (fun j => s 139 (40 + 2 * j)) (tot (fun j => s 139 (40 + 2 * j)) n) x i + 2 ^ i)), some (wp_i ((i : Int) + 1))]) ji_297_79 rfl (Nat.le_of_ble_eq_true rfl) (by omega) rfl ?_
        refine wl_goto (t := 45) ji_297_82 rfl ?_
        rw [show (i : Int) + 1 = ((i + 1 : Nat) : Int) by omega]
        rw [show vt (fun j => s 139 (40 + 2 * j)) (tot (fun j => s 139 (40 + 2 * j)) n) x i + 2 ^ i = vt (fun j => s 139 (40 + 2 * j)) (tot (fun j => s 139 (40 + 2 * j)) n) x (i + 1) by show _ = vt (fun j => s 139 (40 + 2 * j)) (tot (fun j => s 139 (40 + 2 * j)) n) x i + _; rw [if_pos (by dsimp only; omega)]]
        exact ih (i + 1) (by omega)
theorem uc_297l {d : Nat} {h : mj_H} {s : sg_} (C : CS h s) {n : Nat} (hn : n ≤ 6) (en : s 139 1 = (n : Int)) (hg : ∀ j : Int, 0 ≤ j → j < n → 0 ≤ s 139 (40 + 2 * j) ∧ s 139 (40 + 2 * j) ≤ 9) {x : Int} (hx : wp_r x) : ∀ (nn i : Nat), i ≤ n → wl_R nn (d + 1) 297 16 [some (.ref 138), some (wp_i x), some (wp_i (tot (fun j => s 139 (40 + 2 * j)) i)), some (wp_i ((i : Int))), none] [] h (fun v1 h1 => h1 = h ∧ v1 = some (wp_i (vt (fun j => s 139 (40 + 2 * j)) (tot (fun j => s 139 (40 + 2 * j)) n) x n))) := by
  intro nn
  induction nn with
  | zero => intros; exact wl_0
  | succ nn ih =>
    intro i hi
    refine wl_s1 (pc' := 17) ji_297_16 rfl rfl rfl ?_
    refine wl_s (pc' := 18) ji_297_17 rfl rfl rfl ?_
    refine cs_gr (r := 139) (k := 0) C (by decide) sq_138 rfl ji_297_18 jf_297_7 ?_
    refine wl_s (pc' := 22) ji_297_21 rfl rfl rfl ?_
    refine cs_l (x := 1) C (by decide) (by decide) sq_139 (by omega) ji_297_22 (fun ld10 ld11 ld12 => ?_)
    rw [en] at ld12 ⊢
    refine wl_icmp (t := 40) ji_297_23 rfl (by omega) (by omega) (fun (hb2 : ((n : Int) : Int) ≤ ((i : Int))) => ?_) (fun (hb2 : ¬ (((n : Int) : Int) ≤ ((i : Int)))) => ?_)
    · refine wl_s (pc' := 41) ji_297_40 rfl rfl rfl ?_
      refine wl_s (pc' := 42) (lv' := [some (.ref 138), some (wp_i x), some (wp_i (tot (fun j => s 139 (40 + 2 * j)) i)), some (wp_i 0), none]) ji_297_41 rfl rfl rfl ?_
      refine wl_s (pc' := 43) ji_297_42 rfl rfl rfl ?_
      refine wl_s (pc' := 45) (lv' := [some (.ref 138), some (wp_i x), some (wp_i (tot (fun j => s 139 (40 + 2 * j)) i)), some (wp_i 0), some (wp_i 0)]) ji_297_43 rfl rfl rfl ?_
      rw [show i = n by omega]
      exact uc_297m C hn en hg hx nn 0 (by omega)
    · refine wl_s (pc' := 27) ji_297_26 rfl rfl rfl ?_
      refine wl_s (pc' := 28) ji_297_27 rfl rfl rfl ?_
      refine wl_s (pc' := 29) ji_297_28 rfl rfl rfl ?_
      obtain ⟨q4, hq4⟩ := cs_c C (by decide) sq_138
      refine wl_vc (d := d) (as := [.ref 138, wp_i ((i : Int))]) (rest := [wp_i (tot (fun j => s 139 (40 + 2 * j)) i)]) ji_297_29 jc_297_286 rfl hq4 jk_227.symm (Nat.le_of_ble_eq_true rfl) rfl (by rw [jn_227]; rfl) (uc_227 (d := d) C (w := (i : Int)) (by omega)) (fun v1 h3 R => ?_)
      obtain ⟨ee, rfl⟩ := R
      rw [ee]
      clear ee
      show wl_R _ _ 297 32 [some (.ref 138), some (wp_i x), some (wp_i (tot (fun j => s 139 (40 + 2 * j)) i)), some (wp_i ((i : Int))), none] [wp_i (s 139 (40 + 2 * ((i : Int)))), wp_i (tot (fun j => s 139 (40 + 2 * j)) i)] _ _
      refine wl_iadd (x := tot (fun j => s 139 (40 + 2 * j)) i) (y := s 139 (40 + 2 * ((i : Int)))) (z := tot (fun j => s 139 (40 + 2 * j)) i + (s 139 (40 + 2 * ((i : Int))))) ji_297_32 (by omega) ?_
      refine wl_s (pc' := 34) (lv' := [some (.ref 138), some (wp_i x), some (wp_i (tot (fun j => s 139 (40 + 2 * j)) i + (s 139 (40 + 2 * ((i : Int)))))), some (wp_i ((i : Int))), none]) ji_297_33 rfl rfl rfl ?_
      refine wl_iinc (x := (i : Int)) (z := (i : Int) + 1) (lv' := [some (.ref 138), some (wp_i x), some (wp_i (tot (fun j => s 139 (40 + 2 * j)) i + (s 139 (40 + 2 * ((i : Int)))))), some (wp_i ((i : Int) + 1)), none]) ji_297_34 rfl (Nat.le_of_ble_eq_true rfl) (by omega) rfl ?_
      refine wl_goto (t := 16) ji_297_37 rfl ?_
      rw [show (i : Int) + 1 = ((i + 1 : Nat) : Int) by omega]
      exact ih (i + 1) (by omega)
theorem uc_297 {nn d : Nat} {h : mj_H} {s : sg_} (C : CS h s) {n : Nat} (hn : n ≤ 6) (en : s 139 1 = (n : Int)) (hg : ∀ j : Int, 0 ≤ j → j < n → 0 ≤ s 139 (40 + 2 * j) ∧ s 139 (40 + 2 * j) ≤ 9) {x : Int} (hx : wp_r x) : wl_R nn (d + 1) 297 0 [some (.ref 138), some (wp_i x), none, none, none] [] h (fun v1 h1 => h1 = h ∧ v1 = some (wp_i (veR s x))) := by
  refine wl_s (pc' := 1) ji_297_0 rfl rfl rfl ?_
  refine wl_s (pc' := 2) ji_297_1 rfl rfl rfl ?_
  refine wl_bp ji_297_2 rfl ?_
  refine wl_sc (d := d) (as := [wp_i x, wp_i 1, wp_i 99]) (rest := []) ji_297_4 jc_297_66 (Nat.le_of_ble_eq_true rfl) rfl (Nat.le_of_ble_eq_true rfl) rfl (by rw [jn_171]; rfl) (uc_171 (d := d) (x := x) (a := 1) (b := 99) (by omega) (by omega) (by omega)) (fun v1 h1 R => ?_)
  obtain ⟨ee, y2, rfl, hy2a, hy2b⟩ := R
  rw [ee]
  clear ee
  show wl_R _ _ 297 7 [some (.ref 138), some (wp_i x), none, none, none] [wp_i y2] _ _
  refine wl_if (t := 12) ji_297_7 rfl (by omega) (fun (hb3 : ¬ (y2 : Int) = 0) => ?_) (fun (hb3 : ¬ (¬ (y2 : Int) = 0)) => ?_)
  · refine wl_s (pc' := 13) ji_297_12 rfl rfl rfl ?_
    refine wl_s (pc' := 14) (lv' := [some (.ref 138), some (wp_i x), some (wp_i 0), none, none]) ji_297_13 rfl rfl rfl ?_
    refine wl_s (pc' := 15) ji_297_14 rfl rfl rfl ?_
    refine wl_s (pc' := 16) (lv' := [some (.ref 138), some (wp_i x), some (wp_i 0), some (wp_i 0), none]) ji_297_15 rfl rfl rfl ?_
    exact wl_mono (uc_297l (d := d) C hn en hg hx nn 0 (by omega)) (fun v1 h1 R => ⟨R.1, R.2.trans (congrArg (fun z => some (wp_i z)) (by unfold veR; rw [if_pos (by omega), show (s 139 1).toNat = n by omega]))⟩)
  · refine wl_s (pc' := 11) ji_297_10 rfl rfl rfl ?_
    exact wl_ri ji_297_11 jr_297 rfl (⟨rfl, congrArg (fun z => some (wp_i z)) (by unfold veR; rw [if_neg (by omega)])⟩)
theorem eq_veto {tc : tcs} {tr : Int → crs} {s : sg_} {M : Int} (L : LAWS tc tr s M) {x : Int} : veR s x = veC s x := by
  have H := L.1.1.2.1
  have h1 : s 139 1 = s 48 1 := H.1.2
  have i1 : 0 ≤ s 48 1 ∧ s 48 1 ≤ 6 := L.1.1.1.1.1.2.1
  have e : ∀ j : Int, 0 ≤ j → j < ((s 48 1).toNat : Nat) → s 139 (40 + 2 * j) = s 52 j := fun j a b => (H.2.2.1 j (by omega)).1
  unfold veR veC
  rw [h1, tot_c (g := (fun j => s 139 (40 + 2 * j))) (k := (fun j => s 52 j)) _ e, vt_c (g := (fun j => s 139 (40 + 2 * j))) (k := (fun j => s 52 j)) _ e]
