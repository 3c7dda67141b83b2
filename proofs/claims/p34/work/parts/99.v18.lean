/-! -/
set_option maxRecDepth 100000 in
theorem ji_137_4 : mj_ins 137 4 = some (.iload_n 2) := by decide +kernel
set_option maxRecDepth 100000 in
theorem ji_137_5 : mj_ins 137 5 = some (.iload_n 0) := by decide +kernel
set_option maxRecDepth 100000 in
theorem ji_137_6 : mj_ins 137 6 = some (.if_icmp .gt 13) := by decide +kernel
set_option maxRecDepth 100000 in
theorem ji_137_19 : mj_ins 137 19 = some (.iload_n 1) := by decide +kernel
set_option maxRecDepth 100000 in
theorem ji_137_20 : mj_ins 137 20 = some (.ireturn) := by decide +kernel
set_option maxRecDepth 100000 in
theorem jr_137 : mj_ret 137 = some .int := by decide +kernel
set_option maxRecDepth 100000 in
theorem ji_137_9 : mj_ins 137 9 = some (.iload_n 1) := by decide +kernel
set_option maxRecDepth 100000 in
theorem ji_137_10 : mj_ins 137 10 = some (.iload_n 2) := by decide +kernel
set_option maxRecDepth 100000 in
theorem ji_137_11 : mj_ins 137 11 = some (.imul) := by decide +kernel
set_option maxRecDepth 100000 in
theorem ji_137_12 : mj_ins 137 12 = some (.istore_n 1) := by decide +kernel
set_option maxRecDepth 100000 in
theorem ji_137_13 : mj_ins 137 13 = some (.iinc 2 1) := by decide +kernel
set_option maxRecDepth 100000 in
theorem ji_137_16 : mj_ins 137 16 = some (.goto (-12)) := by decide +kernel
set_option maxRecDepth 100000 in
theorem ji_137_0 : mj_ins 137 0 = some (.iconst 1) := by decide +kernel
set_option maxRecDepth 100000 in
theorem ji_137_1 : mj_ins 137 1 = some (.istore_n 1) := by decide +kernel
set_option maxRecDepth 100000 in
theorem ji_137_2 : mj_ins 137 2 = some (.iconst 2) := by decide +kernel
set_option maxRecDepth 100000 in
theorem ji_137_3 : mj_ins 137 3 = some (.istore_n 2) := by decide +kernel
set_option maxRecDepth 100000 in
theorem ji_135_5 : mj_ins 135 5 = some (.iload 4) := by decide +kernel
set_option maxRecDepth 100000 in
theorem ji_135_7 : mj_ins 135 7 = some (.iconst 1) := by decide +kernel
set_option maxRecDepth 100000 in
theorem ji_135_8 : mj_ins 135 8 = some (.aload_n 0) := by decide +kernel
set_option maxRecDepth 100000 in
theorem ji_135_9 : mj_ins 135 9 = some (.getfield 21) := by decide +kernel
set_option maxRecDepth 100000 in
theorem jf_135_21 : mj_fld 135 21 = some (3, 1, .int, true) := by decide +kernel
set_option maxRecDepth 100000 in
theorem ji_135_12 : mj_ins 135 12 = some (.ishl) := by decide +kernel
set_option maxRecDepth 100000 in
theorem ji_135_13 : mj_ins 135 13 = some (.if_icmp .ge 77) := by decide +kernel
set_option maxRecDepth 100000 in
theorem ji_135_90 : mj_ins 135 90 = some (.iload_n 3) := by decide +kernel
set_option maxRecDepth 100000 in
theorem ji_135_91 : mj_ins 135 91 = some (.ireturn) := by decide +kernel
set_option maxRecDepth 100000 in
theorem jr_135 : mj_ret 135 = some .int := by decide +kernel
set_option maxRecDepth 100000 in
theorem ji_135_16 : mj_ins 135 16 = some (.iload 4) := by decide +kernel
set_option maxRecDepth 100000 in
theorem ji_135_18 : mj_ins 135 18 = some (.iload_n 1) := by decide +kernel
set_option maxRecDepth 100000 in
theorem ji_135_19 : mj_ins 135 19 = some (.ishr) := by decide +kernel
set_option maxRecDepth 100000 in
theorem ji_135_20 : mj_ins 135 20 = some (.iconst 1) := by decide +kernel
set_option maxRecDepth 100000 in
theorem ji_135_21 : mj_ins 135 21 = some (.iand) := by decide +kernel
set_option maxRecDepth 100000 in
theorem ji_135_22 : mj_ins 135 22 = some (.iconst 1) := by decide +kernel
set_option maxRecDepth 100000 in
theorem ji_135_23 : mj_ins 135 23 = some (.if_icmp .ne 6) := by decide +kernel
set_option maxRecDepth 100000 in
theorem ji_135_29 : mj_ins 135 29 = some (.aload_n 0) := by decide +kernel
set_option maxRecDepth 100000 in
theorem ji_135_30 : mj_ins 135 30 = some (.iload 4) := by decide +kernel
set_option maxRecDepth 100000 in
theorem ji_135_32 : mj_ins 135 32 = some (.invokestatic 38) := by decide +kernel
set_option maxRecDepth 100000 in
theorem jc_135_38 : mj_cal 135 38 = some (1, 136, 2) := by decide +kernel
set_option maxRecDepth 100000 in
theorem ji_135_35 : mj_ins 135 35 = some (.istore 5) := by decide +kernel
set_option maxRecDepth 100000 in
theorem ji_135_37 : mj_ins 135 37 = some (.iload 5) := by decide +kernel
set_option maxRecDepth 100000 in
theorem ji_135_39 : mj_ins 135 39 = some (.iload_n 2) := by decide +kernel
set_option maxRecDepth 100000 in
theorem ji_135_40 : mj_ins 135 40 = some (.if_icmp .ge 44) := by decide +kernel
set_option maxRecDepth 100000 in
theorem ji_135_84 : mj_ins 135 84 = some (.iinc 4 1) := by decide +kernel
set_option maxRecDepth 100000 in
theorem ji_135_87 : mj_ins 135 87 = some (.goto (-82)) := by decide +kernel
set_option maxRecDepth 100000 in
theorem ji_135_43 : mj_ins 135 43 = some (.iload 5) := by decide +kernel
set_option maxRecDepth 100000 in
theorem ji_135_45 : mj_ins 135 45 = some (.aload_n 0) := by decide +kernel
set_option maxRecDepth 100000 in
theorem ji_135_46 : mj_ins 135 46 = some (.getfield 35) := by decide +kernel
set_option maxRecDepth 100000 in
theorem jf_135_35 : mj_fld 135 35 = some (3, 5, (.array .int), false) := by decide +kernel
set_option maxRecDepth 100000 in
theorem ji_135_49 : mj_ins 135 49 = some (.iload_n 1) := by decide +kernel
set_option maxRecDepth 100000 in
theorem ji_135_50 : mj_ins 135 50 = some (.iaload) := by decide +kernel
set_option maxRecDepth 100000 in
theorem ji_135_51 : mj_ins 135 51 = some (.iadd) := by decide +kernel
set_option maxRecDepth 100000 in
theorem ji_135_52 : mj_ins 135 52 = some (.iload_n 2) := by decide +kernel
set_option maxRecDepth 100000 in
theorem ji_135_53 : mj_ins 135 53 = some (.if_icmp .lt 31) := by decide +kernel
set_option maxRecDepth 100000 in
theorem ji_135_56 : mj_ins 135 56 = some (.iload 4) := by decide +kernel
set_option maxRecDepth 100000 in
theorem ji_135_58 : mj_ins 135 58 = some (.invokestatic 9) := by decide +kernel
set_option maxRecDepth 100000 in
theorem jc_135_9 : mj_cal 135 9 = some (1, 70, 1) := by decide +kernel
set_option maxRecDepth 100000 in
theorem ji_135_61 : mj_ins 135 61 = some (.istore 6) := by decide +kernel
set_option maxRecDepth 100000 in
theorem ji_135_63 : mj_ins 135 63 = some (.iload_n 3) := by decide +kernel
set_option maxRecDepth 100000 in
theorem ji_135_64 : mj_ins 135 64 = some (.iload 6) := by decide +kernel
set_option maxRecDepth 100000 in
theorem ji_135_66 : mj_ins 135 66 = some (.invokestatic 42) := by decide +kernel
set_option maxRecDepth 100000 in
theorem jc_135_42 : mj_cal 135 42 = some (1, 137, 1) := by decide +kernel
set_option maxRecDepth 100000 in
theorem jn_137 : mj_nl 137 = 3 := by decide +kernel
set_option maxRecDepth 100000 in
theorem ji_135_69 : mj_ins 135 69 = some (.aload_n 0) := by decide +kernel
set_option maxRecDepth 100000 in
theorem ji_135_70 : mj_ins 135 70 = some (.getfield 21) := by decide +kernel
set_option maxRecDepth 100000 in
theorem ji_135_73 : mj_ins 135 73 = some (.iconst 1) := by decide +kernel
set_option maxRecDepth 100000 in
theorem ji_135_74 : mj_ins 135 74 = some (.isub) := by decide +kernel
set_option maxRecDepth 100000 in
theorem ji_135_75 : mj_ins 135 75 = some (.iload 6) := by decide +kernel
set_option maxRecDepth 100000 in
theorem ji_135_77 : mj_ins 135 77 = some (.isub) := by decide +kernel
set_option maxRecDepth 100000 in
theorem ji_135_78 : mj_ins 135 78 = some (.invokestatic 42) := by decide +kernel
set_option maxRecDepth 100000 in
theorem ji_135_81 : mj_ins 135 81 = some (.imul) := by decide +kernel
set_option maxRecDepth 100000 in
theorem ji_135_82 : mj_ins 135 82 = some (.iadd) := by decide +kernel
set_option maxRecDepth 100000 in
theorem ji_135_83 : mj_ins 135 83 = some (.istore_n 3) := by decide +kernel
set_option maxRecDepth 100000 in
theorem ji_135_26 : mj_ins 135 26 = some (.goto 58) := by decide +kernel
set_option maxRecDepth 100000 in
theorem ji_135_0 : mj_ins 135 0 = some (.iconst 0) := by decide +kernel
set_option maxRecDepth 100000 in
theorem ji_135_1 : mj_ins 135 1 = some (.istore_n 3) := by decide +kernel
set_option maxRecDepth 100000 in
theorem ji_135_2 : mj_ins 135 2 = some (.iconst 0) := by decide +kernel
set_option maxRecDepth 100000 in
theorem ji_135_3 : mj_ins 135 3 = some (.istore 4) := by decide +kernel
/-! in how many orders one decides, in the class; laid by program (wp_v18.py) -/
def fct : Nat → Int
  | 0 => 1
  | n + 1 => fct n * ((n : Int) + 1)
/-- a set of the others by which one gets to q: so many orders -/
def deT (g : Int → Int) (n : Nat) (q : Int) (w : Nat) (b : Int) : Int := if b / 2 ^ w % 2 = 1 then 0 else if hdM g b n < q ∧ q ≤ hdM g b n + g (w : Int) then fct (bcn b).toNat * fct ((n : Int) - 1 - bcn b).toNat else 0
theorem bc_6 : ∀ n : Fin 7, ∀ b : Fin 64, b.val < 2 ^ n.val → 0 ≤ bcn b.val ∧ bcn b.val ≤ n.val := by decide +kernel
theorem bc_62 {n N b : Nat} (hn : n ≤ 6) (hN : 2 ^ n = N) (hb : b < N) : 0 ≤ bcn (b : Int) ∧ bcn (b : Int) ≤ (n : Int) := by
  have h6 : (2 : Nat) ^ n ≤ 2 ^ 6 := Nat.pow_le_pow_right (by decide) hn
  have h6 : 2 ^ n ≤ 64 := h6
  exact bc_6 ⟨n, by omega⟩ ⟨b, by omega⟩ (by show b < 2 ^ n; omega)
theorem uc_137l {d : Nat} {h : mj_H} {x : Int} (hx : -9 ≤ x ∧ x ≤ 9) : ∀ (nn j : Nat), ((j : Int) + 1 ≤ x ∨ j = 0) → wl_R nn d 137 4 [some (wp_i x), some (wp_i (fct (j + 1))), some (wp_i ((j : Int) + 2))] [] h (fun v1 h1 => h1 = h ∧ v1 = some (wp_i (fct x.toNat))) := by
  intro nn
  induction nn with
  | zero => intros; exact wl_0
  | succ nn ih =>
    intro j hj
    refine wl_s1 (pc' := 5) ji_137_4 rfl rfl rfl ?_
    refine wl_s (pc' := 6) ji_137_5 rfl rfl rfl ?_
    refine wl_icmp (t := 19) ji_137_6 rfl (by omega) (by omega) (fun (hb1 : (x : Int) < ((j : Int) + 2)) => ?_) (fun (hb1 : ¬ ((x : Int) < ((j : Int) + 2))) => ?_)
    · refine wl_s (pc' := 20) ji_137_19 rfl rfl rfl ?_
      exact wl_ri ji_137_20 jr_137 rfl (⟨rfl, by rcases hj with q | q; rw [show x.toNat = j + 1 by omega]; by_cases c : 1 ≤ x; rw [show x.toNat = j + 1 by omega]; rw [show x.toNat = 0 by omega, q]; rfl⟩)
    · refine wl_s (pc' := 10) ji_137_9 rfl rfl rfl ?_
      refine wl_s (pc' := 11) ji_137_10 rfl rfl rfl ?_
      refine wl_imul (x := fct (j + 1)) (y := (j : Int) + 2) (z := (fct (j + 1)) * ((j : Int) + 2)) ji_137_11 rfl ?_
      refine wl_s (pc' := 13) (lv' := [some (wp_i x), some (wp_i ((fct (j + 1)) * ((j : Int) + 2))), some (wp_i ((j : Int) + 2))]) ji_137_12 rfl rfl rfl ?_
      refine wl_iinc (x := (j : Int) + 2) (z := (j : Int) + 2 + 1) (lv' := [some (wp_i x), some (wp_i ((fct (j + 1)) * ((j : Int) + 2))), some (wp_i ((j : Int) + 2 + 1))]) ji_137_13 rfl (Nat.le_of_ble_eq_true rfl) (by omega) rfl ?_
      refine wl_goto (t := 4) ji_137_16 rfl ?_
      rw [show (fct (j + 1)) * ((j : Int) + 2) = fct (j + 1 + 1) by show _ = fct (j + 1) * (((j + 1 : Nat) : Int) + 1); rw [show ((j + 1 : Nat) : Int) + 1 = (j : Int) + 2 by omega], show (j : Int) + 2 + 1 = ((j + 1 : Nat) : Int) + 2 by omega]
      exact ih (j + 1) (by omega)
theorem uc_137 {nn d : Nat} {h : mj_H} {x : Int} (hx : -9 ≤ x ∧ x ≤ 9) : wl_R nn d 137 0 [some (wp_i x), none, none] [] h (fun v1 h1 => h1 = h ∧ v1 = some (wp_i (fct x.toNat))) := by
  refine wl_s (pc' := 1) ji_137_0 rfl rfl rfl ?_
  refine wl_s (pc' := 2) (lv' := [some (wp_i x), some (wp_i 1), none]) ji_137_1 rfl rfl rfl ?_
  refine wl_s (pc' := 3) ji_137_2 rfl rfl rfl ?_
  refine wl_s (pc' := 4) (lv' := [some (wp_i x), some (wp_i 1), some (wp_i 2)]) ji_137_3 rfl rfl rfl ?_
  exact uc_137l hx nn 0 (Or.inr rfl)
theorem mk_pc : ∀ n : Nat, (((2 ^ n : Nat)) : Int) = (2 : Int) ^ n
  | 0 => rfl
  | n + 1 => by
    rw [Nat.pow_succ, Int.pow_succ, ← mk_pc n]
    omega
theorem uc_135l {d : Nat} {h : mj_H} {s : sg_} (C : CS h s) {n N : Nat} (hn : n ≤ 6) (hN : 2 ^ n = N) (en : s 48 1 = (n : Int)) (hg : ∀ j : Int, 0 ≤ j → j < n → 0 ≤ s 52 j ∧ s 52 j ≤ 9) {q : Int} (hq : wp_r q) {w : Nat} (hw : w < n) : ∀ (nn b : Nat) (l5 l6 : Option Value), b ≤ N → wl_R nn (d + 1) 135 5 [some (.ref 48), some (wp_i ((w : Int))), some (wp_i q), some (wp_i (tot (deT (fun j => s 52 j) n q w) b)), some (wp_i ((b : Int))), l5, l6] [] h (fun v1 h1 => h1 = h ∧ v1 = some (wp_i (tot (deT (fun j => s 52 j) n q w) N))) := by
  intro nn
  induction nn with
  | zero => intros; exact wl_0
  | succ nn ih =>
    intro b l5 l6 hb
    have N6 : N ≤ 64 := by
      have h6 : (2 : Nat) ^ n ≤ 2 ^ 6 := Nat.pow_le_pow_right (by decide) hn
      have h6 : 2 ^ n ≤ 64 := h6
      omega
    refine wl_s1 (pc' := 7) ji_135_5 rfl rfl rfl ?_
    refine wl_s (pc' := 8) ji_135_7 rfl rfl rfl ?_
    refine wl_s (pc' := 9) ji_135_8 rfl rfl rfl ?_
    refine cs_gi (k := 1) (kI := 1) C (by decide) (by decide) sq_48 rfl rfl ji_135_9 jf_135_21 ?_
    have bd1 : wp_r (s 48 1) := cs_ri (k := 1) (kI := 1) C (by decide) (by decide) sq_48 rfl rfl (show 1 < 13 by decide)
    refine wl_s (pc' := 13) (lv' := [some (.ref 48), some (wp_i ((w : Int))), some (wp_i q), some (wp_i (tot (deT (fun j => s 52 j) n q w) b)), some (wp_i ((b : Int))), l5, l6]) (st' := [wp_i ((N : Int)), wp_i ((b : Int))]) (h' := h) ji_135_12 rfl rfl (congrArg (fun z => (some (13, [some (.ref 48), some (wp_i ((w : Int))), some (wp_i q), some (wp_i (tot (deT (fun j => s 52 j) n q w) b)), some (wp_i ((b : Int))), l5, l6], [Value.int z, wp_i ((b : Int))], h) : Option mj_S)) (show Int32.ofInt 1 <<< (Int32.ofInt (s 48 1) &&& 31) = Int32.ofInt (N : Int) by rw [en, ← hN]; exact (mk_sh ⟨n, by omega⟩).trans (congrArg Int32.ofInt (mk_pc n).symm))) ?_
    refine wl_icmp (t := 90) ji_135_13 rfl (by omega) (by omega) (fun (hb2 : ((N : Int) : Int) ≤ ((b : Int))) => ?_) (fun (hb2 : ¬ (((N : Int) : Int) ≤ ((b : Int)))) => ?_)
    · refine wl_s (pc' := 91) ji_135_90 rfl rfl rfl ?_
      exact wl_ri ji_135_91 jr_135 rfl (⟨rfl, by rw [show b = N by omega]⟩)
    · refine wl_s (pc' := 18) ji_135_16 rfl rfl rfl ?_
      refine wl_s (pc' := 19) ji_135_18 rfl rfl rfl ?_
      refine wl_s (pc' := 20) (st' := [.int (Int32.ofInt (b : Int) >>> (Int32.ofInt (w : Int) &&& 31))]) ji_135_19 rfl rfl rfl ?_
      refine wl_s (pc' := 21) ji_135_20 rfl rfl rfl ?_
      refine wl_s (pc' := 22) (lv' := [some (.ref 48), some (wp_i ((w : Int))), some (wp_i q), some (wp_i (tot (deT (fun j => s 52 j) n q w) b)), some (wp_i ((b : Int))), l5, l6]) (st' := [wp_i ((b : Int) / 2 ^ w % 2)]) (h' := h) ji_135_21 rfl rfl (congrArg (fun z => (some (22, [some (.ref 48), some (wp_i ((w : Int))), some (wp_i q), some (wp_i (tot (deT (fun j => s 52 j) n q w) b)), some (wp_i ((b : Int))), l5, l6], [Value.int z], h) : Option mj_S)) (sb_i (x := (b : Int)) ⟨by omega, by omega⟩ w (by omega))) ?_
      have rb3 : wp_r ((b : Int) / 2 ^ w % 2) := by omega
      refine wl_s (pc' := 23) ji_135_22 rfl rfl rfl ?_
      refine wl_icmp (t := 29) ji_135_23 rfl (by omega) (by omega) (fun (hb4 : ¬ ((b : Int) / 2 ^ w % 2 : Int) = 1) => ?_) (fun (hb4 : ¬ (¬ ((b : Int) / 2 ^ w % 2 : Int) = 1)) => ?_)
      · refine wl_s (pc' := 30) ji_135_29 rfl rfl rfl ?_
        refine wl_s (pc' := 32) ji_135_30 rfl rfl rfl ?_
        refine wl_sc (d := d) (as := [.ref 48, wp_i ((b : Int))]) (rest := []) ji_135_32 jc_135_38 (Nat.le_of_ble_eq_true rfl) rfl (Nat.le_of_ble_eq_true rfl) rfl (by rw [jn_136]; rfl) (uc_136 (d := d) C (by omega) (m := (b : Int)) (by omega)) (fun v1 h5 R => ?_)
        obtain ⟨ee, rfl⟩ := R
        rw [ee, show (s 48 1).toNat = n by omega]
        clear ee
        have hb1 := hdM_b (g := (fun j => s 52 j)) (m := (b : Int)) n hg
        show wl_R _ _ 135 35 [some (.ref 48), some (wp_i ((w : Int))), some (wp_i q), some (wp_i (tot (deT (fun j => s 52 j) n q w) b)), some (wp_i ((b : Int))), l5, l6] [wp_i (hdM (fun j => s 52 j) (b : Int) n)] _ _
        refine wl_s (pc' := 37) (lv' := [some (.ref 48), some (wp_i ((w : Int))), some (wp_i q), some (wp_i (tot (deT (fun j => s 52 j) n q w) b)), some (wp_i ((b : Int))), some (wp_i (hdM (fun j => s 52 j) (b : Int) n)), l6]) ji_135_35 rfl rfl rfl ?_
        refine wl_s (pc' := 39) ji_135_37 rfl rfl rfl ?_
        refine wl_s (pc' := 40) ji_135_39 rfl rfl rfl ?_
        refine wl_icmp (t := 84) ji_135_40 rfl (by omega) (by omega) (fun (hb6 : (q : Int) ≤ (hdM (fun j => s 52 j) (b : Int) n)) => ?_) (fun (hb6 : ¬ ((q : Int) ≤ (hdM (fun j => s 52 j) (b : Int) n))) => ?_)
        · refine wl_iinc (x := (b : Int)) (z := (b : Int) + 1) (lv' := [some (.ref 48), some (wp_i ((w : Int))), some (wp_i q), some (wp_i (tot (deT (fun j => s 52 j) n q w) b)), some (wp_i ((b : Int) + 1)), some (wp_i (hdM (fun j => s 52 j) (b : Int) n)), l6]) ji_135_84 rfl (Nat.le_of_ble_eq_true rfl) (by omega) rfl ?_
          refine wl_goto (t := 5) ji_135_87 rfl ?_
          have ed : deT (fun j => s 52 j) n q w (b : Int) = 0 := (if_neg (show ¬ (b : Int) / 2 ^ w % 2 = 1 by omega)).trans (if_neg (show ¬ (hdM (fun j => s 52 j) (b : Int) n < q ∧ q ≤ hdM (fun j => s 52 j) (b : Int) n + s 52 (w : Int)) by omega))
          rw [show (b : Int) + 1 = ((b + 1 : Nat) : Int) by omega, show tot (deT (fun j => s 52 j) n q w) b = tot (deT (fun j => s 52 j) n q w) (b + 1) by show _ = _ + deT (fun j => s 52 j) n q w (b : Int); rw [ed]; exact (Int.add_zero _).symm]
          exact ih (b + 1) _ _ (by omega)
        · refine wl_s (pc' := 45) ji_135_43 rfl rfl rfl ?_
          refine wl_s (pc' := 46) ji_135_45 rfl rfl rfl ?_
          refine cs_gr (r := 52) (k := 5) C (by decide) sq_48 rfl ji_135_46 jf_135_35 ?_
          refine wl_s (pc' := 50) ji_135_49 rfl rfl rfl ?_
          refine cs_l (x := (w : Int)) C (by decide) (by decide) sq_52 (by omega) ji_135_50 (fun ld70 ld71 ld72 => ?_)
          have bd8 := hg ((w : Int)) (by omega) (by omega)
          refine wl_iadd (x := hdM (fun j => s 52 j) (b : Int) n) (y := s 52 ((w : Int))) (z := hdM (fun j => s 52 j) (b : Int) n + (s 52 ((w : Int)))) ji_135_51 (by omega) ?_
          refine wl_s (pc' := 53) ji_135_52 rfl rfl rfl ?_
          refine wl_icmp (t := 84) ji_135_53 rfl (by omega) (by omega) (fun (hb9 : (hdM (fun j => s 52 j) (b : Int) n + (s 52 ((w : Int))) : Int) < q) => ?_) (fun (hb9 : ¬ ((hdM (fun j => s 52 j) (b : Int) n + (s 52 ((w : Int))) : Int) < q)) => ?_)
          · refine wl_iinc (x := (b : Int)) (z := (b : Int) + 1) (lv' := [some (.ref 48), some (wp_i ((w : Int))), some (wp_i q), some (wp_i (tot (deT (fun j => s 52 j) n q w) b)), some (wp_i ((b : Int) + 1)), some (wp_i (hdM (fun j => s 52 j) (b : Int) n)), l6]) ji_135_84 rfl (Nat.le_of_ble_eq_true rfl) (by omega) rfl ?_
            refine wl_goto (t := 5) ji_135_87 rfl ?_
            have ed : deT (fun j => s 52 j) n q w (b : Int) = 0 := (if_neg (show ¬ (b : Int) / 2 ^ w % 2 = 1 by omega)).trans (if_neg (show ¬ (hdM (fun j => s 52 j) (b : Int) n < q ∧ q ≤ hdM (fun j => s 52 j) (b : Int) n + s 52 (w : Int)) by omega))
            rw [show (b : Int) + 1 = ((b + 1 : Nat) : Int) by omega, show tot (deT (fun j => s 52 j) n q w) b = tot (deT (fun j => s 52 j) n q w) (b + 1) by show _ = _ + deT (fun j => s 52 j) n q w (b : Int); rw [ed]; exact (Int.add_zero _).symm]
            exact ih (b + 1) _ _ (by omega)
          · refine wl_s (pc' := 58) ji_135_56 rfl rfl rfl ?_
            refine wl_sc (d := d) (as := [wp_i ((b : Int))]) (rest := []) ji_135_58 jc_135_9 (Nat.le_of_ble_eq_true rfl) rfl (Nat.le_of_ble_eq_true rfl) rfl (by rw [jn_70]; rfl) (uc_70 (d := d) (x := (b : Int)) (by omega)) (fun v1 h10 R => ?_)
            obtain ⟨ee, rfl⟩ := R
            rw [ee]
            clear ee
            have hbc := bc_62 hn hN (b := b) (by omega)
            show wl_R _ _ 135 61 [some (.ref 48), some (wp_i ((w : Int))), some (wp_i q), some (wp_i (tot (deT (fun j => s 52 j) n q w) b)), some (wp_i ((b : Int))), some (wp_i (hdM (fun j => s 52 j) (b : Int) n)), l6] [wp_i (bcn (b : Int))] _ _
            refine wl_s (pc' := 63) (lv' := [some (.ref 48), some (wp_i ((w : Int))), some (wp_i q), some (wp_i (tot (deT (fun j => s 52 j) n q w) b)), some (wp_i ((b : Int))), some (wp_i (hdM (fun j => s 52 j) (b : Int) n)), some (wp_i (bcn (b : Int)))]) ji_135_61 rfl rfl rfl ?_
            refine wl_s (pc' := 64) ji_135_63 rfl rfl rfl ?_
            refine wl_s (pc' := 66) ji_135_64 rfl rfl rfl ?_
            refine wl_sc (d := d) (as := [wp_i (bcn (b : Int))]) (rest := [wp_i (tot (deT (fun j => s 52 j) n q w) b)]) ji_135_66 jc_135_42 (Nat.le_of_ble_eq_true rfl) rfl (Nat.le_of_ble_eq_true rfl) rfl (by rw [jn_137]; rfl) (uc_137 (d := d) (x := bcn (b : Int)) (by omega)) (fun v1 h11 R => ?_)
            obtain ⟨ee, rfl⟩ := R
            rw [ee]
            clear ee
            show wl_R _ _ 135 69 [some (.ref 48), some (wp_i ((w : Int))), some (wp_i q), some (wp_i (tot (deT (fun j => s 52 j) n q w) b)), some (wp_i ((b : Int))), some (wp_i (hdM (fun j => s 52 j) (b : Int) n)), some (wp_i (bcn (b : Int)))] [wp_i (fct (bcn (b : Int)).toNat), wp_i (tot (deT (fun j => s 52 j) n q w) b)] _ _
            refine wl_s (pc' := 70) ji_135_69 rfl rfl rfl ?_
            refine cs_gi (k := 1) (kI := 1) C (by decide) (by decide) sq_48 rfl rfl ji_135_70 jf_135_21 ?_
            refine wl_s (pc' := 74) ji_135_73 rfl rfl rfl ?_
            refine wl_isub (x := s 48 1) (y := 1) (z := s 48 1 - 1) ji_135_74 (by omega) ?_
            refine wl_s (pc' := 77) ji_135_75 rfl rfl rfl ?_
            refine wl_isub (x := s 48 1 - 1) (y := bcn (b : Int)) (z := s 48 1 - 1 - (bcn (b : Int))) ji_135_77 (by omega) ?_
            refine wl_sc (d := d) (as := [wp_i (s 48 1 - 1 - (bcn (b : Int)))]) (rest := [wp_i (fct (bcn (b : Int)).toNat), wp_i (tot (deT (fun j => s 52 j) n q w) b)]) ji_135_78 jc_135_42 (Nat.le_of_ble_eq_true rfl) rfl (Nat.le_of_ble_eq_true rfl) rfl (by rw [jn_137]; rfl) (uc_137 (d := d) (x := s 48 1 - 1 - (bcn (b : Int))) (by omega)) (fun v1 h12 R => ?_)
            obtain ⟨ee, rfl⟩ := R
            rw [ee, en]
            clear ee
            show wl_R _ _ 135 81 [some (.ref 48), some (wp_i ((w : Int))), some (wp_i q), some (wp_i (tot (deT (fun j => s 52 j) n q w) b)), some (wp_i ((b : Int))), some (wp_i (hdM (fun j => s 52 j) (b : Int) n)), some (wp_i (bcn (b : Int)))] [wp_i (fct ((n : Int) - 1 - (bcn (b : Int))).toNat), wp_i (fct (bcn (b : Int)).toNat), wp_i (tot (deT (fun j => s 52 j) n q w) b)] _ _
            refine wl_imul (x := fct (bcn (b : Int)).toNat) (y := fct ((n : Int) - 1 - (bcn (b : Int))).toNat) (z := (fct (bcn (b : Int)).toNat) * (fct ((n : Int) - 1 - (bcn (b : Int))).toNat)) ji_135_81 rfl ?_
            refine wl_iadd (x := tot (deT (fun j => s 52 j) n q w) b) (y := (fct (bcn (b : Int)).toNat) * (fct ((n : Int) - 1 - (bcn (b : Int))).toNat)) (z := tot (deT (fun j => s 52 j) n q w) b + ((fct (bcn (b : Int)).toNat) * (fct ((n : Int) - 1 - (bcn (b : Int))).toNat))) ji_135_82 (by omega) ?_
            refine wl_s (pc' := 84) (lv' := [some (.ref 48), some (wp_i ((w : Int))), some (wp_i q), some (wp_i (tot (deT (fun j => s 52 j) n q w) b + ((fct (bcn (b : Int)).toNat) * (fct ((n : Int) - 1 - (bcn (b : Int))).toNat)))), some (wp_i ((b : Int))), some (wp_i (hdM (fun j => s 52 j) (b : Int) n)), some (wp_i (bcn (b : Int)))]) ji_135_83 rfl rfl rfl ?_
            refine wl_iinc (x := (b : Int)) (z := (b : Int) + 1) (lv' := [some (.ref 48), some (wp_i ((w : Int))), some (wp_i q), some (wp_i (tot (deT (fun j => s 52 j) n q w) b + ((fct (bcn (b : Int)).toNat) * (fct ((n : Int) - 1 - (bcn (b : Int))).toNat)))), some (wp_i ((b : Int) + 1)), some (wp_i (hdM (fun j => s 52 j) (b : Int) n)), some (wp_i (bcn (b : Int)))]) ji_135_84 rfl (Nat.le_of_ble_eq_true rfl) (by omega) rfl ?_
            refine wl_goto (t := 5) ji_135_87 rfl ?_
            have ed : deT (fun j => s 52 j) n q w (b : Int) = fct (bcn (b : Int)).toNat * fct ((n : Int) - 1 - bcn (b : Int)).toNat := (if_neg (show ¬ (b : Int) / 2 ^ w % 2 = 1 by omega)).trans (if_pos (show (hdM (fun j => s 52 j) (b : Int) n < q ∧ q ≤ hdM (fun j => s 52 j) (b : Int) n + s 52 (w : Int)) by omega))
            rw [show (b : Int) + 1 = ((b + 1 : Nat) : Int) by omega, show tot (deT (fun j => s 52 j) n q w) b + ((fct (bcn (b : Int)).toNat) * (fct ((n : Int) - 1 - (bcn (b : Int))).toNat)) = tot (deT (fun j => s 52 j) n q w) (b + 1) by show _ = _ + deT (fun j => s 52 j) n q w (b : Int); rw [ed]]
            exact ih (b + 1) _ _ (by omega)
      · refine wl_goto (t := 84) ji_135_26 rfl ?_
        refine wl_iinc (x := (b : Int)) (z := (b : Int) + 1) (lv' := [some (.ref 48), some (wp_i ((w : Int))), some (wp_i q), some (wp_i (tot (deT (fun j => s 52 j) n q w) b)), some (wp_i ((b : Int) + 1)), l5, l6]) ji_135_84 rfl (Nat.le_of_ble_eq_true rfl) (by omega) rfl ?_
        refine wl_goto (t := 5) ji_135_87 rfl ?_
        have ed : deT (fun j => s 52 j) n q w (b : Int) = 0 := if_pos (show (b : Int) / 2 ^ w % 2 = 1 by omega)
        rw [show (b : Int) + 1 = ((b + 1 : Nat) : Int) by omega, show tot (deT (fun j => s 52 j) n q w) b = tot (deT (fun j => s 52 j) n q w) (b + 1) by show _ = _ + deT (fun j => s 52 j) n q w (b : Int); rw [ed]; exact (Int.add_zero _).symm]
        exact ih (b + 1) _ _ (by omega)
theorem uc_135 {nn d : Nat} {h : mj_H} {s : sg_} (C : CS h s) {n N : Nat} (hn : n ≤ 6) (hN : 2 ^ n = N) (en : s 48 1 = (n : Int)) (hg : ∀ j : Int, 0 ≤ j → j < n → 0 ≤ s 52 j ∧ s 52 j ≤ 9) {q : Int} (hq : wp_r q) {w : Nat} (hw : w < n) : wl_R nn (d + 1) 135 0 [some (.ref 48), some (wp_i ((w : Int))), some (wp_i q), none, none, none, none] [] h (fun v1 h1 => h1 = h ∧ v1 = some (wp_i (tot (deT (fun j => s 52 j) n q w) N))) := by
  refine wl_s (pc' := 1) ji_135_0 rfl rfl rfl ?_
  refine wl_s (pc' := 2) (lv' := [some (.ref 48), some (wp_i ((w : Int))), some (wp_i q), some (wp_i 0), none, none, none]) ji_135_1 rfl rfl rfl ?_
  refine wl_s (pc' := 3) ji_135_2 rfl rfl rfl ?_
  refine wl_s (pc' := 5) (lv' := [some (.ref 48), some (wp_i ((w : Int))), some (wp_i q), some (wp_i 0), some (wp_i 0), none, none]) ji_135_3 rfl rfl rfl ?_
  exact uc_135l C hn hN en hg hq hw nn 0 none none (by omega)
