/-! -/
set_option maxRecDepth 100000 in
theorem ji_136_4 : mj_ins 136 4 = some (.iload_n 3) := by decide +kernel
set_option maxRecDepth 100000 in
theorem ji_136_5 : mj_ins 136 5 = some (.aload_n 0) := by decide +kernel
set_option maxRecDepth 100000 in
theorem ji_136_6 : mj_ins 136 6 = some (.getfield 21) := by decide +kernel
set_option maxRecDepth 100000 in
theorem jf_136_21 : mj_fld 136 21 = some (3, 1, .int, true) := by decide +kernel
set_option maxRecDepth 100000 in
theorem ji_136_9 : mj_ins 136 9 = some (.if_icmp .ge 27) := by decide +kernel
set_option maxRecDepth 100000 in
theorem ji_136_36 : mj_ins 136 36 = some (.iload_n 2) := by decide +kernel
set_option maxRecDepth 100000 in
theorem ji_136_37 : mj_ins 136 37 = some (.ireturn) := by decide +kernel
set_option maxRecDepth 100000 in
theorem jr_136 : mj_ret 136 = some .int := by decide +kernel
set_option maxRecDepth 100000 in
theorem ji_136_12 : mj_ins 136 12 = some (.iload_n 1) := by decide +kernel
set_option maxRecDepth 100000 in
theorem ji_136_13 : mj_ins 136 13 = some (.iload_n 3) := by decide +kernel
set_option maxRecDepth 100000 in
theorem ji_136_14 : mj_ins 136 14 = some (.ishr) := by decide +kernel
set_option maxRecDepth 100000 in
theorem ji_136_15 : mj_ins 136 15 = some (.iconst 1) := by decide +kernel
set_option maxRecDepth 100000 in
theorem ji_136_16 : mj_ins 136 16 = some (.iand) := by decide +kernel
set_option maxRecDepth 100000 in
theorem ji_136_17 : mj_ins 136 17 = some (.iconst 1) := by decide +kernel
set_option maxRecDepth 100000 in
theorem ji_136_18 : mj_ins 136 18 = some (.if_icmp .ne 12) := by decide +kernel
set_option maxRecDepth 100000 in
theorem ji_136_30 : mj_ins 136 30 = some (.iinc 3 1) := by decide +kernel
set_option maxRecDepth 100000 in
theorem ji_136_33 : mj_ins 136 33 = some (.goto (-29)) := by decide +kernel
set_option maxRecDepth 100000 in
theorem ji_136_21 : mj_ins 136 21 = some (.iload_n 2) := by decide +kernel
set_option maxRecDepth 100000 in
theorem ji_136_22 : mj_ins 136 22 = some (.aload_n 0) := by decide +kernel
set_option maxRecDepth 100000 in
theorem ji_136_23 : mj_ins 136 23 = some (.getfield 35) := by decide +kernel
set_option maxRecDepth 100000 in
theorem jf_136_35 : mj_fld 136 35 = some (3, 5, (.array .int), false) := by decide +kernel
set_option maxRecDepth 100000 in
theorem ji_136_26 : mj_ins 136 26 = some (.iload_n 3) := by decide +kernel
set_option maxRecDepth 100000 in
theorem ji_136_27 : mj_ins 136 27 = some (.iaload) := by decide +kernel
set_option maxRecDepth 100000 in
theorem ji_136_28 : mj_ins 136 28 = some (.iadd) := by decide +kernel
set_option maxRecDepth 100000 in
theorem ji_136_29 : mj_ins 136 29 = some (.istore_n 2) := by decide +kernel
set_option maxRecDepth 100000 in
theorem ji_136_0 : mj_ins 136 0 = some (.iconst 0) := by decide +kernel
set_option maxRecDepth 100000 in
theorem ji_136_1 : mj_ins 136 1 = some (.istore_n 2) := by decide +kernel
set_option maxRecDepth 100000 in
theorem ji_136_2 : mj_ins 136 2 = some (.iconst 0) := by decide +kernel
set_option maxRecDepth 100000 in
theorem ji_136_3 : mj_ins 136 3 = some (.istore_n 3) := by decide +kernel
/-! veto, in both; laid by program (wp_u87.py) -/
/-- hands of those of a set of the first n -/
def hdM (g : Int → Int) (m : Int) : Nat → Int
  | 0 => 0
  | n + 1 => hdM g m n + (if m / 2 ^ n % 2 = 1 then g (n : Int) else 0)
def tot (g : Int → Int) : Nat → Int
  | 0 => 0
  | n + 1 => tot g n + g (n : Int)
theorem tot_c {g k : Int → Int} : ∀ n : Nat, (∀ j : Int, 0 ≤ j → j < n → g j = k j) → tot g n = tot k n
  | 0, _ => rfl
  | n + 1, h => by
    show tot g n + g (n : Int) = tot k n + k (n : Int)
    rw [tot_c n (fun j a b => h j a (by omega)), h n (by omega) (by omega)]
theorem tot_b {g : Int → Int} : ∀ n : Nat, (∀ j : Int, 0 ≤ j → j < n → 0 ≤ g j ∧ g j ≤ 9) → 0 ≤ tot g n ∧ tot g n ≤ 9 * (n : Int)
  | 0, _ => by show (0 : Int) ≤ 0 ∧ (0 : Int) ≤ 9 * 0; decide
  | n + 1, h => by
    have a := tot_b n (fun j a b => h j a (by omega))
    have b := h n (by omega) (by omega)
    show 0 ≤ tot g n + g (n : Int) ∧ tot g n + g (n : Int) ≤ 9 * ((n + 1 : Nat) : Int)
    omega
theorem hdM_b {g : Int → Int} {m : Int} : ∀ n : Nat, (∀ j : Int, 0 ≤ j → j < n → 0 ≤ g j ∧ g j ≤ 9) → 0 ≤ hdM g m n ∧ hdM g m n ≤ 9 * (n : Int)
  | 0, _ => by show (0 : Int) ≤ 0 ∧ (0 : Int) ≤ 9 * 0; decide
  | n + 1, h => by
    have a := hdM_b (m := m) n (fun j a b => h j a (by omega))
    have b := h n (by omega) (by omega)
    show 0 ≤ hdM g m n + _ ∧ hdM g m n + _ ≤ 9 * ((n + 1 : Nat) : Int)
    split <;> omega
theorem mk_sh : ∀ n : Fin 7, Int32.ofInt 1 <<< (Int32.ofInt n.val &&& 31) = Int32.ofInt (2 ^ n.val) := by decide +kernel
theorem mk_xr : ∀ n : Fin 7, ∀ i : Fin 6, i.val < n.val → Int32.ofInt (2 ^ n.val - 1) ^^^ (Int32.ofInt 1 <<< (Int32.ofInt i.val &&& 31)) = Int32.ofInt (2 ^ n.val - 1 - 2 ^ i.val) := by decide +kernel
theorem mk_bt : ∀ n : Fin 7, ∀ i w : Fin 6, i.val < n.val → w.val < n.val → ((2 : Int) ^ n.val - 1 - 2 ^ i.val) / 2 ^ w.val % 2 = if w.val = i.val then 0 else 1 := by decide +kernel
theorem mk_rg : ∀ n : Fin 7, ∀ i : Fin 6, i.val < n.val → 0 ≤ (2 : Int) ^ n.val - 1 - 2 ^ i.val ∧ (2 : Int) ^ n.val - 1 - 2 ^ i.val ≤ 63 := by decide +kernel
theorem hdM_v {g : Int → Int} {n i : Nat} (hn : n ≤ 6) (hi : i < n) : ∀ k : Nat, k ≤ n → hdM g (2 ^ n - 1 - 2 ^ i) k = tot g k - (if i < k then g (i : Int) else 0)
  | 0, _ => by rw [if_neg (by omega)]; rfl
  | k + 1, h => by
    have ih := hdM_v (g := g) hn hi k (by omega)
    have b := mk_bt ⟨n, by omega⟩ ⟨i, by omega⟩ ⟨k, by omega⟩ hi (show k < n by omega)
    have b : ((2 : Int) ^ n - 1 - 2 ^ i) / 2 ^ k % 2 = if k = i then 0 else 1 := b
    show hdM g (2 ^ n - 1 - 2 ^ i) k + (if ((2 : Int) ^ n - 1 - 2 ^ i) / 2 ^ k % 2 = 1 then g (k : Int) else 0) = tot g k + g (k : Int) - _
    rw [ih, b]
    by_cases q : k = i
    · subst q
      rw [if_pos rfl, if_neg (show ¬ k < k by omega), if_neg (show ¬ (0 : Int) = 1 by decide), if_pos (show k < k + 1 by omega)]
      omega
    · rw [if_neg q, if_pos (show (1 : Int) = 1 from rfl)]
      by_cases c : i < k
      · rw [if_pos c, if_pos (by omega)]
        omega
      · rw [if_neg c, if_neg (by omega)]
        omega
theorem uc_136l {d : Nat} {h : mj_H} {s : sg_} (C : CS h s) (i1 : 0 ≤ s 48 1 ∧ s 48 1 ≤ 6) {m : Int} (hm : 0 ≤ m ∧ m ≤ 63) : ∀ (nn i : Nat), (i : Int) ≤ s 48 1 → wl_R nn d 136 4 [some (.ref 48), some (wp_i m), some (wp_i (hdM (fun j => s 52 j) m i)), some (wp_i ((i : Int)))] [] h (fun v1 h1 => h1 = h ∧ v1 = some (wp_i (hdM (fun j => s 52 j) m (s 48 1).toNat))) := by
  intro nn
  induction nn with
  | zero => intros; exact wl_0
  | succ nn ih =>
    intro i hi
    refine wl_s1 (pc' := 5) ji_136_4 rfl rfl rfl ?_
    refine wl_s (pc' := 6) ji_136_5 rfl rfl rfl ?_
    refine cs_gi (k := 1) (kI := 1) C (by decide) (by decide) sq_48 rfl rfl ji_136_6 jf_136_21 ?_
    have bd1 : wp_r (s 48 1) := cs_ri (k := 1) (kI := 1) C (by decide) (by decide) sq_48 rfl rfl (show 1 < 13 by decide)
    refine wl_icmp (t := 36) ji_136_9 rfl (by omega) (by omega) (fun (hb2 : (s 48 1 : Int) ≤ ((i : Int))) => ?_) (fun (hb2 : ¬ ((s 48 1 : Int) ≤ ((i : Int)))) => ?_)
    · refine wl_s (pc' := 37) ji_136_36 rfl rfl rfl ?_
      exact wl_ri ji_136_37 jr_136 rfl (⟨rfl, by rw [show i = (s 48 1).toNat by omega]⟩)
    · refine wl_s (pc' := 13) ji_136_12 rfl rfl rfl ?_
      refine wl_s (pc' := 14) ji_136_13 rfl rfl rfl ?_
      refine wl_s (pc' := 15) (st' := [.int (Int32.ofInt m >>> (Int32.ofInt (i : Int) &&& 31))]) ji_136_14 rfl rfl rfl ?_
      refine wl_s (pc' := 16) ji_136_15 rfl rfl rfl ?_
      refine wl_s (pc' := 17) (lv' := [some (.ref 48), some (wp_i m), some (wp_i (hdM (fun j => s 52 j) m i)), some (wp_i ((i : Int)))]) (st' := [wp_i (m / 2 ^ i % 2)]) (h' := h) ji_136_16 rfl rfl (congrArg (fun z => (some (17, [some (.ref 48), some (wp_i m), some (wp_i (hdM (fun j => s 52 j) m i)), some (wp_i ((i : Int)))], [Value.int z], h) : Option mj_S)) (sb_i ⟨by omega, by omega⟩ i (by omega))) ?_
      have rb : wp_r (m / 2 ^ i % 2) := by omega
      refine wl_s (pc' := 18) ji_136_17 rfl rfl rfl ?_
      refine wl_icmp (t := 30) ji_136_18 rfl (by omega) (by omega) (fun (hb3 : ¬ (m / 2 ^ i % 2 : Int) = 1) => ?_) (fun (hb3 : ¬ (¬ (m / 2 ^ i % 2 : Int) = 1)) => ?_)
      · refine wl_iinc (x := (i : Int)) (z := (i : Int) + 1) (lv' := [some (.ref 48), some (wp_i m), some (wp_i (hdM (fun j => s 52 j) m i)), some (wp_i ((i : Int) + 1))]) ji_136_30 rfl (Nat.le_of_ble_eq_true rfl) (by omega) rfl ?_
        refine wl_goto (t := 4) ji_136_33 rfl ?_
        rw [show (i : Int) + 1 = ((i + 1 : Nat) : Int) by omega]
        rw [show hdM (fun j => s 52 j) m i = hdM (fun j => s 52 j) m (i + 1) by show _ = hdM (fun j => s 52 j) m i + _; rw [if_neg (by omega)]; omega]
        exact ih (i + 1) (by omega)
      · refine wl_s (pc' := 22) ji_136_21 rfl rfl rfl ?_
        refine wl_s (pc' := 23) ji_136_22 rfl rfl rfl ?_
        refine cs_gr (r := 52) (k := 5) C (by decide) sq_48 rfl ji_136_23 jf_136_35 ?_
        refine wl_s (pc' := 27) ji_136_26 rfl rfl rfl ?_
        refine cs_l (x := (i : Int)) C (by decide) (by decide) sq_52 (by omega) ji_136_27 (fun ld40 ld41 ld42 => ?_)
        refine wl_iadd (x := hdM (fun j => s 52 j) m i) (y := s 52 ((i : Int))) (z := hdM (fun j => s 52 j) m i + (s 52 ((i : Int)))) ji_136_28 (by omega) ?_
        refine wl_s (pc' := 30) (lv' := [some (.ref 48), some (wp_i m), some (wp_i (hdM (fun j => s 52 j) m i + (s 52 ((i : Int))))), some (wp_i ((i : Int)))]) ji_136_29 rfl rfl rfl ?_
        refine wl_iinc (x := (i : Int)) (z := (i : Int) + 1) (lv' := [some (.ref 48), some (wp_i m), some (wp_i (hdM (fun j => s 52 j) m i + (s 52 ((i : Int))))), some (wp_i ((i : Int) + 1))]) ji_136_30 rfl (Nat.le_of_ble_eq_true rfl) (by omega) rfl ?_
        refine wl_goto (t := 4) ji_136_33 rfl ?_
        rw [show (i : Int) + 1 = ((i + 1 : Nat) : Int) by omega]
        rw [show hdM (fun j => s 52 j) m i + (s 52 ((i : Int))) = hdM (fun j => s 52 j) m (i + 1) by show _ = hdM (fun j => s 52 j) m i + _; rw [if_pos (by omega)]]
        exact ih (i + 1) (by omega)
theorem uc_136 {nn d : Nat} {h : mj_H} {s : sg_} (C : CS h s) (i1 : 0 ≤ s 48 1 ∧ s 48 1 ≤ 6) {m : Int} (hm : 0 ≤ m ∧ m ≤ 63) : wl_R nn d 136 0 [some (.ref 48), some (wp_i m), none, none] [] h (fun v1 h1 => h1 = h ∧ v1 = some (wp_i (hdM (fun j => s 52 j) m (s 48 1).toNat))) := by
  refine wl_s (pc' := 1) ji_136_0 rfl rfl rfl ?_
  refine wl_s (pc' := 2) (lv' := [some (.ref 48), some (wp_i m), some (wp_i 0), none]) ji_136_1 rfl rfl rfl ?_
  refine wl_s (pc' := 3) ji_136_2 rfl rfl rfl ?_
  refine wl_s (pc' := 4) (lv' := [some (.ref 48), some (wp_i m), some (wp_i 0), some (wp_i 0)]) ji_136_3 rfl rfl rfl ?_
  exact uc_136l C i1 hm nn 0 (by omega)
