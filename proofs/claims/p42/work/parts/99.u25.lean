/-! -/
/-! -/
set_option maxRecDepth 100000 in
theorem ji_234_5 : mj_ins 234 5 = some (.iload 4) := by decide +kernel
set_option maxRecDepth 100000 in
theorem ji_234_7 : mj_ins 234 7 = some (.iload_n 2) := by decide +kernel
set_option maxRecDepth 100000 in
theorem ji_234_8 : mj_ins 234 8 = some (.if_icmp .gt 38) := by decide +kernel
set_option maxRecDepth 100000 in
theorem ji_234_46 : mj_ins 234 46 = some (.iload_n 3) := by decide +kernel
set_option maxRecDepth 100000 in
theorem ji_234_47 : mj_ins 234 47 = some (.ireturn) := by decide +kernel
set_option maxRecDepth 100000 in
theorem jr_234 : mj_ret 234 = some .boolean := by decide +kernel
set_option maxRecDepth 100000 in
theorem ji_234_11 : mj_ins 234 11 = some (.iload_n 3) := by decide +kernel
set_option maxRecDepth 100000 in
theorem ji_234_12 : mj_ins 234 12 = some (.ifCond .ne 22) := by decide +kernel
set_option maxRecDepth 100000 in
theorem ji_234_34 : mj_ins 234 34 = some (.iconst 1) := by decide +kernel
set_option maxRecDepth 100000 in
theorem ji_234_35 : mj_ins 234 35 = some (.goto 4) := by decide +kernel
set_option maxRecDepth 100000 in
theorem ji_234_39 : mj_ins 234 39 = some (.istore_n 3) := by decide +kernel
set_option maxRecDepth 100000 in
theorem ji_234_40 : mj_ins 234 40 = some (.iinc 4 1) := by decide +kernel
set_option maxRecDepth 100000 in
theorem ji_234_43 : mj_ins 234 43 = some (.goto (-38)) := by decide +kernel
set_option maxRecDepth 100000 in
theorem ji_234_15 : mj_ins 234 15 = some (.aload_n 0) := by decide +kernel
set_option maxRecDepth 100000 in
theorem ji_234_16 : mj_ins 234 16 = some (.getfield 35) := by decide +kernel
set_option maxRecDepth 100000 in
theorem jf_234_35 : mj_fld 234 35 = some (11, 23, (.array .long), false) := by decide +kernel
set_option maxRecDepth 100000 in
theorem ji_234_19 : mj_ins 234 19 = some (.iload_n 1) := by decide +kernel
set_option maxRecDepth 100000 in
theorem ji_234_20 : mj_ins 234 20 = some (.iload 4) := by decide +kernel
set_option maxRecDepth 100000 in
theorem ji_234_22 : mj_ins 234 22 = some (.iadd) := by decide +kernel
set_option maxRecDepth 100000 in
theorem ji_234_23 : mj_ins 234 23 = some (.laload) := by decide +kernel
set_option maxRecDepth 100000 in
theorem sq_145 : sh_T[145]? = some (1005, [], 330, 1) := by decide +kernel
set_option maxRecDepth 100000 in
theorem ji_234_24 : mj_ins 234 24 = some (.aload_n 0) := by decide +kernel
set_option maxRecDepth 100000 in
theorem ji_234_25 : mj_ins 234 25 = some (.getfield 35) := by decide +kernel
set_option maxRecDepth 100000 in
theorem ji_234_28 : mj_ins 234 28 = some (.iload_n 1) := by decide +kernel
set_option maxRecDepth 100000 in
theorem ji_234_29 : mj_ins 234 29 = some (.laload) := by decide +kernel
set_option maxRecDepth 100000 in
theorem ji_234_30 : mj_ins 234 30 = some (.lcmp) := by decide +kernel
set_option maxRecDepth 100000 in
theorem ji_234_31 : mj_ins 234 31 = some (.ifCond .ne 7) := by decide +kernel
set_option maxRecDepth 100000 in
theorem ji_234_38 : mj_ins 234 38 = some (.iconst 0) := by decide +kernel
set_option maxRecDepth 100000 in
theorem ji_234_0 : mj_ins 234 0 = some (.iconst 0) := by decide +kernel
set_option maxRecDepth 100000 in
theorem ji_234_1 : mj_ins 234 1 = some (.istore_n 3) := by decide +kernel
set_option maxRecDepth 100000 in
theorem ji_234_2 : mj_ins 234 2 = some (.iconst 1) := by decide +kernel
set_option maxRecDepth 100000 in
theorem ji_234_3 : mj_ins 234 3 = some (.istore 4) := by decide +kernel
/-! the reference's ONE OF; lists on arrays; laid by program (wp_u25.py) -/
/-- a list, last first, at the beginning of an array -/
def stA (a : Nat) (s : sg_) : List Int → Prop
  | [] => True
  | x :: r => s a (r.length : Int) = x ∧ stA a s r
theorem stA_up {a : Nat} {s : sg_} {j y : Int} : ∀ {r : List Int}, (r.length : Int) ≤ j → stA a s r → stA a (up s a j y) r
  | [], _, _ => trivial
  | x :: r, h, e => by
    have h : ((r.length + 1 : Nat) : Int) ≤ j := h
    exact ⟨by rw [up_k (by omega)]; exact e.1, stA_up (by omega) e.2⟩
theorem stA_e {a : Nat} {s s2 : sg_} (he : ∀ k, s2 a k = s a k) : ∀ {r : List Int}, stA a s r → stA a s2 r
  | [], _ => trivial
  | x :: r, e => ⟨(he _).trans e.1, stA_e he e.2⟩
theorem stA_ap {a : Nat} {s : sg_} : ∀ {xs r : List Int}, stA a s (xs ++ r) → stA a s r
  | [], _, e => e
  | _ :: _, _, e => stA_ap e.2
theorem stA_mem {a : Nat} {s : sg_} {x y : Int} {r : List Int} : ∀ {xs : List Int}, stA a s (xs ++ x :: r) → ((∃ j : Int, (r.length : Int) < j ∧ j < (r.length : Int) + 1 + (xs.length : Int) ∧ s a j = y) ↔ y ∈ xs)
  | [], _ => ⟨fun ⟨j, j1, j2, _⟩ => by
      have : j < (r.length : Int) + 1 + ((0 : Nat) : Int) := j2
      omega, fun z => by cases z⟩
  | u :: us, e => by
    have ih := stA_mem (y := y) e.2
    have e1 : s a (((us ++ x :: r).length : Nat) : Int) = u := e.1
    have l1 : (((us ++ x :: r).length : Nat) : Int) = (r.length : Int) + 1 + (us.length : Int) := by
      rw [List.length_append]
      show ((us.length + (r.length + 1) : Nat) : Int) = _
      omega
    rw [l1] at e1
    have l2 : (((u :: us).length : Nat) : Int) = (us.length : Int) + 1 := rfl
    rw [l2]
    constructor
    · intro ⟨j, j1, j2, j3⟩
      by_cases c : j = (r.length : Int) + 1 + (us.length : Int)
      · rw [c, e1] at j3
        exact j3 ▸ List.mem_cons_self
      · exact List.mem_cons_of_mem _ (ih.mp ⟨j, j1, by omega, j3⟩)
    · intro z
      rcases List.mem_cons.mp z with c | c
      · exact ⟨_, by omega, by omega, e1.trans c.symm⟩
      · obtain ⟨j, j1, j2, j3⟩ := ih.mpr c
        exact ⟨j, j1, by omega, j3⟩
theorem stA_r {a : Nat} {s : sg_} {P : Int → Prop} : ∀ {r : List Int}, stA a s r → (∀ x ∈ r, P x) → ∀ j : Int, 0 ≤ j → j < r.length → P (s a j)
  | [], _, _, j, h0, h1 => by
    have : j < ((0 : Nat) : Int) := h1
    omega
  | x :: r, e, h, j, h0, h1 => by
    have h1 : j < ((r.length + 1 : Nat) : Int) := h1
    by_cases c : j = (r.length : Int)
    · rw [c, e.1]
      exact h x List.mem_cons_self
    · exact stA_r e.2 (fun y hy => h y (List.mem_cons_of_mem _ hy)) j h0 (by omega)
theorem uc_234l {d : Nat} {h : mj_H} {s : sg_} (C : CS0 h s) {k n : Int} (hk : 0 ≤ k) (hn : 0 ≤ n) (ht : k + 1 + n ≤ 330) (hq : ∀ j, k ≤ j → j < k + 1 + n → wl_q (s 145 j)) : ∀ (nn : Nat) (y i : Int), (1 ≤ i ∧ i ≤ n + 1) → (y = 0 ∨ y = 1) → (y = 1 ↔ ∃ j, k < j ∧ j < k + i ∧ s 145 j = s 145 k) → wl_R nn d 234 5 [some (.ref 138), some (wp_i k), some (wp_i n), some (wp_i y), some (wp_i i)] [] h (fun v1 h1 => h1 = h ∧ ∃ y : Int, v1 = some (wp_i y) ∧ (y = 0 ∨ y = 1) ∧ (y = 1 ↔ ∃ j, k < j ∧ j < k + 1 + n ∧ s 145 j = s 145 k)) := by
  intro nn
  induction nn with
  | zero => intros; exact wl_0
  | succ nn ih =>
    intro y i hi hy1 hy2
    refine wl_s1 (pc' := 7) ji_234_5 rfl rfl rfl ?_
    refine wl_s (pc' := 8) ji_234_7 rfl rfl rfl ?_
    refine wl_icmp (t := 46) ji_234_8 rfl (by omega) (by omega) (fun (hb1 : (n : Int) < i) => ?_) (fun (hb1 : ¬ ((n : Int) < i)) => ?_)
    · refine wl_s (pc' := 47) ji_234_46 rfl rfl rfl ?_
      exact wl_ri ji_234_47 jr_234 (pv_nb (by omega)) (⟨rfl, y, rfl, hy1, ⟨fun z => by obtain ⟨j, j1, j2, j3⟩ := hy2.mp z; exact ⟨j, j1, by omega, j3⟩, fun ⟨j, j1, j2, j3⟩ => hy2.mpr ⟨j, j1, by omega, j3⟩⟩⟩)
    · refine wl_s (pc' := 12) ji_234_11 rfl rfl rfl ?_
      refine wl_if (t := 34) ji_234_12 rfl (by omega) (fun (hb2 : ¬ (y : Int) = 0) => ?_) (fun (hb2 : ¬ (¬ (y : Int) = 0)) => ?_)
      · refine wl_s (pc' := 35) ji_234_34 rfl rfl rfl ?_
        refine wl_goto (t := 39) ji_234_35 rfl ?_
        refine wl_s (pc' := 40) (lv' := [some (.ref 138), some (wp_i k), some (wp_i n), some (wp_i 1), some (wp_i i)]) ji_234_39 rfl rfl rfl ?_
        refine wl_iinc (x := i) (z := i + 1) (lv' := [some (.ref 138), some (wp_i k), some (wp_i n), some (wp_i 1), some (wp_i (i + 1))]) ji_234_40 rfl (Nat.le_of_ble_eq_true rfl) (by omega) rfl ?_
        refine wl_goto (t := 5) ji_234_43 rfl ?_
        exact ih 1 (i + 1) (by omega) (Or.inr rfl) ⟨fun _ => by obtain ⟨j, j1, j2, j3⟩ := hy2.mp (by omega); exact ⟨j, j1, by omega, j3⟩, fun _ => rfl⟩
      · refine wl_s (pc' := 16) ji_234_15 rfl rfl rfl ?_
        refine c0_gr (r := 145) (k := 23) C (by decide) sq_138 rfl ji_234_16 jf_234_35 ?_
        refine wl_s (pc' := 20) ji_234_19 rfl rfl rfl ?_
        refine wl_s (pc' := 22) ji_234_20 rfl rfl rfl ?_
        refine wl_iadd (x := k) (y := i) (z := k + i) ji_234_22 (by omega) ?_
        refine c0_ll (x := k + i) C (by decide) sq_145 (by omega) ji_234_23 (fun ld30 ld31 => ?_)
        refine wl_s (pc' := 25) ji_234_24 rfl rfl rfl ?_
        refine c0_gr (r := 145) (k := 23) C (by decide) sq_138 rfl ji_234_25 jf_234_35 ?_
        refine wl_s (pc' := 29) ji_234_28 rfl rfl rfl ?_
        refine c0_ll (x := k) C (by decide) sq_145 (by omega) ji_234_29 (fun ld40 ld41 => ?_)
        have q1 := hq (k + i) (by omega) (by omega)
        have q2 := hq k (by omega) (by omega)
        unfold wl_q at q1 q2
        refine wl_lcm (x := s 145 (k + i)) (y := s 145 k) ji_234_30 (by unfold wl_q; omega) (by unfold wl_q; omega) (fun cm5 hcm5r hcm5 => ?_)
        refine wl_if (t := 38) ji_234_31 rfl (by omega) (fun (hb6 : ¬ (cm5 : Int) = 0) => ?_) (fun (hb6 : ¬ (¬ (cm5 : Int) = 0)) => ?_)
        · refine wl_s (pc' := 39) ji_234_38 rfl rfl rfl ?_
          refine wl_s (pc' := 40) (lv' := [some (.ref 138), some (wp_i k), some (wp_i n), some (wp_i 0), some (wp_i i)]) ji_234_39 rfl rfl rfl ?_
          refine wl_iinc (x := i) (z := i + 1) (lv' := [some (.ref 138), some (wp_i k), some (wp_i n), some (wp_i 0), some (wp_i (i + 1))]) ji_234_40 rfl (Nat.le_of_ble_eq_true rfl) (by omega) rfl ?_
          refine wl_goto (t := 5) ji_234_43 rfl ?_
          exact ih 0 (i + 1) (by omega) (Or.inl rfl) ⟨fun z => by omega, fun ⟨j, j1, j2, j3⟩ => by exfalso; by_cases e : j = k + i; (rw [e] at j3; have := hcm5.2.mpr j3; omega); (have := hy2.mpr ⟨j, j1, by omega, j3⟩; omega)⟩
        · refine wl_s (pc' := 35) ji_234_34 rfl rfl rfl ?_
          refine wl_goto (t := 39) ji_234_35 rfl ?_
          refine wl_s (pc' := 40) (lv' := [some (.ref 138), some (wp_i k), some (wp_i n), some (wp_i 1), some (wp_i i)]) ji_234_39 rfl rfl rfl ?_
          refine wl_iinc (x := i) (z := i + 1) (lv' := [some (.ref 138), some (wp_i k), some (wp_i n), some (wp_i 1), some (wp_i (i + 1))]) ji_234_40 rfl (Nat.le_of_ble_eq_true rfl) (by omega) rfl ?_
          refine wl_goto (t := 5) ji_234_43 rfl ?_
          exact ih 1 (i + 1) (by omega) (Or.inr rfl) ⟨fun _ => ⟨k + i, by omega, by omega, hcm5.2.mp (by omega)⟩, fun _ => rfl⟩
theorem uc_234 {nn d : Nat} {h : mj_H} {s : sg_} (C : CS0 h s) {k n : Int} (hk : 0 ≤ k) (hn : 0 ≤ n) (ht : k + 1 + n ≤ 330) (hq : ∀ j, k ≤ j → j < k + 1 + n → wl_q (s 145 j)) : wl_R nn d 234 0 [some (.ref 138), some (wp_i k), some (wp_i n), none, none] [] h (fun v1 h1 => h1 = h ∧ ∃ y : Int, v1 = some (wp_i y) ∧ (y = 0 ∨ y = 1) ∧ (y = 1 ↔ ∃ j, k < j ∧ j < k + 1 + n ∧ s 145 j = s 145 k)) := by
  refine wl_s (pc' := 1) ji_234_0 rfl rfl rfl ?_
  refine wl_s (pc' := 2) (lv' := [some (.ref 138), some (wp_i k), some (wp_i n), some (wp_i 0), none]) ji_234_1 rfl rfl rfl ?_
  refine wl_s (pc' := 3) ji_234_2 rfl rfl rfl ?_
  refine wl_s (pc' := 5) (lv' := [some (.ref 138), some (wp_i k), some (wp_i n), some (wp_i 0), some (wp_i 1)]) ji_234_3 rfl rfl rfl ?_
  exact uc_234l C hk hn ht hq nn 0 1 (by omega) (Or.inl rfl) ⟨fun z => by omega, fun ⟨j, j1, j2, j3⟩ => by omega⟩
