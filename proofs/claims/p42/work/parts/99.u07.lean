/-! -/
/-! -/
set_option maxRecDepth 100000 in
theorem ji_66_7 : mj_ins 66 7 = some (.aload_n 0) := by decide +kernel
set_option maxRecDepth 100000 in
theorem ji_66_8 : mj_ins 66 8 = some (.iload_n 1) := by decide +kernel
set_option maxRecDepth 100000 in
theorem ji_66_9 : mj_ins 66 9 = some (.sipush 30000) := by decide +kernel
set_option maxRecDepth 100000 in
theorem ji_66_12 : mj_ins 66 12 = some (.isub) := by decide +kernel
set_option maxRecDepth 100000 in
theorem ji_66_13 : mj_ins 66 13 = some (.iload_n 2) := by decide +kernel
set_option maxRecDepth 100000 in
theorem ji_66_14 : mj_ins 66 14 = some (.invokevirtual 73) := by decide +kernel
set_option maxRecDepth 100000 in
theorem jc_66_73 : mj_cal 66 73 = some (2, 67, 2) := by decide +kernel
set_option maxRecDepth 100000 in
theorem jn_67 : mj_nl 67 = 6 := by decide +kernel
set_option maxRecDepth 100000 in
theorem jk_67 : mj_cls 67 = 1 := by decide +kernel
set_option maxRecDepth 100000 in
theorem ji_66_17 : mj_ins 66 17 = some (.ireturn) := by decide +kernel
/-! the class's stack as a list: what an item makes of it -/
theorem stk_mem {s : sg_} {x y : Int} {r : List Int} : ∀ {xs : List Int}, stk s (xs ++ x :: r) → ((∃ j : Int, (r.length : Int) < j ∧ j < (r.length : Int) + 1 + (xs.length : Int) ∧ s 10 j = y) ↔ y ∈ xs)
  | [], _ => ⟨fun ⟨j, j1, j2, _⟩ => by
      have : j < (r.length : Int) + 1 + ((0 : Nat) : Int) := j2
      omega, fun z => by cases z⟩
  | u :: us, e => by
    have ih := stk_mem (y := y) e.2
    have e1 : s 10 (((us ++ x :: r).length : Nat) : Int) = u := e.1
    have l1 : (((us ++ x :: r).length : Nat) : Int) = (r.length : Int) + 1 + (us.length : Int) := by
      rw [List.length_append]
      show ((us.length + (r.length + 1) : Nat) : Int) = _
      omega
    rw [l1] at e1
    have l2 : (((u :: us).length : Nat) : Int) = (us.length : Int) + 1 := rfl
    rw [l2]
    constructor
    · intro ⟨j, j1, j2, j3⟩
      by_cases c : j = (r.length : Int) + 1 + (us.length : Int)
      · rw [c, e1] at j3
        exact j3 ▸ List.mem_cons_self
      · exact List.mem_cons_of_mem _ (ih.mp ⟨j, j1, by omega, j3⟩)
    · intro z
      rcases List.mem_cons.mp z with c | c
      · exact ⟨_, by omega, by omega, e1.trans c.symm⟩
      · obtain ⟨j, j1, j2, j3⟩ := ih.mpr c
        exact ⟨j, j1, by omega, j3⟩
/-- what an item makes of the stack -/
def stC (N : Int → Int) (it : Int) (st : List Int) : Option (List Int) :=
  if it < 20000 then (if st.length < 60 then some ((if it < 10000 then it else N (it - 10000)) :: st) else none)
  else if 30000 < it then (match st.drop (it - 30000).toNat with
    | x :: r => some ((if x ∈ st.take (it - 30000).toNat then 1 else 0) :: r)
    | [] => none)
  else if it = 20110 ∨ it = 20033 then (match st with
    | b :: r => some (clp (sgv (it - 20000) 0 b) :: r)
    | [] => none)
  else (match st with
    | b :: a :: r => if (it = 20038 ∨ it = 20124) ∧ ¬ ((a = 0 ∨ a = 1) ∧ (b = 0 ∨ b = 1)) then none else some (clp (sgv (it - 20000) a b) :: r)
    | _ => none)
def evC (N : Int → Int) : List Int → List Int → Option (List Int)
  | [], st => some st
  | it :: L, st => (stC N it st).bind (evC N L)
def nmv (x : Int) : Prop := x = 9 ∨ x = 17 ∨ x = 4 ∨ x = 18 ∨ x = 19 ∨ x = 20 ∨ x = 21 ∨ x = 22 ∨ x = 23 ∨ x = 24
/-- an item that is written -/
def itm (it : Int) : Prop := (0 ≤ it ∧ it < 10000) ∨ (10000 ≤ it ∧ it < 20000 ∧ nmv (it - 10000)) ∨ (it = 20110 ∨ it = 20033 ∨ it = 20038 ∨ it = 20124 ∨ it = 20060 ∨ it = 20062 ∨ it = 20061 ∨ it = 20035 ∨ it = 20108 ∨ it = 20103 ∨ it = 20043 ∨ it = 20045 ∨ it = 20042 ∨ it = 20047) ∨ (30000 < it ∧ it ≤ 30300)
theorem stC_l {N : Int → Int} {it : Int} {st st2 : List Int} (e : stC N it st = some st2) (h : st.length ≤ 60) : st2.length ≤ 60 := by
  unfold stC at e
  split at e
  · split at e
    · cases e
      show st.length + 1 ≤ 60
      omega
    · cases e
  · split at e
    · split at e
      · rename_i x r hd
        cases e
        have := congrArg List.length hd
        rw [List.length_drop] at this
        have l3 : (x :: r).length = r.length + 1 := rfl
        show r.length + 1 ≤ 60
        omega
      · cases e
    · split at e
      · split at e
        · cases e
          exact h
        · cases e
      · split at e
        · split at e
          · cases e
          · cases e
            rename_i b a r _
            have l3 : (b :: a :: r).length = r.length + 1 + 1 := rfl
            show r.length + 1 ≤ 60
            omega
        · cases e
theorem up_10 {s : sg_} {k y : Int} : ∀ (b : Nat) (j : Int), ¬ b = 10 → up s 10 k y b j = s b j := fun _ _ hb => up_a hb
theorem uc_66_l {nn d : Nat} {h : mj_H} {s : sg_} (C : CS0 h s) {T : Nat} (hT : isT T) {k n : Int} (hk : 0 ≤ k) (hn : 0 ≤ n) (hn1 : 1 ≤ n) (ht : k + 1 + n ≤ 64) : wl_R nn (d + 1) 66 0 [some (.ref T), some (wp_i (30000 + n)), some (wp_i (k + 1 + n)), none, none, none, none, none, none, none, none] [] h (fun v1 h1 => v1 = some (wp_i (k + 1)) ∧ ∃ y : Int, (y = 0 ∨ y = 1) ∧ (y = 1 ↔ ∃ j, k < j ∧ j < k + 1 + n ∧ s 10 j = s 10 k) ∧ CS0 h1 (up s 10 k y)) := by
  refine wl_s (pc' := 1) ji_66_0 rfl rfl rfl ?_
  refine wl_sp ji_66_1 rfl ?_
  refine wl_icmp (t := 18) ji_66_4 rfl (by omega) (by omega) (fun (hb1 : (30000 + n : Int) ≤ 30000) => (by exfalso; omega)) (fun (hb1 : ¬ ((30000 + n : Int) ≤ 30000)) => ?_)
  refine wl_s (pc' := 8) ji_66_7 rfl rfl rfl ?_
  refine wl_s (pc' := 9) ji_66_8 rfl rfl rfl ?_
  refine wl_sp ji_66_9 rfl ?_
  refine wl_isub (x := 30000 + n) (y := 30000) (z := n) ji_66_12 (by omega) ?_
  refine wl_s (pc' := 14) ji_66_13 rfl rfl rfl ?_
  obtain ⟨q3, hq3⟩ := c0_c C (Nat.lt_of_lt_of_le (by decide) hT.1) hT.2.1
  refine wl_vc (d := d) (as := [.ref T, wp_i n, wp_i (k + 1 + n)]) (rest := []) ji_66_14 jc_66_73 rfl hq3 jk_67.symm (Nat.le_of_ble_eq_true rfl) rfl (by rw [jn_67]; rfl) (uc_67 (d := d) C hT hk hn ht) (fun v1 h2 R => ?_)
  obtain ⟨rfl, R⟩ := R
  show wl_R _ _ 66 17 [some (.ref T), some (wp_i (30000 + n)), some (wp_i (k + 1 + n)), none, none, none, none, none, none, none, none] [wp_i (k + 1)] h2 _
  exact wl_ri ji_66_17 jr_66 rfl (⟨rfl, R⟩)
theorem uc_66 {nn d : Nat} {h : mj_H} {s : sg_} (C : CS0 h s) {T : Nat} (hT : isT T) {N : Int → Int} {st st2 : List Int} {it : Int} (hi : 20000 ≤ it) (hit : itm it) (hs : stk s st) (hl : st.length ≤ 60) (e : stC N it st = some st2) : wl_R nn (d + 1) 66 0 [some (.ref T), some (wp_i it), some (wp_i (st.length : Int)), none, none, none, none, none, none, none, none] [] h (fun v1 h1 => v1 = some (wp_i (st2.length : Int)) ∧ ∃ s1, CS0 h1 s1 ∧ (∀ (b : Nat) (j : Int), ¬ b = 10 → s1 b j = s b j) ∧ stk s1 st2) := by
  rcases hit with c | c | c | c
  · omega
  · omega
  · rcases c with rfl | rfl | rfl | rfl | rfl | rfl | rfl | rfl | rfl | rfl | rfl | rfl | rfl | rfl
    · cases st with
      | nil =>
        have e : (none : Option (List Int)) = some st2 := e
        cases e
      | cons b r =>
        have e : some (clp (sgv 110 0 b) :: r) = some st2 := e
        cases e
        have hl : r.length + 1 ≤ 60 := hl
        exact wl_mono (uc_66_110 C hT (k := (r.length : Int)) (by omega) hs.1) (fun v1 h1 R => ⟨R.1, _, R.2, up_10, up_e _ _ _ _, stk_up (by omega) hs.2⟩)
    · cases st with
      | nil =>
        have e : (none : Option (List Int)) = some st2 := e
        cases e
      | cons b r =>
        have e : some (clp (sgv 33 0 b) :: r) = some st2 := e
        cases e
        have hl : r.length + 1 ≤ 60 := hl
        exact wl_mono (uc_66_33 C hT (k := (r.length : Int)) (by omega) hs.1) (fun v1 h1 R => ⟨R.1, _, R.2, up_10, up_e _ _ _ _, stk_up (by omega) hs.2⟩)
    · rcases st with _ | ⟨b, _ | ⟨a, r⟩⟩
      · have e : (none : Option (List Int)) = some st2 := e
        cases e
      · have e : (none : Option (List Int)) = some st2 := e
        cases e
      · have e : (if ((20038 : Int) = 20038 ∨ (20038 : Int) = 20124) ∧ ¬ ((a = 0 ∨ a = 1) ∧ (b = 0 ∨ b = 1)) then none else some (clp (sgv 38 a b) :: r)) = some st2 := e
        have hl : r.length + 1 + 1 ≤ 60 := hl
        have hb : s 10 ((r.length : Int) + 1) = b := hs.1
        have h01 : (a = 0 ∨ a = 1) ∧ (b = 0 ∨ b = 1) := by
          by_cases h01 : (a = 0 ∨ a = 1) ∧ (b = 0 ∨ b = 1)
          · exact h01
          · rw [if_pos ⟨by decide, h01⟩] at e
            cases e
        rw [if_neg (fun z => z.2 h01)] at e
        cases e
        exact wl_mono (uc_66_38 C hT (k := (r.length : Int)) (by omega) hs.2.1 hb h01) (fun v1 h1 R => ⟨R.1, _, R.2, up_10, up_e _ _ _ _, stk_up (by omega) hs.2.2⟩)
    · rcases st with _ | ⟨b, _ | ⟨a, r⟩⟩
      · have e : (none : Option (List Int)) = some st2 := e
        cases e
      · have e : (none : Option (List Int)) = some st2 := e
        cases e
      · have e : (if ((20124 : Int) = 20038 ∨ (20124 : Int) = 20124) ∧ ¬ ((a = 0 ∨ a = 1) ∧ (b = 0 ∨ b = 1)) then none else some (clp (sgv 124 a b) :: r)) = some st2 := e
        have hl : r.length + 1 + 1 ≤ 60 := hl
        have hb : s 10 ((r.length : Int) + 1) = b := hs.1
        have h01 : (a = 0 ∨ a = 1) ∧ (b = 0 ∨ b = 1) := by
          by_cases h01 : (a = 0 ∨ a = 1) ∧ (b = 0 ∨ b = 1)
          · exact h01
          · rw [if_pos ⟨by decide, h01⟩] at e
            cases e
        rw [if_neg (fun z => z.2 h01)] at e
        cases e
        exact wl_mono (uc_66_124 C hT (k := (r.length : Int)) (by omega) hs.2.1 hb h01) (fun v1 h1 R => ⟨R.1, _, R.2, up_10, up_e _ _ _ _, stk_up (by omega) hs.2.2⟩)
    · rcases st with _ | ⟨b, _ | ⟨a, r⟩⟩
      · have e : (none : Option (List Int)) = some st2 := e
        cases e
      · have e : (none : Option (List Int)) = some st2 := e
        cases e
      · have e : (if ((20060 : Int) = 20038 ∨ (20060 : Int) = 20124) ∧ ¬ ((a = 0 ∨ a = 1) ∧ (b = 0 ∨ b = 1)) then none else some (clp (sgv 60 a b) :: r)) = some st2 := e
        have hl : r.length + 1 + 1 ≤ 60 := hl
        have hb : s 10 ((r.length : Int) + 1) = b := hs.1
        rw [if_neg (fun z => absurd z.1 (by decide))] at e
        cases e
        exact wl_mono (uc_66_60 C hT (k := (r.length : Int)) (by omega) hs.2.1 hb) (fun v1 h1 R => ⟨R.1, _, R.2, up_10, up_e _ _ _ _, stk_up (by omega) hs.2.2⟩)
    · rcases st with _ | ⟨b, _ | ⟨a, r⟩⟩
      · have e : (none : Option (List Int)) = some st2 := e
        cases e
      · have e : (none : Option (List Int)) = some st2 := e
        cases e
      · have e : (if ((20062 : Int) = 20038 ∨ (20062 : Int) = 20124) ∧ ¬ ((a = 0 ∨ a = 1) ∧ (b = 0 ∨ b = 1)) then none else some (clp (sgv 62 a b) :: r)) = some st2 := e
        have hl : r.length + 1 + 1 ≤ 60 := hl
        have hb : s 10 ((r.length : Int) + 1) = b := hs.1
        rw [if_neg (fun z => absurd z.1 (by decide))] at e
        cases e
        exact wl_mono (uc_66_62 C hT (k := (r.length : Int)) (by omega) hs.2.1 hb) (fun v1 h1 R => ⟨R.1, _, R.2, up_10, up_e _ _ _ _, stk_up (by omega) hs.2.2⟩)
    · rcases st with _ | ⟨b, _ | ⟨a, r⟩⟩
      · have e : (none : Option (List Int)) = some st2 := e
        cases e
      · have e : (none : Option (List Int)) = some st2 := e
        cases e
      · have e : (if ((20061 : Int) = 20038 ∨ (20061 : Int) = 20124) ∧ ¬ ((a = 0 ∨ a = 1) ∧ (b = 0 ∨ b = 1)) then none else some (clp (sgv 61 a b) :: r)) = some st2 := e
        have hl : r.length + 1 + 1 ≤ 60 := hl
        have hb : s 10 ((r.length : Int) + 1) = b := hs.1
        rw [if_neg (fun z => absurd z.1 (by decide))] at e
        cases e
        exact wl_mono (uc_66_61 C hT (k := (r.length : Int)) (by omega) hs.2.1 hb) (fun v1 h1 R => ⟨R.1, _, R.2, up_10, up_e _ _ _ _, stk_up (by omega) hs.2.2⟩)
    · rcases st with _ | ⟨b, _ | ⟨a, r⟩⟩
      · have e : (none : Option (List Int)) = some st2 := e
        cases e
      · have e : (none : Option (List Int)) = some st2 := e
        cases e
      · have e : (if ((20035 : Int) = 20038 ∨ (20035 : Int) = 20124) ∧ ¬ ((a = 0 ∨ a = 1) ∧ (b = 0 ∨ b = 1)) then none else some (clp (sgv 35 a b) :: r)) = some st2 := e
        have hl : r.length + 1 + 1 ≤ 60 := hl
        have hb : s 10 ((r.length : Int) + 1) = b := hs.1
        rw [if_neg (fun z => absurd z.1 (by decide))] at e
        cases e
        exact wl_mono (uc_66_35 C hT (k := (r.length : Int)) (by omega) hs.2.1 hb) (fun v1 h1 R => ⟨R.1, _, R.2, up_10, up_e _ _ _ _, stk_up (by omega) hs.2.2⟩)
    · rcases st with _ | ⟨b, _ | ⟨a, r⟩⟩
      · have e : (none : Option (List Int)) = some st2 := e
        cases e
      · have e : (none : Option (List Int)) = some st2 := e
        cases e
      · have e : (if ((20108 : Int) = 20038 ∨ (20108 : Int) = 20124) ∧ ¬ ((a = 0 ∨ a = 1) ∧ (b = 0 ∨ b = 1)) then none else some (clp (sgv 108 a b) :: r)) = some st2 := e
        have hl : r.length + 1 + 1 ≤ 60 := hl
        have hb : s 10 ((r.length : Int) + 1) = b := hs.1
        rw [if_neg (fun z => absurd z.1 (by decide))] at e
        cases e
        exact wl_mono (uc_66_108 C hT (k := (r.length : Int)) (by omega) hs.2.1 hb) (fun v1 h1 R => ⟨R.1, _, R.2, up_10, up_e _ _ _ _, stk_up (by omega) hs.2.2⟩)
    · rcases st with _ | ⟨b, _ | ⟨a, r⟩⟩
      · have e : (none : Option (List Int)) = some st2 := e
        cases e
      · have e : (none : Option (List Int)) = some st2 := e
        cases e
      · have e : (if ((20103 : Int) = 20038 ∨ (20103 : Int) = 20124) ∧ ¬ ((a = 0 ∨ a = 1) ∧ (b = 0 ∨ b = 1)) then none else some (clp (sgv 103 a b) :: r)) = some st2 := e
        have hl : r.length + 1 + 1 ≤ 60 := hl
        have hb : s 10 ((r.length : Int) + 1) = b := hs.1
        rw [if_neg (fun z => absurd z.1 (by decide))] at e
        cases e
        exact wl_mono (uc_66_103 C hT (k := (r.length : Int)) (by omega) hs.2.1 hb) (fun v1 h1 R => ⟨R.1, _, R.2, up_10, up_e _ _ _ _, stk_up (by omega) hs.2.2⟩)
    · rcases st with _ | ⟨b, _ | ⟨a, r⟩⟩
      · have e : (none : Option (List Int)) = some st2 := e
        cases e
      · have e : (none : Option (List Int)) = some st2 := e
        cases e
      · have e : (if ((20043 : Int) = 20038 ∨ (20043 : Int) = 20124) ∧ ¬ ((a = 0 ∨ a = 1) ∧ (b = 0 ∨ b = 1)) then none else some (clp (sgv 43 a b) :: r)) = some st2 := e
        have hl : r.length + 1 + 1 ≤ 60 := hl
        have hb : s 10 ((r.length : Int) + 1) = b := hs.1
        rw [if_neg (fun z => absurd z.1 (by decide))] at e
        cases e
        exact wl_mono (uc_66_43 C hT (k := (r.length : Int)) (by omega) hs.2.1 hb) (fun v1 h1 R => ⟨R.1, _, R.2, up_10, up_e _ _ _ _, stk_up (by omega) hs.2.2⟩)
    · rcases st with _ | ⟨b, _ | ⟨a, r⟩⟩
      · have e : (none : Option (List Int)) = some st2 := e
        cases e
      · have e : (none : Option (List Int)) = some st2 := e
        cases e
      · have e : (if ((20045 : Int) = 20038 ∨ (20045 : Int) = 20124) ∧ ¬ ((a = 0 ∨ a = 1) ∧ (b = 0 ∨ b = 1)) then none else some (clp (sgv 45 a b) :: r)) = some st2 := e
        have hl : r.length + 1 + 1 ≤ 60 := hl
        have hb : s 10 ((r.length : Int) + 1) = b := hs.1
        rw [if_neg (fun z => absurd z.1 (by decide))] at e
        cases e
        exact wl_mono (uc_66_45 C hT (k := (r.length : Int)) (by omega) hs.2.1 hb) (fun v1 h1 R => ⟨R.1, _, R.2, up_10, up_e _ _ _ _, stk_up (by omega) hs.2.2⟩)
    · rcases st with _ | ⟨b, _ | ⟨a, r⟩⟩
      · have e : (none : Option (List Int)) = some st2 := e
        cases e
      · have e : (none : Option (List Int)) = some st2 := e
        cases e
      · have e : (if ((20042 : Int) = 20038 ∨ (20042 : Int) = 20124) ∧ ¬ ((a = 0 ∨ a = 1) ∧ (b = 0 ∨ b = 1)) then none else some (clp (sgv 42 a b) :: r)) = some st2 := e
        have hl : r.length + 1 + 1 ≤ 60 := hl
        have hb : s 10 ((r.length : Int) + 1) = b := hs.1
        rw [if_neg (fun z => absurd z.1 (by decide))] at e
        cases e
        exact wl_mono (uc_66_42 C hT (k := (r.length : Int)) (by omega) hs.2.1 hb) (fun v1 h1 R => ⟨R.1, _, R.2, up_10, up_e _ _ _ _, stk_up (by omega) hs.2.2⟩)
    · rcases st with _ | ⟨b, _ | ⟨a, r⟩⟩
      · have e : (none : Option (List Int)) = some st2 := e
        cases e
      · have e : (none : Option (List Int)) = some st2 := e
        cases e
      · have e : (if ((20047 : Int) = 20038 ∨ (20047 : Int) = 20124) ∧ ¬ ((a = 0 ∨ a = 1) ∧ (b = 0 ∨ b = 1)) then none else some (clp (sgv 47 a b) :: r)) = some st2 := e
        have hl : r.length + 1 + 1 ≤ 60 := hl
        have hb : s 10 ((r.length : Int) + 1) = b := hs.1
        rw [if_neg (fun z => absurd z.1 (by decide))] at e
        cases e
        exact wl_mono (uc_66_47 C hT (k := (r.length : Int)) (by omega) hs.2.1 hb) (fun v1 h1 R => ⟨R.1, _, R.2, up_10, up_e _ _ _ _, stk_up (by omega) hs.2.2⟩)
  · unfold stC at e
    rw [if_neg (by omega), if_pos c.1] at e
    obtain ⟨n, hn⟩ : ∃ n, (it - 30000).toNat = n := ⟨_, rfl⟩
    rw [hn] at e
    split at e
    · rename_i x r hd
      cases e
      have l1 := congrArg List.length hd
      rw [List.length_drop] at l1
      have l2 : (x :: r).length = r.length + 1 := rfl
      have l3 : (st.take n).length = n := by rw [List.length_take]; omega
      have q1 : it = 30000 + (n : Int) := by omega
      have q2 : ((st.length : Nat) : Int) = (r.length : Int) + 1 + (n : Int) := by omega
      have q3 : 1 ≤ n ∧ (r.length : Int) + 1 + (n : Int) ≤ 64 := by omega
      have hs2 : stk s (st.take n ++ x :: r) := by rw [← hd, List.take_append_drop]; exact hs
      have hx := stk_ap hs2
      have hm := stk_mem (y := x) hs2
      rw [l3] at hm
      rw [q1, q2]
      refine wl_mono (uc_66_l C hT (k := (r.length : Int)) (n := (n : Int)) (by clear hm; omega) (by clear hm; omega) (by clear hm; omega) q3.2) (fun v1 h1 R => ?_)
      obtain ⟨R1, y, y1, y2, C2⟩ := R
      rw [hx.1, hm] at y2
      refine ⟨R1, _, C2, up_10, ?_, stk_up (Int.le_refl _) hx.2⟩
      rw [up_e]
      by_cases q : x ∈ st.take n
      · rw [if_pos q]
        exact y2.mpr q
      · rw [if_neg q]
        exact y1.resolve_right (fun z => q (y2.mp z))
    · cases e
theorem uc_32 {nn d : Nat} {h : mj_H} {s : sg_} (C : CS0 h s) {T : Nat} (hT : isT T) {l : Int} (hl : 0 ≤ l ∧ l < 3) : wl_R nn d 32 0 [some (.ref T), some (wp_i l)] [] h (fun v1 h1 => h1 = h ∧ ∃ y : Int, v1 = some (wp_i y) ∧ (y = 0 ∨ y = 1) ∧ (y = 1 ↔ ¬ s (T + 2) l = -1)) := by
  refine wl_s (pc' := 1) ji_32_0 rfl rfl rfl ?_
  refine c0_gr (r := T + 2) (k := 2) C (Nat.lt_of_lt_of_le (by decide) hT.1) hT.2.1 rfl ji_32_1 jf_32_21 ?_
  refine wl_s (pc' := 5) ji_32_4 rfl rfl rfl ?_
  refine c0_l (x := l) C (Nat.lt_of_lt_of_le (by decide) (Nat.le_trans hT.1 (Nat.le_add_right _ _))) hT.2.2.2.1 (by omega) ji_32_5 (fun ld10 ld11 ld12 => ?_)
  refine wl_s (pc' := 7) ji_32_6 rfl rfl rfl ?_
  refine wl_icmp (t := 14) ji_32_7 rfl (by omega) (by omega) (fun (hb2 : (s (T + 2) l : Int) = (-1)) => ?_) (fun (hb2 : ¬ ((s (T + 2) l : Int) = (-1))) => ?_)
  · refine wl_s (pc' := 15) ji_32_14 rfl rfl rfl ?_
    exact wl_ri ji_32_15 jr_32 (pv_nb (by omega)) (⟨rfl, 0, rfl, by omega, by omega⟩)
  · refine wl_s (pc' := 11) ji_32_10 rfl rfl rfl ?_
    refine wl_goto (t := 15) ji_32_11 rfl ?_
    exact wl_ri ji_32_15 jr_32 (pv_nb (by omega)) (⟨rfl, 1, rfl, by omega, by omega⟩)
