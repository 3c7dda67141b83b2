/-! -/
/-! -/
/-! the reference's work, an item on lists; laid by program (wp_u27.py) -/
def twR (o x y : Int) : Int := if o = 4 then x + y else if o = 5 then x - y else if o = 6 then x * y else if y = 0 then 0 else x.tdiv y
def asR (o x y : Int) : Int := if o = 10 then (if x < y then 1 else 0) else if o = 11 then (if x ≤ y then 1 else 0) else if o = 12 then (if y < x then 1 else 0) else if o = 13 then (if y ≤ x then 1 else 0) else if o = 14 then (if x = y then 1 else 0) else (if ¬ x = y then 1 else 0)
/-- what an item makes of values and asks -/
def stR (N : Int → Int) (o v : Int) (vs ts : List Int) : Option (List Int × List Int) :=
  if o = 0 then (if vs.length < 320 then some (v :: vs, ts) else none)
  else if o = 1 then (if vs.length < 320 then some (N v :: vs, ts) else none)
  else if o = 2 then (if ts.length < 320 then (match vs.drop v.toNat with
    | x :: r => some (r, (if x ∈ vs.take v.toNat then 1 else 0) :: ts)
    | [] => none) else none)
  else if o = 3 then (match vs with
    | x :: r => some (-x :: r, ts)
    | [] => none)
  else if o < 10 then (match vs with
    | y :: x :: r => some (clp (twR o x y) :: r, ts)
    | _ => none)
  else if o < 20 then (if ts.length < 320 then (match vs with
    | y :: x :: r => some (r, asR o x y :: ts)
    | _ => none) else none)
  else if o = 20 then (match ts with
    | z :: u => some (vs, (if z = 0 then 1 else 0) :: u)
    | [] => none)
  else match ts with
    | z2 :: z1 :: u => some (vs, (if o = 21 then (if ¬ z1 = 0 ∧ ¬ z2 = 0 then 1 else 0) else (if ¬ z1 = 0 ∨ ¬ z2 = 0 then 1 else 0)) :: u)
    | _ => none
/-- an item that is written -/
def otm (o v : Int) : Prop := (o = 0 ∧ 0 ≤ v ∧ v < 10000) ∨ (o = 1 ∧ 0 ≤ v ∧ v < 10) ∨ (o = 2 ∧ 1 ≤ v ∧ v ≤ 300) ∨ o = 3 ∨ o = 4 ∨ o = 5 ∨ o = 6 ∨ o = 7 ∨ o = 10 ∨ o = 11 ∨ o = 12 ∨ o = 13 ∨ o = 14 ∨ o = 15 ∨ o = 20 ∨ o = 21 ∨ o = 22
theorem y01 {P : Prop} [Decidable P] {y : Int} (h : y = 0 ∨ y = 1) (h2 : y = 1 ↔ P) : y = if P then 1 else 0 := by
  by_cases c : P
  · rw [if_pos c]
    exact h2.mpr c
  · rw [if_neg c]
    exact h.resolve_right (fun z => c (h2.mp z))
theorem up_5 {s : sg_} {k y : Int} : ∀ (b : Nat) (j : Int), ¬ b = 145 → ¬ b = 146 → up s 145 k y b j = s b j := fun _ _ h _ => up_a h
theorem up_6 {s : sg_} {k y : Int} : ∀ (b : Nat) (j : Int), ¬ b = 145 → ¬ b = 146 → up s 146 k y b j = s b j := fun _ _ _ h => up_a h
theorem uc_233s {nn d : Nat} {h : mj_H} {s : sg_} {Q : Option Value → mj_H → Prop} (C : CS0 h s) {N : Int → Int} (hN : ∀ k, 0 ≤ k ∧ k < 10 → s 144 k = N k) {ci c b i o v : Int} {l7 l8 : Option Value} (hc : 0 ≤ c ∧ c ≤ 2817) (hb : 0 ≤ b ∧ 0 ≤ i ∧ i ≤ 1000 ∧ b ≤ 2820) (hu : i < s 141 (c + 2)) (ho : s 141 (b + 2 * i) = o) (hv : s 141 (b + 2 * i + 1) = v) (hot : otm o v) {vs ts vs2 ts2 : List Int} (hvs : stA 145 s vs) (hts : stA 146 s ts) (rv : ∀ x ∈ vs, wp_r x) (hl : vs.length < 330 ∧ ts.length < 330) (e : stR N o v vs ts = some (vs2, ts2)) (hr : ∀ (h1 : mj_H) (s1 : sg_), CS0 h1 s1 → (∀ (b : Nat) (j : Int), ¬ b = 145 → ¬ b = 146 → s1 b j = s b j) → stA 145 s1 vs2 → stA 146 s1 ts2 → wl_R nn (d + 2) 233 47 [some (.ref 138), some (wp_i ci), some (wp_i c), some (wp_i b), some (wp_i (vs2.length : Int)), some (wp_i (ts2.length : Int)), some (wp_i (i + 1)), some (wp_i o), some (wp_i v)] [] h1 Q) : wl_R (nn + 1) (d + 2) 233 47 [some (.ref 138), some (wp_i ci), some (wp_i c), some (wp_i b), some (wp_i (vs.length : Int)), some (wp_i (ts.length : Int)), some (wp_i (i)), l7, l8] [] h Q := by
  rcases hot with q | q | q | q | q | q | q | q | q | q | q | q | q | q | q | q | q
  · obtain ⟨q, v1, v2⟩ := q
    subst q
    have e : (if vs.length < 320 then some (v :: vs, ts) else none) = some (vs2, ts2) := e
    split at e
    · cases e
      exact uc_233_0 C hc hb hu ho hv (k := (vs.length : Int)) (q := (ts.length : Int)) (by omega) (by omega) (fun h1 C1 => hr h1 _ C1 up_5 ⟨(up_e _ _ _ _), stA_up (Int.le_refl _) hvs⟩ (stA_e (fun _ => up_a (by decide)) hts))
    · cases e
  · obtain ⟨q, v1, v2⟩ := q
    subst q
    have e : (if vs.length < 320 then some (N v :: vs, ts) else none) = some (vs2, ts2) := e
    split at e
    · cases e
      exact uc_233_1 C hc hb hu ho hv (k := (vs.length : Int)) (q := (ts.length : Int)) (by omega) (by omega) (fun h1 C1 => hr h1 _ C1 up_5 ⟨(up_e _ _ _ _).trans (hN v ⟨v1, v2⟩), stA_up (Int.le_refl _) hvs⟩ (stA_e (fun _ => up_a (by decide)) hts))
    · cases e
  · obtain ⟨q, v1, v2⟩ := q
    subst q
    have e : (if ts.length < 320 then (match vs.drop v.toNat with
      | x :: r => some (r, (if x ∈ vs.take v.toNat then 1 else 0) :: ts)
      | [] => none) else none) = some (vs2, ts2) := e
    obtain ⟨n, hn⟩ : ∃ n, v.toNat = n := ⟨_, rfl⟩
    rw [hn] at e
    split at e
    · split at e
      · rename_i x r hd
        cases e
        have l1 := congrArg List.length hd
        rw [List.length_drop] at l1
        have l2 : (x :: vs2).length = vs2.length + 1 := rfl
        have l3 : (vs.take n).length = n := by rw [List.length_take]; omega
        have q1 : v = (n : Int) := by omega
        have q2 : ((vs.length : Nat) : Int) = (vs2.length : Int) + 1 + (n : Int) := by omega
        have q3 : (vs2.length : Int) + 1 + (n : Int) ≤ 330 := by omega
        have q4 : 0 ≤ (vs2.length : Int) ∧ (vs2.length : Int) < 330 := by omega
        have q5 : 0 ≤ (ts.length : Int) ∧ (ts.length : Int) < 330 := by omega
        have hq : ∀ j : Int, (vs2.length : Int) ≤ j → j < (vs2.length : Int) + 1 + (n : Int) → wl_q (s 145 j) := fun j j1 j2 => by
          have := stA_r hvs rv j (by omega) (by omega)
          unfold wl_q
          omega
        have hs2 : stA 145 s (vs.take n ++ x :: vs2) := by rw [← hd, List.take_append_drop]; exact hvs
        have hx := stA_ap hs2
        have hm := stA_mem (y := x) hs2
        rw [l3] at hm
        rw [q1] at hv hr
        rw [q2]
        refine uc_233_2 C hc hb hu ho hv (k := (vs2.length : Int)) (n := (n : Int)) (q := (ts.length : Int)) q4 q5 (Int.natCast_nonneg n) q3 hq (fun h1 y y1 y2 C1 => ?_)
        rw [hx.1, hm] at y2
        exact hr h1 _ C1 up_6 (stA_e (fun _ => up_a (by decide)) hx.2) ⟨(up_e _ _ _ _).trans (y01 y1 y2), stA_up (Int.le_refl _) hts⟩
      · cases e
    · cases e
  · subst q
    cases vs with
    | nil =>
      have e : (none : Option (List Int × List Int)) = some (vs2, ts2) := e
      cases e
    | cons x r =>
      have e : some (-x :: r, ts) = some (vs2, ts2) := e
      cases e
      have hl : r.length + 1 < 330 ∧ ts.length < 330 := hl
      exact uc_233_3 C hc hb hu ho hv (k := (r.length : Int)) (q := (ts.length : Int)) (by omega) (by omega) hvs.1 (fun h1 C1 => hr h1 _ C1 up_5 ⟨up_e _ _ _ _, stA_up (Int.le_refl _) hvs.2⟩ (stA_e (fun _ => up_a (by decide)) hts))
  · subst q
    rcases vs with _ | ⟨y, _ | ⟨x, r⟩⟩
    · have e : (none : Option (List Int × List Int)) = some (vs2, ts2) := e
      cases e
    · have e : (none : Option (List Int × List Int)) = some (vs2, ts2) := e
      cases e
    · have e : some (clp (x + y) :: r, ts) = some (vs2, ts2) := e
      cases e
      have hl : r.length + 1 + 1 < 330 ∧ ts.length < 330 := hl
      exact uc_233_4 C hc hb hu ho hv (k := (r.length : Int)) (q := (ts.length : Int)) (by omega) (by omega) hvs.2.1 hvs.1 (rv x (List.mem_cons_of_mem _ List.mem_cons_self)) (rv y List.mem_cons_self) (fun h1 C1 => hr h1 _ C1 up_5 ⟨up_e _ _ _ _, stA_up (Int.le_refl _) hvs.2.2⟩ (stA_e (fun _ => up_a (by decide)) hts))
  · subst q
    rcases vs with _ | ⟨y, _ | ⟨x, r⟩⟩
    · have e : (none : Option (List Int × List Int)) = some (vs2, ts2) := e
      cases e
    · have e : (none : Option (List Int × List Int)) = some (vs2, ts2) := e
      cases e
    · have e : some (clp (x - y) :: r, ts) = some (vs2, ts2) := e
      cases e
      have hl : r.length + 1 + 1 < 330 ∧ ts.length < 330 := hl
      exact uc_233_5 C hc hb hu ho hv (k := (r.length : Int)) (q := (ts.length : Int)) (by omega) (by omega) hvs.2.1 hvs.1 (rv x (List.mem_cons_of_mem _ List.mem_cons_self)) (rv y List.mem_cons_self) (fun h1 C1 => hr h1 _ C1 up_5 ⟨up_e _ _ _ _, stA_up (Int.le_refl _) hvs.2.2⟩ (stA_e (fun _ => up_a (by decide)) hts))
  · subst q
    rcases vs with _ | ⟨y, _ | ⟨x, r⟩⟩
    · have e : (none : Option (List Int × List Int)) = some (vs2, ts2) := e
      cases e
    · have e : (none : Option (List Int × List Int)) = some (vs2, ts2) := e
      cases e
    · have e : some (clp (x * y) :: r, ts) = some (vs2, ts2) := e
      cases e
      have hl : r.length + 1 + 1 < 330 ∧ ts.length < 330 := hl
      exact uc_233_6 C hc hb hu ho hv (k := (r.length : Int)) (q := (ts.length : Int)) (by omega) (by omega) hvs.2.1 hvs.1 (rv x (List.mem_cons_of_mem _ List.mem_cons_self)) (rv y List.mem_cons_self) (fun h1 C1 => hr h1 _ C1 up_5 ⟨up_e _ _ _ _, stA_up (Int.le_refl _) hvs.2.2⟩ (stA_e (fun _ => up_a (by decide)) hts))
  · subst q
    rcases vs with _ | ⟨y, _ | ⟨x, r⟩⟩
    · have e : (none : Option (List Int × List Int)) = some (vs2, ts2) := e
      cases e
    · have e : (none : Option (List Int × List Int)) = some (vs2, ts2) := e
      cases e
    · have e : some (clp (if y = 0 then 0 else x.tdiv y) :: r, ts) = some (vs2, ts2) := e
      cases e
      have hl : r.length + 1 + 1 < 330 ∧ ts.length < 330 := hl
      exact uc_233_7 C hc hb hu ho hv (k := (r.length : Int)) (q := (ts.length : Int)) (by omega) (by omega) hvs.2.1 hvs.1 (rv x (List.mem_cons_of_mem _ List.mem_cons_self)) (rv y List.mem_cons_self) (fun h1 C1 => hr h1 _ C1 up_5 ⟨up_e _ _ _ _, stA_up (Int.le_refl _) hvs.2.2⟩ (stA_e (fun _ => up_a (by decide)) hts))
  · subst q
    have e : (if ts.length < 320 then _ else none) = some (vs2, ts2) := e
    split at e
    · rcases vs with _ | ⟨y, _ | ⟨x, r⟩⟩
      · have e : (none : Option (List Int × List Int)) = some (vs2, ts2) := e
        cases e
      · have e : (none : Option (List Int × List Int)) = some (vs2, ts2) := e
        cases e
      · have e : some (r, (if x < y then (1 : Int) else 0) :: ts) = some (vs2, ts2) := e
        cases e
        have hl : vs2.length + 1 + 1 < 330 ∧ ts.length < 330 := hl
        exact uc_233_10 C hc hb hu ho hv (k := (vs2.length : Int)) (q := (ts.length : Int)) (by omega) (by omega) hvs.2.1 hvs.1 (rv x (List.mem_cons_of_mem _ List.mem_cons_self)) (rv y List.mem_cons_self) (fun h1 z z1 z2 C1 => hr h1 _ C1 up_6 (stA_e (fun _ => up_a (by decide)) hvs.2.2) ⟨(up_e _ _ _ _).trans (y01 z1 z2), stA_up (Int.le_refl _) hts⟩)
    · cases e
  · subst q
    have e : (if ts.length < 320 then _ else none) = some (vs2, ts2) := e
    split at e
    · rcases vs with _ | ⟨y, _ | ⟨x, r⟩⟩
      · have e : (none : Option (List Int × List Int)) = some (vs2, ts2) := e
        cases e
      · have e : (none : Option (List Int × List Int)) = some (vs2, ts2) := e
        cases e
      · have e : some (r, (if x ≤ y then (1 : Int) else 0) :: ts) = some (vs2, ts2) := e
        cases e
        have hl : vs2.length + 1 + 1 < 330 ∧ ts.length < 330 := hl
        exact uc_233_11 C hc hb hu ho hv (k := (vs2.length : Int)) (q := (ts.length : Int)) (by omega) (by omega) hvs.2.1 hvs.1 (rv x (List.mem_cons_of_mem _ List.mem_cons_self)) (rv y List.mem_cons_self) (fun h1 z z1 z2 C1 => hr h1 _ C1 up_6 (stA_e (fun _ => up_a (by decide)) hvs.2.2) ⟨(up_e _ _ _ _).trans (y01 z1 z2), stA_up (Int.le_refl _) hts⟩)
    · cases e
  · subst q
    have e : (if ts.length < 320 then _ else none) = some (vs2, ts2) := e
    split at e
    · rcases vs with _ | ⟨y, _ | ⟨x, r⟩⟩
      · have e : (none : Option (List Int × List Int)) = some (vs2, ts2) := e
        cases e
      · have e : (none : Option (List Int × List Int)) = some (vs2, ts2) := e
        cases e
      · have e : some (r, (if y < x then (1 : Int) else 0) :: ts) = some (vs2, ts2) := e
        cases e
        have hl : vs2.length + 1 + 1 < 330 ∧ ts.length < 330 := hl
        exact uc_233_12 C hc hb hu ho hv (k := (vs2.length : Int)) (q := (ts.length : Int)) (by omega) (by omega) hvs.2.1 hvs.1 (rv x (List.mem_cons_of_mem _ List.mem_cons_self)) (rv y List.mem_cons_self) (fun h1 z z1 z2 C1 => hr h1 _ C1 up_6 (stA_e (fun _ => up_a (by decide)) hvs.2.2) ⟨(up_e _ _ _ _).trans (y01 z1 z2), stA_up (Int.le_refl _) hts⟩)
    · cases e
  · subst q
    have e : (if ts.length < 320 then _ else none) = some (vs2, ts2) := e
    split at e
    · rcases vs with _ | ⟨y, _ | ⟨x, r⟩⟩
      · have e : (none : Option (List Int × List Int)) = some (vs2, ts2) := e
        cases e
      · have e : (none : Option (List Int × List Int)) = some (vs2, ts2) := e
        cases e
      · have e : some (r, (if y ≤ x then (1 : Int) else 0) :: ts) = some (vs2, ts2) := e
        cases e
        have hl : vs2.length + 1 + 1 < 330 ∧ ts.length < 330 := hl
        exact uc_233_13 C hc hb hu ho hv (k := (vs2.length : Int)) (q := (ts.length : Int)) (by omega) (by omega) hvs.2.1 hvs.1 (rv x (List.mem_cons_of_mem _ List.mem_cons_self)) (rv y List.mem_cons_self) (fun h1 z z1 z2 C1 => hr h1 _ C1 up_6 (stA_e (fun _ => up_a (by decide)) hvs.2.2) ⟨(up_e _ _ _ _).trans (y01 z1 z2), stA_up (Int.le_refl _) hts⟩)
    · cases e
  · subst q
    have e : (if ts.length < 320 then _ else none) = some (vs2, ts2) := e
    split at e
    · rcases vs with _ | ⟨y, _ | ⟨x, r⟩⟩
      · have e : (none : Option (List Int × List Int)) = some (vs2, ts2) := e
        cases e
      · have e : (none : Option (List Int × List Int)) = some (vs2, ts2) := e
        cases e
      · have e : some (r, (if x = y then (1 : Int) else 0) :: ts) = some (vs2, ts2) := e
        cases e
        have hl : vs2.length + 1 + 1 < 330 ∧ ts.length < 330 := hl
        exact uc_233_14 C hc hb hu ho hv (k := (vs2.length : Int)) (q := (ts.length : Int)) (by omega) (by omega) hvs.2.1 hvs.1 (rv x (List.mem_cons_of_mem _ List.mem_cons_self)) (rv y List.mem_cons_self) (fun h1 z z1 z2 C1 => hr h1 _ C1 up_6 (stA_e (fun _ => up_a (by decide)) hvs.2.2) ⟨(up_e _ _ _ _).trans (y01 z1 z2), stA_up (Int.le_refl _) hts⟩)
    · cases e
  · subst q
    have e : (if ts.length < 320 then _ else none) = some (vs2, ts2) := e
    split at e
    · rcases vs with _ | ⟨y, _ | ⟨x, r⟩⟩
      · have e : (none : Option (List Int × List Int)) = some (vs2, ts2) := e
        cases e
      · have e : (none : Option (List Int × List Int)) = some (vs2, ts2) := e
        cases e
      · have e : some (r, (if ¬ x = y then (1 : Int) else 0) :: ts) = some (vs2, ts2) := e
        cases e
        have hl : vs2.length + 1 + 1 < 330 ∧ ts.length < 330 := hl
        exact uc_233_15 C hc hb hu ho hv (k := (vs2.length : Int)) (q := (ts.length : Int)) (by omega) (by omega) hvs.2.1 hvs.1 (rv x (List.mem_cons_of_mem _ List.mem_cons_self)) (rv y List.mem_cons_self) (fun h1 z z1 z2 C1 => hr h1 _ C1 up_6 (stA_e (fun _ => up_a (by decide)) hvs.2.2) ⟨(up_e _ _ _ _).trans (y01 z1 z2), stA_up (Int.le_refl _) hts⟩)
    · cases e
  · subst q
    cases ts with
    | nil =>
      have e : (none : Option (List Int × List Int)) = some (vs2, ts2) := e
      cases e
    | cons z u =>
      have e : some (vs, (if z = 0 then (1 : Int) else 0) :: u) = some (vs2, ts2) := e
      cases e
      have hl : vs.length < 330 ∧ u.length + 1 < 330 := hl
      exact uc_233_20 C hc hb hu ho hv (k := (vs.length : Int)) (q := (u.length : Int)) (by omega) (by omega) hts.1 (fun h1 y y1 y2 C1 => hr h1 _ C1 up_6 (stA_e (fun _ => up_a (by decide)) hvs) ⟨(up_e _ _ _ _).trans (y01 y1 y2), stA_up (Int.le_refl _) hts.2⟩)
  · subst q
    rcases ts with _ | ⟨z2, _ | ⟨z1, u⟩⟩
    · have e : (none : Option (List Int × List Int)) = some (vs2, ts2) := e
      cases e
    · have e : (none : Option (List Int × List Int)) = some (vs2, ts2) := e
      cases e
    · have e : some (vs, (if ¬ z1 = 0 ∧ ¬ z2 = 0 then (1 : Int) else 0) :: u) = some (vs2, ts2) := e
      cases e
      have hl : vs.length < 330 ∧ u.length + 1 + 1 < 330 := hl
      exact uc_233_21 C hc hb hu ho hv (k := (vs.length : Int)) (q := (u.length : Int)) (by omega) (by omega) hts.2.1 hts.1 (fun h1 y y1 y2 C1 => hr h1 _ C1 up_6 (stA_e (fun _ => up_a (by decide)) hvs) ⟨(up_e _ _ _ _).trans (y01 y1 y2), stA_up (Int.le_refl _) hts.2.2⟩)
  · subst q
    rcases ts with _ | ⟨z2, _ | ⟨z1, u⟩⟩
    · have e : (none : Option (List Int × List Int)) = some (vs2, ts2) := e
      cases e
    · have e : (none : Option (List Int × List Int)) = some (vs2, ts2) := e
      cases e
    · have e : some (vs, (if ¬ z1 = 0 ∨ ¬ z2 = 0 then (1 : Int) else 0) :: u) = some (vs2, ts2) := e
      cases e
      have hl : vs.length < 330 ∧ u.length + 1 + 1 < 330 := hl
      exact uc_233_22 C hc hb hu ho hv (k := (vs.length : Int)) (q := (u.length : Int)) (by omega) (by omega) hts.2.1 hts.1 (fun h1 y y1 y2 C1 => hr h1 _ C1 up_6 (stA_e (fun _ => up_a (by decide)) hvs) ⟨(up_e _ _ _ _).trans (y01 y1 y2), stA_up (Int.le_refl _) hts.2.2⟩)
