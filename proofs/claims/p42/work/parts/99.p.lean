/-! the reference's constructor up to its copy; the types of the heap there -/
set_option maxRecDepth 1000000 in
theorem cx_K2 : (match mj_new 0 10, mj_ent (mj_nl 168) [.ref 138] with
  | some q, some lv => (match cx_to 197 168 2000 0 lv [] (cx_L1.map cx_x ++ [q]) with
    | some (_, st, t) => (match st with
      | [.ref x, .ref y] => x == 140 && y == 139
      | _ => false) && cx_heq t (cx_L1 ++ cx_L2)
    | none => false)
  | _, _ => false) = true := by decide +kernel
/-- a cell's places from k on: as its type says, and what counts is at most 0 -/
def cx_cb (ty : Nat) (l : List (Nat × Nat × List sx_D)) : Nat → List Value → Bool
  | _, [] => true
  | k, v :: vs => (match sx_fd l k with
    | some d => cx_drb d v
    | none => false) && ((!sx_sens ty k || (match v with
      | .int z => decide (z.toInt ≤ 0)
      | _ => true)) && cx_cb ty l (k + 1) vs)
theorem cx_cb_ok {ty : Nat} {l : List (Nat × Nat × List sx_D)} : ∀ {vs : List Value} {k : Nat}, cx_cb ty l k vs = true → ∀ (j : Nat) (v : Value), vs[j]? = some v → (∃ d, sx_fd l (k + j) = some d ∧ sx_dr sx_tau d v) ∧ (sx_sens ty (k + j) = true → ∀ z, v = .int z → z.toInt ≤ 0)
  | [], k, _, j, v, hv => by simp at hv
  | w :: vs, k, h, j, v, hv => by
    unfold cx_cb at h
    rw [Bool.and_eq_true, Bool.and_eq_true] at h
    obtain ⟨h1, h2, h3⟩ := h
    cases j with
    | zero =>
      cases hv
      rw [Nat.add_zero]
      constructor
      · split at h1
        · rename_i d hd
          exact ⟨d, hd, cx_drb_ok h1⟩
        · cases h1
      · intro hs z ez
        subst ez
        rw [hs] at h2
        exact of_decide_eq_true h2
    | succ j =>
      have := cx_cb_ok h3 j v hv
      rw [show k + (j + 1) = k + 1 + j by omega]
      exact this
/-- the same value from k0 on to n -/
def cx_cz (v : Value) (k0 n : Nat) : Nat → List (Nat × Nat × List sx_D) → Bool
  | s, [] => decide (s = n)
  | s, (f, c, ds) :: l => decide (f = s) && (decide (0 < ds.length) && ((decide (s + c ≤ k0) || ds.all fun d => cx_drb d v) && cx_cz v k0 n (s + c) l))
theorem cx_cz_ok {v : Value} {k0 n : Nat} : ∀ {l : List (Nat × Nat × List sx_D)} {s : Nat}, cx_cz v k0 n s l = true → ∀ k, s ≤ k → k0 ≤ k → k < n → ∃ d, sx_fd l k = some d ∧ sx_dr sx_tau d v
  | [], s, h, k, h1, h2, h3 => by
    unfold cx_cz at h
    have := of_decide_eq_true h
    omega
  | (f, c, ds) :: l, s, h, k, h1, h2, h3 => by
    unfold cx_cz at h
    rw [Bool.and_eq_true, Bool.and_eq_true, Bool.and_eq_true, decide_eq_true_eq, decide_eq_true_eq] at h
    obtain ⟨e1, e2, e3, e4⟩ := h
    subst e1
    by_cases hk : k < f + c
    · have hf : ((f, c, ds) :: l).find? (fun q => decide (q.1 ≤ k) && decide (k < q.1 + q.2.1)) = some (f, c, ds) := by
        rw [List.find?_cons_of_pos]
        simp only [Bool.and_eq_true, decide_eq_true_eq]
        exact ⟨h1, hk⟩
      have hlt : (k - f) % ds.length < ds.length := Nat.mod_lt _ e2
      refine ⟨ds[(k - f) % ds.length], ?_, ?_⟩
      · unfold sx_fd
        rw [hf]
        exact List.getElem?_eq_getElem hlt
      · rw [Bool.or_eq_true, decide_eq_true_eq] at e3
        rcases e3 with e3 | e3
        · omega
        · exact cx_drb_ok (List.all_eq_true.mp e3 _ (List.getElem_mem hlt))
    · obtain ⟨d, d1, d2⟩ := cx_cz_ok e4 k (by omega) h2 h3
      refine ⟨d, ?_, d2⟩
      rw [← d1]
      unfold sx_fd
      rw [List.find?_cons_of_neg]
      simp only [Bool.and_eq_true, decide_eq_true_eq]
      omega
/-- one cell -/
def cx_hb (a : Nat) (q : cx_R) : Bool := match sx_tau[a]? with
  | none => true
  | some ty => match sx_TT[ty]? with
    | none => true
    | some y => (decide (ty < 20) || decide (mj_n0 ≤ a)) && (decide (q.1 = y.1) && (decide (q.2.1.length + q.2.2.1 = y.2.1) && (cx_cb ty y.2.2 0 q.2.1 && ((decide (q.2.2.1 = 0) || cx_cz q.2.2.2 q.2.1.length y.2.1 0 y.2.2) && ((decide (q.2.2.1 = 0) || (cx_veq q.2.2.2 (.int 0) || sx_nst ty)) && (!(ty == 20) || (q.2.1.isEmpty && cx_veq q.2.2.2 (.int 0))))))))
def cx_rng : Nat → List cx_R → Bool
  | _, [] => true
  | a, q :: l => cx_hb a q && cx_rng (a + 1) l
theorem cx_rng_ok : ∀ {l : List cx_R} {a : Nat}, cx_rng a l = true → ∀ (j : Nat) (q : cx_R), l[j]? = some q → cx_hb (a + j) q = true
  | [], a, _, j, q, hq => by simp at hq
  | w :: l, a, h, j, q, hq => by
    unfold cx_rng at h
    rw [Bool.and_eq_true] at h
    cases j with
    | zero =>
      cases hq
      exact h.1
    | succ j =>
      have := cx_rng_ok h.2 j q hq
      rw [show a + (j + 1) = a + 1 + j by omega]
      exact this
set_option maxRecDepth 1000000 in
theorem cx_K3 : (cx_rng 1 (cx_L1 ++ cx_L2) && (decide ((cx_L1 ++ cx_L2).length = 151) && decide (sx_tau.length = 152))) = true := by decide +kernel
set_option maxRecDepth 1000000 in
theorem cx_K4 : decide (sx_tau[0]? = some 1000) && ((sx_TT[1000]?).isNone && ((sx_TT.all fun y => decide (y.2.1 ≤ 6044)) && (sx_tau.all fun t => decide (t < 73) || decide (t = 1000)))) = true := by decide +kernel
