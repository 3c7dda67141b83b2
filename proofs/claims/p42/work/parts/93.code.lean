/-! code that never takes what isn't there, built item by item -/
def we_1 (o v : Int) (q : Nat × Nat) : Option (Nat × Nat) :=
  if o = 0 then some (q.1 + 1, q.2)
  else if o = 1 then (if 0 ≤ v ∧ v ≤ 9 then some (q.1 + 1, q.2) else none)
  else if o = 2 then (if 0 ≤ v ∧ v ≤ 6 ∧ v.toNat + 1 ≤ q.1 then some (q.1 - (v.toNat + 1), q.2 + 1) else none)
  else if o = 3 then (if 1 ≤ q.1 then some q else none)
  else if o < 10 then (if 0 ≤ o ∧ 2 ≤ q.1 then some (q.1 - 1, q.2) else none)
  else if o < 20 then (if 2 ≤ q.1 then some (q.1 - 2, q.2 + 1) else none)
  else if o = 20 then (if 1 ≤ q.2 then some q else none)
  else (if 2 ≤ q.2 then some (q.1, q.2 - 1) else none)
def we (vs : List Value) (base : Nat) : Nat → Nat → Nat × Nat → Option (Nat × Nat)
  | _, 0, q => some q
  | i, len + 1, q => match we_1 (sx_el vs (base + 2 * i)) (sx_el vs (base + 2 * i + 1)) q with
    | some q' => we vs base (i + 1) len q'
    | none => none
theorem we_wf {vs : List Value} {base : Nat} : ∀ {len i n t : Nat} {q : Nat × Nat}, we vs base i len (n, t) = some q → sx_wf vs base i len n t = true
  | 0, i, n, t, q, _ => by unfold sx_wf; rfl
  | len + 1, i, n, t, q, h => by
    unfold we at h
    split at h
    · rename_i q' h1
      obtain ⟨n', t'⟩ := q'
      have ih := we_wf h
      unfold we_1 at h1
      unfold sx_wf
      split at h1
      · rename_i e
        cases h1
        rw [if_pos e]
        exact ih
      · rename_i e
        rw [if_neg e]
        split at h1
        · rename_i e
          rw [if_pos e]
          split at h1
          · rename_i c
            cases h1
            rw [Bool.and_eq_true]
            exact ⟨decide_eq_true c, ih⟩
          · cases h1
        · rename_i e
          rw [if_neg e]
          split at h1
          · rename_i e
            rw [if_pos e]
            split at h1
            · rename_i c
              cases h1
              rw [Bool.and_eq_true]
              exact ⟨decide_eq_true c, ih⟩
            · cases h1
          · rename_i e
            rw [if_neg e]
            split at h1
            · rename_i e
              rw [if_pos e]
              split at h1
              · rename_i c
                cases h1
                rw [Bool.and_eq_true]
                exact ⟨decide_eq_true c, ih⟩
              · cases h1
            · rename_i e
              rw [if_neg e]
              split at h1
              · rename_i e
                rw [if_pos e]
                split at h1
                · rename_i c
                  cases h1
                  rw [Bool.and_eq_true]
                  exact ⟨decide_eq_true c, ih⟩
                · cases h1
              · rename_i e
                rw [if_neg e]
                split at h1
                · rename_i e
                  rw [if_pos e]
                  split at h1
                  · rename_i c
                    cases h1
                    rw [Bool.and_eq_true]
                    exact ⟨decide_eq_true c, ih⟩
                  · cases h1
                · rename_i e
                  rw [if_neg e]
                  split at h1
                  · rename_i e
                    rw [if_pos e]
                    split at h1
                    · rename_i c
                      cases h1
                      rw [Bool.and_eq_true]
                      exact ⟨decide_eq_true c, ih⟩
                    · cases h1
                  · rename_i e
                    rw [if_neg e]
                    split at h1
                    · rename_i c
                      cases h1
                      rw [Bool.and_eq_true]
                      exact ⟨decide_eq_true c, ih⟩
                    · cases h1
    · cases h
theorem we_app {vs : List Value} {base : Nat} : ∀ {len i : Nat} {q q1 q2 : Nat × Nat}, we vs base i len q = some q1 → we_1 (sx_el vs (base + 2 * (i + len))) (sx_el vs (base + 2 * (i + len) + 1)) q1 = some q2 → we vs base i (len + 1) q = some q2
  | 0, i, q, q1, q2, h, h1 => by
    unfold we at h
    cases h
    unfold we
    rw [Nat.add_zero] at h1
    rw [h1]
    rfl
  | len + 1, i, q, q1, q2, h, h1 => by
    unfold we at h
    split at h
    · rename_i q' e
      rw [show i + (len + 1) = i + 1 + len by omega] at h1
      have ih := we_app h h1
      unfold we
      rw [e]
      exact ih
    · cases h
theorem we_fr {vs ws : List Value} {base : Nat} : ∀ {len i : Nat} {q : Nat × Nat}, (∀ k, i ≤ k → k < i + len → sx_el ws (base + 2 * k) = sx_el vs (base + 2 * k) ∧ sx_el ws (base + 2 * k + 1) = sx_el vs (base + 2 * k + 1)) → we ws base i len q = we vs base i len q
  | 0, i, q, _ => rfl
  | len + 1, i, q, h => by
    have h1 := h i (Nat.le_refl _) (by omega)
    unfold we
    rw [h1.1, h1.2]
    split
    · exact we_fr (fun k k1 k2 => h k (by omega) (by omega))
    · rfl
theorem we_1_le {o v : Int} {q q' : Nat × Nat} (h : we_1 o v q = some q') : q'.1 + q'.2 ≤ q.1 + q.2 + 1 := by
  unfold we_1 at h
  split at h
  · cases h
    dsimp only
    omega
  split at h
  · split at h
    · cases h
      dsimp only
      omega
    · cases h
  split at h
  · split at h
    · cases h
      dsimp only
      omega
    · cases h
  split at h
  · split at h
    · cases h
      omega
    · cases h
  split at h
  · split at h
    · cases h
      dsimp only
      omega
    · cases h
  split at h
  · split at h
    · cases h
      dsimp only
      omega
    · cases h
  split at h
  · split at h
    · cases h
      omega
    · cases h
  split at h
  · cases h
    dsimp only
    omega
  · cases h
theorem we_le {vs : List Value} {base : Nat} : ∀ {len i : Nat} {q q' : Nat × Nat}, we vs base i len q = some q' → q'.1 + q'.2 ≤ q.1 + q.2 + len
  | 0, i, q, q', h => by
    unfold we at h
    cases h
    omega
  | len + 1, i, q, q', h => by
    unfold we at h
    split at h
    · rename_i q1 e
      have h1 := we_1_le e
      have h2 := we_le h
      omega
    · cases h
theorem sx_wf_fr {vs ws : List Value} {base : Nat} : ∀ {len i n t : Nat}, (∀ k, i ≤ k → k < i + len → sx_el ws (base + 2 * k) = sx_el vs (base + 2 * k) ∧ sx_el ws (base + 2 * k + 1) = sx_el vs (base + 2 * k + 1)) → sx_wf ws base i len n t = sx_wf vs base i len n t
  | 0, i, n, t, _ => by unfold sx_wf; rfl
  | len + 1, i, n, t, h => by
    have h1 := h i (Nat.le_refl _) (by omega)
    have h2 : ∀ n t, sx_wf ws base (i + 1) len n t = sx_wf vs base (i + 1) len n t := fun n t => sx_wf_fr (fun k k1 k2 => h k (by omega) (by omega))
    unfold sx_wf
    rw [h1.1, h1.2]
    simp only [h2]
/-- the texts: kept code is good, and of text s no code beyond w is kept -/
def jw (ts : List Value) (s w : Nat) : Prop := sx_JT ts ∧ ∀ k : Nat, k < 24 → (k : Int) < sx_el ts (705 * s) → sx_el ts (705 * s + 1 + 4 * k) ≤ 2 → sx_el ts (705 * s + 1 + 4 * k + 2) ≤ (w : Int)
/-- what isn't looked at may change -/
theorem jw_fr {ts us : List Value} {s w : Nat} (hj : jw ts s w) (h0 : ∀ r : Nat, r < 4 → sx_el us (705 * r) = sx_el ts (705 * r)) (h1 : ∀ r k j : Nat, r < 4 → k < 24 → (k : Int) < sx_el ts (705 * r) → j < 4 → sx_el us (705 * r + 1 + 4 * k + j) = sx_el ts (705 * r + 1 + 4 * k + j)) (h2 : ∀ r i : Nat, r < 4 → r ≠ s → i < 303 → sx_el us (705 * r + 97 + 2 * i) = sx_el ts (705 * r + 97 + 2 * i) ∧ sx_el us (705 * r + 97 + 2 * i + 1) = sx_el ts (705 * r + 97 + 2 * i + 1)) (h3 : ∀ i : Nat, i < w → sx_el us (705 * s + 97 + 2 * i) = sx_el ts (705 * s + 97 + 2 * i) ∧ sx_el us (705 * s + 97 + 2 * i + 1) = sx_el ts (705 * s + 97 + 2 * i + 1)) (hs : s < 4) : jw us s w := by
  obtain ⟨j1, j2⟩ := hj
  refine ⟨fun r k hr hk hn hl => ?_, fun k hk hn hl => ?_⟩
  · rw [h0 r hr] at hn
    have e0 := h1 r k 0 hr hk hn (by decide)
    have e1 := h1 r k 1 hr hk hn (by decide)
    have e2 := h1 r k 2 hr hk hn (by decide)
    rw [Nat.add_zero] at e0
    rw [e0] at hl
    obtain ⟨p, q, a1, a2, a3, a4⟩ := j1 r k hr hk hn hl
    refine ⟨p, q, e1.trans a1, e2.trans a2, a3, ?_⟩
    rw [← a4]
    refine sx_wf_fr (fun i i1 i2 => ?_)
    by_cases e : r = s
    · subst e
      have := j2 k hk hn hl
      rw [a2] at this
      exact h3 i (by omega)
    · exact h2 r i hr e (by omega)
  · rw [h0 s hs] at hn
    have e0 := h1 s k 0 hs hk hn (by decide)
    have e2 := h1 s k 2 hs hk hn (by decide)
    rw [Nat.add_zero] at e0
    rw [e0] at hl
    rw [e2]
    exact j2 k hk hn hl
theorem jw_le {ts : List Value} {s w w' : Nat} (hj : jw ts s w) (h : w ≤ w') : jw ts s w' := ⟨hj.1, fun k a b c => by have := hj.2 k a b c; omega⟩
/-! the pile, its last first -/
def pp (pl : List Value) : Nat → List Int
  | 0 => []
  | n + 1 => sx_el pl n :: pp pl n
theorem pp_len {pl : List Value} : ∀ n, (pp pl n).length = n
  | 0 => rfl
  | n + 1 => by rw [pp, List.length_cons, pp_len n]
theorem pp_fr {pl ql : List Value} : ∀ {n : Nat}, (∀ j, j < n → sx_el ql j = sx_el pl j) → pp ql n = pp pl n
  | 0, _ => rfl
  | n + 1, h => by
    rw [pp, pp, h n (by omega), pp_fr (fun j hj => h j (by omega))]
def pr_rank (o : Int) : Int := if 40 ≤ o then 0 else if o = 22 then 1 else if o = 21 then 2 else if o = 20 then 3 else if 10 ≤ o then 4 else if o = 3 then 7 else if 6 ≤ o then 6 else 5
/-- how the pile may be -/
def po_L : List Int → Prop
  | [] => True
  | x :: l => (20 ≤ x ∧ x ≤ 22) ∧ po_L l
def po_A : List Int → Prop
  | [] => True
  | x :: l => ((3 ≤ x ∧ x ≤ 7 ∨ x = 40) ∧ po_A l) ∨ ((10 ≤ x ∧ x ≤ 15 ∨ x = 41 ∨ (20 ≤ x ∧ x ≤ 22)) ∧ po_L l)
/-- values, truths that it waits for; what is open -/
def po_n (am : Nat) : List Int → Nat
  | [] => 0
  | x :: l => (if 4 ≤ x ∧ x ≤ 7 then 1 else if 10 ≤ x ∧ x ≤ 15 then 1 else if x = 41 then am else 0) + po_n am l
def po_t : List Int → Nat
  | [] => 0
  | x :: l => (if 21 ≤ x ∧ x ≤ 22 then 1 else 0) + po_t l
def po_o : List Int → Nat
  | [] => 0
  | x :: l => (if x = 3 ∨ x = 20 ∨ x = 40 ∨ x = 41 then 1 else 0) + po_o l
theorem po_n_c {am : Nat} {x : Int} {l : List Int} : po_n am (x :: l) = (if 4 ≤ x ∧ x ≤ 7 then 1 else if 10 ≤ x ∧ x ≤ 15 then 1 else if x = 41 then am else 0) + po_n am l := rfl
theorem po_t_c {x : Int} {l : List Int} : po_t (x :: l) = (if 21 ≤ x ∧ x ≤ 22 then 1 else 0) + po_t l := rfl
theorem po_o_c {x : Int} {l : List Int} : po_o (x :: l) = (if x = 3 ∨ x = 20 ∨ x = 40 ∨ x = 41 then 1 else 0) + po_o l := rfl
theorem po_L_n {am : Nat} : ∀ {l : List Int}, po_L l → po_n am l = 0
  | [], _ => rfl
  | x :: l, h => by
    have ih := po_L_n (am := am) h.2
    have := h.1
    unfold po_n
    rw [if_neg (by omega), if_neg (by omega), if_neg (by omega), ih]
theorem po_L_A : ∀ {l : List Int}, po_L l → po_A l
  | [], _ => trivial
  | _ :: _, h => Or.inr ⟨Or.inr (Or.inr h.1), h.2⟩
theorem po_L_len : ∀ {l : List Int}, po_L l → l.length ≤ po_t l + po_o l
  | [], _ => Nat.le_refl _
  | x :: l, h => by
    have ih := po_L_len h.2
    have := h.1
    unfold po_t po_o
    rw [List.length_cons]
    by_cases e : x = 20
    · rw [if_neg (by omega), if_pos (by omega)]
      omega
    · rw [if_pos (by omega), if_neg (by omega)]
      omega
theorem po_A_len {am : Nat} : ∀ {l : List Int}, po_A l → l.length ≤ po_n am l + po_t l + po_o l
  | [], _ => Nat.le_refl _
  | x :: l, h => by
    rcases h with ⟨h1, h2⟩ | ⟨h1, h2⟩
    · have ih := po_A_len (am := am) h2
      unfold po_n po_t po_o
      rw [List.length_cons]
      by_cases e : x = 3 ∨ x = 40
      · rw [if_neg (by omega), if_neg (by omega), if_neg (by omega), if_neg (by omega), if_pos (by omega)]
        omega
      · rw [if_pos (by omega), if_neg (by omega), if_neg (by omega)]
        omega
    · have ih := po_L_len h2
      unfold po_n po_t po_o
      rw [List.length_cons]
      by_cases e : x = 41
      · rw [if_neg (by omega), if_neg (by omega), if_pos e, if_neg (by omega), if_pos (by omega)]
        omega
      · by_cases e2 : x = 20
        · rw [if_neg (by omega), if_neg (by omega), if_neg (by omega), if_neg (by omega), if_pos (by omega)]
          omega
        · by_cases e3 : x ≤ 15
          · rw [if_neg (by omega), if_pos (by omega), if_neg (by omega), if_neg (by omega)]
            omega
          · rw [if_neg (by omega), if_neg (by omega), if_neg (by omega), if_pos (by omega), if_neg (by omega)]
            omega
/-- what settle does -/
def se (least : Int) : List Int → Nat × Nat → Option (List Int × (Nat × Nat))
  | [], q => some ([], q)
  | x :: l, q => if least ≤ pr_rank x then (if x = 16 then se least l q else match we_1 x 0 q with
      | some q' => se least l q'
      | none => none) else some (x :: l, q)
theorem rk_3 {x : Int} (h : 3 ≤ x ∧ x ≤ 7) : 5 ≤ pr_rank x := by
  unfold pr_rank
  rw [if_neg (by omega), if_neg (by omega), if_neg (by omega), if_neg (by omega), if_neg (by omega)]
  split
  · omega
  · split <;> omega
theorem rk_10 {x : Int} (h : 10 ≤ x ∧ x ≤ 16) : pr_rank x = 4 := by
  unfold pr_rank
  rw [if_neg (by omega), if_neg (by omega), if_neg (by omega), if_neg (by omega), if_pos (by omega)]
theorem rk_L {x : Int} (h : 20 ≤ x ∧ x ≤ 22) : 1 ≤ pr_rank x ∧ pr_rank x ≤ 3 := by
  unfold pr_rank
  rw [if_neg (by omega)]
  split
  · omega
  · split
    · omega
    · split
      · omega
      · omega
theorem rk_40 {x : Int} (h : 40 ≤ x) : pr_rank x = 0 := if_pos h
theorem we_1_V {x : Int} {l : List Int} {am : Nat} (h : 3 ≤ x ∧ x ≤ 7) : we_1 x 0 (po_n am (x :: l) + 1, po_t (x :: l)) = some (po_n am l + 1, po_t l) := by
  rw [po_n_c, po_t_c]
  generalize po_n am l = N
  generalize po_t l = T
  unfold we_1
  rw [if_neg (by omega), if_neg (by omega), if_neg (by omega), if_neg (c := 21 ≤ x ∧ x ≤ 22) (by omega), Nat.zero_add]
  by_cases e : x = 3
  · rw [if_pos e, if_neg (c := 4 ≤ x ∧ x ≤ 7) (by omega), if_neg (c := 10 ≤ x ∧ x ≤ 15) (by omega), if_neg (c := x = 41) (by omega), Nat.zero_add]
    exact if_pos (Nat.le_add_left 1 N)
  · rw [if_neg e, if_pos (c := x < 10) (by omega), if_pos (c := 4 ≤ x ∧ x ≤ 7) (by omega)]
    rw [if_pos (by dsimp only; omega)]
    congr 2
    dsimp only
    omega
/-- in front of a value: of the pile only what works on values is taken -/
theorem se_V {least : Int} (hl : 4 ≤ least) {am : Nat} : ∀ {l : List Int}, po_A l → (least = 4 → ∀ x ∈ l, ¬ (10 ≤ x ∧ x ≤ 15)) → ∃ l', se least l (po_n am l + 1, po_t l) = some (l', (po_n am l' + 1, po_t l')) ∧ po_A l' ∧ (∃ k, l' = l.drop k) ∧ (∀ x ∈ l, 40 ≤ x → x ∈ l') ∧ (least ≤ 5 → ∀ x r, l' = x :: r → ¬ (3 ≤ x ∧ x ≤ 7))
  | [], _, _ => ⟨[], rfl, trivial, ⟨0, rfl⟩, ⟨fun x hx _ => (by cases hx), fun _ x r h => (by cases h)⟩⟩
  | x :: l, h, h4 => by
    unfold se
    by_cases hr : least ≤ pr_rank x
    · rw [if_pos hr]
      have hx : 3 ≤ x ∧ x ≤ 7 := by
        rcases h with ⟨h1, -⟩ | ⟨h1, -⟩
        · rcases h1 with h1 | h1
          · exact h1
          · rw [rk_40 (by omega)] at hr
            omega
        · rcases h1 with h1 | h1 | h1
          · rw [rk_10 (by omega)] at hr
            exact absurd h1 (h4 (by omega) x List.mem_cons_self)
          · rw [rk_40 (by omega)] at hr
            omega
          · have := rk_L h1
            omega
      have hA : po_A l := by
        rcases h with ⟨-, h2⟩ | ⟨h1, -⟩
        · exact h2
        · omega
      rw [if_neg (by omega), we_1_V hx]
      dsimp only
      obtain ⟨l', e1, e2, ⟨k, e3⟩, e4, e5⟩ := se_V hl (am := am) hA (fun q y hy => h4 q y (List.mem_cons_of_mem _ hy))
      refine ⟨l', e1, e2, ⟨k + 1, by rw [e3, List.drop_succ_cons]⟩, fun y hy h40 => ?_, e5⟩
      rcases List.mem_cons.mp hy with e | e
      · omega
      · exact e4 y e h40
    · rw [if_neg hr]
      refine ⟨x :: l, rfl, h, ⟨0, rfl⟩, fun _ hy _ => hy, fun h5 y r e hy => ?_⟩
      cases e
      have := rk_3 hy
      omega
/-- with a truth at hand -/
theorem se_T {least : Int} : ∀ {l : List Int}, po_L l → ∃ l', se least l (0, po_t l + 1) = some (l', (0, po_t l' + 1)) ∧ po_L l' ∧ (∃ k, l' = l.drop k)
  | [], _ => ⟨[], rfl, trivial, 0, rfl⟩
  | x :: l, h => by
    unfold se
    by_cases hr : least ≤ pr_rank x
    · have hx := h.1
      rw [if_pos hr, if_neg (by omega)]
      have e : we_1 x 0 (0, po_t (x :: l) + 1) = some (0, po_t l + 1) := by
        rw [po_t_c]
        generalize po_t l = T
        unfold we_1
        rw [if_neg (by omega), if_neg (by omega), if_neg (by omega), if_neg (by omega), if_neg (by omega), if_neg (by omega)]
        by_cases e : x = 20
        · rw [if_pos e, if_neg (c := 21 ≤ x ∧ x ≤ 22) (by omega), Nat.zero_add]
          exact if_pos (Nat.le_add_left 1 T)
        · rw [if_neg e, if_pos (c := 21 ≤ x ∧ x ≤ 22) (by omega), if_pos (by dsimp only; omega)]
          congr 2
          dsimp only
          omega
      rw [e]
      dsimp only
      obtain ⟨l', e1, e2, k, e3⟩ := se_T (least := least) h.2
      exact ⟨l', e1, e2, k + 1, by rw [e3, List.drop_succ_cons]⟩
    · rw [if_neg hr]
      exact ⟨x :: l, rfl, h, 0, rfl⟩
/-- behind a comparison's second value -/
theorem se_C {least : Int} (hl : least ≤ 4) (hl1 : 1 ≤ least) {am : Nat} : ∀ {l : List Int}, po_A l → (∀ x ∈ l, x < 40) → (∃ k x r, l.drop k = x :: r ∧ 10 ≤ x ∧ x ≤ 15 ∧ ∀ j y, j < k → l[j]? = some y → 3 ≤ y ∧ y ≤ 7) → ∃ l', se least l (po_n am l + 1, po_t l) = some (l', (0, po_t l' + 1)) ∧ po_L l' ∧ (∃ k, l' = l.drop k)
  | [], _, _, h => by
    obtain ⟨k, x, r, h1, -⟩ := h
    rw [List.drop_nil] at h1
    cases h1
  | x :: l, h, h40, ⟨k, y, r, c1, c2, c3, c4⟩ => by
    unfold se
    cases k with
    | zero =>
      rw [List.drop_zero] at c1
      cases c1
      have hr := rk_10 (x := x) (by omega)
      have hL : po_L l := by
        rcases h with ⟨h1, -⟩ | ⟨-, h2⟩
        · omega
        · exact h2
      rw [if_pos (by omega), if_neg (by omega)]
      have e : we_1 x 0 (po_n am (x :: l) + 1, po_t (x :: l)) = some (0, po_t l + 1) := by
        rw [po_n_c, po_t_c, po_L_n hL]
        generalize po_t l = T
        unfold we_1
        rw [if_neg (c := 21 ≤ x ∧ x ≤ 22) (by omega), if_neg (c := 4 ≤ x ∧ x ≤ 7) (by omega), if_pos (c := 10 ≤ x ∧ x ≤ 15) (by omega), if_neg (by omega), if_neg (by omega), if_neg (by omega), if_neg (by omega), if_neg (by omega), if_pos (c := x < 20) (by omega), Nat.zero_add]
        rfl
      rw [e]
      dsimp only
      obtain ⟨l', e1, e2, k, e3⟩ := se_T (least := least) hL
      exact ⟨l', e1, e2, k + 1, by rw [e3, List.drop_succ_cons]⟩
    | succ k =>
      have hx := c4 0 x (by omega) rfl
      have hr := rk_3 hx
      have hA : po_A l := by
        rcases h with ⟨-, h2⟩ | ⟨h1, -⟩
        · exact h2
        · omega
      rw [if_pos (by omega), if_neg (by omega), we_1_V hx]
      dsimp only
      rw [List.drop_succ_cons] at c1
      obtain ⟨l', e1, e2, k', e3⟩ := se_C hl hl1 (am := am) hA (fun z hz => h40 z (List.mem_cons_of_mem _ hz)) ⟨k, y, r, c1, c2, c3, fun j z hj hz => c4 (j + 1) z (by omega) hz⟩
      exact ⟨l', e1, e2, k' + 1, by rw [e3, List.drop_succ_cons]⟩
/-- within something open: down to it -/
theorem se_O {am : Nat} {o : Int} : ∀ {l : List Int}, po_A l → (∃ k r, l.drop k = o :: r ∧ ∀ j y, j < k → l[j]? = some y → y < 40) → 40 ≤ o → ∃ k, se 1 l (po_n am l + 1, po_t l) = some (l.drop k, (po_n am (l.drop k) + 1, po_t (l.drop k))) ∧ po_A (l.drop k) ∧ ∃ r, l.drop k = o :: r
  | [], _, h, _ => by
    obtain ⟨k, r, h1, -⟩ := h
    rw [List.drop_nil] at h1
    cases h1
  | x :: l, h, ⟨k, r, c1, c2⟩, ho => by
    unfold se
    cases k with
    | zero =>
      rw [List.drop_zero] at c1
      cases c1
      rw [if_neg (by rw [rk_40 ho]; omega)]
      exact ⟨0, rfl, h, l, rfl⟩
    | succ k =>
      have hx := c2 0 x (by omega) rfl
      rw [List.drop_succ_cons] at c1
      have hm : o ∈ l := List.mem_of_mem_drop (by rw [c1]; exact List.mem_cons_self)
      have hA : (3 ≤ x ∧ x ≤ 7) ∧ po_A l := by
        rcases h with ⟨h1, h2⟩ | ⟨h1, h2⟩
        · exact ⟨by omega, h2⟩
        · have : ∀ {l : List Int}, po_L l → ∀ y ∈ l, y ≤ 22 := by
            intro l
            induction l with
            | nil => intro _ y hy; cases hy
            | cons z l ih =>
              intro hL y hy
              rcases List.mem_cons.mp hy with e | e
              · rw [e]; exact hL.1.2
              · exact ih hL.2 y e
          have := this h2 o hm
          omega
      have hr := rk_3 hA.1
      rw [if_pos (by omega), if_neg (by omega), we_1_V hA.1]
      dsimp only
      obtain ⟨k', e1, e2, e3⟩ := se_O (am := am) hA.2 ⟨k, r, c1, fun j y hj hy => c2 (j + 1) y (by omega) hy⟩ ho
      exact ⟨k' + 1, by rw [List.drop_succ_cons]; exact e1, by rw [List.drop_succ_cons]; exact e2, by rw [List.drop_succ_cons]; exact e3⟩
