/-! -/
/-! what is written says one thing in both: evaluation -/
theorem evC_app {N : Int → Int} : ∀ (A B st : List Int), evC N (A ++ B) st = (evC N A st).bind (evC N B)
  | [], _, _ => rfl
  | it :: A, B, st => by
    show (stC N it st).bind (evC N (A ++ B)) = ((stC N it st).bind (evC N A)).bind (evC N B)
    cases stC N it st with
    | none => rfl
    | some s2 => exact evC_app A B s2
theorem evR_app {N : Int → Int} : ∀ (A B : List (Int × Int)) (vs ts : List Int), evR N (A ++ B) vs ts = (evR N A vs ts).bind (fun q => evR N B q.1 q.2)
  | [], _, _, _ => rfl
  | p :: A, B, vs, ts => by
    show (stR N p.1 p.2 vs ts).bind (fun q => evR N (A ++ B) q.1 q.2) = ((stR N p.1 p.2 vs ts).bind (fun q => evR N A q.1 q.2)).bind (fun q => evR N B q.1 q.2)
    cases stR N p.1 p.2 vs ts with
    | none => rfl
    | some s2 => exact evR_app A B s2.1 s2.2
/-- the class's code makes of values and truths others; and if P, the reference's does so too -/
def EV (N M : Int → Int) (P : Prop) (E vs ts vs2 ts2 : List Int) : Prop := evC N E (vs ++ ts) = some (vs2 ++ ts2) ∧ (P → evR M (E.map cvt) vs ts = some (vs2, ts2))
section EVS
variable {N M : Int → Int} {P : Prop}
theorem EV_0 {vs ts : List Int} : EV N M P [] vs ts vs ts := ⟨rfl, fun _ => rfl⟩
theorem EV_t {A B vs ts v1 t1 v2 t2 : List Int} (a : EV N M P A vs ts v1 t1) (b : EV N M P B v1 t1 v2 t2) : EV N M P (A ++ B) vs ts v2 t2 := ⟨by rw [evC_app, a.1]; exact b.1, fun p => by rw [List.map_append, evR_app, a.2 p]; exact b.2 p⟩
theorem EV_c {x : Int} {B vs ts v1 t1 v2 t2 : List Int} (a : EV N M P [x] vs ts v1 t1) (b : EV N M P B v1 t1 v2 t2) : EV N M P (x :: B) vs ts v2 t2 := EV_t a b
theorem EV_1 {x : Int} {vs ts v1 t1 : List Int} (h1 : stC N x (vs ++ ts) = some (v1 ++ t1)) (h2 : P → stR M (cvt x).1 (cvt x).2 vs ts = some (v1, t1)) : EV N M P [x] vs ts v1 t1 := ⟨by show (stC N x (vs ++ ts)).bind (evC N []) = _; rw [h1]; rfl, fun p => by show (stR M (cvt x).1 (cvt x).2 vs ts).bind (fun q => evR M [] q.1 q.2) = _; rw [h2 p]; rfl⟩
theorem ev_num {v : Int} {vs ts : List Int} (h : 0 ≤ v ∧ v < 10000) (hl : vs.length + ts.length < 60) : EV N M P [v] vs ts (v :: vs) ts := by
  refine EV_1 ?_ (fun _ => ?_)
  · unfold stC
    rw [if_pos (by omega), if_pos (by rw [List.length_append]; omega), if_pos h.2]
    rfl
  · rw [show cvt v = (0, v) from if_pos h.2]
    exact (if_pos rfl).trans (if_pos (by omega))
theorem nmk_o {x : Int} (h : nmv x) : nmk (nmo 0 x) = x ∧ 0 ≤ nmo 0 x ∧ nmo 0 x < 10 := by
  rcases h with e | e | e | e | e | e | e | e | e | e <;> (subst e; decide)
theorem nmv_r {x : Int} (h : nmv x) : 4 ≤ x ∧ x ≤ 24 := by
  unfold nmv at h
  omega
theorem ev_nm {x : Int} {vs ts : List Int} (h : nmv x) (hl : vs.length + ts.length < 60) (hP : P → ∀ k, 0 ≤ k ∧ k < 10 → M k = N (nmk k) ∧ B6 (M k)) : EV N M P [10000 + x] vs ts (N x :: vs) ts := by
  have hr := nmv_r h
  have hk := nmk_o h
  refine EV_1 ?_ (fun p => ?_)
  · unfold stC
    rw [if_pos (by omega), if_pos (by rw [List.length_append]; omega), if_neg (by omega), show 10000 + x - 10000 = x by omega]
    rfl
  · rw [show cvt (10000 + x) = (1, nmo 0 (10000 + x - 10000)) from (if_neg (by omega)).trans (if_pos (by omega)), show 10000 + x - 10000 = x by omega]
    have e := (hP p _ hk.2).1
    rw [hk.1] at e
    rw [← e]
    exact (if_neg (show ¬ (1 : Int) = 0 by decide)).trans ((if_pos rfl).trans (if_pos (by omega)))
theorem clp_b {x : Int} (h : B6 x) : clp x = x ∧ clp (-x) = -x := by
  unfold clp
  omega
theorem ev_neg {x : Int} {vs ts : List Int} (h : P → B6 x) : EV N M P [20000 + 110] (x :: vs) ts (clp (-x) :: vs) ts := by
  refine EV_1 rfl (fun p => ?_)
  rw [(clp_b (h p)).2]
  rfl
theorem ck_56 {c : Int} (h : ck c = 5 ∨ ck c = 6) : c = 43 ∨ c = 45 ∨ c = 42 ∨ c = 47 := by
  unfold ck at h
  repeat' split at h
  all_goals omega
theorem ck_4 {c : Int} (h : ck c = 4) : c = 35 ∨ c = 60 ∨ c = 61 ∨ c = 62 ∨ c = 103 ∨ c = 108 := by
  unfold ck at h
  repeat' split at h
  all_goals omega
theorem ck_123 {c : Int} (h : 1 ≤ ck c ∧ ck c ≤ 3) : c = 33 ∨ c = 38 ∨ c = 124 := by
  unfold ck at h
  repeat' split at h
  all_goals omega
theorem ck_77 {c : Int} (h : ck c = 7) : c = 110 := by
  unfold ck at h
  repeat' split at h
  all_goals omega
theorem ev_ar {c a b : Int} {vs ts : List Int} (h : ck c = 5 ∨ ck c = 6) : EV N M P [20000 + c] (b :: a :: vs) ts (clp (sgv c a b) :: vs) ts := by
  rcases ck_56 h with e | e | e | e <;> (subst e; exact EV_1 rfl (fun _ => rfl))
theorem cp_eq {c a b : Int} (h : ck c = 4) : clp (sgv c a b) = asR (mo c) a b ∧ (asR (mo c) a b = 0 ∨ asR (mo c) a b = 1) := by
  rcases ck_4 h with e | e | e | e | e | e
  · subst e
    show clp (if a = b then 0 else 1) = (if ¬ a = b then 1 else 0) ∧ ((if ¬ a = b then (1 : Int) else 0) = 0 ∨ (if ¬ a = b then (1 : Int) else 0) = 1)
    by_cases h : a = b
    · rw [if_pos h, if_neg (fun z => z h)]; decide
    · rw [if_neg h, if_pos h]; decide
  · subst e
    show clp (if a < b then 1 else 0) = (if a < b then 1 else 0) ∧ ((if a < b then (1 : Int) else 0) = 0 ∨ (if a < b then (1 : Int) else 0) = 1)
    by_cases h : a < b
    · rw [if_pos h]; decide
    · rw [if_neg h]; decide
  · subst e
    show clp (if a = b then 1 else 0) = (if a = b then 1 else 0) ∧ ((if a = b then (1 : Int) else 0) = 0 ∨ (if a = b then (1 : Int) else 0) = 1)
    by_cases h : a = b
    · rw [if_pos h]; decide
    · rw [if_neg h]; decide
  · subst e
    show clp (if b < a then 1 else 0) = (if b < a then 1 else 0) ∧ ((if b < a then (1 : Int) else 0) = 0 ∨ (if b < a then (1 : Int) else 0) = 1)
    by_cases h : b < a
    · rw [if_pos h]; decide
    · rw [if_neg h]; decide
  · subst e
    show clp (if a < b then 0 else 1) = (if b ≤ a then 1 else 0) ∧ ((if b ≤ a then (1 : Int) else 0) = 0 ∨ (if b ≤ a then (1 : Int) else 0) = 1)
    by_cases h : a < b
    · rw [if_pos h, if_neg (by omega)]; decide
    · rw [if_neg h, if_pos (by omega)]; decide
  · subst e
    show clp (if b < a then 0 else 1) = (if a ≤ b then 1 else 0) ∧ ((if a ≤ b then (1 : Int) else 0) = 0 ∨ (if a ≤ b then (1 : Int) else 0) = 1)
    by_cases h : b < a
    · rw [if_pos h, if_neg (by omega)]; decide
    · rw [if_neg h, if_pos (by omega)]; decide
theorem ev_cp {c a b : Int} {ts : List Int} (h : ck c = 4) (hl : ts.length < 320) : EV N M P [20000 + c] [b, a] ts [] (asR (mo c) a b :: ts) := by
  refine EV_1 ?_ (fun _ => ?_)
  · rw [← (cp_eq (a := a) (b := b) h).1]
    rcases ck_4 h with e | e | e | e | e | e <;> (subst e; rfl)
  · have e2 : cvt (20000 + c) = (mo c, 0) := cvt_s (by rcases ck_4 h with e | e | e | e | e | e <;> omega)
    rw [e2]
    rcases ck_4 h with e | e | e | e | e | e <;> (subst e; exact if_pos hl)
theorem ev_not {z : Int} {ts : List Int} (h : z = 0 ∨ z = 1) : EV N M P [20000 + 33] [] (z :: ts) [] ((if z = 0 then 1 else 0) :: ts) := by
  refine EV_1 ?_ (fun _ => rfl)
  rcases h with e | e <;> (subst e; rfl)
theorem ev_lg {c z1 z2 : Int} {ts : List Int} (hc : c = 38 ∨ c = 124) (h1 : z1 = 0 ∨ z1 = 1) (h2 : z2 = 0 ∨ z2 = 1) : ∃ z, (z = 0 ∨ z = 1) ∧ EV N M P [20000 + c] [] (z2 :: z1 :: ts) [] (z :: ts) := by
  rcases hc with e | e
  · subst e
    refine ⟨if ¬ z1 = 0 ∧ ¬ z2 = 0 then 1 else 0, by split <;> omega, EV_1 ?_ (fun _ => rfl)⟩
    rcases h1 with e | e <;> rcases h2 with f | f <;> (subst e; subst f; rfl)
  · subst e
    refine ⟨if ¬ z1 = 0 ∨ ¬ z2 = 0 then 1 else 0, by split <;> omega, EV_1 ?_ (fun _ => rfl)⟩
    rcases h1 with e | e <;> rcases h2 with f | f <;> (subst e; subst f; rfl)
theorem ev_li {n : Int} {vs ts : List Int} (hn : 1 ≤ n ∧ n ≤ 6) (hv : vs.length = n.toNat + 1) (hl : ts.length < 320) : ∃ z, (z = 0 ∨ z = 1) ∧ EV N M P [30000 + n] vs ts [] (z :: ts) := by
  obtain ⟨x, hx⟩ : ∃ x, vs.drop n.toNat = [x] := by
    have hd : (vs.drop n.toNat).length = 1 := by rw [List.length_drop]; omega
    match hq : vs.drop n.toNat, hd with
    | [x], _ => exact ⟨x, rfl⟩
  refine ⟨if x ∈ vs.take n.toNat then 1 else 0, by split <;> omega, EV_1 ?_ (fun _ => ?_)⟩
  · unfold stC
    rw [if_neg (by omega), if_pos (by omega), show (30000 + n - 30000).toNat = n.toNat by omega, List.drop_append_of_le_length (by omega), List.take_append_of_le_length (by omega), hx]
    rfl
  · rw [show cvt (30000 + n) = (2, 30000 + n - 30000) from (if_neg (by omega)).trans ((if_neg (by omega)).trans (if_neg (by omega))), show 30000 + n - 30000 = n by omega]
    refine (if_neg (show ¬ (2 : Int) = 0 by decide)).trans ((if_neg (show ¬ (2 : Int) = 1 by decide)).trans ((if_pos rfl).trans ((if_pos hl).trans ?_)))
    show (match vs.drop n.toNat with
      | x :: r => some (r, (if x ∈ vs.take n.toNat then 1 else 0) :: ts)
      | [] => none) = _
    rw [hx]
end EVS
/-! the stacks' lengths -/
def bv (ls : Int) : List Int → Nat
  | [] => 0
  | c :: w => bv ls w + (if c = 91 then ls.toNat else if 4 ≤ ck c ∧ ck c ≤ 6 then 1 else 0)
def btr : List Int → Nat
  | [] => 0
  | c :: w => btr w + (if ck c = 1 ∨ ck c = 2 then 1 else 0)
def g91 : List Int → Prop
  | [] => True
  | c :: w => g91 w ∧ (c = 91 → brn w = 0 ∧ 3 ≤ sl w)
def SI (P : Prop) (a b : Nat) (ls : Int) (w vs ts : List Int) : Prop := vs.length = bv ls w + a ∧ ts.length = btr w + b ∧ (∀ z ∈ ts, z = 0 ∨ z = 1) ∧ (P → ∀ x ∈ vs, B6 x)
theorem ck_91 : ck 91 = 0 ∧ ck 40 = 0 ∧ ck 110 = 7 ∧ ck 33 = 3 := by decide
theorem bv_c {ls c : Int} {w : List Int} (h : ¬ c = 91) : bv ls (c :: w) = bv ls w + (if 4 ≤ ck c ∧ ck c ≤ 6 then 1 else 0) := by
  show bv ls w + (if c = 91 then ls.toNat else if 4 ≤ ck c ∧ ck c ≤ 6 then 1 else 0) = _
  rw [if_neg h]
theorem g91_jw {r : Int} : ∀ {w : List Int}, g91 w → g91 (jwt r w)
  | [], _ => trivial
  | c :: w, h => by
    unfold jwt
    split
    · exact g91_jw h.1
    · exact h
theorem n91_b : ∀ {w : List Int}, brn w = 0 → ¬ 91 ∈ w
  | [], _, h => by cases h
  | c :: w, hb, h => by
    have h0 := brn_0 w
    have hb : brn w + brc c = 0 := hb
    have hc : 0 ≤ brc c := by unfold brc; split <;> omega
    rcases List.mem_cons.mp h with e | e
    · rw [← e] at hb
      have : brc 91 = 1 := by decide
      omega
    · exact n91_b (by omega) e
theorem bv_n {ls ls2 : Int} : ∀ {w : List Int}, ¬ 91 ∈ w → bv ls w = bv ls2 w ∧ bv ls w + btr w ≤ w.length
  | [], _ => ⟨rfl, Nat.le_refl _⟩
  | c :: w, h => by
    have ih := bv_n (ls := ls) (ls2 := ls2) (w := w) (fun z => h (List.mem_cons_of_mem _ z))
    have hc : ¬ c = 91 := fun z => h (by rw [z]; exact List.mem_cons_self)
    rw [bv_c hc, bv_c hc]
    refine ⟨by rw [ih.1], ?_⟩
    show _ + (btr w + (if ck c = 1 ∨ ck c = 2 then 1 else 0)) ≤ w.length + 1
    have := ih.2
    split <;> split <;> omega
theorem bv_b {ls : Int} (hl : 0 ≤ ls ∧ ls ≤ 6) : ∀ {w : List Int}, g91 w → bv ls w + btr w ≤ w.length + 6
  | [], _ => by
    show 0 + 0 ≤ 0 + 6
    decide
  | c :: w, h => by
    by_cases hc : c = 91
    · subst hc
      have h1 := bv_n (ls := ls) (ls2 := ls) (n91_b (h.2 rfl).1)
      have e1 : bv ls (91 :: w) = bv ls w + ls.toNat := rfl
      have e2 : btr (91 :: w) = btr w + 0 := rfl
      have e3 : (91 :: w).length = w.length + 1 := rfl
      omega
    · have ih := bv_b hl h.1
      rw [bv_c hc]
      show _ + (btr w + (if ck c = 1 ∨ ck c = 2 then 1 else 0)) ≤ w.length + 1 + 6
      split <;> split <;> omega
/-- at the ground behind an ASK there are signs of asks alone -/
theorem sl_3 : ∀ {w : List Int}, shp w → brn w = 0 → 3 ≤ sl w → ∀ c ∈ w, 1 ≤ ck c ∧ ck c ≤ 3
  | [], _, _, _, _, h => by cases h
  | b :: w, hs, hb, h3, c, hc => by
    have h0 := shp_t0 hs hb
    have hbw := brn_0 w
    have hbc : 0 ≤ brc b := by unfold brc; split <;> omega
    have hb2 : brn w + brc b = 0 := hb
    have hr := ck_r b
    have hk : 1 ≤ ck b ∧ ck b ≤ 3 := by
      rw [sl_e] at h3
      repeat' split at h3
      all_goals omega
    rcases List.mem_cons.mp hc with e | e
    · rw [e]
      exact hk
    · refine sl_3 hs.1 (by omega) ?_ c e
      have h4 := hs.2.1
      have ho : opc b ≤ 1 := by unfold opc; split <;> omega
      omega
theorem bv_0 {ls : Int} : ∀ {w : List Int}, (∀ c ∈ w, 1 ≤ ck c ∧ ck c ≤ 3) → bv ls w = 0
  | [], _ => rfl
  | c :: w, h => by
    have hc := h c List.mem_cons_self
    have ih := bv_0 (ls := ls) (w := w) (fun x hx => h x (List.mem_cons_of_mem _ hx))
    rw [bv_c (fun z => by rw [z] at hc; exact absurd hc.1 (by decide)), ih, if_neg (by omega)]
section POP
variable {N M : Int → Int} {P : Prop} {ls : Int}
/-- arithmetic is joined -/
theorem popV {r : Int} (hr : 5 ≤ r) : ∀ {w vs ts : List Int}, SI P 1 0 ls w vs ts → ∃ vs2, EV N M P (jE r w) vs ts vs2 ts ∧ SI P 1 0 ls (jwt r w) vs2 ts
  | [], vs, ts, h => ⟨vs, EV_0, h⟩
  | c :: w, vs, ts, h => by
    by_cases hc : r ≤ ck c
    · rw [show jE r (c :: w) = (20000 + c) :: jE r w from if_pos hc, show jwt r (c :: w) = jwt r w from if_pos hc]
      have hk := ck_r c
      have n91 : ¬ c = 91 := fun z => by rw [z] at hc; have := ck_91.1; omega
      obtain ⟨h1, h2, h3, h4⟩ := h
      rw [bv_c n91] at h1
      have h2 : ts.length = btr w + (if ck c = 1 ∨ ck c = 2 then 1 else 0) + 0 := h2
      rw [if_neg (by omega)] at h2
      by_cases h7 : ck c = 7
      · have e := ck_77 h7
        subst e
        rw [if_neg (by omega)] at h1
        match vs, h1, h4 with
        | x :: v, h1, h4 =>
          have h1 : v.length + 1 = bv ls w + 0 + 1 := h1
          obtain ⟨v2, a, b⟩ := popV hr (w := w) (vs := clp (-x) :: v) (ts := ts) ⟨by show v.length + 1 = _; omega, by omega, h3, fun p y hy => (List.mem_cons.mp hy).elim (fun z => by rw [z]; exact clp_r _) (fun z => h4 p y (List.mem_cons_of_mem _ z))⟩
          exact ⟨v2, EV_c (ev_neg (fun p => h4 p x List.mem_cons_self)) a, b⟩
      · rw [if_pos (by omega)] at h1
        match vs, h1, h4 with
        | y :: x :: v, h1, h4 =>
          have h1 : v.length + 1 + 1 = bv ls w + 1 + 1 := h1
          obtain ⟨v2, a, b⟩ := popV hr (w := w) (vs := clp (sgv c x y) :: v) (ts := ts) ⟨by show v.length + 1 = _; omega, by omega, h3, fun p z hz => (List.mem_cons.mp hz).elim (fun q => by rw [q]; exact clp_r _) (fun q => h4 p z (List.mem_cons_of_mem _ (List.mem_cons_of_mem _ q)))⟩
          exact ⟨v2, EV_c (ev_ar (by omega)) a, b⟩
        | [x], h1, h4 => 
          have h1 : 0 + 1 = bv ls w + 1 + 1 := h1
          omega
    · rw [show jE r (c :: w) = [] from if_neg hc, show jwt r (c :: w) = c :: w from if_neg hc]
      exact ⟨vs, EV_0, h⟩
/-- asks are joined -/
theorem popT {r : Int} : ∀ {w ts : List Int}, (∀ c ∈ w, 1 ≤ ck c ∧ ck c ≤ 3) → SI P 0 1 ls w [] ts → ∃ ts2, EV N M P (jE r w) [] ts [] ts2 ∧ SI P 0 1 ls (jwt r w) [] ts2
  | [], ts, _, h => ⟨ts, EV_0, h⟩
  | c :: w, ts, hw, h => by
    by_cases hc : r ≤ ck c
    · rw [show jE r (c :: w) = (20000 + c) :: jE r w from if_pos hc, show jwt r (c :: w) = jwt r w from if_pos hc]
      have hk := hw c List.mem_cons_self
      have hw2 : ∀ c ∈ w, 1 ≤ ck c ∧ ck c ≤ 3 := fun x hx => hw x (List.mem_cons_of_mem _ hx)
      have b0 := bv_0 (ls := ls) hw2
      obtain ⟨h1, h2, h3, h4⟩ := h
      have h2 : ts.length = btr w + (if ck c = 1 ∨ ck c = 2 then 1 else 0) + 1 := h2
      have hv : ([] : List Int).length = bv ls w + 0 := by rw [b0]; rfl
      rcases ck_123 hk with e | e | e
      · subst e
        have e3 := ck_91.2.2.2
        rw [if_neg (by omega)] at h2
        match ts, h2, h3 with
        | z :: u, h2, h3 =>
          have h2 : u.length + 1 = btr w + 0 + 1 := h2
          obtain ⟨t2, a, b⟩ := popT (r := r) (w := w) (ts := (if z = 0 then 1 else 0) :: u) hw2 ⟨hv, by show u.length + 1 = _; omega, fun q hq => (List.mem_cons.mp hq).elim (fun k => by rw [k]; split <;> omega) (fun k => h3 q (List.mem_cons_of_mem _ k)), h4⟩
          exact ⟨t2, EV_c (ev_not (h3 z List.mem_cons_self)) a, b⟩
      all_goals
        rw [if_pos (by subst e; decide)] at h2
        match ts, h2, h3 with
        | z2 :: z1 :: u, h2, h3 =>
          have h2 : u.length + 1 + 1 = btr w + 1 + 1 := h2
          obtain ⟨z, hz, ez⟩ := ev_lg (N := N) (M := M) (P := P) (c := c) (ts := u) (by omega) (h3 z1 (List.mem_cons_of_mem _ List.mem_cons_self)) (h3 z2 List.mem_cons_self)
          obtain ⟨t2, a, b⟩ := popT (r := r) (w := w) (ts := z :: u) hw2 ⟨hv, by show u.length + 1 = _; omega, fun q hq => (List.mem_cons.mp hq).elim (fun k => by rw [k]; exact hz) (fun k => h3 q (List.mem_cons_of_mem _ (List.mem_cons_of_mem _ k))), h4⟩
          exact ⟨t2, EV_c ez a, b⟩
        | [z], h2, h3 =>
          have h2 : 0 + 1 = btr w + 1 + 1 := h2
          omega
    · rw [show jE r (c :: w) = [] from if_neg hc, show jwt r (c :: w) = c :: w from if_neg hc]
      exact ⟨ts, EV_0, h⟩
/-- an ASK is joined, and what waits for it -/
theorem popV4 {r : Int} (hr : r ≤ 4) : ∀ {w vs ts : List Int}, shp w → brn w = 0 → asr w = true → w.length ≤ 200 → SI P 1 0 ls w vs ts → ∃ ts2, EV N M P (jE r w) vs ts [] ts2 ∧ SI P 0 1 ls (jwt r w) [] ts2
  | [], vs, ts, _, _, ha, _, _ => by cases ha
  | c :: w, vs, ts, hs, hb, ha, hlen, h => by
    have h0 := shp_t0 hs hb
    have hbw := brn_0 w
    have hbc : 0 ≤ brc c := by unfold brc; split <;> omega
    have hb2 : brn w + brc c = 0 := hb
    have hk := ck_r c
    have n91 : ¬ c = 91 := fun z => by rw [z] at h0; exact h0 ck_91.1
    have n40 : ¬ c = 40 := fun z => by rw [z] at h0; exact h0 ck_91.2.1
    have hlen : w.length + 1 ≤ 200 := hlen
    have ha : (if c = 91 then true else if c = 40 then asr w else if 4 < ck c then asr w else decide (ck c = 4)) = true := ha
    rw [if_neg n91, if_neg n40] at ha
    obtain ⟨h1, h2, h3, h4⟩ := h
    rw [bv_c n91] at h1
    have h2 : ts.length = btr w + (if ck c = 1 ∨ ck c = 2 then 1 else 0) + 0 := h2
    by_cases c5 : 4 < ck c
    · rw [if_pos c5] at ha
      rw [if_neg (by omega)] at h2
      rw [show jE r (c :: w) = (20000 + c) :: jE r w from if_pos (by omega), show jwt r (c :: w) = jwt r w from if_pos (by omega)]
      by_cases h7 : ck c = 7
      · have e := ck_77 h7
        subst e
        rw [if_neg (by omega)] at h1
        match vs, h1, h4 with
        | x :: v, h1, h4 =>
          have h1 : v.length + 1 = bv ls w + 0 + 1 := h1
          obtain ⟨t2, a, b⟩ := popV4 hr (w := w) (vs := clp (-x) :: v) (ts := ts) hs.1 (by omega) ha (by omega) ⟨by show v.length + 1 = _; omega, by omega, h3, fun p y hy => (List.mem_cons.mp hy).elim (fun z => by rw [z]; exact clp_r _) (fun z => h4 p y (List.mem_cons_of_mem _ z))⟩
          exact ⟨t2, EV_c (ev_neg (fun p => h4 p x List.mem_cons_self)) a, b⟩
      · rw [if_pos (by omega)] at h1
        match vs, h1, h4 with
        | y :: x :: v, h1, h4 =>
          have h1 : v.length + 1 + 1 = bv ls w + 1 + 1 := h1
          obtain ⟨t2, a, b⟩ := popV4 hr (w := w) (vs := clp (sgv c x y) :: v) (ts := ts) hs.1 (by omega) ha (by omega) ⟨by show v.length + 1 = _; omega, by omega, h3, fun p z hz => (List.mem_cons.mp hz).elim (fun q => by rw [q]; exact clp_r _) (fun q => h4 p z (List.mem_cons_of_mem _ (List.mem_cons_of_mem _ q)))⟩
          exact ⟨t2, EV_c (ev_ar (by omega)) a, b⟩
        | [x], h1, h4 => 
          have h1 : 0 + 1 = bv ls w + 1 + 1 := h1
          omega
    · rw [if_neg c5] at ha
      have h44 : ck c = 4 := of_decide_eq_true ha
      rw [if_neg (by omega)] at h2
      rw [if_pos (by omega)] at h1
      rw [show jE r (c :: w) = (20000 + c) :: jE r w from if_pos (by omega), show jwt r (c :: w) = jwt r w from if_pos (by omega)]
      have hs2 := hs.2.1
      have ho : opc c = 0 := (ck_op (by omega)).2.1
      have hsl : sl (c :: w) = 2 := by
        rw [sl_e]
        repeat' split
        all_goals omega
      have hw2 := sl_3 hs.1 (by omega) (by omega)
      have b0 := bv_0 (ls := ls) hw2
      have hbt := (bv_n (ls := ls) (ls2 := ls) (n91_b (w := w) (by omega))).2
      match vs, h1 with
      | [y, x], h1 =>
        obtain ⟨t2, a, b⟩ := popT (N := N) (M := M) (r := r) (w := w) (ts := asR (mo c) x y :: ts) hw2 ⟨by rw [b0]; rfl, by show ts.length + 1 = _; omega, fun q hq => (List.mem_cons.mp hq).elim (fun k => by rw [k]; exact (cp_eq h44).2) (fun k => h3 q k), fun _ y hy => by cases hy⟩
        exact ⟨t2, EV_c (ev_cp h44 (by omega)) a, b⟩
      | [x], h1 =>
        have h1 : 0 + 1 = bv ls w + 1 + 1 := h1
        omega
      | _ :: _ :: _ :: v, h1 =>
        have h1 : v.length + 1 + 1 + 1 = bv ls w + 1 + 1 := h1
        omega
end POP
