/-! -/
/-! -/
set_option maxRecDepth 100000 in
theorem ji_233_395 : mj_ins 233 395 = some (.return_) := by decide +kernel
set_option maxRecDepth 100000 in
theorem jr_233 : mj_ret 233 = none := by decide +kernel
/-! the reference's work, whole; laid by program (wp_u28.py) -/
def evR (N : Int → Int) : List (Int × Int) → List Int → List Int → Option (List Int × List Int)
  | [], vs, ts => some (vs, ts)
  | p :: L, vs, ts => (stR N p.1 p.2 vs ts).bind (fun q => evR N L q.1 q.2)
abbrev B6 (x : Int) : Prop := -1000000 ≤ x ∧ x ≤ 1000000
theorem stR_b {N : Int → Int} (hN : ∀ k, 0 ≤ k ∧ k < 10 → B6 (N k)) {o v : Int} (ho : otm o v) {vs ts vs2 ts2 : List Int} (hb : ∀ x ∈ vs, B6 x) (e : stR N o v vs ts = some (vs2, ts2)) : ∀ x ∈ vs2, B6 x := by
  unfold stR at e
  split at e
  · rename_i q
    split at e
    · cases e
      intro x hx
      rcases List.mem_cons.mp hx with c | c
      · unfold otm at ho
        subst c
        omega
      · exact hb x c
    · cases e
  · split at e
    · rename_i q
      split at e
      · cases e
        intro x hx
        rcases List.mem_cons.mp hx with c | c
        · rw [c]
          refine hN v ?_
          unfold otm at ho
          omega
        · exact hb x c
      · cases e
    · split at e
      · split at e
        · split at e
          · rename_i y r hd
            cases e
            intro x hx
            refine hb x (List.mem_of_mem_drop (i := v.toNat) ?_)
            rw [hd]
            exact List.mem_cons_of_mem _ hx
          · cases e
        · cases e
      · split at e
        · split at e
          · rename_i y r
            cases e
            intro x hx
            rcases List.mem_cons.mp hx with c | c
            · have := hb y List.mem_cons_self
              subst c
              omega
            · exact hb x (List.mem_cons_of_mem _ c)
          · cases e
        · split at e
          · split at e
            · cases e
              intro x hx
              rcases List.mem_cons.mp hx with c | c
              · rw [c]
                exact clp_r _
              · exact hb x (List.mem_cons_of_mem _ (List.mem_cons_of_mem _ c))
            · cases e
          · split at e
            · split at e
              · split at e
                · cases e
                  exact fun x hx => hb x (List.mem_cons_of_mem _ (List.mem_cons_of_mem _ hx))
                · cases e
              · cases e
            · split at e
              · split at e
                · cases e
                  exact hb
                · cases e
              · split at e
                · cases e
                  exact hb
                · cases e
theorem stR_l {N : Int → Int} {o v : Int} {vs ts vs2 ts2 : List Int} (h : vs.length ≤ 320 ∧ ts.length ≤ 320) (e : stR N o v vs ts = some (vs2, ts2)) : vs2.length ≤ 320 ∧ ts2.length ≤ 320 := by
  unfold stR at e
  split at e
  · split at e
    · cases e
      exact ⟨by show vs.length + 1 ≤ 320; omega, h.2⟩
    · cases e
  · split at e
    · split at e
      · cases e
        exact ⟨by show vs.length + 1 ≤ 320; omega, h.2⟩
      · cases e
    · split at e
      · split at e
        · split at e
          · rename_i y r hd
            cases e
            have l1 := congrArg List.length hd
            rw [List.length_drop] at l1
            have l2 : (y :: vs2).length = vs2.length + 1 := rfl
            exact ⟨by omega, by show ts.length + 1 ≤ 320; omega⟩
          · cases e
        · cases e
      · split at e
        · split at e
          · cases e
            exact h
          · cases e
        · split at e
          · split at e
            · rename_i y x r
              cases e
              have h1 : r.length + 1 + 1 ≤ 320 := h.1
              exact ⟨by show r.length + 1 ≤ 320; omega, h.2⟩
            · cases e
          · split at e
            · split at e
              · split at e
                · rename_i y x r
                  cases e
                  have h1 : vs2.length + 1 + 1 ≤ 320 := h.1
                  exact ⟨by omega, by show ts.length + 1 ≤ 320; omega⟩
                · cases e
              · cases e
            · split at e
              · split at e
                · cases e
                  exact h
                · cases e
              · split at e
                · rename_i z2 z1 u
                  cases e
                  have h1 : u.length + 1 + 1 ≤ 320 := h.2
                  exact ⟨h.1, by show u.length + 1 ≤ 320; omega⟩
                · cases e
theorem uc_233l {d : Nat} {s0 : sg_} {N : Int → Int} (hN0 : ∀ k, 0 ≤ k ∧ k < 10 → s0 144 k = N k) (hN : ∀ k, 0 ≤ k ∧ k < 10 → B6 (N k)) {ci c b up0 : Int} (hc : 0 ≤ c ∧ c ≤ 2817) (hb0 : 0 ≤ b ∧ b ≤ 2820) (hu0 : s0 141 (c + 2) = up0) (hup9 : up0 ≤ 1000) {vs3 ts3 : List Int} : ∀ (nn : Nat) (L : List (Int × Int)) (vs ts : List Int) (s : sg_) (h : mj_H) (i : Int) (l7 l8 : Option Value), CS0 h s → (∀ (b : Nat) (j : Int), ¬ b = 145 → ¬ b = 146 → s b j = s0 b j) → stA 145 s vs → stA 146 s ts → (∀ x ∈ vs, B6 x) → (vs.length ≤ 320 ∧ ts.length ≤ 320) → (∀ k : Nat, k < L.length → L[k]? = some (s0 141 (b + 2 * (i + k)), s0 141 (b + 2 * (i + k) + 1))) → (∀ p ∈ L, otm p.1 p.2) → evR N L vs ts = some (vs3, ts3) → 0 ≤ i ∧ i + (L.length : Int) = up0 → wl_R nn (d + 2) 233 47 [some (.ref 138), some (wp_i ci), some (wp_i c), some (wp_i b), some (wp_i (vs.length : Int)), some (wp_i (ts.length : Int)), some (wp_i i), l7, l8] [] h (fun v1 h1 => v1 = none ∧ ∃ s1, CS0 h1 s1 ∧ (∀ (b : Nat) (j : Int), ¬ b = 145 → ¬ b = 146 → s1 b j = s0 b j) ∧ stA 145 s1 vs3 ∧ stA 146 s1 ts3) := by
  intro nn
  induction nn with
  | zero => intros; exact wl_0
  | succ nn ih =>
    intro L vs ts s h i l7 l8 C f hvs hts rv hl hL hI e hi
    have hup : s 141 (c + 2) = up0 := (f _ _ (by decide) (by decide)).trans hu0
    cases L with
    | nil =>
      have hi : 0 ≤ i ∧ i + ((0 : Nat) : Int) = up0 := hi
      have e : some (vs, ts) = some (vs3, ts3) := e
      cases e
      refine wl_s1 (pc' := 49) ji_233_47 rfl rfl rfl ?_
      refine wl_s (pc' := 50) ji_233_49 rfl rfl rfl ?_
      refine c0_gr (r := 141) (k := 2) C (by decide) sq_138 rfl ji_233_50 jf_233_16 ?_
      refine wl_s (pc' := 54) ji_233_53 rfl rfl rfl ?_
      refine wl_s (pc' := 55) ji_233_54 rfl rfl rfl ?_
      refine wl_iadd (x := c) (y := 2) (z := c + 2) ji_233_55 (by omega) ?_
      refine c0_l (x := c + 2) C (by decide) sq_141 (by omega) ji_233_56 (fun ld10 ld11 ld12 => ?_)
      rw [hup] at ld12 ⊢
      refine wl_icmp (t := 395) ji_233_57 rfl (by omega) (by omega) (fun (hb2 : (up0 : Int) ≤ i) => ?_) (fun (hb2 : ¬ ((up0 : Int) ≤ i)) => (by exfalso; omega))
      exact wl_rv ji_233_395 jr_233 (⟨rfl, s, C, f, hvs, hts⟩)
    | cons p L =>
      obtain ⟨o, v⟩ := p
      have hi : 0 ≤ i ∧ i + ((L.length + 1 : Nat) : Int) = up0 := hi
      have h0 := hL 0 (by show 0 < L.length + 1; omega)
      have h0 : some (o, v) = some (s0 141 (b + 2 * (i + ((0 : Nat) : Int))), s0 141 (b + 2 * (i + ((0 : Nat) : Int)) + 1)) := h0
      rw [show i + ((0 : Nat) : Int) = i by omega] at h0
      have h0 := Option.some.inj h0
      have ho : s 141 (b + 2 * i) = o := (f _ _ (by decide) (by decide)).trans (congrArg Prod.fst h0).symm
      have hv : s 141 (b + 2 * i + 1) = v := (f _ _ (by decide) (by decide)).trans (congrArg Prod.snd h0).symm
      have e : (stR N o v vs ts).bind (fun q => evR N L q.1 q.2) = some (vs3, ts3) := e
      obtain ⟨⟨vs2, ts2⟩, e1, e2⟩ := Option.bind_eq_some_iff.mp e
      have hot := hI (o, v) List.mem_cons_self
      refine uc_233s C (fun k hk => (f _ _ (by decide) (by decide)).trans (hN0 k hk)) hc (by omega) (by omega) ho hv hot hvs hts (fun x hx => by have := rv x hx; omega) (by omega) e1 (fun h1 s1 C1 f1 a1 a2 => ?_)
      exact ih L vs2 ts2 s1 h1 (i + 1) _ _ C1 (fun b j q1 q2 => (f1 b j q1 q2).trans (f b j q1 q2)) a1 a2 (stR_b hN hot rv e1) (stR_l hl e1) (fun k hk => by
        have := hL (k + 1) (by show k + 1 < L.length + 1; omega)
        rw [show i + ((k + 1 : Nat) : Int) = i + 1 + (k : Int) by omega] at this
        exact this) (fun p hp => hI p (List.mem_cons_of_mem _ hp)) e2 (by omega)
