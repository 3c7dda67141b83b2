/-! -/
/-! calls that write nothing that counts: what the contracts leave as it was, in the heap's numbers -/
def vnm (v : Option Value) : Int := match v with
  | some (.int z) => z.toInt
  | some (.long z) => z.toInt
  | _ => 0
def cel (h : mj_H) (a : Nat) : List Value := match h[a]? with
  | some (_, vs) => vs
  | none => []
/-- the cell at a stays as it was, where what mods names is written; or it is in Y, and of numbers -/
def efk (mods Y : List Nat) (a : Nat) : Bool := match sh_T[a]?, sx_tau[a]? with
  | some q, some t => match sx_TT[t]? with
    | some ty => decide (ty.1 = q.1) && (decide (ty.2.1 = q.2.1.length + q.2.2.1) && (if a ∈ Y then q.2.1.isEmpty && (decide (q.2.2.2 < 2) && ty.2.2.all (fun g => g.2.2.all (fun d => decide (d.1 = q.2.2.2)))) else if q.1 < 900 then (List.range ty.2.1).all (fun k => decide (k < 100) && decide (100 * q.1 + k ∉ mods)) else decide (10000 + t ∉ mods) && (decide (¬ t = 21) || (List.range 16).all (fun j => decide (20000 + j ∉ mods)))))
    | none => false
  | _, _ => false
theorem fd_all {l : List (Nat × Nat × List sx_D)} {k c : Nat} {d : sx_D} (ck : (l.all (fun g => g.2.2.all (fun d => decide (d.1 = c)))) = true) (h : sx_fd l k = some d) : d.1 = c := by
  unfold sx_fd at h
  split at h
  · rename_i g z n ds e
    have m := List.mem_of_find?_eq_some e
    have a := List.all_eq_true.mp ck _ m
    have b := List.mem_of_getElem? h
    exact of_decide_eq_true (List.all_eq_true.mp a d b)
  · cases h
theorem CS_ef {mods Y : List Nat} {h h' : mj_H} {s : sg_} (ck : ((List.range 152).all fun a => decide (a = 0) || efk mods Y a) = true) (C : CS h s) (H : sx_H sx_TT 20 sx_tau h') (ef : sx_ef sx_tau mods h h') : ∃ s1, CS h' s1 ∧ ∀ (b : Nat) (j : Int), b ∉ Y → s1 b j = s b j := by
  obtain ⟨s0, C0, f⟩ := C
  refine ⟨fun b j => if b ∈ Y then vnm ((cel h' b)[j.toNat]?) else s b j, ⟨fun b j => if b ∈ Y then vnm ((cel h' b)[j.toNat]?) else s0 b j, ?_, ?_⟩, fun b j hb => if_neg hb⟩
  · intro a q ha hq
    have la : a < 152 := by
      have := (List.getElem?_eq_some_iff.mp hq).1
      exact this
    have c := List.all_eq_true.mp ck a (List.mem_range.mpr la)
    rw [decide_eq_false (show ¬ a = 0 by omega), Bool.false_or] at c
    unfold efk at c
    rw [hq] at c
    cases ht : sx_tau[a]? with
    | none => rw [ht] at c; cases c
    | some t =>
      rw [ht] at c
      cases hT : sx_TT[t]? with
      | none => simp only [hT] at c; cases c
      | some ty =>
        simp only [hT] at c
        rw [Bool.and_eq_true, Bool.and_eq_true] at c
        obtain ⟨c1, c2, c3⟩ := c
        have c1 := of_decide_eq_true c1
        have c2 := of_decide_eq_true c2
        obtain ⟨-, vs', hv, hl, hd, -⟩ := H a t ty ht hT
        have ec : cel h' a = vs' := by
          unfold cel
          rw [hv]
        refine ⟨vs', by rw [hv, c1], by rw [hl, c2], fun k hk => ?_⟩
        have ek : ((k : Int)).toNat = k := by omega
        by_cases y : a ∈ Y
        · rw [if_pos y] at c3
          rw [Bool.and_eq_true, Bool.and_eq_true] at c3
          obtain ⟨c3, c4, c5⟩ := c3
          have c4 := of_decide_eq_true c4
          obtain ⟨v, ev⟩ : ∃ v, vs'[k]? = some v := ⟨vs'[k], List.getElem?_eq_getElem hk⟩
          obtain ⟨d, hd1, hd2⟩ := hd k v ev
          have e1 := fd_all c5 hd1
          have e0 : q.2.1 = [] := List.isEmpty_iff.mp c3
          have es : sh_k q k = q.2.2.2 := by
            unfold sh_k
            rw [e0]
            rfl
          show vs'[k]? = some (sh_v (sh_k q k) (if a ∈ Y then vnm ((cel h' a)[((k : Int)).toNat]?) else s0 a (k : Int))) ∧ (sh_k q k = 0 → wp_r (if a ∈ Y then vnm ((cel h' a)[((k : Int)).toNat]?) else s0 a (k : Int)))
          rw [if_pos y, es, ec, ek, ev]
          obtain ⟨x, lo, hi⟩ := d
          have e1 : x = q.2.2.2 := e1
          rw [← e1] at c4 ⊢
          rcases (show x = 0 ∨ x = 1 by omega) with rfl | rfl
          · obtain ⟨z, rfl, -⟩ := hd2
            refine ⟨congrArg some (congrArg Value.int (Int32.ofInt_toInt z).symm), fun _ => ?_⟩
            exact sx_r32 z
          · obtain ⟨z, rfl, -⟩ := hd2
            exact ⟨congrArg some (congrArg Value.long (Int64.ofInt_toInt z).symm), fun z0 => absurd z0 (by decide)⟩
        · rw [if_neg y] at c3
          obtain ⟨vs, hvs, hvl, hc⟩ := C0 a q ha hq
          have q0 := hc k (by rw [hvl]; rw [hl, c2] at hk; exact hk)
          show vs'[k]? = some (sh_v (sh_k q k) (if a ∈ Y then vnm ((cel h' a)[((k : Int)).toNat]?) else s0 a (k : Int))) ∧ (sh_k q k = 0 → wp_r (if a ∈ Y then vnm ((cel h' a)[((k : Int)).toNat]?) else s0 a (k : Int)))
          rw [if_neg y]
          obtain ⟨ws, hw, keys⟩ := ef.1 a q.1 vs hvs
          have ew : ws = vs' := by
            rw [hv] at hw
            injection hw with hw
            injection hw with _ hw
            exact hw.symm
          rw [ew] at keys
          have same : vs'[k]? = vs[k]? := by
            by_cases q1 : q.1 < 900
            · rw [if_pos q1] at c3
              have m := List.all_eq_true.mp c3 k (List.mem_range.mpr (by rw [← hl]; exact hk))
              rw [Bool.and_eq_true] at m
              have g := keys (100 * q.1 + k) (of_decide_eq_true m.2)
              rw [sx_at_f q1 (of_decide_eq_true m.1), sx_at_f q1 (of_decide_eq_true m.1)] at g
              exact g
            · rw [if_neg q1] at c3
              rw [Bool.and_eq_true] at c3
              obtain ⟨c3, c4⟩ := c3
              obtain ⟨us, hu, arr⟩ := ef.2.1 a t q.1 vs ht (by omega) hvs (of_decide_eq_true c3)
              have eu : us = vs' := by
                rw [hv] at hu
                injection hu with hu
                injection hu with _ hu
                exact hu.symm
              rw [eu] at arr
              by_cases q2 : t = 21 ∧ k < 16
              · rw [decide_eq_false (show ¬ ¬ t = 21 from fun z => z q2.1), Bool.false_or] at c4
                have m := of_decide_eq_true (List.all_eq_true.mp c4 k (List.mem_range.mpr q2.2))
                have g := keys (20000 + k) m
                rw [sx_at_a (by omega) (by rw [ht, q2.1]) q2.2, sx_at_a (by omega) (by rw [ht, q2.1]) q2.2] at g
                exact g
              · exact arr k (fun e => by omega)
          rw [same]
          exact q0
  · intro b j hb
    show (if b ∈ Y then vnm ((cel h' b)[j.toNat]?) else s0 b j) = (if b ∈ Y then vnm ((cel h' b)[j.toNat]?) else s b j)
    by_cases y : b ∈ Y
    · rw [if_pos y, if_pos y]
    · rw [if_neg y, if_neg y]
      exact f b j hb
/-- what the questions that change no state may write, and where it stands -/
def qM : List Nat := [10025, 10051, 10055, 10066, 10067, 10068, 10069, 10070, 10071, 10072]
def qY : List Nat := [10, 64, 68, 86, 90, 144, 145, 146, 148, 149, 150, 151]
set_option maxRecDepth 100000 in
theorem qM_ck : ((List.range 152).all fun a => decide (a = 0) || efk qM qY a) = true := by decide +kernel
theorem CS_q {mods : List Nat} (hm : ∀ k ∈ mods, k ∈ qM) {h h' : mj_H} {s : sg_} (C : CS h s) (H : sx_H sx_TT 20 sx_tau h') (ef : sx_ef sx_tau mods h h') : ∃ s1, CS h' s1 ∧ ∀ (b : Nat) (j : Int), b ∉ qY → s1 b j = s b j := CS_ef qM_ck C H (sx_ef_sub ef hm)
set_option maxRecDepth 100000 in
theorem qM_0 : ((List.range 152).all fun a => decide (a = 0) || efk [] [] a) = true := by decide +kernel
theorem CS_0 {h h' : mj_H} {s : sg_} (C : CS h s) (H : sx_H sx_TT 20 sx_tau h') (ef : sx_ef sx_tau [] h h') : CS h' s := by
  obtain ⟨s1, C1, f⟩ := CS_ef qM_0 C H ef
  exact cs_mono C1 (by funext b j; exact f b j (fun z => by cases z))
/-! such a call keeps the law's state -/
theorem EX_q {c c1 : sg_} {G : Nat} (x : EX c G) (e : ∀ (b : Nat) (j : Int), b = G ∨ b = G + 2 ∨ b = G + 4 ∨ b = G + 6 ∨ b = G + 13 ∨ b = G + 14 ∨ b = G + 16 ∨ b = G + 18 → c1 b j = c b j) : EX c1 G := by
  unfold EX rwOK at *
  rw [e G 7 (by omega), e G 6 (by omega), e (G + 14) 3 (by omega), e (G + 18) 3 (by omega)]
  refine ⟨fun p hp => by rw [e (G + 2) p (by omega), e (G + 4) p (by omega)]; exact x.1 p hp, fun w hw => by rw [e (G + 6) w (by omega)]; exact x.2.1 w hw, fun i hi => ?_, ⟨x.2.2.2.1.1, fun j a b => by rw [e (G + 16) j (by omega)]; exact x.2.2.2.1.2 j a b⟩, x.2.2.2.2⟩
  have q := x.2.2.1 i hi
  have f : ∀ j, c1 (G + 13) j = c (G + 13) j := fun j => e _ j (by omega)
  simp only [f]
  exact q
theorem ST2_q {c r c1 r1 : sg_} {G R : Nat} {M : Int} (S : ST2 c r G R M) (e : ∀ (b : Nat) (j : Int), G ≤ b → b ≤ G + 20 → ¬ b = G + 17 → c1 b j = c b j) (er : ∀ j, 0 ≤ j → j < 6044 → r1 R j = r R j) : ST2 c1 r1 G R M := by
  obtain ⟨⟨N, h, b, d, s, t, x⟩, H, L, X, Y, W, w⟩ := S
  exact ⟨⟨IG_f (fun b j h1 h2 => e b j (by omega) (by omega) (by omega)) N, by rw [e _ _ (by omega) (by omega) (by omega)]; exact h, by rw [e _ _ (by omega) (by omega) (by omega)]; exact b, by rw [e _ _ (by omega) (by omega) (by omega)]; exact d, by rw [e _ _ (by omega) (by omega) (by omega)]; exact s, by rw [e _ _ (by omega) (by omega) (by omega)]; exact t, EX_q x (fun b j hb => e b j (by omega) (by omega) (by omega))⟩, relF_f H (fun b j h1 h2 => e b j (by omega) (by omega) (by omega)) (fun j h1 h2 h3 h4 h5 h6 => er j h1 (by omega)), relK_f L (er _ (by omega) (by omega)) (e _ _ (by omega) (by omega) (by omega)) (e _ _ (by omega) (by omega) (by omega)) (fun j => e _ j (by omega) (by omega) (by omega)) (fun j a b => er j (by omega) (by omega)) s.2, relX_t X x.2.2.2.1.1.2 x.2.2.2.2.1.2 (e _ _ (by omega) (by omega) (by omega)) (e _ _ (by omega) (by omega) (by omega)) (fun j a b => ⟨e _ _ (by omega) (by omega) (by omega), e _ _ (by omega) (by omega) (by omega)⟩) (e _ _ (by omega) (by omega) (by omega)) (fun j a b => ⟨e _ _ (by omega) (by omega) (by omega), e _ _ (by omega) (by omega) (by omega)⟩) (e _ _ (by omega) (by omega) (by omega)) (fun j a b => er j a (by omega)), RX_f Y (Int.le_refl _) (fun j a b => er j (by omega) (by omega)), fun w p hw hp => by rw [er _ (by omega) (by omega)]; exact W w p hw hp, by rw [er _ (by omega) (by omega)]; exact w⟩
theorem INV_q {tc : tcs} {tr : Int → crs} {s s1 : sg_} {M : Int} (I : INV tc tr s M) (e : ∀ (b : Nat) (j : Int), (b < 91 ∨ (139 ≤ b ∧ b ≤ 141)) → ¬ (b = 10 ∨ b = 64 ∨ b = 68 ∨ b = 86 ∨ b = 90) → s1 b j = s b j) : INV tc tr s1 M := by
  obtain ⟨S1, S2, h6, sc, tx, T⟩ := I
  have e6 : s1 47 6 = s 47 6 := e 47 6 (by omega) (by omega)
  have h4 := S1.1.2.2.2.2.2.1.2
  have tn : ∀ k : Nat, k ≤ 4 → TXC s (12 + 7 * k) (tc (12 + 7 * k)) → TXC s1 (12 + 7 * k) (tc (12 + 7 * k)) := fun k k4 H => TXC_f (fun b j h1 h2 => e b j (by omega) (by omega)) H
  refine ⟨ST2_q S1 (fun b j h1 h2 h3 => e b j (by omega) (by omega)) (fun j _ _ => e 139 j (by omega) (by omega)), ST2_q S2 (fun b j h1 h2 h3 => e b j (by omega) (by omega)) (fun j _ _ => e 140 j (by omega) (by omega)), by rw [e 69 6 (by omega) (by omega), e6]; exact h6, SC_f (fun j => e 6 j (by omega) (by omega)) (fun j => e 7 j (by omega) (by omega)) sc, fun k k4 hk => tn k k4 (tx k k4 (by rw [e6] at hk; exact hk)), ?_⟩
  have T1 := TEX_f (c1 := fun b j => if b = 10 then s b j else if b < 47 then s1 b j else s b j) (r1 := s1) T (fun b j h => by
    show (if b = 10 then s b j else if b < 47 then s1 b j else s b j) = s b j
    by_cases q : b = 10
    · rw [if_pos q]
    · rw [if_neg q, if_pos h]
      exact e b j (by omega) (by omega)) rfl (fun j => e 141 j (by omega) (by omega)) h4
  refine ⟨fun k hk => ?_, T1.2⟩
  have q := T1.1 k (by rw [e6] at hk; exact hk)
  have e1 : ∀ (b : Nat) (j : Int), 12 ≤ b → b < 47 → (fun b j => if b = 10 then s b j else if b < 47 then s1 b j else s b j : sg_) b j = s1 b j := fun b j h1 h2 => by
    show (if b = 10 then s b j else if b < 47 then s1 b j else s b j) = s1 b j
    rw [if_neg (by omega), if_pos h2]
  obtain ⟨t0, t1, t2, t3⟩ := q
  rw [e1 _ _ (by omega) (by omega)] at t1
  refine ⟨t0, t1, fun i hi => ?_, t3⟩
  have q2 := t2 i hi
  unfold clsC at q2 ⊢
  rw [e1 _ _ (by omega) (by omega), e1 _ _ (by omega) (by omega), e1 _ _ (by omega) (by omega)] at q2
  exact q2
theorem LAWS_q {tc : tcs} {tr : Int → crs} {s s1 : sg_} {M : Int} (L : LAWS tc tr s M) (e : ∀ (b : Nat) (j : Int), b ∉ qY → s1 b j = s b j) : LAWS tc tr s1 M := by
  have e2 : ∀ (b : Nat) (j : Int), ¬ (b = 10 ∨ b = 64 ∨ b = 68 ∨ b = 86 ∨ b = 90 ∨ b = 144 ∨ b = 145 ∨ b = 146 ∨ b = 148 ∨ b = 149 ∨ b = 150 ∨ b = 151) → s1 b j = s b j := fun b j h => e b j (fun z => h (by simpa [qY] using z))
  exact LAWS_x L (INV_q L.1 (fun b j h1 h2 => e2 b j (by omega))) (fun b j h => e2 b j (by omega))
