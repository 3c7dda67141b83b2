/-! -/
/-! what a text that was read leaves, in both: as lists -/
/-- the law x of some clauses -/
def lwK : List KC → Int → Option (List Int)
  | [], _ => none
  | C :: l, x => if C.1.1 = x then some C.2 else lwK l x
/-- clauses as they are read -/
def KOK : (Nat → Bool) → List KC → Prop
  | _, [] => True
  | on, C :: l => (0 ≤ C.1.1 ∧ C.1.1 ≤ 9) ∧ (C.1.1 < 3 → on C.1.1.toNat = false ∧ C.1.2 = (0, 0) ∧ codeC C.2 ∧ (C.1.1 = 2 → askR (some (C.2.map cvt)) ∧ sameT C.2 (C.2.map cvt)) ∧ (¬ C.1.1 = 2 → valR (some (C.2.map cvt)) ∧ sameV C.2 (C.2.map cvt))) ∧ (3 ≤ C.1.1 → C.2 = [] ∧ (0 ≤ C.1.2.1 ∧ C.1.2.1 ≤ 99) ∧ (0 ≤ C.1.2.2 ∧ C.1.2.2 ≤ 99) ∧ (C.1.1 = 9 → C.1.2.1 ≤ 60)) ∧ KOK (if C.1.1 < 3 then on1 on C.1.1 else on) l
theorem lre_ls {B : Int → Int} {law : Int} : ∀ {m : Nat} {p st : Int} {w : List Int} {ls ls' as_ : Int} {E : List Int} {q r : Int}, (91 ∈ w → ls = ls') → lre B law m p st w ls as_ E 0 q r → lre B law m p st w ls' as_ E 0 q r
  | 0, _, _, _, _, _, _, _, _, _, _, a => a.elim
  | m + 1, p, st, w, ls, ls', as_, E, q, r, h, a => by
    obtain ⟨k, v, q1, r1, tk, a⟩ := a
    refine ⟨k, v, q1, r1, tk, ?_⟩
    have es := es_ls (law := law) (k := k) (v := v) (st := st) (as_ := as_) h
    rcases cst_ls (law := law) (k := k) (v := v) (st := st) (as_ := as_) h with ⟨n, c1, c2⟩ | ⟨st2, w2, l2, l2', a2, c1, c2, hh⟩
    · rw [c1] at a
      have := cstep_f c1
      have := a.1
      omega
    · rw [c1] at a
      rw [c2, ← es]
      rcases a with ⟨a0, a1, a2, a3, a4⟩ | ⟨a0, E2, a1, a⟩
      · exact Or.inl ⟨a0, a1, a2, a3, a4⟩
      · exact Or.inr ⟨a0, E2, a1, lre_ls hh a⟩
theorem xre_b {B : Int → Int} {lo hi : Int} : ∀ {l : List (Int × Int × Int)} {p q0 : Int} {N : List Int} {q r : Int}, (∀ e ∈ l, e.1 = 0 → lo ≤ e.2.1 ∧ e.2.2 ≤ hi) → xre B l p q0 N 0 q r → ∀ v ∈ N, lo ≤ v ∧ v ≤ hi
  | [], p, q0, N, q, r, _, h, v, hv => by
    rw [h.2.2.2] at hv
    cases hv
  | (c, a, b) :: l, p, q0, N, q, r, hl, h, v, hv => by
    obtain ⟨k, v1, q1, r1, tk, h⟩ := h
    rcases h with ⟨h0, h1, -⟩ | ⟨h0, N2, h1, h⟩
    · exact absurd h1.symm h0
    · have ih := xre_b (fun e he => hl e (List.mem_cons_of_mem _ he)) h
      by_cases hc : c = 0
      · rw [if_pos hc] at h1
        rw [h1] at hv
        have hb := hl _ List.mem_cons_self hc
        have h0 : xn a b k v1 = 0 := by
          unfold xe at h0
          rw [if_pos hc] at h0
          exact h0
        unfold xn at h0
        rcases List.mem_cons.mp hv with e | e
        · rw [e]
          have hb : lo ≤ a ∧ b ≤ hi := hb
          split at h0
          · omega
          · split at h0 <;> omega
        · exact ih v e
      · rw [if_neg hc] at h1
        rw [h1] at hv
        exact ih v hv
theorem hd_m {P : Int → Prop} (h0 : P 0) {N : List Int} (h : ∀ v ∈ N, P v) : P (N.headD 0) ∧ P (N.tail.headD 0) := by
  match N, h with
  | [], _ => exact ⟨h0, h0⟩
  | [a], h => exact ⟨h a List.mem_cons_self, h0⟩
  | a :: b :: l, h => exact ⟨h a List.mem_cons_self, h b (List.mem_cons_of_mem _ List.mem_cons_self)⟩
theorem dl_b {x : Int} (hx : 3 ≤ x ∧ x ≤ 9) : (∀ e ∈ dl x, e.1 = 0 → 0 ≤ e.2.1 ∧ e.2.2 ≤ 99) ∧ (x = 9 → ∀ e ∈ dl x, e.1 = 0 → 0 ≤ e.2.1 ∧ e.2.2 ≤ 60) := by
  have hc : x = 3 ∨ x = 4 ∨ x = 5 ∨ x = 6 ∨ x = 7 ∨ x = 8 ∨ x = 9 := by omega
  rcases hc with rfl | rfl | rfl | rfl | rfl | rfl | rfl <;> decide
theorem tre_ok {B : Int → Int} : ∀ {m : Nat} {on : Nat → Bool} {cl ls k v s p : Int} {Cs : List KC} {q : Int}, tre B m on cl ls k v s p Cs 0 q → 0 ≤ cl ∧ cl ≤ 24 → KOK on Cs ∧ cl + (Cs.length : Int) ≤ 24
  | 0, _, _, _, _, _, _, _, _, _, a, _ => a.elim
  | m + 1, on, cl, ls, k, v, s, p, Cs, q, a, hcl => by
    rcases a with ⟨a0, a1, a2, a3⟩ | ⟨a0, C, f1, q1, r1, a, a'⟩
    · rw [a3]
      exact ⟨trivial, by show cl + ((0 : Nat) : Int) ≤ 24; omega⟩
    · rcases a' with ⟨c0, c1, c2⟩ | ⟨c0, k2, v2, q3, r3, l2, Cs2, tk, ec, a'⟩
      · exact absurd c1.symm c0
      · subst c0
        rcases a with ⟨-, a1, -⟩ | ⟨b0, ⟨-, a1, -⟩ | ⟨b1, ⟨-, a1, -⟩ | ⟨b2, a⟩⟩⟩
        · omega
        · omega
        · omega
        · obtain ⟨i1, i2⟩ := tre_ok a' (by omega)
          rw [ec]
          have hle : cl + ((C :: Cs2).length : Int) ≤ 24 := by
            show cl + ((Cs2.length + 1 : Nat) : Int) ≤ 24
            omega
          refine ⟨?_, hle⟩
          rcases a with ⟨c2, c3, m2, a⟩ | ⟨c2, N, c3, a⟩
          · obtain ⟨C1, C2⟩ := C
            have c3 : C1 = (wdo k v, 0, 0) := c3
            subst c3
            have hL := law_ok (ls := 0) (by decide) (lre_ls (ls' := 0) (fun z => (by cases z)) a)
            refine ⟨b0, fun _ => ⟨?_, rfl, hL.1, hL.2.1, hL.2.2⟩, fun z => ?_, i1⟩
            · cases hb : on (wdo k v).toNat with
              | false => rfl
              | true => exact absurd ⟨c2, hb⟩ b1
            · exfalso
              have z : 3 ≤ wdo k v := z
              omega
          · subst c3
            have hd := dl_b (x := wdo k v) (by omega)
            have h1 := hd_m (P := fun x => 0 ≤ x ∧ x ≤ 99) (by decide) (xre_b (lo := 0) (hi := 99) hd.1 a)
            refine ⟨b0, fun z => ?_, fun z => ⟨rfl, h1.1, h1.2, fun z9 => ?_⟩, i1⟩
            · exfalso
              have z : wdo k v < 3 := z
              omega
            · exact (hd_m (P := fun x => 0 ≤ x ∧ x ≤ 60) (by decide) (xre_b (lo := 0) (hi := 60) (hd.2 z9) a)).1.2
theorem on1_t {on : Nat → Bool} {x : Int} {j : Nat} (h : on j = true ∨ j = x.toNat) : on1 on x j = true := by
  unfold on1
  rcases h with h | h
  · rw [h]
    rfl
  · rw [decide_eq_true h, Bool.or_true]
theorem lwK_on : ∀ {Cs : List KC} {on : Nat → Bool} {x : Nat}, KOK on Cs → x < 3 → on x = true → lwK Cs (x : Int) = none
  | [], _, _, _, _, _ => rfl
  | C :: l, on, x, h, hx, ho => by
    obtain ⟨h1, h2, h3, h4⟩ := h
    have hn : ¬ C.1.1 = (x : Int) := fun e => by
      have := (h2 (by omega)).1
      rw [e, show ((x : Int)).toNat = x by omega, ho] at this
      cases this
    show (if C.1.1 = (x : Int) then some C.2 else lwK l (x : Int)) = none
    rw [if_neg hn]
    refine lwK_on h4 hx ?_
    split
    · exact on1_t (Or.inl ho)
    · exact ho
/-! the class -/
theorem wrs_f : ∀ (E : List Int) (F : TD), F.1.2.length = 300 → 0 ≤ F.1.1 → F.1.1 + (E.length : Int) ≤ 300 → (wrs F E).1.1 = F.1.1 + (E.length : Int) ∧ (wrs F E).1.2.length = 300 ∧ (∀ j : Nat, (j : Int) < F.1.1 → (wrs F E).1.2[j]? = F.1.2[j]?) ∧ ∀ j : Nat, j < E.length → (wrs F E).1.2[F.1.1.toNat + j]? = (E[j]?).map wp_i
  | [], F, h1, h2, h3 => ⟨by show F.1.1 = F.1.1 + ((0 : Nat) : Int); omega, h1, fun _ _ => rfl, fun j hj => absurd hj (Nat.not_lt_zero _)⟩
  | y :: l, F, h1, h2, h3 => by
    have hl : ((y :: l).length : Int) = (l.length : Int) + 1 := rfl
    rw [hl] at h3 ⊢
    have e : wr1 F y = ((F.1.1 + 1, F.1.2.set F.1.1.toNat (wp_i y)), F.2) := if_pos (by omega)
    rw [wrs_c, e]
    obtain ⟨i1, i2, i3, i4⟩ := wrs_f l ((F.1.1 + 1, F.1.2.set F.1.1.toNat (wp_i y)), F.2) (by show (F.1.2.set _ _).length = 300; rw [List.length_set]; exact h1) (by show 0 ≤ F.1.1 + 1; omega) (by show F.1.1 + 1 + (l.length : Int) ≤ 300; omega)
    have i1 : _ = F.1.1 + 1 + (l.length : Int) := i1
    refine ⟨by rw [i1]; omega, i2, fun j hj => ?_, fun j hj => ?_⟩
    · rw [i3 j (by show (j : Int) < F.1.1 + 1; omega)]
      exact List.getElem?_set_ne (by omega)
    · cases j with
      | zero =>
        rw [i3 (F.1.1.toNat + 0) (by show ((F.1.1.toNat + 0 : Nat) : Int) < F.1.1 + 1; omega)]
        exact List.getElem?_set_self (by omega)
      | succ j =>
        have hj : j + 1 < l.length + 1 := hj
        have := i4 j (by omega)
        rw [show ((F.1.1 + 1, F.1.2.set F.1.1.toNat (wp_i y)), F.2).1.1.toNat + j = F.1.1.toNat + (j + 1) by show (F.1.1 + 1).toNat + j = _; omega] at this
        exact this
/-- the lengths of a text's arrays -/
def TDl (F : TD) : Prop := F.1.2.length = 300 ∧ (F.2.1.1.length = 3 ∧ F.2.1.2.length = 3) ∧ F.2.2.1.length = 24 ∧ F.2.2.2.1.length = 24 ∧ F.2.2.2.2.length = 24
/-- a law's code stands there -/
def lwD (F : TD) (x : Nat) (lo : Int) (E : List Int) : Prop := ∃ a : Nat, lo ≤ (a : Int) ∧ (a : Int) + (E.length : Int) ≤ 300 ∧ F.2.1.1[x]? = some (wp_i (a : Int)) ∧ F.2.1.2[x]? = some (wp_i ((a : Int) + (E.length : Int))) ∧ ∀ j : Nat, j < E.length → F.1.2[a + j]? = (E[j]?).map wp_i
def clD (F : TD) (i : Nat) (C : KC) : Prop := F.2.2.1[i]? = some (wp_i C.1.1) ∧ F.2.2.2.1[i]? = some (wp_i C.1.2.1) ∧ F.2.2.2.2[i]? = some (wp_i C.1.2.2)
/-- one clause -/
theorem apK_f {F : TD} {on : Nat → Bool} {cl : Nat} {C : KC} {l : List KC} (K : KOK on (C :: l)) (T : TDl F) (h0 : 0 ≤ F.1.1) (h3 : F.1.1 + (C.2.length : Int) ≤ 300) (hc : cl < 24) : TDl (apK F (cl : Int) C) ∧ (apK F (cl : Int) C).1.1 = F.1.1 + (C.2.length : Int) ∧ (∀ j : Nat, (j : Int) < F.1.1 → (apK F (cl : Int) C).1.2[j]? = F.1.2[j]?) ∧ (∀ x : Nat, x < 3 → ¬ C.1.1 = (x : Int) → (apK F (cl : Int) C).2.1.1[x]? = F.2.1.1[x]? ∧ (apK F (cl : Int) C).2.1.2[x]? = F.2.1.2[x]?) ∧ (∀ x : Nat, x < 3 → C.1.1 = (x : Int) → ∃ a : Nat, (a : Int) = F.1.1 ∧ (apK F (cl : Int) C).2.1.1[x]? = some (wp_i (a : Int)) ∧ (apK F (cl : Int) C).2.1.2[x]? = some (wp_i ((a : Int) + (C.2.length : Int))) ∧ ∀ j : Nat, j < C.2.length → (apK F (cl : Int) C).1.2[a + j]? = (C.2[j]?).map wp_i) ∧ clD (apK F (cl : Int) C) cl C ∧ ∀ i : Nat, ¬ i = cl → (apK F (cl : Int) C).2.2.1[i]? = F.2.2.1[i]? ∧ (apK F (cl : Int) C).2.2.2.1[i]? = F.2.2.2.1[i]? ∧ (apK F (cl : Int) C).2.2.2.2[i]? = F.2.2.2.2[i]? := by
  obtain ⟨k1, k2, k3, -⟩ := K
  obtain ⟨t1, ⟨t2, t3⟩, t4, t5, t6⟩ := T
  have ecl : ((cl : Int)).toNat = cl := by omega
  by_cases hx : C.1.1 < 3
  · obtain ⟨-, kz, -⟩ := k2 hx
    have e : apK F (cl : Int) C = adL (edL (wrs (bgL F C.1.1) C.2) C.1.1) (cl : Int) C.1.1 0 0 := if_pos hx
    obtain ⟨w1, w2, w3, w4⟩ := wrs_f C.2 (bgL F C.1.1) t1 h0 h3
    have w5 := wrs_2 C.2 (bgL F C.1.1)
    have w1 : (wrs (bgL F C.1.1) C.2).1.1 = F.1.1 + (C.2.length : Int) := w1
    rw [e]
    unfold adL edL
    dsimp only
    rw [w5, w1]
    unfold bgL
    dsimp only
    rw [ecl]
    refine ⟨⟨w2, ⟨by rw [List.length_set]; exact t2, by rw [List.length_set, List.length_set]; exact t3⟩, by rw [List.length_set]; exact t4, by rw [List.length_set]; exact t5, by rw [List.length_set]; exact t6⟩, rfl, w3, fun x hx3 hne => ⟨?_, ?_⟩, fun x hx3 he => ⟨F.1.1.toNat, by omega, ?_, ?_, w4⟩, ⟨?_, ?_, ?_⟩, fun i hi => ⟨List.getElem?_set_ne (fun z => hi z.symm), List.getElem?_set_ne (fun z => hi z.symm), List.getElem?_set_ne (fun z => hi z.symm)⟩⟩
    · exact List.getElem?_set_ne (by omega)
    · rw [List.getElem?_set_ne (by omega), List.getElem?_set_ne (by omega)]
    · rw [he, show ((x : Int)).toNat = x by omega, List.getElem?_set_self (by omega), show ((F.1.1.toNat : Nat) : Int) = F.1.1 by omega]
    · rw [he, show ((x : Int)).toNat = x by omega, List.getElem?_set_self (by rw [List.length_set]; omega), show ((F.1.1.toNat : Nat) : Int) = F.1.1 by omega]
    · exact List.getElem?_set_self (by omega)
    · rw [kz]
      exact List.getElem?_set_self (by omega)
    · rw [kz]
      exact List.getElem?_set_self (by omega)
  · obtain ⟨kz, -⟩ := k3 (by omega)
    have e : apK F (cl : Int) C = adL F (cl : Int) C.1.1 C.1.2.1 C.1.2.2 := if_neg hx
    rw [e, kz]
    unfold adL
    dsimp only
    rw [ecl]
    refine ⟨⟨t1, ⟨t2, t3⟩, by rw [List.length_set]; exact t4, by rw [List.length_set]; exact t5, by rw [List.length_set]; exact t6⟩, by show F.1.1 = F.1.1 + ((0 : Nat) : Int); omega, fun _ _ => rfl, fun x hx3 hne => ⟨rfl, rfl⟩, fun x hx3 he => by omega, ⟨List.getElem?_set_self (by omega), List.getElem?_set_self (by omega), List.getElem?_set_self (by omega)⟩, fun i hi => ⟨List.getElem?_set_ne (fun z => hi z.symm), List.getElem?_set_ne (fun z => hi z.symm), List.getElem?_set_ne (fun z => hi z.symm)⟩⟩
theorem cdl_0 : ∀ l : List KC, 0 ≤ cdl l
  | [] => Int.le_refl _
  | C :: l => by
    have := cdl_0 l
    show 0 ≤ (C.2.length : Int) + cdl l
    omega
theorem apKs_f : ∀ (Cs : List KC) (F : TD) (on : Nat → Bool) (cl : Nat), KOK on Cs → TDl F → 0 ≤ F.1.1 → F.1.1 + cdl Cs ≤ 300 → cl + Cs.length ≤ 24 → TDl (apKs F (cl : Int) Cs) ∧ (∀ j : Nat, (j : Int) < F.1.1 → (apKs F (cl : Int) Cs).1.2[j]? = F.1.2[j]?) ∧ (∀ x : Nat, x < 3 → lwK Cs (x : Int) = none → (apKs F (cl : Int) Cs).2.1.1[x]? = F.2.1.1[x]? ∧ (apKs F (cl : Int) Cs).2.1.2[x]? = F.2.1.2[x]?) ∧ (∀ x : Nat, x < 3 → ∀ E, lwK Cs (x : Int) = some E → lwD (apKs F (cl : Int) Cs) x F.1.1 E) ∧ (∀ (i : Nat) (C : KC), Cs[i]? = some C → clD (apKs F (cl : Int) Cs) (cl + i) C) ∧ ∀ i : Nat, i < cl → (apKs F (cl : Int) Cs).2.2.1[i]? = F.2.2.1[i]? ∧ (apKs F (cl : Int) Cs).2.2.2.1[i]? = F.2.2.2.1[i]? ∧ (apKs F (cl : Int) Cs).2.2.2.2[i]? = F.2.2.2.2[i]?
  | [], F, on, cl, _, T, _, _, _ => ⟨T, fun _ _ => rfl, fun _ _ _ => ⟨rfl, rfl⟩, fun x _ E h => (by cases h), fun i C h => (by cases h), fun _ _ => ⟨rfl, rfl, rfl⟩⟩
  | C :: l, F, on, cl, K, T, h0, h3, hc => by
    have hl : (C :: l).length = l.length + 1 := rfl
    rw [hl] at hc
    have hcd : cdl (C :: l) = (C.2.length : Int) + cdl l := rfl
    have c0 := cdl_0 l
    rw [hcd] at h3
    obtain ⟨a1, a2, a3, a4, a5, a6, a7⟩ := apK_f (cl := cl) K T h0 (by omega) (by omega)
    obtain ⟨F1, hF⟩ : ∃ F1, apK F (cl : Int) C = F1 := ⟨_, rfl⟩
    have eG : apKs F (cl : Int) (C :: l) = apKs F1 ((cl + 1 : Nat) : Int) l := by
      show apKs (apK F (cl : Int) C) ((cl : Int) + 1) l = _
      rw [hF]
      rfl
    rw [hF] at a1 a2 a3 a4 a5 a6 a7
    obtain ⟨i1, i2, i3, i4, i5, i6⟩ := apKs_f l F1 _ (cl + 1) K.2.2.2 a1 (by omega) (by omega) (by omega)
    rw [eG]
    refine ⟨i1, fun j hj => (i2 j (by omega)).trans (a3 j hj), fun x hx hn => ?_, fun x hx E he => ?_, fun i D hD => ?_, fun i hi => ?_⟩
    · have hn : (if C.1.1 = (x : Int) then some C.2 else lwK l (x : Int)) = none := hn
      by_cases q : C.1.1 = (x : Int)
      · rw [if_pos q] at hn
        cases hn
      · rw [if_neg q] at hn
        exact ⟨(i3 x hx hn).1.trans (a4 x hx q).1, (i3 x hx hn).2.trans (a4 x hx q).2⟩
    · have he : (if C.1.1 = (x : Int) then some C.2 else lwK l (x : Int)) = some E := he
      by_cases q : C.1.1 = (x : Int)
      · rw [if_pos q] at he
        cases he
        obtain ⟨a, b1, b2, b3, b4⟩ := a5 x hx q
        have hn : lwK l (x : Int) = none := by
          refine lwK_on K.2.2.2 hx ?_
          rw [if_pos (by omega)]
          exact on1_t (Or.inr (by omega))
        have j3 := i3 x hx hn
        exact ⟨a, by omega, by omega, j3.1.trans b2, j3.2.trans b3, fun j hj => (i2 (a + j) (by omega)).trans (b4 j hj)⟩
      · rw [if_neg q] at he
        obtain ⟨a, b1, b2, b3, b4, b5⟩ := i4 x hx E he
        exact ⟨a, by omega, b2, b3, b4, b5⟩
    · cases i with
      | zero =>
        cases hD
        have j6 := i6 cl (by omega)
        exact ⟨j6.1.trans a6.1, j6.2.1.trans a6.2.1, j6.2.2.trans a6.2.2⟩
      | succ i =>
        have := i5 i D hD
        rw [show cl + 1 + i = cl + (i + 1) by omega] at this
        exact this
    · have j6 := i6 i (by omega)
      have j7 := a7 i (by omega)
      exact ⟨j6.1.trans j7.1, j6.2.1.trans j7.2.1, j6.2.2.trans j7.2.2⟩
/-! the reference -/
theorem emW_f {x0 : Int} (hx : 0 ≤ x0) : ∀ (W : List (Int × Int)) (ts : List Value) (wr : Int), 0 ≤ wr → x0 + 97 + 2 * (wr + (W.length : Int)) ≤ (ts.length : Int) → (emW x0 ts wr W).length = ts.length ∧ (∀ j : Nat, ((j : Int) < x0 + 97 + 2 * wr ∨ x0 + 97 + 2 * (wr + (W.length : Int)) ≤ (j : Int)) → (emW x0 ts wr W)[j]? = ts[j]?) ∧ ∀ (i : Nat) (o v : Int), W[i]? = some (o, v) → (emW x0 ts wr W)[(x0 + 97 + 2 * (wr + (i : Int))).toNat]? = some (wp_i o) ∧ (emW x0 ts wr W)[(x0 + 97 + 2 * (wr + (i : Int)) + 1).toNat]? = some (wp_i v)
  | [], ts, wr, _, _ => ⟨rfl, fun _ _ => rfl, fun i o v h => (by cases h)⟩
  | (a, b) :: W, ts, wr, h0, h1 => by
    have hl : (((a, b) :: W).length : Int) = (W.length : Int) + 1 := rfl
    rw [hl] at h1 ⊢
    have le1 : (em1 x0 ts wr a b).length = ts.length := by
      unfold em1
      rw [List.length_set, List.length_set]
    obtain ⟨i1, i2, i3⟩ := emW_f hx W (em1 x0 ts wr a b) (wr + 1) (by omega) (by rw [le1]; omega)
    have hn : ∀ j : Nat, ¬ (j : Int) = x0 + 97 + 2 * wr → ¬ (j : Int) = x0 + 97 + 2 * wr + 1 → (em1 x0 ts wr a b)[j]? = ts[j]? := fun j q1 q2 => by
      unfold em1
      rw [List.getElem?_set_ne (by omega), List.getElem?_set_ne (by omega)]
    have he0 : (em1 x0 ts wr a b)[(x0 + 97 + 2 * wr).toNat]? = some (wp_i a) := by
      unfold em1
      rw [List.getElem?_set_ne (by omega)]
      exact List.getElem?_set_self (by omega)
    have he1 : (em1 x0 ts wr a b)[(x0 + 97 + 2 * wr + 1).toNat]? = some (wp_i b) := by
      unfold em1
      exact List.getElem?_set_self (by rw [List.length_set]; omega)
    show (emW x0 (em1 x0 ts wr a b) (wr + 1) W).length = ts.length ∧ (∀ j : Nat, _ → (emW x0 (em1 x0 ts wr a b) (wr + 1) W)[j]? = ts[j]?) ∧ ∀ (i : Nat) (o v : Int), _ → (emW x0 (em1 x0 ts wr a b) (wr + 1) W)[_]? = _ ∧ (emW x0 (em1 x0 ts wr a b) (wr + 1) W)[_]? = _
    refine ⟨i1.trans le1, fun j hj => (i2 j (by omega)).trans (hn j (by omega) (by omega)), fun i o v h => ?_⟩
    cases i with
    | zero =>
      cases h
      rw [show x0 + 97 + 2 * (wr + ((0 : Nat) : Int)) = x0 + 97 + 2 * wr by omega]
      exact ⟨(i2 _ (by omega)).trans he0, (i2 _ (by omega)).trans he1⟩
    | succ i =>
      have := i3 i o v h
      rw [show wr + ((i + 1 : Nat) : Int) = wr + 1 + (i : Int) by omega]
      exact this
/-- a clause stands there, in the reference -/
def clU (x0 : Int) (U : List Value) (y lo : Int) (C : KC) : Prop := U[y.toNat]? = some (wp_i C.1.1) ∧ (C.1.1 < 3 → ∃ a : Int, lo ≤ a ∧ a + (C.2.length : Int) ≤ 300 ∧ U[(y + 1).toNat]? = some (wp_i a) ∧ U[(y + 2).toNat]? = some (wp_i (a + (C.2.length : Int))) ∧ ∀ (n : Nat) (o v : Int), (C.2.map cvt)[n]? = some (o, v) → U[(x0 + 97 + 2 * (a + (n : Int))).toNat]? = some (wp_i o) ∧ U[(x0 + 97 + 2 * (a + (n : Int)) + 1).toNat]? = some (wp_i v)) ∧ (3 ≤ C.1.1 → U[(y + 1).toNat]? = some (wp_i C.1.2.1)) ∧ ((C.1.1 = 3 ∨ C.1.1 = 5 ∨ C.1.1 = 6 ∨ C.1.1 = 7) → U[(y + 2).toNat]? = some (wp_i C.1.2.2))
theorem akR_f {x0 : Int} (hx : 0 ≤ x0) {T : List Value} {on : Nat → Bool} {cn : Nat} {wr : Int} {C : KC} {l : List KC} (K : KOK on (C :: l)) (hT : x0 + 705 ≤ (T.length : Int)) (h0 : 0 ≤ wr) (h3 : wr + (C.2.length : Int) ≤ 300) (hc : cn < 24) : (akR x0 T wr (cn : Int) C).2 = wr + (C.2.length : Int) ∧ (akR x0 T wr (cn : Int) C).1.length = T.length ∧ (∀ j : Nat, ((j : Int) < x0 ∨ x0 + 705 ≤ (j : Int) ∨ (x0 + 1 ≤ (j : Int) ∧ (j : Int) < x0 + 1 + 4 * cn) ∨ (x0 + 97 ≤ (j : Int) ∧ (j : Int) < x0 + 97 + 2 * wr)) → (akR x0 T wr (cn : Int) C).1[j]? = T[j]?) ∧ (akR x0 T wr (cn : Int) C).1[x0.toNat]? = some (wp_i ((cn : Int) + 1)) ∧ clU x0 (akR x0 T wr (cn : Int) C).1 (x0 + 1 + 4 * cn) wr C := by
  obtain ⟨k1, k2, k3, -⟩ := K
  unfold akR
  dsimp only
  obtain ⟨y, hy⟩ : ∃ y, x0 + 1 + 4 * (cn : Int) = y := ⟨_, rfl⟩
  rw [hy]
  obtain ⟨T1, hT1⟩ : ∃ T1, T.set y.toNat (wp_i C.1.1) = T1 := ⟨_, rfl⟩
  rw [hT1]
  have l1 : T1.length = T.length := by rw [← hT1, List.length_set]
  have n1 : ∀ j : Nat, ¬ (j : Int) = y → T1[j]? = T[j]? := fun j q => by rw [← hT1]; exact List.getElem?_set_ne (by omega)
  have s1 : T1[y.toNat]? = some (wp_i C.1.1) := by rw [← hT1]; exact List.getElem?_set_self (by omega)
  unfold bdR
  by_cases hx3 : C.1.1 < 3
  · rw [if_pos hx3]
    dsimp only
    obtain ⟨T2, hT2⟩ : ∃ T2, T1.set (y + 1).toNat (wp_i wr) = T2 := ⟨_, rfl⟩
    rw [hT2]
    have l2 : T2.length = T.length := by rw [← hT2, List.length_set]; exact l1
    have n2 : ∀ j : Nat, ¬ (j : Int) = y + 1 → T2[j]? = T1[j]? := fun j q => by rw [← hT2]; exact List.getElem?_set_ne (by omega)
    have s2 : T2[(y + 1).toNat]? = some (wp_i wr) := by rw [← hT2]; exact List.getElem?_set_self (by omega)
    have lm : (C.2.map cvt).length = C.2.length := List.length_map cvt
    obtain ⟨m1, m2, m3⟩ := emW_f hx (C.2.map cvt) T2 wr h0 (by rw [lm, l2]; omega)
    rw [lm] at m2
    obtain ⟨T3, hT3⟩ : ∃ T3, emW x0 T2 wr (C.2.map cvt) = T3 := ⟨_, rfl⟩
    rw [hT3] at m1 m2 m3 ⊢
    obtain ⟨T4, hT4⟩ : ∃ T4, T3.set (y + 2).toNat (wp_i (wr + (C.2.length : Int))) = T4 := ⟨_, rfl⟩
    rw [hT4]
    have l4 : T4.length = T.length := by rw [← hT4, List.length_set, m1]; exact l2
    have n4 : ∀ j : Nat, ¬ (j : Int) = y + 2 → T4[j]? = T3[j]? := fun j q => by rw [← hT4]; exact List.getElem?_set_ne (by omega)
    have s4 : T4[(y + 2).toNat]? = some (wp_i (wr + (C.2.length : Int))) := by rw [← hT4]; exact List.getElem?_set_self (by omega)
    have n5 : ∀ j : Nat, ¬ (j : Int) = x0 → (T4.set x0.toNat (wp_i ((cn : Int) + 1)))[j]? = T4[j]? := fun j q => List.getElem?_set_ne (by omega)
    refine ⟨rfl, by rw [List.length_set]; exact l4, fun j hj => ?_, List.getElem?_set_self (by omega), ?_, fun _ => ⟨wr, Int.le_refl _, h3, ?_, ?_, fun n o v hn => ?_⟩, fun z => by omega, fun z => by omega⟩
    · rw [n5 j (by omega), n4 j (by omega), m2 j (by omega), n2 j (by omega), n1 j (by omega)]
    · rw [n5 _ (by omega), n4 _ (by omega), m2 _ (by omega), n2 _ (by omega)]
      exact s1
    · rw [n5 _ (by omega), n4 _ (by omega), m2 _ (by omega)]
      exact s2
    · rw [n5 _ (by omega)]
      exact s4
    · have := m3 n o v hn
      rw [n5 _ (by omega), n4 _ (by omega), n5 _ (by omega), n4 _ (by omega)]
      exact this
  · rw [if_neg hx3]
    obtain ⟨kz, -⟩ := k3 (by omega)
    have hz : (C.2.length : Int) = 0 := by rw [kz]; rfl
    obtain ⟨T2, hT2⟩ : ∃ T2, T1.set (y + 1).toNat (wp_i C.1.2.1) = T2 := ⟨_, rfl⟩
    rw [hT2]
    have l2 : T2.length = T.length := by rw [← hT2, List.length_set]; exact l1
    have n2 : ∀ j : Nat, ¬ (j : Int) = y + 1 → T2[j]? = T1[j]? := fun j q => by rw [← hT2]; exact List.getElem?_set_ne (by omega)
    have s2 : T2[(y + 1).toNat]? = some (wp_i C.1.2.1) := by rw [← hT2]; exact List.getElem?_set_self (by omega)
    by_cases h4 : C.1.1 = 4 ∨ C.1.1 = 8 ∨ C.1.1 = 9
    · rw [if_pos h4]
      dsimp only
      have n5 : ∀ j : Nat, ¬ (j : Int) = x0 → (T2.set x0.toNat (wp_i ((cn : Int) + 1)))[j]? = T2[j]? := fun j q => List.getElem?_set_ne (by omega)
      refine ⟨by omega, by rw [List.length_set]; exact l2, fun j hj => ?_, List.getElem?_set_self (by omega), ?_, fun z => absurd z hx3, fun _ => ?_, fun z => by omega⟩
      · rw [n5 j (by omega), n2 j (by omega), n1 j (by omega)]
      · rw [n5 _ (by omega), n2 _ (by omega)]
        exact s1
      · rw [n5 _ (by omega)]
        exact s2
    · rw [if_neg h4]
      dsimp only
      obtain ⟨T4, hT4⟩ : ∃ T4, T2.set (y + 2).toNat (wp_i C.1.2.2) = T4 := ⟨_, rfl⟩
      rw [hT4]
      have l4 : T4.length = T.length := by rw [← hT4, List.length_set]; exact l2
      have n4 : ∀ j : Nat, ¬ (j : Int) = y + 2 → T4[j]? = T2[j]? := fun j q => by rw [← hT4]; exact List.getElem?_set_ne (by omega)
      have s4 : T4[(y + 2).toNat]? = some (wp_i C.1.2.2) := by rw [← hT4]; exact List.getElem?_set_self (by omega)
      have n5 : ∀ j : Nat, ¬ (j : Int) = x0 → (T4.set x0.toNat (wp_i ((cn : Int) + 1)))[j]? = T4[j]? := fun j q => List.getElem?_set_ne (by omega)
      refine ⟨by omega, by rw [List.length_set]; exact l4, fun j hj => ?_, List.getElem?_set_self (by omega), ?_, fun z => absurd z hx3, fun _ => ?_, fun _ => ?_⟩
      · rw [n5 j (by omega), n4 j (by omega), n2 j (by omega), n1 j (by omega)]
      · rw [n5 _ (by omega), n4 _ (by omega), n2 _ (by omega)]
        exact s1
      · rw [n5 _ (by omega), n4 _ (by omega)]
        exact s2
      · rw [n5 _ (by omega)]
        exact s4
theorem clU_f {x0 : Int} (hx : 0 ≤ x0) {U V : List Value} {y lo lo2 hi : Int} {C : KC} (h : clU x0 U y lo C) (hl : lo2 ≤ lo) (h0 : 0 ≤ lo) (hy : x0 + 1 ≤ y ∧ y + 3 ≤ x0 + 97) (hh : lo + (C.2.length : Int) ≤ hi) (ha : ∀ a : Int, U[(y + 1).toNat]? = some (wp_i a) → a + (C.2.length : Int) ≤ 300 → lo ≤ a → C.1.1 < 3 → a + (C.2.length : Int) ≤ hi) (e : ∀ j : Nat, (y ≤ (j : Int) ∧ (j : Int) < y + 4) ∨ (x0 + 97 ≤ (j : Int) ∧ (j : Int) < x0 + 97 + 2 * hi) → V[j]? = U[j]?) : clU x0 V y lo2 C := by
  obtain ⟨a1, a2, a3, a4⟩ := h
  refine ⟨by rw [e _ (by omega)]; exact a1, fun z => ?_, fun z => by rw [e _ (by omega)]; exact a3 z, fun z => by rw [e _ (by omega)]; exact a4 z⟩
  obtain ⟨a, b1, b2, b3, b4, b5⟩ := a2 z
  have h9 := ha a b3 b2 b1 z
  refine ⟨a, by omega, b2, by rw [e _ (by omega)]; exact b3, by rw [e _ (by omega)]; exact b4, fun n o v hn => ?_⟩
  have hnl : n < C.2.length := by
    have := (List.getElem?_eq_some_iff.mp hn).1
    rw [List.length_map] at this
    exact this
  have := b5 n o v hn
  rw [e _ (by omega), e _ (by omega)]
  exact this
theorem wp_inj {x y : Int} (hx : wp_r x) (hy : wp_r y) (h : wp_i x = wp_i y) : x = y := by
  have h1 : Int32.ofInt x = Int32.ofInt y := Value.int.inj h
  have h2 := congrArg Int32.toInt h1
  rw [wp_ti hx, wp_ti hy] at h2
  exact h2
theorem akR_w {x0 : Int} (hx : 0 ≤ x0) {T : List Value} {cn : Nat} {wr : Int} {C : KC} (hT : x0 + 705 ≤ (T.length : Int)) (hw : 0 ≤ wr ∧ wr + (C.2.length : Int) ≤ 300 ∧ cn < 24) (h3 : C.1.1 < 3) : (akR x0 T wr (cn : Int) C).1[(x0 + 1 + 4 * (cn : Int) + 1).toNat]? = some (wp_i wr) := by
  unfold akR
  dsimp only
  unfold bdR
  rw [if_pos h3]
  dsimp only
  have lm : (C.2.map cvt).length = C.2.length := List.length_map cvt
  rw [List.getElem?_set_ne (by omega), List.getElem?_set_ne (by omega), (emW_f hx (C.2.map cvt) _ wr hw.1 (by rw [lm, List.length_set, List.length_set]; omega)).2.1 _ (by omega)]
  exact List.getElem?_set_self (by rw [List.length_set]; omega)
theorem akRs_f {x0 : Int} (hx : 0 ≤ x0) : ∀ (Cs : List KC) (T : List Value) (on : Nat → Bool) (cn : Nat) (wr : Int), KOK on Cs → x0 + 705 ≤ (T.length : Int) → 0 ≤ wr → wr + cdl Cs ≤ 300 → cn + Cs.length ≤ 24 → T[x0.toNat]? = some (wp_i (cn : Int)) → (akRs x0 T wr (cn : Int) Cs).1.length = T.length ∧ (∀ j : Nat, ((j : Int) < x0 ∨ x0 + 705 ≤ (j : Int) ∨ (x0 + 1 ≤ (j : Int) ∧ (j : Int) < x0 + 1 + 4 * cn) ∨ (x0 + 97 ≤ (j : Int) ∧ (j : Int) < x0 + 97 + 2 * wr)) → (akRs x0 T wr (cn : Int) Cs).1[j]? = T[j]?) ∧ (akRs x0 T wr (cn : Int) Cs).1[x0.toNat]? = some (wp_i ((cn : Int) + (Cs.length : Int))) ∧ ∀ (i : Nat) (C : KC), Cs[i]? = some C → clU x0 (akRs x0 T wr (cn : Int) Cs).1 (x0 + 1 + 4 * ((cn : Int) + (i : Int))) wr C
  | [], T, on, cn, wr, _, _, _, _, _, h => ⟨rfl, fun _ _ => rfl, by rw [show (cn : Int) + (([] : List KC).length : Int) = (cn : Int) by show (cn : Int) + ((0 : Nat) : Int) = _; omega]; exact h, fun i C h => (by cases h)⟩
  | C :: l, T, on, cn, wr, K, hT, h0, h3, hc, hz => by
    have hl : (C :: l).length = l.length + 1 := rfl
    rw [hl] at hc ⊢
    have hcd : cdl (C :: l) = (C.2.length : Int) + cdl l := rfl
    have c0 := cdl_0 l
    rw [hcd] at h3
    obtain ⟨a1, a2, a3, a4, a5⟩ := akR_f hx (cn := cn) K hT h0 (by omega) (by omega)
    obtain ⟨T1, hT1⟩ : ∃ T1, (akR x0 T wr (cn : Int) C).1 = T1 := ⟨_, rfl⟩
    have eG : akRs x0 T wr (cn : Int) (C :: l) = akRs x0 T1 (wr + (C.2.length : Int)) ((cn + 1 : Nat) : Int) l := by
      show akRs x0 (akR x0 T wr (cn : Int) C).1 (akR x0 T wr (cn : Int) C).2 ((cn : Int) + 1) l = _
      rw [a1, hT1]
      rfl
    rw [hT1] at a2 a3 a4 a5
    obtain ⟨i1, i2, i3, i4⟩ := akRs_f hx l T1 _ (cn + 1) (wr + (C.2.length : Int)) K.2.2.2 (by omega) (by omega) (by omega) (by omega) a4
    rw [eG]
    refine ⟨i1.trans a2, fun j hj => (i2 j (by omega)).trans (a3 j hj), by rw [i3]; congr 2; omega, fun i D hD => ?_⟩
    cases i with
    | zero =>
      cases hD
      rw [show x0 + 1 + 4 * ((cn : Int) + ((0 : Nat) : Int)) = x0 + 1 + 4 * (cn : Int) by omega]
      refine clU_f hx (hi := wr + (C.2.length : Int)) a5 (Int.le_refl _) h0 (by omega) (Int.le_refl _) (fun a q1 q2 q3 q4 => ?_) (fun j hj => i2 j (by omega))
      obtain ⟨a9, r1, r2, r3, r4, r5⟩ := a5.2.1 q4
      have e1 : (akR x0 T wr (cn : Int) C).1 = T1 := hT1
      have hw := akR_w (x0 := x0) (T := T) (wr := wr) (cn := cn) (C := C) hx hT (by omega) q4
      rw [hT1] at hw
      rw [hw] at q1
      have q5 : wp_i wr = wp_i a := Option.some.inj q1
      have q6 := wp_inj (by omega) (by omega) q5
      omega
    | succ i =>
      have := i4 i D hD
      rw [show ((cn + 1 : Nat) : Int) + (i : Int) = (cn : Int) + ((i + 1 : Nat) : Int) by omega] at this
      obtain ⟨b1, b2, b3, b4⟩ := this
      exact ⟨b1, fun z => by obtain ⟨a, c1, c2⟩ := b2 z; exact ⟨a, by omega, c2⟩, b3, b4⟩
