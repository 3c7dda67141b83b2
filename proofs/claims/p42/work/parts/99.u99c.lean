/-! -/
/-! a text in both: the law's state behind it -/
set_option maxRecDepth 100000 in
theorem cvt_o {it : Int} (h : itm it) : otm (cvt it).1 (cvt it).2 ∧ wp_r (cvt it).1 ∧ wp_r (cvt it).2 := by
  unfold cvt
  rcases h with h | ⟨h1, h2, h3⟩ | h | h
  · rw [if_pos h.2]
    exact ⟨Or.inl ⟨rfl, h⟩, (by decide : wp_r 0), by constructor <;> (show _ ≤ _) <;> omega⟩
  · rw [if_neg (by omega), if_pos h2]
    have q := (nmk_o h3).2
    exact ⟨Or.inr (Or.inl ⟨rfl, q⟩), (by decide : wp_r 1), by constructor <;> (show _ ≤ _) <;> omega⟩
  · rcases h with rfl | rfl | rfl | rfl | rfl | rfl | rfl | rfl | rfl | rfl | rfl | rfl | rfl | rfl
    all_goals
      refine ⟨?_, by decide, by decide⟩
      unfold otm
      decide
  · rw [if_neg (by omega), if_neg (by omega), if_neg (by omega)]
    exact ⟨Or.inr (Or.inr (Or.inl ⟨rfl, by show 1 ≤ it - 30000; omega, by show it - 30000 ≤ 300; omega⟩)), (by decide : wp_r 2), by constructor <;> (show _ ≤ _) <;> omega⟩
theorem itm_r {it : Int} (h : itm it) : wp_r it := by
  unfold itm at h
  constructor <;> omega
theorem lwK_s : ∀ {Cs : List KC} {x : Int} {E : List Int}, lwK Cs x = some E → ∃ (i : Nat) (C : KC), Cs[i]? = some C ∧ C.1.1 = x ∧ C.2 = E ∧ ∀ j, j < i → ∀ D, Cs[j]? = some D → ¬ D.1.1 = x
  | [], _, _, h => by cases h
  | C :: l, x, E, h => by
    unfold lwK at h
    by_cases q : C.1.1 = x
    · rw [if_pos q] at h
      injection h with h
      exact ⟨0, C, rfl, q, h, fun j hj => by omega⟩
    · rw [if_neg q] at h
      obtain ⟨i, D, a, b, c, d⟩ := lwK_s h
      refine ⟨i + 1, D, a, b, c, fun j hj D2 e2 => ?_⟩
      match j, hj, e2 with
      | 0, _, e2 =>
        cases e2
        exact q
      | j + 1, hj, e2 => exact d j (by omega) D2 e2
theorem lwK_n : ∀ {Cs : List KC} {x : Int}, lwK Cs x = none → ∀ (i : Nat) (C : KC), Cs[i]? = some C → ¬ C.1.1 = x
  | [], _, _, i, C, e => by cases e
  | C :: l, x, h, i, D, e => by
    unfold lwK at h
    by_cases q : C.1.1 = x
    · rw [if_pos q] at h
      cases h
    · rw [if_neg q] at h
      match i, e with
      | 0, e =>
        cases e
        exact q
      | i + 1, e => exact lwK_n h i D e
def KO1 (C : KC) : Prop := (0 ≤ C.1.1 ∧ C.1.1 ≤ 9) ∧ (C.1.1 < 3 → C.1.2 = (0, 0) ∧ codeC C.2 ∧ (C.1.1 = 2 → askR (some (C.2.map cvt)) ∧ sameT C.2 (C.2.map cvt)) ∧ (¬ C.1.1 = 2 → valR (some (C.2.map cvt)) ∧ sameV C.2 (C.2.map cvt))) ∧ (3 ≤ C.1.1 → C.2 = [] ∧ (0 ≤ C.1.2.1 ∧ C.1.2.1 ≤ 99) ∧ (0 ≤ C.1.2.2 ∧ C.1.2.2 ≤ 99) ∧ (C.1.1 = 9 → C.1.2.1 ≤ 60))
theorem KOK_m : ∀ {Cs : List KC} {on : Nat → Bool}, KOK on Cs → ∀ (i : Nat) (C : KC), Cs[i]? = some C → KO1 C
  | [], _, _, i, C, e => by cases e
  | C :: l, on, h, i, D, e => by
    obtain ⟨a, b, c, d⟩ := h
    match i, e with
    | 0, e =>
      cases e
      exact ⟨a, fun z => (b z).2, c⟩
    | i + 1, e => exact KOK_m d i D e
theorem KO1_r {C : KC} (h : KO1 C) : wp_r C.1.1 ∧ wp_r C.1.2.1 ∧ wp_r C.1.2.2 := by
  obtain ⟨⟨⟨a, b, c⟩, E⟩, rfl⟩ : ∃ D, C = D := ⟨C, rfl⟩
  obtain ⟨h1, h2, h3⟩ := h
  dsimp only at h1 h2 h3 ⊢
  by_cases q : a < 3
  · have z := (h2 q).1
    injection z with z1 z2
    subst z1 z2
    exact ⟨by constructor <;> omega, by decide, by decide⟩
  · obtain ⟨-, y1, y2, -⟩ := h3 (by omega)
    exact ⟨by constructor <;> omega, by constructor <;> omega, by constructor <;> omega⟩
/-- what the class's text says -/
theorem cls_n {s1 : sg_} {t : Nat} {F : TD} {Cs : List KC} (hF : TDl F) (h0 : F.1.1 = 0) (hm : ∀ x : Nat, x < 3 → F.2.1.1[x]? = some (wp_i (-1))) (K : KOK nof Cs) (h24 : Cs.length ≤ 24) (hd : cdl Cs ≤ 300) (e : ∀ k : Nat, s1 (t + 1) (k : Int) = vnn ((apKs F 0 Cs).1.2[k]?) ∧ s1 (t + 2) (k : Int) = vnn ((apKs F 0 Cs).2.1.1[k]?) ∧ s1 (t + 3) (k : Int) = vnn ((apKs F 0 Cs).2.1.2[k]?) ∧ s1 (t + 4) (k : Int) = vnn ((apKs F 0 Cs).2.2.1[k]?) ∧ s1 (t + 5) (k : Int) = vnn ((apKs F 0 Cs).2.2.2.1[k]?) ∧ s1 (t + 6) (k : Int) = vnn ((apKs F 0 Cs).2.2.2.2[k]?)) : TXC s1 t (lwK Cs) ∧ ∀ (i : Nat) (C : KC), Cs[i]? = some C → clsC s1 t i = C.1 := by
  obtain ⟨-, -, f3, f4, f5, -⟩ := apKs_f Cs F nof 0 K hF (by omega) (by omega) (by omega)
  have f3 : ∀ x : Nat, x < 3 → lwK Cs (x : Int) = none → (apKs F 0 Cs).2.1.1[x]? = F.2.1.1[x]? ∧ (apKs F 0 Cs).2.1.2[x]? = F.2.1.2[x]? := f3
  have f4 : ∀ x : Nat, x < 3 → ∀ E, lwK Cs (x : Int) = some E → lwD (apKs F 0 Cs) x F.1.1 E := f4
  have f5 : ∀ (i : Nat) (C : KC), Cs[i]? = some C → clD (apKs F 0 Cs) (0 + i) C := f5
  refine ⟨fun l l0 l3 => ?_, fun i C hC => ?_⟩
  · obtain ⟨x, rfl⟩ : ∃ x : Nat, l = (x : Int) := ⟨l.toNat, by omega⟩
    cases o : lwK Cs (x : Int) with
    | none =>
      show s1 (t + 2) (x : Int) = -1
      rw [(e x).2.1, (f3 x (by omega) o).1, hm x (by omega)]
      exact vnn_i (by decide)
    | some E =>
      obtain ⟨a, a1, a2, a3, a4, a5⟩ := f4 x (by omega) E o
      obtain ⟨i, C, c1, c2, c3, -⟩ := lwK_s o
      have cc : codeC E := by
        have := ((KOK_m K i C c1).2.1 (by omega)).2.1
        rw [c3] at this
        exact this
      have v2 : s1 (t + 2) (x : Int) = (a : Int) := by
        rw [(e x).2.1, a3]
        exact vnn_i (by constructor <;> omega)
      have v3 : s1 (t + 3) (x : Int) = (a : Int) + (E.length : Int) := by
        rw [(e x).2.2.1, a4]
        exact vnn_i (by constructor <;> omega)
      refine ⟨by rw [v2, v3]; exact ⟨by omega, rfl, a2⟩, fun k hk => ?_, cc⟩
      rw [v2]
      have ek : E[k]? = some E[k] := List.getElem?_eq_getElem hk
      have w := (e (a + k)).1
      rw [a5 k hk, ek, show (((a + k : Nat) : Nat) : Int) = (a : Int) + (k : Int) by omega] at w
      rw [w, ek]
      exact congrArg some (vnn_i (itm_r (cc.1 _ (List.getElem_mem hk)))).symm
  · obtain ⟨g1, g2, g3⟩ := f5 i C hC
    rw [Nat.zero_add] at g1 g2 g3
    obtain ⟨w1, w2, w3⟩ := KO1_r (KOK_m K i C hC)
    show (s1 (t + 4) (i : Int), s1 (t + 5) (i : Int), s1 (t + 6) (i : Int)) = C.1
    rw [(e i).2.2.2.1, (e i).2.2.2.2.1, (e i).2.2.2.2.2, g1, g2, g3, vnn_i w1, vnn_i w2, vnn_i w3]
/-- what the reference's text says -/
theorem clr_n {s1 : sg_} {c : Int} (hc : 0 ≤ c ∧ c ≤ 3) {T : List Value} {Cs : List KC} (K : KOK nof Cs) (hT : T.length = 2820) (h0 : T[(705 * c).toNat]? = some (wp_i 0)) (h24 : Cs.length ≤ 24) (hd : cdl Cs ≤ 300) (e : ∀ j : Nat, 705 * c ≤ (j : Int) → s1 141 (j : Int) = vnn ((akRs (705 * c) T 0 0 Cs).1[j]?)) : s1 141 (705 * c) = (Cs.length : Int) ∧ ∀ (i : Nat) (C : KC), Cs[i]? = some C → clE C.1 (clsR s1 c i) ∧ (C.1.1 < 3 → ∃ a : Int, 0 ≤ a ∧ a + (C.2.length : Int) ≤ 300 ∧ s1 141 (705 * c + 1 + 4 * (i : Int) + 1) = a ∧ s1 141 (705 * c + 1 + 4 * (i : Int) + 2) = a + (C.2.length : Int) ∧ ∀ (n : Nat) (o v : Int), (C.2.map cvt)[n]? = some (o, v) → s1 141 (705 * c + 97 + 2 * (a + (n : Int))) = o ∧ s1 141 (705 * c + 97 + 2 * (a + (n : Int)) + 1) = v) := by
  obtain ⟨-, -, g3, g4⟩ := akRs_f (x0 := 705 * c) (by omega) Cs T nof 0 0 K (by omega) (by omega) (by omega) (by omega) h0
  have g3 : (akRs (705 * c) T 0 0 Cs).1[(705 * c).toNat]? = some (wp_i (0 + (Cs.length : Int))) := g3
  have g4 : ∀ (i : Nat) (C : KC), Cs[i]? = some C → clU (705 * c) (akRs (705 * c) T 0 0 Cs).1 (705 * c + 1 + 4 * (0 + (i : Int))) 0 C := g4
  have rd : ∀ {x j : Int}, 705 * c ≤ j → (akRs (705 * c) T 0 0 Cs).1[j.toNat]? = some (wp_i x) → wp_r x → s1 141 j = x := fun {x j} hj hU hx => by
    have w := e j.toNat (by omega)
    rw [hU, show ((j.toNat : Nat) : Int) = j by omega] at w
    rw [w]
    exact vnn_i hx
  refine ⟨?_, fun i C hC => ?_⟩
  · have := rd (Int.le_refl _) g3 (by constructor <;> omega)
    omega
  · obtain ⟨u1, u2, u3, u4⟩ := g4 i C hC
    rw [show (0 : Int) + (i : Int) = (i : Int) by omega] at u1 u2 u3 u4
    have k1 := KOK_m K i C hC
    obtain ⟨w1, w2, w3⟩ := KO1_r k1
    refine ⟨⟨(rd (by omega) u1 w1).symm, fun h3 => (rd (by omega) (u3 h3) w2).symm, fun h3 => (rd (by omega) (u4 h3) w3).symm⟩, fun h3 => ?_⟩
    obtain ⟨a, a1, a2, a3, a4, a5⟩ := u2 h3
    refine ⟨a, a1, a2, rd (by omega) a3 (by constructor <;> omega), rd (by omega) a4 (by constructor <;> omega), fun n o v hn => ?_⟩
    obtain ⟨b1, b2⟩ := a5 n o v hn
    rw [List.getElem?_map] at hn
    cases he : C.2[n]? with
    | none =>
      rw [he] at hn
      cases hn
    | some it =>
      rw [he] at hn
      injection hn with hn
      have q := (cvt_o ((k1.2.1 h3).2.1.1 it (List.mem_of_getElem? he))).2
      rw [hn] at q
      exact ⟨rd (by omega) b1 q.1, rd (by omega) b2 q.2⟩
theorem TRl_n {s1 : sg_} {c : Int} (hc : 0 ≤ c ∧ c ≤ 3) {Cs : List KC} (K : KOK nof Cs) (e0 : s1 141 (705 * c) = (Cs.length : Int)) (e : ∀ (i : Nat) (C : KC), Cs[i]? = some C → clE C.1 (clsR s1 c i) ∧ (C.1.1 < 3 → ∃ a : Int, 0 ≤ a ∧ a + (C.2.length : Int) ≤ 300 ∧ s1 141 (705 * c + 1 + 4 * (i : Int) + 1) = a ∧ s1 141 (705 * c + 1 + 4 * (i : Int) + 2) = a + (C.2.length : Int) ∧ ∀ (n : Nat) (o v : Int), (C.2.map cvt)[n]? = some (o, v) → s1 141 (705 * c + 97 + 2 * (a + (n : Int))) = o ∧ s1 141 (705 * c + 97 + 2 * (a + (n : Int)) + 1) = v)) {l : Int} (hl : 0 ≤ l ∧ l < 3) : TRl s1 c l ((lwK Cs l).map (List.map cvt)) := by
  have kd : ∀ j : Int, 0 ≤ j → j < (Cs.length : Int) → ∃ (i : Nat) (C : KC), j = (i : Int) ∧ Cs[i]? = some C ∧ s1 141 (705 * c + 1 + 4 * j) = C.1.1 := fun j j0 j1 => by
    obtain ⟨i, rfl⟩ : ∃ i : Nat, j = (i : Int) := ⟨j.toNat, by omega⟩
    have hi : i < Cs.length := by omega
    exact ⟨i, Cs[i], rfl, List.getElem?_eq_getElem hi, ((e i _ (List.getElem?_eq_getElem hi)).1.1).symm⟩
  cases o : lwK Cs l with
  | none =>
    refine Or.inr (fun j j0 j1 => ?_)
    rw [e0] at j1
    obtain ⟨i, C, -, h1, h2⟩ := kd j j0 j1
    rw [h2]
    exact lwK_n o i C h1
  | some E =>
    obtain ⟨i, C, c1, c2, c3, c4⟩ := lwK_s o
    have hi : i < Cs.length := (List.getElem?_eq_some_iff.mp c1).1
    obtain ⟨y1, y2⟩ := e i C c1
    obtain ⟨a, a0, a1, a2, a3, a4⟩ := y2 (by omega)
    rw [c3] at a1 a3 a4
    have lm : (List.map cvt E).length = E.length := List.length_map ..
    refine ⟨hc.1, (i : Int), ⟨by omega, by rw [e0]; omega⟩, fun j j0 j1 => ?_, (y1.1).symm.trans c2, ⟨by rw [a2]; exact a0, by rw [a2, a3, lm], by rw [a3]; omega⟩, fun n hn => ?_, fun p hp => ?_⟩
    · obtain ⟨i2, C2, q1, q2, q3⟩ := kd j j0 (by omega)
      rw [q3]
      exact c4 i2 (by omega) C2 q2
    · rw [a2]
      have en : (List.map cvt E)[n]? = some (List.map cvt E)[n] := List.getElem?_eq_getElem hn
      obtain ⟨b1, b2⟩ := a4 n _ _ en
      rw [en, b1, b2]
      rfl
    · obtain ⟨it, h1, h2⟩ := List.mem_map.mp hp
      rw [← h2]
      have := ((KOK_m K i C c1).2.1 (by omega)).2.1.1
      rw [c3] at this
      exact (cvt_o (this it h1)).1
