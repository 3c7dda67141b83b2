/-! the stack's shape in a law -/
def sl : List Int → Int
  | [] => 5
  | c :: _ => if ck c = 0 then 2 else if ck c = 1 then 4 else if ck c = 2 ∨ ck c = 3 then 3 else if ck c = 4 then 2 else if ck c = 5 then 1 else 0
def shp : List Int → Prop
  | [] => True
  | c :: w => shp w ∧ (sl (c :: w) + 1 - opc c ≤ sl w + 2 * brc c ∧ (ck c = 0 → c = 40 ∨ c = 91) ∧ (0 < brn w → ck c = 0 ∨ 5 ≤ ck c) ∧ (opc c = 0 ∨ c = 40 ∨ c = 91 ∨ c = 110 ∨ c = 33))
theorem sl_0 : ∀ w : List Int, 0 ≤ sl w ∧ sl w ≤ 5
  | [] => ⟨by decide, by decide⟩
  | c :: w => by
    unfold sl
    repeat' split
    all_goals omega
theorem sl_4 {c : Int} {w : List Int} : sl (c :: w) ≤ 4 := by
  show (if ck c = 0 then (2 : Int) else if ck c = 1 then 4 else if ck c = 2 ∨ ck c = 3 then 3 else if ck c = 4 then 2 else if ck c = 5 then 1 else 0) ≤ 4
  repeat' split
  all_goals omega
theorem shp_len : ∀ {w : List Int}, shp w → (w.length : Int) - opn w + sl w ≤ 5 + 2 * brn w
  | [], _ => by decide
  | c :: w, h => by
    have ih := shp_len h.1
    have h1 := h.2.1
    show ((w.length + 1 : Nat) : Int) - (opn w + opc c) + sl (c :: w) ≤ 5 + 2 * (brn w + brc c)
    omega
theorem shp_39 {w : List Int} (h : shp w) (ho : opn w ≤ 8) : w.length ≤ 29 := by
  have h1 := shp_len h
  have h2 := sl_0 w
  have h3 := brn_0 w
  omega
theorem shp_jw {r : Int} : ∀ {w : List Int}, shp w → shp (jwt r w)
  | [], _ => trivial
  | c :: w, h => by
    unfold jwt
    split
    · exact shp_jw h.1
    · exact h
theorem jwt_top {r : Int} : ∀ {w : List Int} {c : Int} {w1 : List Int}, jwt r w = c :: w1 → ck c < r
  | [], c, w1, h => by cases h
  | b :: w, c, w1, h => by
    unfold jwt at h
    split at h
    · exact jwt_top h
    · cases h
      omega
theorem opn_jw {r : Int} : ∀ w : List Int, opn (jwt r w) ≤ opn w
  | [] => Int.le_refl _
  | c :: w => by
    have ih := opn_jw (r := r) w
    have hc : 0 ≤ opc c := by unfold opc; split <;> omega
    unfold jwt
    split
    · show opn (jwt r w) ≤ opn w + opc c
      omega
    · exact Int.le_refl _
theorem brn_jw {r : Int} (hr : 1 ≤ r) : ∀ w : List Int, brn (jwt r w) = brn w
  | [] => rfl
  | c :: w => by
    have ih := brn_jw hr w
    unfold jwt
    split
    · rename_i hc
      rw [ih]
      show brn w = brn w + brc c
      have : brc c = 0 := if_neg (fun e => by
        have : ck c = 0 := by
          rcases e with e | e <;> (subst e; decide)
        omega)
      omega
    · rfl
theorem shp_cok : ∀ {w : List Int}, shp w → cok w
  | [], _ => fun h => absurd h (by decide)
  | c :: w, h => fun hb => by
    by_cases hc : ck c = 0
    · exact ⟨c, w, by unfold jwt; rw [if_neg (by omega)], h.2.2.1 hc⟩
    · have hbc : brc c = 0 := if_neg (fun e => by
        have : ck c = 0 := by
          rcases e with e | e <;> (subst e; decide)
        omega)
      have hb2 : 0 < brn w := by
        have : 0 < brn w + brc c := hb
        omega
      have h5 := h.2.2.2.1 hb2
      obtain ⟨c1, w1, e1, e2⟩ := shp_cok h.1 hb2
      exact ⟨c1, w1, by unfold jwt; rw [if_pos (by omega)]; exact e1, e2⟩
/-- no sign of an ASK -/
def no4 (w : List Int) : Prop := ∀ c ∈ w, ¬ ck c = 4
theorem no4_jw {r : Int} : ∀ {w : List Int}, no4 w → no4 (jwt r w)
  | [], _ => fun c hc => by cases hc
  | b :: w, h => by
    unfold jwt
    split
    · exact no4_jw (fun c hc => h c (List.mem_cons_of_mem _ hc))
    · exact h
/-- at the ground all is signs: those of rank 1 lie at the bottom -/
theorem shp_g {w : List Int} (h : shp w) (hb : brn w = 0) : no4 (jwt 2 w) ∧ jwt 1 w = [] := by
  induction w with
  | nil => exact ⟨fun c hc => (by cases hc), rfl⟩
  | cons c w ih =>
    have hbw := brn_0 w
    have hbc : 0 ≤ brc c := by unfold brc; split <;> omega
    have hb0 : brn w + brc c = 0 := hb
    have hc0 : ¬ ck c = 0 := fun e => by
      have h1 := h.2.2.1 e
      have h2 : brc c = 1 := if_pos h1
      omega
    have hck := ck_r c
    obtain ⟨i1, i2⟩ := ih h.1 (by omega)
    constructor
    · unfold jwt
      split
      · exact i1
      · have h1 : ck c = 1 := by omega
        have ho : opc c = 0 := if_neg (fun e => by
          have : ck c = 0 ∨ ck c = 7 ∨ ck c = 3 := by
            rcases e with e | e | e | e <;> (subst e; decide)
          omega)
        have hs := h.2.1
        have hsl : sl (c :: w) = 4 := by
          show (if ck c = 0 then _ else if ck c = 1 then _ else _) = _
          rw [if_neg hc0, if_pos h1]
        have hw : w = [] := by
          cases w with
          | nil => rfl
          | cons b w2 =>
            exfalso
            have := sl_4 (c := b) (w := w2)
            have hbc0 : brc c = 0 := by omega
            omega
        subst hw
        intro x hx
        rw [List.mem_singleton] at hx
        rw [hx]
        omega
    · unfold jwt
      rw [if_pos (by omega)]
      exact i2
