/-! class and reference in a law: the relation, and each step -/
def rV (st : Int) (w : List Int) : List Int := if st = 2 then jwt 7 w else w
def rU (st : Int) (w : List Int) : List Int := if st = 4 then 16 :: w.map mo else (rV st w).map mo
def RL (law st : Int) (w : List Int) (ls as_ : Int) (u : List Int) (op am wi ei : Int) : Prop := cI law st w ls as_ ∧ o91 w ∧ u = rU st w ∧ op = opn (rV st w) ∧ wi = (if st = 2 ∨ st = 4 then 1 else 0) ∧ ei = (if law = 2 then 1 else 0) ∧ (91 ∈ w → am = ls) ∧ (as_ = 1 ↔ asr w = true ∨ st = 4) ∧ (st = 0 ∨ (st = 1 ∧ ¬ (law = 2 ∧ brn w = 0 ∧ 3 ≤ sl w)) ∨ st = 2 ∨ (st = 4 ∧ brn w = 0))
section RLS
variable {law st : Int} {w : List Int} {ls as_ : Int} {u : List Int} {op am wi ei : Int}
theorem RL_b (R : RL law st w ls as_ u op am wi ei) : (u.length : Int) ≤ 30 ∧ (0 ≤ op ∧ op ≤ 8) ∧ (ei = 0 ∨ ei = 1) ∧ (wi = 0 ∨ wi = 1) := by
  obtain ⟨I, -, hu, ho, hw, he, -⟩ := R
  have h1 := shp_39 I.1 I.2.1
  have h2 := opn_0 w
  have h3 := opn_0 (jwt 7 w)
  have h4 := opn_jw (r := 7) w
  have h5 := jwt_len (r := 7) w
  have h6 := I.2.1
  refine ⟨?_, ?_, ?_, ?_⟩
  · subst hu
    unfold rU
    split
    · show ((w.map mo).length + 1 : Nat) ≤ (30 : Int)
      rw [List.length_map]
      omega
    · rw [List.length_map]
      unfold rV
      split <;> omega
  · subst ho
    unfold rV
    split <;> omega
  · subst he
    split
    · exact Or.inr rfl
    · exact Or.inl rfl
  · subst hw
    split
    · exact Or.inr rfl
    · exact Or.inl rfl
theorem RL_01 (R : RL law st w ls as_ u op am wi ei) (hs : st = 0 ∨ st = 1) : u = w.map mo ∧ op = opn w ∧ wi = 0 ∧ (as_ = 1 ↔ asr w = true) := by
  obtain ⟨I, -, hu, ho, hw, he, -, ha, -⟩ := R
  refine ⟨?_, ?_, ?_, ?_⟩
  · rw [hu]
    unfold rU rV
    rw [if_neg (by omega), if_neg (by omega)]
  · rw [ho]
    unfold rV
    rw [if_neg (by omega)]
  · rw [hw, if_neg (by omega)]
  · rw [ha]
    exact ⟨fun x => x.elim id (fun y => absurd y (by omega)), Or.inl⟩
theorem RL_ah (R : RL law st w ls as_ u op am wi ei) (hs : st = 0 ∨ st = 1) : ((ei = 1 ∧ opw u = -1) ∧ aha u) ↔ st = 0 := by
  have h1 := RL_01 R hs
  obtain ⟨I, -, hu, ho, hw, he, -, ha, h9⟩ := R
  rw [h1.1, opw_m I.1, aha_m I.1]
  constructor
  · intro ⟨⟨a, b⟩, c⟩
    rcases h9 with h | h | h | h
    · exact h
    · refine absurd ⟨?_, b, c⟩ h.2
      by_cases hl : law = 2
      · exact hl
      · rw [if_neg hl] at he
        omega
    · omega
    · omega
  · intro h
    have := I.2.2.2.2.2.2 h
    refine ⟨⟨?_, this.2.1⟩, this.2.2⟩
    rw [he, if_pos this.1]
theorem asr_sl : ∀ {w : List Int}, 3 ≤ sl w → asr w = false
  | [], _ => rfl
  | c :: w, h => by
    rw [sl_e] at h
    have hc := ck_r c
    have h1 : 1 ≤ ck c ∧ ck c ≤ 3 := by
      repeat' split at h
      all_goals omega
    have h2 : ¬ c = 91 := fun e => by
      rw [e] at h1
      exact absurd h1 (by decide)
    have h3 : ¬ c = 40 := fun e => by
      rw [e] at h1
      exact absurd h1 (by decide)
    show (if c = 91 then true else if c = 40 then asr w else if 4 < ck c then asr w else decide (ck c = 4)) = false
    rw [if_neg h2, if_neg h3, if_neg (by omega)]
    exact decide_eq_false (by omega)
/-- a ONE -/
theorem RL_2 (R : RL law st w ls as_ u op am wi ei) (hs : st = 0 ∨ st = 1) (I2 : cI law 2 w ls as_) : RL law 2 w ls as_ (stl 7 u) (op - stn 7 u) am 1 ei := by
  have h1 := RL_01 R hs
  obtain ⟨I, o, hu, ho, hw, he, hm, ha, h9⟩ := R
  refine ⟨I2, o, ?_, ?_, rfl, he, hm, ?_, Or.inr (Or.inr (Or.inl rfl))⟩
  · rw [h1.1, stl_m I.1]
    rfl
  · rw [h1.1, h1.2.1, stn_m (by decide) I.1]
    show opn w - (opn w - opn (jwt 7 w)) = opn (jwt 7 w)
    omega
  · rw [h1.2.2.2]
    exact ⟨Or.inl, fun x => x.elim id (fun y => absurd y (by decide))⟩
/-- what opens -/
theorem RL_o {c : Int} (R : RL law st w ls as_ u op am wi ei) (hs : st = 0 ∨ st = 1) (hc : c = 40 ∨ c = 110) (I2 : cI law 1 (c :: w) ls as_) : RL law 1 (c :: w) ls as_ (mo c :: u) (op + 1) am wi ei := by
  have h1 := RL_01 R hs
  obtain ⟨I, o, hu, ho, hw, he, hm, ha, h9⟩ := R
  have hb := brn_0 w
  refine ⟨I2, ⟨o, fun x => by omega⟩, ?_, ?_, h1.2.2.1, he, ?_, ?_, Or.inr (Or.inl ⟨rfl, ?_⟩)⟩
  · rw [h1.1]
    rfl
  · rw [h1.2.1]
    show opn w + 1 = opn w + opc c
    rcases hc with e | e <;> (rw [e]; rfl)
  · intro x
    rcases List.mem_cons.mp x with e | e
    · omega
    · exact hm e
  · rw [h1.2.2.2]
    have e : asr (c :: w) = asr w := by rcases hc with e | e <;> (rw [e]; rfl)
    rw [e]
    exact ⟨Or.inl, fun x => x.elim id (fun y => absurd y (by decide))⟩
  · rintro ⟨-, x, y⟩
    rcases hc with e | e
    · rw [e] at x
      have x : brn w + 1 = 0 := x
      omega
    · rw [e] at y
      exact absurd y (by show ¬ 3 ≤ (0 : Int); decide)
theorem RL_n (R : RL law st w ls as_ u op am wi ei) (hs : st = 0) (I2 : cI law 0 (33 :: w) ls as_) : RL law 0 (33 :: w) ls as_ (20 :: u) (op + 1) am wi ei := by
  have h1 := RL_01 R (Or.inl hs)
  obtain ⟨I, o, hu, ho, hw, he, hm, ha, h9⟩ := R
  have h2 := asr_sl (I.2.2.2.2.2.2 hs).2.2
  refine ⟨I2, ⟨o, fun x => absurd x (by decide)⟩, ?_, ?_, h1.2.2.1, he, ?_, ?_, Or.inl rfl⟩
  · rw [h1.1]
    rfl
  · rw [h1.2.1]
    rfl
  · intro x
    rcases List.mem_cons.mp x with e | e
    · exact absurd e (by decide)
    · exact hm e
  · rw [h1.2.2.2, h2]
    exact ⟨fun x => (by cases x), fun x => x.elim (fun y => (by cases y)) (fun y => absurd y (by decide))⟩
/-- behind a ONE -/
theorem RL_24 (R : RL law st w ls as_ u op am wi ei) (hs : st = 2 ∨ st = 4) : wi = 1 ∧ (∀ r, 1 ≤ r → r ≤ 4 ∨ st = 2 → r ≤ 7 → stl r u = (jwt r w).map mo ∧ op - stn r u = opn (jwt r w)) ∧ (opw u = -1 ↔ brn w = 0) ∧ (opw u = 41 ↔ (jwt 5 w).head? = some 91) ∧ (brn w = 0 → (cmd u = true ↔ as_ = 1)) ∧ (iso u = 0 ↔ st = 2) := by
  obtain ⟨I, o, hu, ho, hw, he, hm, ha, h9⟩ := R
  rw [if_pos hs] at hw
  rcases hs with e | e
  · subst e
    have eu : u = (jwt 7 w).map mo := hu
    have eo : op = opn (jwt 7 w) := ho
    have hs7 : shp (jwt 7 w) := shp_jw I.1
    have hb7 : brn (jwt 7 w) = brn w := brn_jw (by decide) w
    refine ⟨hw, fun r hr _ h7 => ⟨?_, ?_⟩, ?_, ?_, fun hb => ?_, ?_⟩
    · rw [eu, stl_m hs7, jwt_2 h7]
    · rw [eu, eo, stn_m hr hs7, jwt_2 h7]
      omega
    · rw [eu, opw_m hs7, hb7]
    · rw [eu, opw_41 hs7, jwt_2 (by decide)]
    · rw [eu, cmd_m hs7 (by omega), asr_jw (by decide), ha]
      exact ⟨Or.inl, fun x => x.elim id (fun y => absurd y (by decide))⟩
    · rw [eu, iso_m hs7]
      exact ⟨fun _ => rfl, fun _ => rfl⟩
  · subst e
    have eu : u = 16 :: w.map mo := hu
    have eo : op = opn w := ho
    have hb0 : brn w = 0 := by
      rcases h9 with h | h | h | h
      · omega
      · omega
      · omega
      · exact h.2
    have hsl : ∀ r, r ≤ 4 → stl r u = stl r (w.map mo) ∧ stn r u = stn r (w.map mo) := fun r hr => by
      rw [eu]
      have e4 : pr_rank 16 = 4 := by decide
      have e5 : pop_ 16 = 0 := by decide
      constructor
      · show (if r ≤ pr_rank 16 then stl r (w.map mo) else 16 :: w.map mo) = _
        rw [e4, if_pos hr]
      · show (if r ≤ pr_rank 16 then stn r (w.map mo) + pop_ 16 else 0) = _
        rw [e4, if_pos hr, e5]
        omega
    refine ⟨hw, fun r hr h4 h7 => ?_, ?_, ?_, fun hb => ?_, ?_⟩
    · have h4 : r ≤ 4 := by omega
      refine ⟨?_, ?_⟩
      · rw [(hsl r h4).1, stl_m I.1]
      · rw [(hsl r h4).2, eo, stn_m hr I.1]
        omega
    · rw [eu]
      show opw (w.map mo) = -1 ↔ _
      exact opw_m I.1
    · rw [eu]
      show opw (w.map mo) = 41 ↔ _
      exact opw_41 I.1
    · rw [eu, ha]
      exact ⟨fun _ => Or.inr rfl, fun _ => (by show (if 4 < pr_rank 16 then cmd (w.map mo) else decide (pr_rank 16 = 4)) = true; rw [show pr_rank 16 = 4 from by decide]; rfl)⟩
    · rw [eu]
      exact ⟨fun x => absurd x (by show ¬ (if (16 : Int) = 16 then (1 : Int) else 0) = 0; decide), fun x => absurd x (by decide)⟩
theorem RL_s {g r : Int} {st2 as2 : Int} (R : RL law st w ls as_ u op am wi ei) (hs : st = 2 ∨ st = 4) (hr : 1 ≤ r) (h4 : r ≤ 4 ∨ st = 2) (h7 : r ≤ 7) {w2 : List Int} (hw2 : w2 = jwt r w) (hg : ck g = 1 ∨ ck g = 2 ∨ ck g = 4 ∨ ck g = 5 ∨ ck g = 6) (I2 : cI law st2 (g :: w2) ls as2) (h2 : (st2 = 0 ∧ ck g ≤ 2) ∨ (st2 = 1 ∧ 4 ≤ ck g)) (ha2 : as2 = 1 ↔ asr (g :: w2) = true) : RL law st2 (g :: w2) ls as2 (mo g :: stl r u) (op - stn r u) am 0 ei := by
  have h1 := RL_24 R hs
  obtain ⟨I, o, hu, ho, hw, he, hm, ha, h9⟩ := R
  obtain ⟨k1, k2⟩ := h1.2.1 r hr h4 h7
  have hk := ck_op hg
  have hg1 : ¬ g = 91 := fun e => by rw [e] at hg; exact absurd hg (by decide)
  subst hw2
  have n2 : ¬ st2 = 2 := by omega
  have n4 : ¬ st2 = 4 := by omega
  refine ⟨I2, ⟨o91_jw o, fun e => absurd e hg1⟩, ?_, ?_, ?_, he, ?_, ?_, ?_⟩
  · rw [k1]
    unfold rU rV
    rw [if_neg n4, if_neg n2]
    rfl
  · rw [k2]
    unfold rV
    rw [if_neg n2]
    show opn (jwt r w) = opn (jwt r w) + opc g
    omega
  · rw [if_neg (by omega)]
  · intro x
    rcases List.mem_cons.mp x with e | e
    · exact absurd e.symm hg1
    · exact hm (jwt_mem e)
  · rw [ha2]
    exact ⟨Or.inl, fun x => x.elim id (fun y => absurd y n4)⟩
  · rcases h2 with ⟨e, -⟩ | ⟨e, e4⟩
    · exact Or.inl e
    · refine Or.inr (Or.inl ⟨e, ?_⟩)
      rintro ⟨-, -, x⟩
      rw [sl_e] at x
      repeat' split at x
      all_goals omega
/-- a list opens -/
theorem RL_l (R : RL law st w ls as_ u op am wi ei) (hs : st = 2) (hb : brn w = 0) (I2 : cI law 1 (91 :: jwt 5 w) 1 1) : RL law 1 (91 :: jwt 5 w) 1 1 (41 :: stl 5 u) (op - stn 5 u + 1) 1 0 ei := by
  have h1 := RL_24 R (Or.inl hs)
  obtain ⟨I, o, hu, ho, hw, he, hm, ha, h9⟩ := R
  obtain ⟨k1, k2⟩ := h1.2.1 5 (by decide) (Or.inr hs) (by decide)
  have hb5 := brn_jw (r := 5) (by decide) w
  refine ⟨I2, ⟨o91_jw o, fun _ => by omega⟩, ?_, ?_, rfl, he, fun _ => rfl, ⟨fun _ => Or.inl rfl, fun _ => rfl⟩, Or.inr (Or.inl ⟨rfl, ?_⟩)⟩
  · rw [k1]
    rfl
  · rw [k2]
    rfl
  · rintro ⟨-, x, -⟩
    have x : brn (jwt 5 w) + 1 = 0 := x
    have := brn_0 (jwt 5 w)
    omega
/-- a list goes on -/
theorem RL_c (R : RL law st w ls as_ u op am wi ei) (hs : st = 2) (hb : 0 < brn w) (h91 : (jwt 5 w).head? = some 91) (I2 : cI law 1 (jwt 5 w) (ls + 1) as_) : am = ls ∧ RL law 1 (jwt 5 w) (ls + 1) as_ (stl 1 u) (op - stn 1 u) (am + 1) 0 ei := by
  have h1 := RL_24 R (Or.inl hs)
  obtain ⟨I, o, hu, ho, hw, he, hm, ha, h9⟩ := R
  obtain ⟨k1, k2⟩ := h1.2.1 1 (by decide) (Or.inr hs) (by decide)
  have hj := jwt_15 I.1 hb
  have hb5 := brn_jw (r := 5) (by decide) w
  have hm1 : 91 ∈ w := by
    cases hq : jwt 5 w with
    | nil => rw [hq] at h91; cases h91
    | cons x y =>
      rw [hq] at h91
      cases h91
      exact jwt_mem (r := 5) (by rw [hq]; exact List.mem_cons_self)
  have hme := hm hm1
  refine ⟨hme, I2, o91_jw o, ?_, ?_, rfl, he, fun _ => by omega, ?_, Or.inr (Or.inl ⟨rfl, ?_⟩)⟩
  · rw [k1, hj]
    rfl
  · rw [k2, hj]
    rfl
  · rw [ha, asr_jw (by decide), hs]
    exact ⟨fun x => x.elim Or.inl (fun y => absurd y (by decide)), fun x => x.elim Or.inl (fun y => absurd y (by decide))⟩
  · rintro ⟨-, x, -⟩
    omega
/-- a bracket is shut -/
theorem RL_x (R : RL law st w ls as_ u op am wi ei) (hs : st = 2) (hb : 0 < brn w) {c : Int} {w1 : List Int} (hj : jwt 5 w = c :: w1) {u2 : List Int} (hu2 : stl 1 u = opw u :: u2) (I2 : cI law (if c = 91 then 4 else 2) w1 ls as_) : (opw u = 41 ↔ c = 91) ∧ (c = 91 → RL law 4 w1 ls as_ (16 :: u2) (op - stn 1 u - 1) am 1 ei) ∧ (¬ c = 91 → RL law 2 w1 ls as_ (stl 7 u2) (op - stn 1 u - 1 - stn 7 u2) am 1 ei) := by
  have h1 := RL_24 R (Or.inl hs)
  obtain ⟨I, o, hu, ho, hw, he, hm, ha, h9⟩ := R
  obtain ⟨k1, k2⟩ := h1.2.1 1 (by decide) (Or.inr hs) (by decide)
  have hj1 := jwt_15 I.1 hb
  have hsc : shp (c :: w1) := by rw [← hj]; exact shp_jw I.1
  have hcc : c = 40 ∨ c = 91 := by
    obtain ⟨c2, w2, e, hc⟩ := shp_cok I.1 hb
    rw [hj] at e
    cases e
    exact hc
  rw [hj1, hj] at k1 k2
  rw [k1] at hu2
  have e1 : mo c = opw u ∧ w1.map mo = u2 := by
    have hu2 : mo c :: w1.map mo = opw u :: u2 := hu2
    exact List.cons.inj hu2
  have hoc : opc c = 1 := by rcases hcc with e | e <;> (rw [e]; rfl)
  have k2 : op - stn 1 u = opn w1 + opc c := k2
  have ho1 : o91 (c :: w1) := by rw [← hj]; exact o91_jw o
  have hmm : 91 ∈ w1 → am = ls := fun x => hm (jwt_mem (r := 5) (by rw [hj]; exact List.mem_cons_of_mem _ x))
  have hasr : as_ = 1 ↔ asr (c :: w1) = true := by
    rw [← hj, asr_jw (by decide), ha, hs]
    exact ⟨fun x => x.elim id (fun y => absurd y (by decide)), Or.inl⟩
  refine ⟨?_, fun e => ?_, fun e => ?_⟩
  · rw [← e1.1]
    rcases hcc with e | e <;> (rw [e]; decide)
  · rw [if_pos e] at I2
    refine ⟨I2, ho1.1, ?_, ?_, rfl, he, hmm, ⟨fun _ => Or.inr rfl, fun _ => ?_⟩, Or.inr (Or.inr (Or.inr ⟨rfl, ho1.2 e⟩))⟩
    · rw [← e1.2]
      rfl
    · rw [k2]
      show opn w1 + opc c - 1 = opn w1
      omega
    · rw [hasr, e]
      rfl
  · rw [if_neg e] at I2
    have e40 : c = 40 := by omega
    refine ⟨I2, ho1.1, ?_, ?_, rfl, he, hmm, ?_, Or.inr (Or.inr (Or.inl rfl))⟩
    · rw [← e1.2, stl_m hsc.1]
      rfl
    · rw [← e1.2, stn_m (by decide) hsc.1, k2]
      show opn w1 + opc c - 1 - (opn w1 - opn (jwt 7 w1)) = opn (jwt 7 w1)
      omega
    · rw [hasr, e40]
      show asr w1 = true ↔ _
      exact ⟨Or.inl, fun x => x.elim id (fun y => absurd y (by decide))⟩
end RLS
