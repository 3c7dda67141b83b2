/-! class and reference in a law: what waits here and there -/
def mo (c : Int) : Int := if c = 40 then 40 else if c = 91 then 41 else if c = 110 then 3 else if c = 33 then 20 else if c = 124 then 22 else if c = 38 then 21 else if c = 60 then 10 else if c = 108 then 11 else if c = 62 then 12 else if c = 103 then 13 else if c = 61 then 14 else if c = 35 then 15 else if c = 43 then 4 else if c = 45 then 5 else if c = 42 then 6 else if c = 47 then 7 else 0
theorem mo_16 {c : Int} (h : ck c = 0 → c = 40 ∨ c = 91) : c = 40 ∨ c = 91 ∨ c = 110 ∨ c = 33 ∨ c = 124 ∨ c = 38 ∨ c = 60 ∨ c = 108 ∨ c = 62 ∨ c = 103 ∨ c = 61 ∨ c = 35 ∨ c = 43 ∨ c = 45 ∨ c = 42 ∨ c = 47 := by
  by_cases hc : ck c = 0
  · rcases h hc with e | e <;> simp [e]
  · unfold ck at hc
    repeat' split at hc
    all_goals omega
theorem mo_f {c : Int} (h : ck c = 0 → c = 40 ∨ c = 91) : pr_rank (mo c) = ck c ∧ (0 ≤ mo c ∧ mo c ≤ 41) ∧ (40 ≤ mo c ↔ brc c = 1) ∧ pop_ (mo c) + brc c = opc c ∧ (mo c = 41 ↔ c = 91) ∧ ¬ mo c = 16 ∧ (brc c = 1 ↔ ck c = 0) ∧ (brc c = 0 ∨ brc c = 1) ∧ ¬ mo c = -1 := by
  rcases mo_16 h with e | e | e | e | e | e | e | e | e | e | e | e | e | e | e | e <;> (subst e; decide)
theorem stl_m {r : Int} : ∀ {w : List Int}, shp w → stl r (w.map mo) = (jwt r w).map mo
  | [], _ => rfl
  | c :: w, h => by
    have f := mo_f h.2.2.1
    have ih := stl_m (r := r) h.1
    show (if r ≤ pr_rank (mo c) then stl r (w.map mo) else mo c :: w.map mo) = List.map mo (if r ≤ ck c then jwt r w else c :: w)
    rw [f.1]
    split
    · exact ih
    · rfl
theorem stn_m {r : Int} (hr : 1 ≤ r) : ∀ {w : List Int}, shp w → stn r (w.map mo) = opn w - opn (jwt r w)
  | [], _ => rfl
  | c :: w, h => by
    have f := mo_f h.2.2.1
    have ih := stn_m hr h.1
    show (if r ≤ pr_rank (mo c) then stn r (w.map mo) + pop_ (mo c) else 0) = (opn w + opc c) - opn (if r ≤ ck c then jwt r w else c :: w)
    rw [f.1]
    split
    · rename_i hc
      have hb : brc c = 0 := by
        rcases f.2.2.2.2.2.2.2.1 with e | e
        · exact e
        · have := f.2.2.2.2.2.2.1.mp e
          omega
      have := f.2.2.2.1
      omega
    · show _ = (opn w + opc c) - (opn w + opc c)
      omega
theorem opw_m : ∀ {w : List Int}, shp w → (opw (w.map mo) = -1 ↔ brn w = 0)
  | [], _ => ⟨fun _ => rfl, fun _ => rfl⟩
  | c :: w, h => by
    have f := mo_f h.2.2.1
    have ih := opw_m h.1
    have hb := brn_0 w
    show (if 40 ≤ mo c then mo c else opw (w.map mo)) = -1 ↔ brn w + brc c = 0
    by_cases h4 : 40 ≤ mo c
    · rw [if_pos h4]
      have := f.2.2.1.mp h4
      constructor
      · intro e
        omega
      · intro e
        omega
    · rw [if_neg h4, ih]
      have : brc c = 0 := by
        rcases f.2.2.2.2.2.2.2.1 with e | e
        · exact e
        · exact absurd (f.2.2.1.mpr e) h4
      omega
theorem opw_41 : ∀ {w : List Int}, shp w → (opw (w.map mo) = 41 ↔ (jwt 5 w).head? = some 91)
  | [], _ => ⟨fun h => (by cases h), fun h => (by cases h)⟩
  | c :: w, h => by
    have f := mo_f h.2.2.1
    have ih := opw_41 h.1
    show (if 40 ≤ mo c then mo c else opw (w.map mo)) = 41 ↔ (if 5 ≤ ck c then jwt 5 w else c :: w).head? = some 91
    by_cases h4 : 40 ≤ mo c
    · have h5 := f.2.2.2.2.2.2.1.mp (f.2.2.1.mp h4)
      rw [if_pos h4, if_neg (by omega)]
      show mo c = 41 ↔ some c = some 91
      rw [f.2.2.2.2.1]
      exact ⟨fun e => by rw [e], fun e => by cases e; rfl⟩
    · rw [if_neg h4]
      have hb0 : brc c = 0 := by
        rcases f.2.2.2.2.2.2.2.1 with e | e
        · exact e
        · exact absurd (f.2.2.1.mpr e) h4
      have hc0 : ¬ ck c = 0 := fun e => h4 (f.2.2.1.mpr (f.2.2.2.2.2.2.1.mpr e))
      by_cases hb : 0 < brn w
      · have := h.2.2.2.1 hb
        rw [if_pos (by omega)]
        exact ih
      · have hbb := brn_0 w
        have h1 : opw (w.map mo) = -1 := (opw_m h.1).mpr (by omega)
        rw [h1]
        constructor
        · intro e
          cases e
        · intro e
          exfalso
          have hj := brn_jw (r := 5) (by decide) (c :: w)
          have e : (jwt 5 (c :: w)).head? = some 91 := e
          cases hq : jwt 5 (c :: w) with
          | nil => rw [hq] at e; cases e
          | cons x y =>
            rw [hq] at e hj
            cases e
            have hy := brn_0 y
            have hj : brn y + 1 = brn w + brc c := hj
            omega
def asr : List Int → Bool
  | [] => false
  | c :: w => if c = 91 then true else if c = 40 then asr w else if 4 < ck c then asr w else decide (ck c = 4)
theorem cmd_m : ∀ {w : List Int}, shp w → brn w = 0 → cmd (w.map mo) = asr w
  | [], _, _ => rfl
  | c :: w, h, hb => by
    have f := mo_f h.2.2.1
    have hw := brn_0 w
    have hb : brn w + brc c = 0 := hb
    have hc : brc c = 0 ∧ brn w = 0 := by omega
    have h1 : ¬ c = 91 := fun e => by rw [e] at hc; exact absurd hc.1 (by decide)
    have h2 : ¬ c = 40 := fun e => by rw [e] at hc; exact absurd hc.1 (by decide)
    show (if 4 < pr_rank (mo c) then cmd (w.map mo) else decide (pr_rank (mo c) = 4)) = (if c = 91 then true else if c = 40 then asr w else if 4 < ck c then asr w else decide (ck c = 4))
    rw [f.1, if_neg h1, if_neg h2, cmd_m h.1 hc.2]
theorem asr_jw {r : Int} (hr : 5 ≤ r) : ∀ {w : List Int}, asr (jwt r w) = asr w
  | [] => rfl
  | c :: w => by
    show asr (if r ≤ ck c then jwt r w else c :: w) = _
    by_cases hc : r ≤ ck c
    · rw [if_pos hc, asr_jw hr]
      have h1 : ¬ c = 91 := fun e => by
        rw [e] at hc
        have : ck 91 = 0 := by decide
        omega
      have h2 : ¬ c = 40 := fun e => by
        rw [e] at hc
        have : ck 40 = 0 := by decide
        omega
      show asr w = (if c = 91 then true else if c = 40 then asr w else if 4 < ck c then asr w else decide (ck c = 4))
      rw [if_neg h1, if_neg h2, if_pos (by omega)]
    · rw [if_neg hc]
theorem aha_m : ∀ {w : List Int}, shp w → (aha (w.map mo) ↔ 3 ≤ sl w)
  | [], _ => ⟨fun _ => by decide, fun _ => trivial⟩
  | c :: w, h => by
    have f := mo_f h.2.2.1
    show (1 ≤ pr_rank (mo c) ∧ pr_rank (mo c) ≤ 3) ↔ 3 ≤ sl (c :: w)
    rw [f.1, sl_e]
    have := ck_r c
    repeat' split
    all_goals omega
theorem jwt_2 {r s : Int} (h : r ≤ s) : ∀ w : List Int, jwt r (jwt s w) = jwt r w
  | [] => rfl
  | c :: w => by
    by_cases hs : s ≤ ck c
    · have e1 : jwt s (c :: w) = jwt s w := if_pos hs
      have e2 : jwt r (c :: w) = jwt r w := if_pos (by omega)
      rw [e1, e2]
      exact jwt_2 h w
    · have e1 : jwt s (c :: w) = c :: w := if_neg hs
      rw [e1]
/-- without a sign of an ASK -/
theorem jwt_45 : ∀ {w : List Int}, no4 w → jwt 4 w = jwt 5 w
  | [], _ => rfl
  | c :: w, h => by
    have h1 : ¬ ck c = 4 := h c List.mem_cons_self
    have ih := jwt_45 (w := w) (fun x hx => h x (List.mem_cons_of_mem _ hx))
    by_cases hc : 5 ≤ ck c
    · have e1 : jwt 4 (c :: w) = jwt 4 w := if_pos (by omega)
      have e2 : jwt 5 (c :: w) = jwt 5 w := if_pos hc
      rw [e1, e2, ih]
    · have e1 : jwt 4 (c :: w) = c :: w := if_neg (by omega)
      have e2 : jwt 5 (c :: w) = c :: w := if_neg hc
      rw [e1, e2]
/-- in brackets -/
theorem jwt_15 : ∀ {w : List Int}, shp w → 0 < brn w → jwt 1 w = jwt 5 w
  | [], _, h => absurd h (by decide)
  | c :: w, h, hb => by
    by_cases hc : ck c = 0
    · have e1 : jwt 1 (c :: w) = c :: w := if_neg (by omega)
      have e2 : jwt 5 (c :: w) = c :: w := if_neg (by omega)
      rw [e1, e2]
    · have hbc : brc c = 0 := by
        have f := mo_f h.2.2.1
        rcases f.2.2.2.2.2.2.2.1 with e | e
        · exact e
        · exact absurd (f.2.2.2.2.2.2.1.mp e) hc
      have hb : 0 < brn w + brc c := hb
      have h1 := h.2.2.2.1 (by omega)
      have hk := ck_r c
      have e1 : jwt 1 (c :: w) = jwt 1 w := if_pos (by omega)
      have e2 : jwt 5 (c :: w) = jwt 5 w := if_pos (by omega)
      rw [e1, e2]
      exact jwt_15 h.1 (by omega)
theorem iso_m : ∀ {w : List Int}, shp w → iso (w.map mo) = 0
  | [], _ => rfl
  | c :: w, h => if_neg (mo_f h.2.2.1).2.2.2.2.2.1
/-- a list's bracket lies at the ground -/
def o91 : List Int → Prop
  | [] => True
  | c :: w => o91 w ∧ (c = 91 → brn w = 0)
theorem o91_jw {r : Int} : ∀ {w : List Int}, o91 w → o91 (jwt r w)
  | [], _ => trivial
  | c :: w, h => by
    unfold jwt
    split
    · exact o91_jw h.1
    · exact h
theorem jwt_mem {r x : Int} : ∀ {w : List Int}, x ∈ jwt r w → x ∈ w
  | [], h => h
  | c :: w, h => by
    unfold jwt at h
    split at h
    · exact List.mem_cons_of_mem _ (jwt_mem h)
    · exact h
/-! tokens of signs -/
theorem tok_2 {B : Int → Int} {p k v q r : Int} (h : tok B p k v q r) (hk : k = 2) : v = 60 ∨ v = 62 ∨ v = 108 ∨ v = 103 ∨ v = 61 ∨ v = 35 ∨ v = 43 ∨ v = 45 ∨ v = 42 ∨ v = 47 ∨ v = 40 ∨ v = 41 ∨ v = 44 ∨ v = 59 := by
  obtain ⟨-, h | h | h | h⟩ := h
  · omega
  · omega
  · omega
  · obtain ⟨-, -, -, h1, h2, -⟩ := h
    rw [hk] at h1
    unfold tk_s at h1 h2
    repeat' split at h2
    all_goals (try rw [h2])
    all_goals first
      | (simp; done)
      | (rename_i a b; rcases b with e | e | e | e | e | e | e | e | e | e <;> (rw [e]; simp); done)
      | (rename_i a b; rcases a with e | e <;> (rw [e]; simp); done)
      | (exfalso; rename_i a b; rw [if_neg a, if_neg b] at h1; cases h1)
theorem tk_24 {k v t n : Int} {w : Nat} (T : tkr k v t n w) (hk : k = 0) : v ≤ 24 := by
  rcases T with h | h | h | h | h
  · omega
  · obtain ⟨-, -, l, -, hv, -⟩ := h
    have hr := wix_r (l := l) (Ks := tk_W) (n := 0) (by decide)
    have hlen : ((tk_W.length : Nat) : Int) = 25 := by decide
    by_cases h25 : v = 25
    · exfalso
      have := wix_1 (l := l) (Ks := tk_W) (n := 0) (j := 25) (by decide) (by rw [← hv, h25]; rfl)
      have h0 : tk_W[25]? = none := by decide
      rw [h0] at this
      cases this
    · omega
  · omega
  · omega
  · omega
/-- which sign a token is -/
theorem tk_gs {B : Int → Int} {p k v q r t n : Int} {w : Nat} (tk : tok B p k v q r) (T : tkr k v t n w) :
    (k = 2 ∧ ((v = 60 ∧ t = 60) ∨ (v = 62 ∧ t = 62) ∨ (v = 108 ∧ t = 4) ∨ (v = 103 ∧ t = 5) ∨ (v = 61 ∧ t = 61) ∨ (v = 35 ∧ t = 35) ∨ (v = 43 ∧ t = 43) ∨ (v = 45 ∧ t = 45) ∨ (v = 42 ∧ t = 42) ∨ (v = 47 ∧ t = 47) ∨ (v = 40 ∧ t = 40) ∨ (v = 41 ∧ t = 41) ∨ (v = 44 ∧ t = 44) ∨ (v = 59 ∧ t = 59))) ∨ (k = 0 ∧ t = 2 ∧ (v = 13 ∨ v = 14 ∨ v = 16)) ∨ (sh k v = -1 ∧ ¬ k = 2 ∧ ¬ (k = 0 ∧ (v = 13 ∨ v = 14 ∨ v = 16)) ∧ (t = 0 ∨ t = 1 ∨ t = 2 ∨ t = 3)) := by
  have h2 := tok_2 tk
  rcases T with ⟨e, et⟩ | ⟨e, et, -⟩ | ⟨e, et, -⟩ | ⟨e, et, -⟩ | ⟨e, et⟩
  · subst e; exact Or.inr (Or.inr ⟨rfl, by omega, by omega, by omega⟩)
  · subst e
    by_cases hv : v = 13 ∨ v = 14 ∨ v = 16
    · exact Or.inr (Or.inl ⟨rfl, et, hv⟩)
    · refine Or.inr (Or.inr ⟨?_, by omega, by omega, by omega⟩)
      unfold sh
      rw [if_neg (by omega), if_pos rfl, if_neg (by omega), if_neg (by omega), if_neg (by omega)]
  · subst e; exact Or.inr (Or.inr ⟨rfl, by omega, by omega, by omega⟩)
  · subst e
    refine Or.inl ⟨rfl, ?_⟩
    rcases h2 rfl with e | e | e | e | e | e | e | e | e | e | e | e | e | e <;> (subst e; rw [et]; decide)
  · subst e; exact Or.inr (Or.inr ⟨rfl, by omega, by omega, by omega⟩)
/-- what stands between two, by signs -/
def btg (g ei : Int) (u : List Int) : Int := if iso u = 0 ∧ (ck g = 5 ∨ ck g = 6) then mo g else if ¬ (ei = 1 ∧ opw u = -1) then -1 else if cmd u = false then (if ck g = 4 then mo g else -1) else if ck g = 1 ∨ ck g = 2 then mo g else -1
theorem btg_e {B : Int → Int} {p k v q r t n ei : Int} {w : Nat} {u : List Int} (tk : tok B p k v q r) (T : tkr k v t n w) : bto k v t ei u = btg (sh k v) ei u := by
  rcases tk_gs tk T with ⟨e, h⟩ | ⟨e, et, h⟩ | ⟨e, hk, hw, ht⟩
  · subst e
    have e2 : sh 2 v = v := rfl
    rw [e2]
    rcases h with ⟨e, et⟩ | ⟨e, et⟩ | ⟨e, et⟩ | ⟨e, et⟩ | ⟨e, et⟩ | ⟨e, et⟩ | ⟨e, et⟩ | ⟨e, et⟩ | ⟨e, et⟩ | ⟨e, et⟩ | ⟨e, et⟩ | ⟨e, et⟩ | ⟨e, et⟩ | ⟨e, et⟩ <;> (subst e; subst et; simp [bto, btg, cmo, ck, mo])
  · subst e; subst et
    rcases h with e | e | e <;> (subst e; simp [bto, btg, cmo, ck, mo, sh])
  · rw [e]
    have h1 : ¬ (k = 0 ∧ v = 14) := by omega
    have h2 : ¬ (k = 0 ∧ v = 13) := by omega
    rcases ht with e | e | e | e <;> (subst e; simp [bto, btg, cmo, ck, h1, h2])
