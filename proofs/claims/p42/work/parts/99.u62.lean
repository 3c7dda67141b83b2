/-! -/
/-! class and reference in a game: names, laws -/
/-- the class's number of a name of the reference's -/
def nmk (k : Int) : Int := if k = 0 then 9 else if k = 1 then 17 else if k = 2 then 4 else 15 + k
/-- the class's forest at F and the reference's at R are one -/
def relF (c r : sg_) (F R : Nat) : Prop := (r R 0 = c F 0 ∧ r R 1 = c F 1) ∧ (∀ p, 0 ≤ p ∧ p < 8 → r R (16 + 3 * p) = c (F + 2) p ∧ r R (16 + 3 * p + 1) = c (F + 3) p ∧ r R (16 + 3 * p + 2) = c (F + 1) p) ∧ (∀ w, 0 ≤ w ∧ w < 6 → r R (40 + 2 * w) = c (F + 4) w ∧ r R (40 + 2 * w + 1) = c (F + 5) w) ∧ (∀ w p, (0 ≤ w ∧ w < 6) → (0 ≤ p ∧ p < 8) → r R (52 + 2 * (8 * w + p) + 0) = c (F + 6) (p * 6 + w) ∧ (¬ c (F + 6) (p * 6 + w) = -1 → r R (52 + 2 * (8 * w + p) + 1) = c (F + 7) (p * 6 + w))) ∧ r R 8 = c F 10 ∧ r R 9 = c F 9 ∧ r R 10 = c F 11 ∧ r R 11 = c F 12
theorem flg_c {g k : Int → Int} : ∀ n : Nat, (∀ j : Int, 0 ≤ j → j < n → g j = k j) → flg g n = flg k n
  | 0, _ => rfl
  | n + 1, h => by
    show flg g n + (if g (n : Int) = -1 then 0 else 2 ^ n) = flg k n + (if k (n : Int) = -1 then 0 else 2 ^ n)
    rw [flg_c n (fun j a b => h j a (by omega)), h n (by omega) (by omega)]
theorem flg_eq {c r : sg_} {F : Nat} (H : relF c r F 139) (i1 : 0 ≤ c F 1 ∧ c F 1 ≤ 6) {p : Int} (hp : 0 ≤ p ∧ p < 8) : flg (fun j => r 139 (52 + 2 * (8 * j + p) + 0)) (r 139 1).toNat = flg (fun j => c (F + 6) (p * 6 + j)) (c F 1).toNat := by
  rw [H.1.2]
  exact flg_c _ (fun j a b => (H.2.2.2.1 j p (by omega) hp).1)
theorem nm_eq {c r : sg_} {F : Nat} (H : relF c r F 139) (i1 : 0 ≤ c F 1 ∧ c F 1 ≤ 6) {w p : Int} (hw : 0 ≤ w ∧ w < 6) (hp : 0 ≤ p ∧ p < 8) (hf : ¬ c (F + 6) (p * 6 + w) = -1) {k : Int} (hk : 0 ≤ k ∧ k < 10) : nmR r w p k = nmC c F p w (nmk k) := by
  have a := H.2.1 p hp
  have b := H.2.2.1 w hw
  have d := H.2.2.2.1 w p hw hp
  have e := flg_eq H i1 hp
  obtain ⟨h8, h9, h10, h11⟩ := H.2.2.2.2
  unfold nmR nmC nmk
  rcases ten hk with rfl | rfl | rfl | rfl | rfl | rfl | rfl | rfl | rfl | rfl
  · exact h8
  · exact h9
  · rfl
  · exact b.1
  · exact a.1
  · exact d.1
  · exact d.2 hf
  · exact congrArg bcn e
  · exact a.2.1
  · show (if r 139 10 = w then (1 : Int) else 0) = (if c F 11 = w then 1 else 0)
    rw [h10]
/-- a law's code in both says the same number -/
def sameV (L : List Int) (K : List (Int × Int)) : Prop := ∀ N M : Int → Int, (∀ k, 0 ≤ k ∧ k < 10 → M k = N (nmk k) ∧ B6 (M k)) → ((evC N L []).getD []).headD 0 = vaR M K
/-- a law's code in both says the same of an ASK -/
def sameT (L : List Int) (K : List (Int × Int)) : Prop := ∀ N M : Int → Int, (∀ k, 0 ≤ k ∧ k < 10 → M k = N (nmk k) ∧ B6 (M k)) → ((evC N L []).getD []).headD 0 = vtR M K
def oeq (P : List Int → List (Int × Int) → Prop) : Option (List Int) → Option (List (Int × Int)) → Prop
  | none, none => True
  | some L, some K => P L K
  | none, some _ => False
  | some _, none => False
/-- the laws of class and reference are one -/
def eqLaw (cd : cds) (cr : crs) : Prop := oeq sameV (cd 0) (cr 0) ∧ oeq sameV (cd 1) (cr 1) ∧ oeq sameT (cd 2) (cr 2)
theorem say_0 {cd : cds} {cr : crs} (E : eqLaw cd cr) {c r : sg_} {F : Nat} (H : relF c r F 139) (G : RG r) (i1 : 0 ≤ c F 1 ∧ c F 1 ≤ 6) {w p : Int} (hw : 0 ≤ w ∧ w < 6) (hp : 0 ≤ p ∧ p < 8) (hf : ¬ c (F + 6) (p * 6 + w) = -1) : clR cr r w p = sayC cd c F p w 0 := by
  have e := E.1
  unfold clR sayC
  obtain ⟨o1, h1⟩ : ∃ o, cd 0 = o := ⟨_, rfl⟩
  obtain ⟨o2, h2⟩ : ∃ o, cr 0 = o := ⟨_, rfl⟩
  rw [h1, h2] at e
  rw [h1, h2]
  cases o1 with
  | none =>
    cases o2 with
    | none => exact (H.2.2.1 w hw).1
    | some K => exact False.elim e
  | some L =>
    cases o2 with
    | none => exact False.elim e
    | some K =>
      have q := e (nmC c F p w) (nmR r w p) (fun k hk => ⟨nm_eq H i1 hw hp hf hk, RG_b G hw hp hk⟩)
      show max (-99) (min 99 (vaR (nmR r w p) K)) = max (-99) (min 99 (((evC (nmC c F p w) L []).getD []).headD 0))
      rw [q]
theorem say_1 {cd : cds} {cr : crs} (E : eqLaw cd cr) {c r : sg_} {F : Nat} (H : relF c r F 139) (G : RG r) (i1 : 0 ≤ c F 1 ∧ c F 1 ≤ 6) {w p : Int} (hw : 0 ≤ w ∧ w < 6) (hp : 0 ≤ p ∧ p < 8) (hf : ¬ c (F + 6) (p * 6 + w) = -1) : teR cr r w p = sayC cd c F p w 1 := by
  have e := E.2.1
  unfold teR sayC
  obtain ⟨o1, h1⟩ : ∃ o, cd 1 = o := ⟨_, rfl⟩
  obtain ⟨o2, h2⟩ : ∃ o, cr 1 = o := ⟨_, rfl⟩
  rw [h1, h2] at e
  rw [h1, h2]
  cases o1 with
  | none =>
    cases o2 with
    | none => exact H.2.2.2.2.2.1
    | some K => exact False.elim e
  | some L =>
    cases o2 with
    | none => exact False.elim e
    | some K =>
      have q := e (nmC c F p w) (nmR r w p) (fun k hk => ⟨nm_eq H i1 hw hp hf hk, RG_b G hw hp hk⟩)
      show max 0 (min 100 (vaR (nmR r w p) K)) = max 0 (min 100 (((evC (nmC c F p w) L []).getD []).headD 0))
      rw [q]
theorem say_2 {cd : cds} {cr : crs} (E : eqLaw cd cr) (A : askR (cr 2)) {c r : sg_} {F : Nat} (H : relF c r F 139) (G : RG r) (i1 : 0 ≤ c F 1 ∧ c F 1 ≤ 6) {w p : Int} (hw : 0 ≤ w ∧ w < 6) (hp : 0 ≤ p ∧ p < 8) (hf : ¬ c (F + 6) (p * 6 + w) = -1) : cnR r w p (cr 2) = sayC cd c F p w 2 := by
  have e := E.2.2
  unfold sayC
  obtain ⟨o1, h1⟩ : ∃ o, cd 2 = o := ⟨_, rfl⟩
  obtain ⟨o2, h2⟩ : ∃ o, cr 2 = o := ⟨_, rfl⟩
  rw [h1, h2] at e
  rw [h2] at A
  rw [h1, h2]
  cases o1 with
  | none =>
    cases o2 with
    | none =>
      show (if 0 < r 139 (52 + 2 * (8 * w + p) + 0) then (1 : Int) else 0) = (if 0 < c (F + 6) (p * 6 + w) then 1 else 0)
      rw [(H.2.2.2.1 w p hw hp).1]
    | some K => exact False.elim e
  | some L =>
    cases o2 with
    | none => exact False.elim e
    | some K =>
      have hN : ∀ k, 0 ≤ k ∧ k < 10 → B6 (nmR r w p k) := fun k hk => RG_b G hw hp hk
      have q := e (nmC c F p w) (nmR r w p) (fun k hk => ⟨nm_eq H i1 hw hp hf hk, hN k hk⟩)
      obtain ⟨z, ez, hz⟩ := A K rfl _ hN
      have vz : vtR (nmR r w p) K = z := by
        unfold vtR
        rw [ez]
        rfl
      show vtR (nmR r w p) K = max 0 (min 1 (((evC (nmC c F p w) L []).getD []).headD 0))
      rw [q, vz]
      omega
