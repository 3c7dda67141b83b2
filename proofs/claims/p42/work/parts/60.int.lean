/-! the checker's arithmetic, sound -/
theorem sx_mul1 {a b t k : Int} (h1 : a ≤ t) (h2 : t ≤ b) : min (a * k) (b * k) ≤ t * k ∧ t * k ≤ max (a * k) (b * k) := by
  rcases Int.le_total 0 k with h | h
  · have e1 := Int.mul_le_mul_of_nonneg_right h1 h
    have e2 := Int.mul_le_mul_of_nonneg_right h2 h
    omega
  · have e1 := Int.mul_le_mul_of_nonpos_right h1 h
    have e2 := Int.mul_le_mul_of_nonpos_right h2 h
    omega
theorem sx_mul4 {a b c d x y : Int} (h1 : a ≤ x) (h2 : x ≤ b) (h3 : c ≤ y) (h4 : y ≤ d) : sx_min4 (a * c) (a * d) (b * c) (b * d) ≤ x * y ∧ x * y ≤ sx_max4 (a * c) (a * d) (b * c) (b * d) := by
  have e1 := sx_mul1 (k := y) h1 h2
  have e2 := sx_mul1 (k := a) h3 h4
  have e3 := sx_mul1 (k := b) h3 h4
  rw [Int.mul_comm c a, Int.mul_comm d a, Int.mul_comm y a] at e2
  rw [Int.mul_comm c b, Int.mul_comm d b, Int.mul_comm y b] at e3
  unfold sx_min4 sx_max4
  omega
theorem sx_mul_ok {E : sx_E} {r : Nat → Int} (h : sx_in E r) {x y : sx_X} {q : sx_X ⊕ (Int × Int)} (hq : sx_mul E x y = some q) : (∀ z, q = .inl z → sx_ev r z = sx_ev r x * sx_ev r y) ∧ ∀ a b, q = .inr (a, b) → a ≤ sx_ev r x * sx_ev r y ∧ sx_ev r x * sx_ev r y ≤ b := by
  unfold sx_mul at hq
  split at hq
  · rename_i c y
    cases hq
    refine ⟨fun z hz => ?_, fun a b hz => by cases hz⟩
    cases hz
    rw [sx_mulc_ev]
    congr 1
    simp [sx_ev, sx_sum]
  · rename_i x c _
    cases hq
    refine ⟨fun z hz => ?_, fun a b hz => by cases hz⟩
    cases hz
    rw [sx_mulc_ev, Int.mul_comm]
    congr 1
    simp [sx_ev, sx_sum]
  · split at hq
    · rename_i a b c d h1 h2
      cases hq
      refine ⟨(fun z hz => by cases hz), fun a b hz => ?_⟩
      cases hz
      exact sx_mul4 (sx_b_ok h h1).1 (sx_b_ok h h1).2 (sx_b_ok h h2).1 (sx_b_ok h h2).2
    · cases hq
def sx_Q (P : sx_P) (r : Nat → Int) (g : Nat → Nat) (nr n : Nat) (mods : List Nat) (m pc : Nat) (i : Instr) (lv : mj_L) (st : List Value) (h : mj_H) (L : List sx_S) : Prop := ∃ pc' lv' st' h', mj_st m pc i lv st h = some (pc', lv', st', h') ∧ sx_to P r g nr n mods h L pc' lv' st' h'
section SXI
variable {P : sx_P} {r : Nat → Int} {g : Nat → Nat} {lv : mj_L} {st : List Value} {h : mj_H} {ls : List (Option sx_A)} {ss S0 : List sx_A} {E : sx_E} {nr p0 : Nat} {C : sx_C} {mods : List Nat} {m pc : Nat} {L : List sx_S}
theorem sx_sr1 {a : sx_A} {s2 : List sx_A} (hs : sx_sr r g P.2.2.1 (a :: s2) st) : ∃ v t2, st = v :: t2 ∧ sx_vr r g P.2.2.1 a v ∧ sx_sr r g P.2.2.1 s2 t2 := by
  cases st with
  | nil => exact hs.elim
  | cons v t2 => exact ⟨v, t2, rfl, hs.1, hs.2⟩
theorem sx_ii_q {i : Instr} {op : Int32 → Int32 → Int32} {f : List sx_A → sx_X → sx_X → Option (List sx_S)} (hi : ∀ lv st h, mj_st m pc i lv st h = mj_ii pc lv st h op) (hp : sx_ii (pc, ls, ss, E, nr, C) f = some L) (hs : sx_sr r g P.2.2.1 ss st) (hf : ∀ (x y : sx_X) (s2 : List sx_A) (a b : Int32) (t2 : List Value), sx_sr r g P.2.2.1 s2 t2 → a.toInt = sx_ev r x → b.toInt = sx_ev r y → f s2 x y = some L → sx_to P r g nr E.length mods h L (pc + 1) lv (.int (op a b) :: t2) h) : sx_Q P r g nr E.length mods m pc i lv st h L := by
  unfold sx_ii at hp
  split at hp
  · rename_i heq
    cases heq
    obtain ⟨v1, t1, rfl, ⟨b, rfl, hb⟩, hs1⟩ := sx_sr1 hs
    obtain ⟨v2, t2, rfl, ⟨a, rfl, ha⟩, hs2⟩ := sx_sr1 hs1
    exact ⟨_, _, _, _, by rw [hi]; rfl, hf _ _ _ a b t2 hs2 ha hb hp⟩
  · cases hp
theorem sx_LL_q {i : Instr} {op : Int64 → Int64 → Value} {f : List sx_A → sx_X → sx_X → Option (List sx_S)} (hp : sx_LL (pc, ls, ss, E, nr, C) f = some L) (hs : sx_sr r g P.2.2.1 ss st) (hf : ∀ (x y : sx_X) (s2 : List sx_A) (a b : Int64) (t2 : List Value), sx_sr r g P.2.2.1 s2 t2 → a.toInt = sx_ev r x → b.toInt = sx_ev r y → f s2 x y = some L → mj_st m pc i lv (.long b :: .long a :: t2) h = some (pc + 1, lv, op a b :: t2, h) ∧ sx_to P r g nr E.length mods h L (pc + 1) lv (op a b :: t2) h) : sx_Q P r g nr E.length mods m pc i lv st h L := by
  unfold sx_LL at hp
  split at hp
  · rename_i heq
    cases heq
    obtain ⟨v1, t1, rfl, ⟨b, rfl, hb⟩, hs1⟩ := sx_sr1 hs
    obtain ⟨v2, t2, rfl, ⟨a, rfl, ha⟩, hs2⟩ := sx_sr1 hs1
    have := hf _ _ _ a b t2 hs2 ha hb hp
    exact ⟨_, _, _, _, this.1, this.2⟩
  · cases hp
theorem sx_q_iadd (hl : sx_lr r g P.2.2.1 ls lv) (hs : sx_sr r g P.2.2.1 ss st) (hE : sx_in E r) (hC : sx_cr r g P.2.2.1 C h) (hH : sx_H P.1 P.2.1 P.2.2.1 h) (hp : sx_i P m .iadd (pc, ls, ss, E, nr, C) = some L) : sx_Q P r g nr E.length mods m pc .iadd lv st h L := by
  simp only [sx_i] at hp
  exact sx_ii_q (fun _ _ _ => rfl) hp hs (fun x y s2 a b t2 hs2 ha hb hp => sx_px_ok rfl hp hl hs2 hE hC hH (fun q => by rw [sx_add_ev, ← ha, ← hb] at q ⊢; exact sx_iadd q))
theorem sx_q_isub (hl : sx_lr r g P.2.2.1 ls lv) (hs : sx_sr r g P.2.2.1 ss st) (hE : sx_in E r) (hC : sx_cr r g P.2.2.1 C h) (hH : sx_H P.1 P.2.1 P.2.2.1 h) (hp : sx_i P m .isub (pc, ls, ss, E, nr, C) = some L) : sx_Q P r g nr E.length mods m pc .isub lv st h L := by
  simp only [sx_i] at hp
  exact sx_ii_q (fun _ _ _ => rfl) hp hs (fun x y s2 a b t2 hs2 ha hb hp => sx_px_ok rfl hp hl hs2 hE hC hH (fun q => by rw [sx_sub_ev, ← ha, ← hb] at q ⊢; exact sx_isub q))
theorem sx_any (hl : sx_lr r g P.2.2.1 ls lv) (hs : sx_sr r g P.2.2.1 ss st) (hE : sx_in E r) (hC : sx_cr r g P.2.2.1 C h) (hH : sx_H P.1 P.2.1 P.2.2.1 h) {q : Int32} {s2 : List sx_A} {t2 : List Value} {p : Nat} (hs2 : sx_sr r g P.2.2.1 s2 t2) (hp : sx_pi (pc, ls, ss, E, nr, C) 0 p s2 sx_mn sx_mx = some L) : sx_to P r g nr E.length mods h L p lv (.int q :: t2) h := by
  clear hs
  exact sx_pi_ok rfl hp hl hs2 hE hC hH (sx_r32 q) (Or.inl ⟨rfl, q, rfl, rfl⟩)
theorem sx_rng (hl : sx_lr r g P.2.2.1 ls lv) (hs : sx_sr r g P.2.2.1 ss st) (hE : sx_in E r) (hC : sx_cr r g P.2.2.1 C h) (hH : sx_H P.1 P.2.1 P.2.2.1 h) {q : Int32} {s2 : List sx_A} {t2 : List Value} {p : Nat} {lo hi : Int} (hs2 : sx_sr r g P.2.2.1 s2 t2) (hp : sx_pi (pc, ls, ss, E, nr, C) 0 p s2 lo hi = some L) (hq : lo ≤ q.toInt ∧ q.toInt ≤ hi) : sx_to P r g nr E.length mods h L p lv (.int q :: t2) h := by
  clear hs
  exact sx_pi_ok rfl hp hl hs2 hE hC hH hq (Or.inl ⟨rfl, q, rfl, rfl⟩)
theorem sx_any64 (hl : sx_lr r g P.2.2.1 ls lv) (hs : sx_sr r g P.2.2.1 ss st) (hE : sx_in E r) (hC : sx_cr r g P.2.2.1 C h) (hH : sx_H P.1 P.2.1 P.2.2.1 h) {q : Int64} {s2 : List sx_A} {t2 : List Value} {p : Nat} (hs2 : sx_sr r g P.2.2.1 s2 t2) (hp : sx_pi (pc, ls, ss, E, nr, C) 1 p s2 sx_Mn sx_Mx = some L) : sx_to P r g nr E.length mods h L p lv (.long q :: t2) h := by
  clear hs
  exact sx_pi_ok rfl hp hl hs2 hE hC hH (sx_r64 q) (Or.inr ⟨rfl, q, rfl, rfl⟩)
theorem sx_rng64 (hl : sx_lr r g P.2.2.1 ls lv) (hs : sx_sr r g P.2.2.1 ss st) (hE : sx_in E r) (hC : sx_cr r g P.2.2.1 C h) (hH : sx_H P.1 P.2.1 P.2.2.1 h) {q : Int64} {s2 : List sx_A} {t2 : List Value} {p : Nat} {lo hi : Int} (hs2 : sx_sr r g P.2.2.1 s2 t2) (hp : sx_pi (pc, ls, ss, E, nr, C) 1 p s2 lo hi = some L) (hq : lo ≤ q.toInt ∧ q.toInt ≤ hi) : sx_to P r g nr E.length mods h L p lv (.long q :: t2) h := by
  clear hs
  exact sx_pi_ok rfl hp hl hs2 hE hC hH hq (Or.inr ⟨rfl, q, rfl, rfl⟩)
theorem sx_q_imul (hl : sx_lr r g P.2.2.1 ls lv) (hs : sx_sr r g P.2.2.1 ss st) (hE : sx_in E r) (hC : sx_cr r g P.2.2.1 C h) (hH : sx_H P.1 P.2.1 P.2.2.1 h) (hp : sx_i P m .imul (pc, ls, ss, E, nr, C) = some L) : sx_Q P r g nr E.length mods m pc .imul lv st h L := by
  simp only [sx_i] at hp
  refine sx_ii_q (fun _ _ _ => rfl) hp hs (fun x y s2 a b t2 hs2 ha hb hp => ?_)
  split at hp
  · rename_i z hz
    have e := (sx_mul_ok hE hz).1 z rfl
    exact sx_px_ok rfl hp hl hs2 hE hC hH (fun q => by rw [e, ← ha, ← hb] at q ⊢; exact sx_imul q)
  · rename_i lo hi hz
    have e := (sx_mul_ok hE hz).2 lo hi rfl
    rw [← ha, ← hb] at e
    split at hp
    · rename_i hc
      exact sx_rng hl hs hE hC hH hs2 hp (by rw [sx_imul ⟨by omega, by omega⟩]; exact e)
    · exact sx_any hl hs hE hC hH hs2 hp
  · cases hp
theorem sx_q_iand (hl : sx_lr r g P.2.2.1 ls lv) (hs : sx_sr r g P.2.2.1 ss st) (hE : sx_in E r) (hC : sx_cr r g P.2.2.1 C h) (hH : sx_H P.1 P.2.1 P.2.2.1 h) (hp : sx_i P m .iand (pc, ls, ss, E, nr, C) = some L) : sx_Q P r g nr E.length mods m pc .iand lv st h L := by
  simp only [sx_i] at hp
  refine sx_ii_q (fun _ _ _ => rfl) hp hs (fun x y s2 a b t2 hs2 ha hb hp => ?_)
  split at hp
  · rename_i x1 x2 y1 y2 hx hy
    have bx := sx_b_ok hE hx
    have bz := sx_b_ok hE hy
    split at hp
    · have f1 := sx_iand (x := a) (y := b) (by omega)
      have f2 := f1.2.2 (by omega)
      exact sx_rng hl hs hE hC hH hs2 hp (by omega)
    · split at hp
      · have f1 := sx_iand (x := a) (y := b) (by omega)
        exact sx_rng hl hs hE hC hH hs2 hp (by omega)
      · split at hp
        · have f1 := sx_iand2 (x := a) (y := b) (by omega)
          exact sx_rng hl hs hE hC hH hs2 hp (by omega)
        · exact sx_any hl hs hE hC hH hs2 hp
  · cases hp
theorem sx_q_ior (hl : sx_lr r g P.2.2.1 ls lv) (hs : sx_sr r g P.2.2.1 ss st) (hE : sx_in E r) (hC : sx_cr r g P.2.2.1 C h) (hH : sx_H P.1 P.2.1 P.2.2.1 h) (hp : sx_i P m .ior (pc, ls, ss, E, nr, C) = some L) : sx_Q P r g nr E.length mods m pc .ior lv st h L := by
  simp only [sx_i] at hp
  refine sx_ii_q (fun _ _ _ => rfl) hp hs (fun x y s2 a b t2 hs2 ha hb hp => ?_)
  split at hp
  · rename_i x1 x2 y1 y2 hx hy
    have bx := sx_b_ok hE hx
    have bz := sx_b_ok hE hy
    split at hp
    · by_cases hc : max x2 y2 ≤ sx_mx
      · obtain ⟨j, j1, j2, j3⟩ := sx_mskok 30 (max x2 y2) (by decide) hc
        exact sx_rng hl hs hE hC hH hs2 hp (sx_ibit (x := a) (y := b) (by omega) (by omega) j1 j2 (by omega) (by omega)).1
      · have f1 := sx_ibit (x := a) (y := b) (M := sx_mx) (j := 31) (by omega) (by omega) (by decide) (by decide) (sx_r32 a).2 (sx_r32 b).2
        have f2 : sx_mx ≤ sx_msk 30 (max x2 y2) := by
          have : ∀ (k : Nat), k ≤ 30 → ¬ (max x2 y2 ≤ sx_mx) → sx_mx ≤ sx_msk k (max x2 y2) := by
            intro k
            induction k with
            | zero => intro _ _; exact Int.le_refl _
            | succ k ih =>
              intro hk hn
              unfold sx_msk
              split
              · rename_i hq
                have : (2 : Int) ^ (31 - (k + 1)) ≤ 2 ^ 31 := by
                  have h1 := Nat.pow_le_pow_right (n := 2) (by decide) (show 31 - (k + 1) ≤ 31 by omega)
                  exact_mod_cast h1
                unfold sx_mx at hn ⊢
                omega
              · exact ih (by omega) hn
          exact this 30 (by decide) hc
        exact sx_rng hl hs hE hC hH hs2 hp (by omega)
    · exact sx_any hl hs hE hC hH hs2 hp
  · cases hp
end SXI
