/-! -/
/-! an hour's flags in both -/
theorem relF_fl {c r c1 r1 : sg_} {F R : Nat} (H : relF c r F R) {w p : Int} (hw : 0 ≤ w ∧ w < 6) (hp : 0 ≤ p ∧ p < 8) (ec : ∀ (b : Nat) (j : Int), ¬ ((b = F + 6 ∨ b = F + 7) ∧ j = p * 6 + w) → c1 b j = c b j) (er : ∀ j : Int, ¬ j = 52 + 2 * (8 * w + p) + 0 → ¬ j = 52 + 2 * (8 * w + p) + 1 → r1 R j = r R j) (h1 : r1 R (52 + 2 * (8 * w + p) + 0) = c1 (F + 6) (p * 6 + w)) (h2 : ¬ c1 (F + 6) (p * 6 + w) = -1 → r1 R (52 + 2 * (8 * w + p) + 1) = c1 (F + 7) (p * 6 + w)) : relF c1 r1 F R := by
  obtain ⟨⟨a0, a1⟩, a2, a3, a4, a8, a9, a10, a11⟩ := H
  refine ⟨⟨by rw [er _ (by omega) (by omega), ec _ _ (by omega)]; exact a0, by rw [er _ (by omega) (by omega), ec _ _ (by omega)]; exact a1⟩, fun q hq => ?_, fun u hu => ?_, fun u q hu hq => ?_, by rw [er _ (by omega) (by omega), ec _ _ (by omega)]; exact a8, by rw [er _ (by omega) (by omega), ec _ _ (by omega)]; exact a9, by rw [er _ (by omega) (by omega), ec _ _ (by omega)]; exact a10, by rw [er _ (by omega) (by omega), ec _ _ (by omega)]; exact a11⟩
  · rw [er _ (by omega) (by omega), er _ (by omega) (by omega), er _ (by omega) (by omega), ec _ _ (by omega), ec _ _ (by omega), ec _ _ (by omega)]
    exact a2 q hq
  · rw [er _ (by omega) (by omega), er _ (by omega) (by omega), ec _ _ (by omega), ec _ _ (by omega)]
    exact a3 u hu
  · by_cases e : u = w ∧ q = p
    · rw [e.1, e.2]
      exact ⟨h1, h2⟩
    · rw [er _ (by omega) (by omega), er _ (by omega) (by omega), ec _ _ (by omega), ec _ _ (by omega)]
      exact a4 u q hu hq
theorem fl_eq {cd : cds} {cr : crs} (E : eqLaw cd cr) {c r : sg_} {F : Nat} (H : relF c r F 139) (G : RG r) (I : IG c F) {w p : Int} (hw : 0 ≤ w ∧ w < 6) (hp : 0 ≤ p ∧ p < 8) : relF (psW cd F p w c) (flW cr w p r) F 139 := by
  have i1 := I.1.2.1
  have d := H.2.2.2.1 w p hw hp
  unfold psW flW
  by_cases hx : c (F + 6) (p * 6 + w) = -1
  · rw [if_pos hx, if_pos (show htR r w p = -1 by unfold htR; rw [d.1]; exact hx)]
    exact H
  · rw [if_neg hx, if_neg (show ¬ htR r w p = -1 by unfold htR; rw [d.1]; exact hx)]
    have hh : htR r w p = c (F + 6) (p * 6 + w) := d.1
    have ea : r 139 (16 + 3 * p) = c (F + 2) p := (H.2.1 p hp).1
    have e0 := say_0 E H G i1 hw hp hx
    have ga := G.a p hp
    dsimp only
    rw [hh, ea, e0]
    have cb := clR_b G cr (p := p) hw
    rw [e0] at cb
    rw [ea] at ga
    obtain ⟨y, ey⟩ : ∃ y, max 0 (min (c (F + 2) p) (c (F + 6) (p * 6 + w) + sayC cd c F p w 0)) = y := ⟨_, rfl⟩
    rw [ey]
    obtain ⟨c1, ec1⟩ : ∃ z, up c (F + 6) (p * 6 + w) y = z := ⟨_, rfl⟩
    obtain ⟨r1, er1⟩ : ∃ z, up r 139 (52 + 2 * (8 * w + p) + 0) y = z := ⟨_, rfl⟩
    rw [ec1, er1]
    have H1 : relF c1 r1 F 139 := relF_fl H hw hp (fun b j h => by rw [← ec1]; exact if_neg (by omega)) (fun j h1 h2 => by rw [← er1, up_k h1]) (by rw [← ec1, ← er1, up_e, up_e]) (fun _ => by rw [← ec1, ← er1, up_k (by omega), up_a (by omega)]; exact d.2 hx)
    have G1 : RG r1 := by
      have he := G.e w p hw hp
      have hf := G.f w p hw hp (by rw [hh]; exact hx)
      exact RG_up G hw hp (fun j h1 h2 => by rw [← er1, up_k h1]) (by unfold htR; rw [← er1, up_e]; omega) (by rw [← er1, up_k (by omega)]; exact he) (fun _ => by rw [← er1, up_k (by omega)]; exact hf)
    have q1 : c1 F 1 = c F 1 := by rw [← ec1]; exact if_neg (by omega)
    have qh : ¬ c1 (F + 6) (p * 6 + w) = -1 := by rw [← ec1, up_e]; omega
    have e1 := say_1 E H1 G1 (by rw [q1]; exact i1) hw hp qh
    have ew : r1 139 (52 + 2 * (8 * w + p) + 1) = c1 (F + 7) (p * 6 + w) := (H1.2.2.2.1 w p hw hp).2 qh
    rw [up_e, e1, ew]
    obtain ⟨x, ex⟩ : ∃ x, c1 (F + 7) (p * 6 + w) + sayC cd c1 F p w 1 = x := ⟨_, rfl⟩
    rw [ex]
    by_cases hg : 99 < x
    · rw [if_pos hg, if_pos hg]
      exact relF_fl H1 hw hp (fun b j h => by
        unfold up
        rw [if_neg (by omega), if_neg (by omega)]) (fun j h1 h2 => by rw [up_k h2, up_k h1, up_k h2]) (by rw [up_k (by omega), up_e, up_e]) (fun h => absurd (up_e _ _ _ _) h)
    · rw [if_neg hg, if_neg hg]
      exact relF_fl H1 hw hp (fun b j h => by
        unfold up
        rw [if_neg (by omega)]) (fun j h1 h2 => by rw [up_k h2]) (by rw [up_k (by omega), up_a (by omega)]; exact (H1.2.2.2.1 w p hw hp).1) (fun h => by rw [up_e, up_e])
theorem fls_eq {cd : cds} {cr : crs} (E : eqLaw cd cr) {c r : sg_} {F : Nat} (H : relF c r F 139) (G : RG r) (I : IG c F) {p : Int} (hp : 0 ≤ p ∧ p < 8) : ∀ n : Nat, n ≤ 6 → relF (psWs cd F p n c) (flWs cr p n r) F 139
  | 0, _ => H
  | n + 1, h => fl_eq E (fls_eq E H G I hp n (by omega)) (flWs_RG hp G n (by omega)) (psWs_IG I hp n (by omega)) (by omega) hp
theorem flp_eq {cd : cds} {cr : crs} (E : eqLaw cd cr) {c r : sg_} {F q : Nat} (hq : q ≤ 6) (H : relF c r F 139) (G : RG r) (I : IG c F) : ∀ m : Nat, m ≤ 8 → relF (psPs cd F q m c) (flPs cr q m r) F 139
  | 0, _ => H
  | m + 1, h => fls_eq E (flp_eq E hq H G I m (by omega)) (flPs_RG hq G m (by omega)) (psPs_IG I hq m (by omega)) (by omega) q hq
theorem flA_eq {cd : cds} {cr : crs} (E : eqLaw cd cr) {c r : sg_} {F : Nat} (H : relF c r F 139) (G : RG r) (I : IG c F) : relF (passA cd F c) (flA cr r) F 139 := by
  have i0 := I.1.1
  have i1 := I.1.2.1
  unfold passA flA
  rw [H.1.1, H.1.2]
  exact flp_eq E (by omega) H G I _ (by omega)
