/-! -/
/-! -/
/-! flags changed keep the reference's invariants -/
theorem RG_up {s s1 : sg_} (G : RG s) {w p : Int} (hw : 0 ≤ w ∧ w < 6) (hp : 0 ≤ p ∧ p < 8) (e : ∀ j, ¬ j = 52 + 2 * (8 * w + p) + 0 → ¬ j = 52 + 2 * (8 * w + p) + 1 → s1 139 j = s 139 j) (hh : -1 ≤ htR s1 w p ∧ htR s1 w p ≤ 99) (he : 0 ≤ s1 139 (52 + 2 * (8 * w + p) + 1) ∧ s1 139 (52 + 2 * (8 * w + p) + 1) ≤ 199) (hf : ¬ htR s1 w p = -1 → s1 139 (52 + 2 * (8 * w + p) + 1) ≤ 99) : RG s1 := RG_mk
  (a_ := fun q hq => by rw [e _ (by omega) (by omega)]; exact G.a q hq)
  (pl_ := fun q hq => by rw [e _ (by omega) (by omega)]; exact G.pl q hq)
  (n_ := fun q hq => by rw [e _ (by omega) (by omega)]; exact G.n q hq)
  (h_ := fun u q hu hq => by
      by_cases c : u = w ∧ q = p
      · rw [c.1, c.2]; exact hh
      · show -1 ≤ s1 139 (52 + 2 * (8 * u + q) + 0) ∧ s1 139 (52 + 2 * (8 * u + q) + 0) ≤ 99
        rw [e _ (by omega) (by omega)]
        exact G.h u q hu hq)
  (e_ := fun u q hu hq => by
      by_cases c : u = w ∧ q = p
      · rw [c.1, c.2]; exact he
      · rw [e _ (by omega) (by omega)]
        exact G.e u q hu hq)
  (f_ := fun u q hu hq => by
      by_cases c : u = w ∧ q = p
      · rw [c.1, c.2]; exact hf
      · show ¬ s1 139 (52 + 2 * (8 * u + q) + 0) = -1 → s1 139 (52 + 2 * (8 * u + q) + 1) ≤ 99
        rw [e _ (by omega) (by omega), e _ (by omega) (by omega)]
        exact G.f u q hu hq)
  (w_ := by rw [e _ (by omega) (by omega)]; exact G.w)
  (o_ := by rw [e _ (by omega) (by omega)]; exact G.o)
  (x_ := by rw [e _ (by omega) (by omega)]; exact G.x)
  (d_ := by rw [e _ (by omega) (by omega)]; exact G.d)
  (p0_ := by rw [e _ (by omega) (by omega)]; exact G.p0)
  (w0_ := by rw [e _ (by omega) (by omega)]; exact G.w0)
/-- the reference's state, small invariants -/
def RS (s : sg_) (cr : crs) : Prop := (RG s) ∧ (-1 ≤ s 139 3 ∧ s 139 3 ≤ 3) ∧ (s 141 (705 * s 139 3) ≤ 24) ∧ (∀ l, 0 ≤ l ∧ l < 3 → TRl s (s 139 3) l (cr l)) ∧ (valR (cr 0)) ∧ (valR (cr 1)) ∧ (askR (cr 2))
theorem RS.g {s : sg_} {cr : crs} (H_ : RS s cr) : RG s := H_.1
theorem RS.r {s : sg_} {cr : crs} (H_ : RS s cr) : -1 ≤ s 139 3 ∧ s 139 3 ≤ 3 := H_.2.1
theorem RS.n {s : sg_} {cr : crs} (H_ : RS s cr) : s 141 (705 * s 139 3) ≤ 24 := H_.2.2.1
theorem RS.t {s : sg_} {cr : crs} (H_ : RS s cr) : ∀ l, 0 ≤ l ∧ l < 3 → TRl s (s 139 3) l (cr l) := H_.2.2.2.1
theorem RS.v0 {s : sg_} {cr : crs} (H_ : RS s cr) : valR (cr 0) := H_.2.2.2.2.1
theorem RS.v1 {s : sg_} {cr : crs} (H_ : RS s cr) : valR (cr 1) := H_.2.2.2.2.2.1
theorem RS.v2 {s : sg_} {cr : crs} (H_ : RS s cr) : askR (cr 2) := H_.2.2.2.2.2.2
theorem RS_mk {s : sg_} {cr : crs} (g_ : RG s) (r_ : -1 ≤ s 139 3 ∧ s 139 3 ≤ 3) (n_ : s 141 (705 * s 139 3) ≤ 24) (t_ : ∀ l, 0 ≤ l ∧ l < 3 → TRl s (s 139 3) l (cr l)) (v0_ : valR (cr 0)) (v1_ : valR (cr 1)) (v2_ : askR (cr 2)) : RS s cr := ⟨g_, r_, n_, t_, v0_, v1_, v2_⟩
theorem RS_R {s : sg_} {cr : crs} (H : RS s cr) : RR s cr := ⟨H.g.p0, H.g.w0, H.r, H.n, H.t, H.v0, H.v1, H.v2, fun _ _ hw hp _ hk => RG_b H.g hw hp hk, H.g.h⟩
theorem RS_f {s s1 : sg_} {cr : crs} (H : RS s cr) (g : RG s1) (e3 : s1 139 3 = s 139 3) (e : ∀ j, s1 141 j = s 141 j) : RS s1 cr :=
  ⟨g, by rw [e3]; exact H.r, by rw [e3, e]; exact H.n, fun l hl => by rw [e3]; exact TRl_f e (H.t l hl), H.v0, H.v1, H.v2⟩
theorem sayR_b {N : Int → Int} {o : Option (List (Int × Int))} {z lo hi : Int} (h : lo ≤ hi) (hz : lo ≤ z ∧ z ≤ hi) : lo ≤ sayR N o z lo hi ∧ sayR N o z lo hi ≤ hi := by
  unfold sayR
  cases o with
  | none => exact hz
  | some L =>
    show lo ≤ max lo (min hi (vaR N L)) ∧ max lo (min hi (vaR N L)) ≤ hi
    omega
theorem clR_b {s : sg_} (G : RG s) (cr : crs) {w p : Int} (hw : 0 ≤ w ∧ w < 6) : -99 ≤ clR cr s w p ∧ clR cr s w p ≤ 99 := by
  have := G.n w hw
  exact sayR_b (by decide) (by omega)
theorem teR_b {s : sg_} (G : RG s) (cr : crs) {w p : Int} : 0 ≤ teR cr s w p ∧ teR cr s w p ≤ 100 := by
  have := G.w
  exact sayR_b (by decide) (by omega)
theorem flW_fr {cr : crs} {w p : Int} {s : sg_} {b : Nat} {j : Int} (h : ¬ b = 139 ∨ (¬ j = 52 + 2 * (8 * w + p) + 0 ∧ ¬ j = 52 + 2 * (8 * w + p) + 1)) : flW cr w p s b j = s b j := by
  unfold flW
  split
  · rfl
  · have hu : ∀ (t : sg_) (y : Int), up t 139 (52 + 2 * (8 * w + p) + 0) y b j = t b j := fun t y => by
      rcases h with h | h
      · exact up_a h
      · exact up_k h.1
    have hu1 : ∀ (t : sg_) (y : Int), up t 139 (52 + 2 * (8 * w + p) + 1) y b j = t b j := fun t y => by
      rcases h with h | h
      · exact up_a h
      · exact up_k h.2
    (try dsimp only)
    split
    · rw [hu1, hu, hu1, hu]
    · rw [hu1, hu]
theorem flW_RG {cr : crs} {w p : Int} {s : sg_} (G : RG s) (hw : 0 ≤ w ∧ w < 6) (hp : 0 ≤ p ∧ p < 8) : RG (flW cr w p s) := by
  have hfr : ∀ j, ¬ j = 52 + 2 * (8 * w + p) + 0 → ¬ j = 52 + 2 * (8 * w + p) + 1 → flW cr w p s 139 j = s 139 j := fun j h1 h2 => flW_fr (Or.inr ⟨h1, h2⟩)
  by_cases c : htR s w p = -1
  · have e : flW cr w p s = s := by unfold flW; rw [if_pos c]
    rw [e]
    exact G
  · have ha := G.a p hp
    have hc := clR_b G cr (p := p) hw
    have h0 := G.h w p hw hp
    have hf := G.f w p hw hp c
    have he := G.e w p hw hp
    obtain ⟨s1, e1⟩ : ∃ z, up s 139 (52 + 2 * (8 * w + p) + 0) (max 0 (min (s 139 (16 + 3 * p)) (htR s w p + clR cr s w p))) = z := ⟨_, rfl⟩
    have q0 : htR s1 w p = max 0 (min (s 139 (16 + 3 * p)) (htR s w p + clR cr s w p)) := by rw [← e1]; exact up_e _ _ _ _
    have q1 : s1 139 (52 + 2 * (8 * w + p) + 1) = s 139 (52 + 2 * (8 * w + p) + 1) := by rw [← e1, up_k (by omega)]
    have G1 : RG s1 := RG_up G hw hp (fun j h1 h2 => by rw [← e1, up_k h1]) (by omega) (by omega) (by omega)
    have ht := teR_b G1 cr (w := w) (p := p)
    have e2 : flW cr w p s = if 99 < s1 139 (52 + 2 * (8 * w + p) + 1) + teR cr s1 w p then up (up (up s1 139 (52 + 2 * (8 * w + p) + 1) (s1 139 (52 + 2 * (8 * w + p) + 1) + teR cr s1 w p)) 139 (52 + 2 * (8 * w + p) + 0) (-1)) 139 (52 + 2 * (8 * w + p) + 1) 0 else up s1 139 (52 + 2 * (8 * w + p) + 1) (s1 139 (52 + 2 * (8 * w + p) + 1) + teR cr s1 w p) := by
      unfold flW
      rw [if_neg c, e1]
    refine RG_up G hw hp hfr ?_ ?_ ?_
    · rw [e2]
      show -1 ≤ (if _ then _ else _ : sg_) 139 (52 + 2 * (8 * w + p) + 0) ∧ (if _ then _ else _ : sg_) 139 (52 + 2 * (8 * w + p) + 0) ≤ 99
      split
      · rw [up_k (by omega), up_e]; omega
      · rw [up_k (by omega)]
        have q0 : s1 139 (52 + 2 * (8 * w + p) + 0) = max 0 (min (s 139 (16 + 3 * p)) (htR s w p + clR cr s w p)) := q0
        omega
    · rw [e2]
      split
      · rw [up_e]; omega
      · rw [up_e]; omega
    · rw [e2]
      intro _
      split
      · rw [up_e]; omega
      · rw [up_e]; omega
