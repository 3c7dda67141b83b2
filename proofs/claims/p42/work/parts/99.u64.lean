/-! -/
/-! who holds, in both -/
/-- x goes ahead of y -/
abbrev pri (hd : Int → Int) (ho x y : Int) : Prop := x = ho ∨ (¬ y = ho ∧ (hd y < hd x ∨ (hd y = hd x ∧ x < y)))
/-- of all flags of D the highest one's power is b, its height t -/
def isTop (D : Int → Int → Prop) (hh : Int → Int → Int) (hd : Int → Int) (ho b t : Int) : Prop :=
  (b = -1 ∧ t = -1 ∧ ∀ w p, ¬ D w p) ∨ (0 ≤ b ∧ 0 ≤ t ∧ (∃ p, D b p ∧ hh b p = t) ∧ (∀ w p, D w p → hh w p ≤ t) ∧ ∀ w p, D w p → hh w p = t → w = b ∨ pri hd ho b w)
theorem pri_t {hd : Int → Int} {ho x y z : Int} (h : pri hd ho x y) (k : z = y ∨ pri hd ho y z) : z = x ∨ pri hd ho x z := by
  rcases k with rfl | k
  · exact Or.inr h
  · unfold pri at h k ⊢
    omega
theorem pri_a {hd : Int → Int} {ho x y : Int} (h : y = x ∨ pri hd ho x y) (k : x = y ∨ pri hd ho y x) : x = y := by
  unfold pri at h k
  omega
theorem isTop_u {D : Int → Int → Prop} {hh : Int → Int → Int} {hd : Int → Int} {ho b t b1 t1 : Int} (T : isTop D hh hd ho b t) (S : isTop D hh hd ho b1 t1) : b = b1 ∧ t = t1 := by
  rcases T with ⟨x1, x2, x3⟩ | ⟨x1, x2, ⟨p, x3, x4⟩, x5, x6⟩
  · rcases S with ⟨y1, y2, y3⟩ | ⟨y1, y2, ⟨q, y3, y4⟩, y5, y6⟩
    · exact ⟨by omega, by omega⟩
    · exact absurd y3 (x3 _ _)
  · rcases S with ⟨y1, y2, y3⟩ | ⟨y1, y2, ⟨q, y3, y4⟩, y5, y6⟩
    · exact absurd x3 (y3 _ _)
    · have a := x5 _ _ y3
      have d := y5 _ _ x3
      have et : t = t1 := by omega
      exact ⟨pri_a (x6 _ _ y3 (by omega)) (y6 _ _ x3 (by omega)), et⟩
theorem isTop_e {D D1 : Int → Int → Prop} {hh : Int → Int → Int} {hd : Int → Int} {ho b t : Int} (e : ∀ w p, D w p ↔ D1 w p) (T : isTop D hh hd ho b t) : isTop D1 hh hd ho b t := by
  rcases T with ⟨x1, x2, x3⟩ | ⟨x1, x2, ⟨p, x3, x4⟩, x5, x6⟩
  · exact Or.inl ⟨x1, x2, fun w p h => x3 w p ((e w p).mpr h)⟩
  · exact Or.inr ⟨x1, x2, ⟨p, (e _ _).mp x3, x4⟩, fun w q h => x5 w q ((e w q).mpr h), fun w q h => x6 w q ((e w q).mpr h)⟩
/-- one flag more -/
theorem isTop_1 {D : Int → Int → Prop} {hh : Int → Int → Int} {hd : Int → Int} {ho b t w p : Int} (T : isTop D hh hd ho b t) (hw : 0 ≤ w) (h0 : 0 ≤ hh w p) : isTop (fun u q => D u q ∨ (u = w ∧ q = p)) hh hd ho (if hh w p < t then b else if t < hh w p ∨ pri hd ho w b ∧ 0 ≤ b then w else b) (if hh w p < t then t else hh w p) := by
  rcases T with ⟨x1, x2, x3⟩ | ⟨x1, x2, ⟨p1, x3, x4⟩, x5, x6⟩
  · have c0 : ¬ hh w p < t := by omega
    rw [if_neg c0, if_neg c0, if_pos (Or.inl (by omega))]
    refine Or.inr ⟨hw, h0, ⟨p, Or.inr ⟨rfl, rfl⟩, rfl⟩, fun u q h => ?_, fun u q h _ => ?_⟩
    · rcases h with h | ⟨rfl, rfl⟩
      · exact absurd h (x3 _ _)
      · exact Int.le_refl _
    · rcases h with h | ⟨rfl, rfl⟩
      · exact absurd h (x3 _ _)
      · exact Or.inl rfl
  · by_cases c1 : hh w p < t
    · rw [if_pos c1, if_pos c1]
      refine Or.inr ⟨x1, x2, ⟨p1, Or.inl x3, x4⟩, fun u q h => ?_, fun u q h e => ?_⟩
      · rcases h with h | ⟨rfl, rfl⟩
        · exact x5 _ _ h
        · omega
      · rcases h with h | ⟨rfl, rfl⟩
        · exact x6 _ _ h e
        · omega
    · rw [if_neg c1, if_neg c1]
      by_cases c2 : t < hh w p
      · rw [if_pos (Or.inl c2)]
        refine Or.inr ⟨hw, h0, ⟨p, Or.inr ⟨rfl, rfl⟩, rfl⟩, fun u q h => ?_, fun u q h e => ?_⟩
        · rcases h with h | ⟨rfl, rfl⟩
          · have := x5 _ _ h
            omega
          · exact Int.le_refl _
        · rcases h with h | ⟨rfl, rfl⟩
          · have := x5 _ _ h
            omega
          · exact Or.inl rfl
      · have et : hh w p = t := by omega
        rw [et]
        by_cases c3 : pri hd ho w b
        · rw [if_pos (Or.inr ⟨c3, x1⟩)]
          refine Or.inr ⟨hw, x2, ⟨p, Or.inr ⟨rfl, rfl⟩, et⟩, fun u q h => ?_, fun u q h e => ?_⟩
          · rcases h with h | ⟨rfl, rfl⟩
            · exact x5 _ _ h
            · omega
          · rcases h with h | ⟨rfl, rfl⟩
            · exact pri_t c3 (x6 _ _ h e)
            · exact Or.inl rfl
        · rw [if_neg (fun z => by rcases z with z | z; omega; exact c3 z.1)]
          refine Or.inr ⟨x1, x2, ⟨p1, Or.inl x3, x4⟩, fun u q h => ?_, fun u q h e => ?_⟩
          · rcases h with h | ⟨rfl, rfl⟩
            · exact x5 _ _ h
            · omega
          · rcases h with h | ⟨rfl, rfl⟩
            · exact x6 _ _ h e
            · unfold pri at c3 ⊢
              omega
/-- the flags that count, of those below -/
def cnt (cd : cds) (c : sg_) (F : Nat) (w p : Int) : Prop := ¬ c (F + 6) (p * 6 + w) = -1 ∧ ¬ sayC cd c F p w 2 = 0
theorem hrW_top {cd : cds} {c : sg_} {F : Nat} (I : IF c F) {p : Int} (hp : 0 ≤ p ∧ p < 8) {D : Int → Int → Prop} {b : Int × Int} (T : isTop D (fun w p => c (F + 6) (p * 6 + w)) (c (F + 4)) (c F 11) b.1 b.2) : ∀ n : Nat, n ≤ 6 → isTop (fun u q => D u q ∨ (q = p ∧ 0 ≤ u ∧ u < n ∧ cnt cd c F u q)) (fun w p => c (F + 6) (p * 6 + w)) (c (F + 4)) (c F 11) (hrW cd c F p n b).1 (hrW cd c F p n b).2
  | 0, _ => isTop_e (fun u q => ⟨Or.inl, fun h => h.elim id (fun z => by omega)⟩) T
  | n + 1, h => by
    have ih := hrW_top (cd := cd) I hp T n (by omega)
    have i6 := I.2.2.2.2.1 (p * 6 + n) (by omega) (by omega)
    show isTop _ _ _ _ (hr1 cd c F p n (hrW cd c F p n b)).1 (hr1 cd c F p n (hrW cd c F p n b)).2
    obtain ⟨x, ex⟩ : ∃ x, hrW cd c F p n b = x := ⟨_, rfl⟩
    rw [ex] at ih ⊢
    by_cases hc : cnt cd c F (n : Int) p
    · have h1 := isTop_1 ih (w := (n : Int)) (p := p) (by omega) (by show 0 ≤ c (F + 6) (p * 6 + n); have := hc.1; omega)
      refine isTop_e (fun u q => ?_) (?_ : isTop (fun u q => (D u q ∨ (q = p ∧ 0 ≤ u ∧ u < n ∧ cnt cd c F u q)) ∨ (u = (n : Int) ∧ q = p)) _ _ _ _ _)
      · constructor
        · rintro ((h | h) | ⟨rfl, rfl⟩)
          · exact Or.inl h
          · exact Or.inr ⟨h.1, h.2.1, by omega, h.2.2.2⟩
          · exact Or.inr ⟨rfl, by omega, by omega, hc⟩
        · rintro (h | h)
          · exact Or.inl (Or.inl h)
          · by_cases e : u = (n : Int)
            · exact Or.inr ⟨e, h.1⟩
            · exact Or.inl (Or.inr ⟨h.1, h.2.1, by omega, h.2.2.2⟩)
      · have e : hr1 cd c F p n x = (if c (F + 6) (p * 6 + n) < x.2 then x.1 else if x.2 < c (F + 6) (p * 6 + n) ∨ pri (c (F + 4)) (c F 11) n x.1 ∧ 0 ≤ x.1 then (n : Int) else x.1, if c (F + 6) (p * 6 + n) < x.2 then x.2 else c (F + 6) (p * 6 + n)) := by
          have hb : x.2 = -1 ∧ x.1 = -1 ∨ 0 ≤ x.1 := by
            rcases ih with z | z
            · exact Or.inl ⟨z.2.1, z.1⟩
            · exact Or.inr z.1
          unfold hr1
          by_cases c1 : c (F + 6) (p * 6 + n) < x.2
          · rw [if_pos (Or.inr (Or.inl c1)), if_pos c1, if_pos c1] <;> rfl
          · rw [if_neg (fun z => by rcases z with z | z | z; exact hc.1 z; exact c1 z; exact hc.2 z), if_neg c1, if_neg c1]
            have c0 := hc.1
            by_cases c2 : x.2 < c (F + 6) (p * 6 + n)
            · rw [if_pos (Or.inl c2), if_pos (Or.inl c2)]
            · have hb : 0 ≤ x.1 := by omega
              have ea : ahC c F n x.1 ↔ pri (c (F + 4)) (c F 11) n x.1 := by
                unfold ahC pri
                constructor <;> intro z <;> omega
              by_cases c3 : ahC c F n x.1
              · rw [if_pos (Or.inr c3), if_pos (Or.inr ⟨ea.mp c3, hb⟩)]
              · rw [if_neg (fun z => by rcases z with z | z; exact c2 z; exact c3 z), if_neg (fun z => by rcases z with z | z; exact c2 z; exact c3 (ea.mpr z.1))]
        rw [e]
        exact h1
    · have e : hr1 cd c F p n x = x := if_pos (by
        by_cases c1 : c (F + 6) (p * 6 + n) = -1
        · exact Or.inl c1
        · refine Or.inr (Or.inr ?_)
          by_cases c2 : sayC cd c F p n 2 = 0
          · exact c2
          · exact absurd ⟨c1, c2⟩ hc)
      rw [e]
      refine isTop_e (fun u q => ?_) ih
      constructor
      · rintro (h | h)
        · exact Or.inl h
        · exact Or.inr ⟨h.1, h.2.1, by omega, h.2.2.2⟩
      · rintro (h | h)
        · exact Or.inl h
        · by_cases e : u = (n : Int)
          · rw [e, h.1] at h
            exact absurd h.2.2.2 hc
          · exact Or.inr ⟨h.1, h.2.1, by omega, h.2.2.2⟩
theorem hrP_top {cd : cds} {c : sg_} {F : Nat} (I : IF c F) {n : Nat} (hn : n ≤ 6) : ∀ m : Nat, m ≤ 8 → isTop (fun u q => (0 ≤ q ∧ q < m) ∧ (0 ≤ u ∧ u < n) ∧ cnt cd c F u q) (fun w p => c (F + 6) (p * 6 + w)) (c (F + 4)) (c F 11) (hrP cd c F n m).1 (hrP cd c F n m).2
  | 0, _ => Or.inl ⟨rfl, rfl, fun u q h => by have := h.1; omega⟩
  | m + 1, h => by
    have ih := hrP_top (cd := cd) I hn m (by omega)
    refine isTop_e (fun u q => ?_) (hrW_top (cd := cd) I (p := (m : Int)) (by omega) ih n hn)
    constructor
    · rintro (h | h)
      · exact ⟨by have := h.1; omega, h.2⟩
      · exact ⟨by have := h.1; omega, ⟨h.2.1, h.2.2.1⟩, h.2.2.2⟩
    · intro h
      by_cases e : q = (m : Int)
      · exact Or.inr ⟨e, h.2.1.1, h.2.1.2, h.2.2⟩
      · exact Or.inl ⟨by have := h.1; omega, h.2⟩
/-- the flags that count, in the reference -/
def cnt9 (r : sg_) (cr : crs) (w p : Int) : Prop := ¬ htR r w p = -1 ∧ ¬ cnR r w p (cr 2) = 0
theorem hg_top {r : sg_} {cr : crs} {w : Int} (hr : ∀ p, 0 ≤ p ∧ p < 8 → -1 ≤ htR r w p) : ∀ m : Nat, m ≤ 8 → (hgR r cr w m = -1 ∧ ∀ p : Int, 0 ≤ p ∧ p < m → ¬ cnt9 r cr w p) ∨ (0 ≤ hgR r cr w m ∧ (∃ p : Int, (0 ≤ p ∧ p < m) ∧ cnt9 r cr w p ∧ htR r w p = hgR r cr w m) ∧ ∀ p : Int, 0 ≤ p ∧ p < m → cnt9 r cr w p → htR r w p ≤ hgR r cr w m)
  | 0, _ => Or.inl ⟨rfl, fun p h => by omega⟩
  | m + 1, h => by
    have ih := hg_top (cr := cr) hr m (by omega)
    have h0 := hr m (by omega)
    show (hg1 r cr w m (hgR r cr w m) = -1 ∧ _) ∨ (0 ≤ hg1 r cr w m (hgR r cr w m) ∧ (∃ p : Int, _ ∧ _ ∧ htR r w p = hg1 r cr w m (hgR r cr w m)) ∧ ∀ p : Int, _ → _ → htR r w p ≤ hg1 r cr w m (hgR r cr w m))
    obtain ⟨x, ex⟩ : ∃ x, hgR r cr w m = x := ⟨_, rfl⟩
    rw [ex] at ih ⊢
    unfold hg1
    by_cases hc : cnt9 r cr w (m : Int)
    · by_cases c1 : x < htR r w m
      · rw [if_pos ⟨hc.1, c1, hc.2⟩]
        have := hc.1
        refine Or.inr ⟨by omega, ⟨m, by omega, hc, rfl⟩, fun p hp hq => ?_⟩
        by_cases e : p = (m : Int)
        · rw [e]; exact Int.le_refl _
        · rcases ih with ih | ih
          · exact absurd hq (ih.2 p (by omega))
          · have := ih.2.2 p (by omega) hq
            omega
      · rw [if_neg (fun z => c1 z.2.1)]
        have := hc.1
        rcases ih with ih | ih
        · omega
        · obtain ⟨p1, y1, y2, y3⟩ := ih.2.1
          refine Or.inr ⟨ih.1, ⟨p1, by omega, y2, y3⟩, fun p hp hq => ?_⟩
          by_cases e : p = (m : Int)
          · rw [e]; omega
          · exact ih.2.2 p (by omega) hq
    · rw [if_neg (fun z => hc ⟨z.1, z.2.2⟩)]
      rcases ih with ih | ih
      · refine Or.inl ⟨ih.1, fun p hp => ?_⟩
        by_cases e : p = (m : Int)
        · rw [e]; exact hc
        · exact ih.2 p (by omega)
      · obtain ⟨p1, y1, y2, y3⟩ := ih.2.1
        refine Or.inr ⟨ih.1, ⟨p1, by omega, y2, y3⟩, fun p hp hq => ?_⟩
        by_cases e : p = (m : Int)
        · rw [e] at hq; exact absurd hq hc
        · exact ih.2.2 p (by omega) hq
theorem hn_top {r : sg_} {cr : crs} {m : Nat} (em : (r 139 0).toNat = m) (hm : m ≤ 8) (hr : ∀ w p, (0 ≤ w ∧ w < 6) → (0 ≤ p ∧ p < 8) → -1 ≤ htR r w p) : ∀ n : Nat, n ≤ 6 → isTop (fun u q => (0 ≤ q ∧ q < m) ∧ (0 ≤ u ∧ u < n) ∧ cnt9 r cr u q) (htR r) (fun w => r 139 (40 + 2 * w)) (r 139 10) (hnR r cr n).1 (hnR r cr n).2
  | 0, _ => Or.inl ⟨rfl, rfl, fun u q h => by have := h.2.1; omega⟩
  | n + 1, h => by
    have ih := hn_top (cr := cr) em hm hr n (by omega)
    have hg := hg_top (cr := cr) (fun p hp => hr n p (by omega) hp) m hm
    show isTop _ _ _ _ (hn1 r cr n (hnR r cr n)).1 (hn1 r cr n (hnR r cr n)).2
    obtain ⟨x, ex⟩ : ∃ x, hnR r cr n = x := ⟨_, rfl⟩
    rw [ex] at ih ⊢
    unfold hn1
    rw [em]
    obtain ⟨y, ey⟩ : ∃ y, hgR r cr n m = y := ⟨_, rfl⟩
    rw [ey] at hg ⊢
    have grow : ∀ u q : Int, ((0 ≤ q ∧ q < m) ∧ (0 ≤ u ∧ u < ((n + 1 : Nat) : Int)) ∧ cnt9 r cr u q) → ((0 ≤ q ∧ q < m) ∧ (0 ≤ u ∧ u < (n : Int)) ∧ cnt9 r cr u q) ∨ (u = (n : Int) ∧ (0 ≤ q ∧ q < m) ∧ cnt9 r cr u q) := fun u q z => by
      by_cases e : u = (n : Int)
      · exact Or.inr ⟨e, z.1, z.2.2⟩
      · exact Or.inl ⟨z.1, ⟨z.2.1.1, by have := z.2.1.2; omega⟩, z.2.2⟩
    have keep : ∀ u q : Int, ((0 ≤ q ∧ q < m) ∧ (0 ≤ u ∧ u < (n : Int)) ∧ cnt9 r cr u q) → ((0 ≤ q ∧ q < m) ∧ (0 ≤ u ∧ u < ((n + 1 : Nat) : Int)) ∧ cnt9 r cr u q) := fun u q z => ⟨z.1, ⟨z.2.1.1, by have := z.2.1.2; omega⟩, z.2.2⟩
    rcases hg with ⟨g1, g2⟩ | ⟨g1, ⟨p1, g2, g3, g4⟩, g5⟩
    · rw [if_pos (Or.inl g1)]
      refine isTop_e (fun u q => ⟨keep u q, fun z => ?_⟩) ih
      rcases grow u q z with z | z
      · exact z
      · rw [z.1] at z
        exact absurd z.2.2 (g2 q z.2.1)
    · rcases ih with ⟨x1, x2, x3⟩ | ⟨x1, x2, ⟨p2, x3, x4⟩, x5, x6⟩
      · rw [if_neg (by omega), if_pos (by omega)]
        show isTop _ _ _ _ (n : Int) y
        refine Or.inr ⟨by omega, g1, ⟨p1, ⟨g2, by omega, g3⟩, g4⟩, fun u q z => ?_, fun u q z _ => ?_⟩
        · rcases grow u q z with z | z
          · exact absurd z (x3 u q)
          · obtain ⟨eu, z⟩ := z
            rw [eu] at z ⊢
            exact g5 q z.1 z.2
        · rcases grow u q z with z | z
          · exact absurd z (x3 u q)
          · exact Or.inl z.1
      · have lb : x.1 < (n : Int) := x3.2.1.2
        by_cases c1 : y < x.2
        · rw [if_pos (Or.inr c1)]
          refine Or.inr ⟨x1, x2, ⟨p2, keep _ _ x3, x4⟩, fun u q z => ?_, fun u q z e => ?_⟩
          · rcases grow u q z with z | z
            · exact x5 u q z
            · obtain ⟨eu, z⟩ := z
              rw [eu] at z ⊢
              have := g5 q z.1 z.2
              omega
          · rcases grow u q z with z | z
            · exact x6 u q z e
            · obtain ⟨eu, z⟩ := z
              rw [eu] at z e
              have := g5 q z.1 z.2
              omega
        · rw [if_neg (by omega)]
          by_cases c2 : x.2 < y
          · rw [if_pos (Or.inl c2)]
            show isTop _ _ _ _ (n : Int) y
            refine Or.inr ⟨by omega, g1, ⟨p1, ⟨g2, by omega, g3⟩, g4⟩, fun u q z => ?_, fun u q z e => ?_⟩
            · rcases grow u q z with z | z
              · have := x5 u q z
                show _ ≤ y
                omega
              · obtain ⟨eu, z⟩ := z
                rw [eu] at z ⊢
                exact g5 q z.1 z.2
            · rcases grow u q z with z | z
              · have := x5 u q z
                have e : htR r u q = y := e
                omega
              · exact Or.inl z.1
          · have eyx : y = x.2 := by omega
            by_cases c3 : ¬ x.1 = r 139 10 ∧ ((n : Int) = r 139 10 ∨ r 139 (40 + 2 * x.1) < r 139 (40 + 2 * n))
            · rw [if_pos (Or.inr c3)]
              have hp : pri (fun w => r 139 (40 + 2 * w)) (r 139 10) n x.1 := by
                unfold pri
                dsimp only
                omega
              show isTop _ _ _ _ (n : Int) y
              refine Or.inr ⟨by omega, g1, ⟨p1, ⟨g2, by omega, g3⟩, g4⟩, fun u q z => ?_, fun u q z e => ?_⟩
              · rcases grow u q z with z | z
                · have := x5 u q z
                  show _ ≤ y
                  omega
                · obtain ⟨eu, z⟩ := z
                  rw [eu] at z ⊢
                  exact g5 q z.1 z.2
              · rcases grow u q z with z | z
                · exact pri_t hp (x6 u q z (by have e : htR r u q = y := e; omega))
                · exact Or.inl z.1
            · rw [if_neg (fun z => by rcases z with z | z; omega; exact c3 z)]
              refine Or.inr ⟨x1, x2, ⟨p2, keep _ _ x3, x4⟩, fun u q z => ?_, fun u q z e => ?_⟩
              · rcases grow u q z with z | z
                · exact x5 u q z
                · obtain ⟨eu, z⟩ := z
                  rw [eu] at z ⊢
                  have := g5 q z.1 z.2
                  omega
              · rcases grow u q z with z | z
                · exact x6 u q z e
                · rw [z.1]
                  refine Or.inr ?_
                  unfold pri
                  dsimp only
                  omega
theorem heir_eq {cd : cds} {cr : crs} (E : eqLaw cd cr) (A : askR (cr 2)) {c r : sg_} {F : Nat} (H : relF c r F 139) (G : RG r) (I : IF c F) : holdR r cr = heirC cd c F := by
  have i0 := I.1
  have i1 := I.2.1
  have hb : ∀ w p, (0 ≤ w ∧ w < 6) → (0 ≤ p ∧ p < 8) → htR r w p = c (F + 6) (p * 6 + w) := fun w p hw hp => (H.2.2.2.1 w p hw hp).1
  unfold holdR heirC
  rw [H.2.2.2.2.2.1]
  by_cases h9 : c F 9 = 0
  · rw [if_pos h9, if_pos h9]
  · rw [if_neg h9, if_neg h9]
    have t1 := hn_top (r := r) (cr := cr) (m := (c F 0).toNat) (by rw [H.1.1]) (by omega) (fun w p hw hp => (G.h w p hw hp).1) (r 139 1).toNat (by rw [H.1.2]; omega)
    have t2 := hrP_top (cd := cd) I (n := (c F 1).toNat) (by omega) (c F 0).toNat (by omega)
    rw [H.1.2] at t1
    rw [H.1.2]
    have t3 : isTop (fun u q => (0 ≤ q ∧ q < ((c F 0).toNat : Int)) ∧ (0 ≤ u ∧ u < ((c F 1).toNat : Int)) ∧ cnt cd c F u q) (fun w p => c (F + 6) (p * 6 + w)) (c (F + 4)) (c F 11) (hnR r cr (c F 1).toNat).1 (hnR r cr (c F 1).toNat).2 := by
      have k2 : ∀ u q : Int, (0 ≤ q ∧ q < ((c F 0).toNat : Int)) → (0 ≤ u ∧ u < ((c F 1).toNat : Int)) → (cnt9 r cr u q ↔ cnt cd c F u q) := fun u q hq hu => by
        have e := hb u q (by omega) (by omega)
        unfold cnt9 cnt
        rw [e]
        constructor
        · intro z
          exact ⟨z.1, by rw [← say_2 E A H G i1 (by omega) (by omega) z.1]; exact z.2⟩
        · intro z
          exact ⟨z.1, by rw [say_2 E A H G i1 (by omega) (by omega) z.1]; exact z.2⟩
      have eh : ∀ w : Int, (0 ≤ w ∧ w < 6) → r 139 (40 + 2 * w) = c (F + 4) w := fun w hw => (H.2.2.1 w hw).1
      rw [H.2.2.2.2.2.2.1] at t1
      rcases t1 with ⟨x1, x2, x3⟩ | ⟨x1, x2, ⟨p, x3, x4⟩, x5, x6⟩
      · exact Or.inl ⟨x1, x2, fun u q z => x3 u q ⟨z.1, z.2.1, (k2 u q z.1 z.2.1).mpr z.2.2⟩⟩
      · have b1 := x3.2.1
        have b2 := x3.1
        refine Or.inr ⟨x1, x2, ⟨p, ⟨x3.1, x3.2.1, (k2 _ _ x3.1 x3.2.1).mp x3.2.2⟩, by show c (F + 6) (p * 6 + (hnR r cr (c F 1).toNat).1) = _; rw [← hb _ _ (by omega) (by omega)]; exact x4⟩, fun u q z => ?_, fun u q z e => ?_⟩
        · have b3 := z.1
          have b4 := z.2.1
          have := x5 u q ⟨z.1, z.2.1, (k2 u q z.1 z.2.1).mpr z.2.2⟩
          rw [hb u q (by omega) (by omega)] at this
          exact this
        · have b3 := z.1
          have b4 := z.2.1
          have := x6 u q ⟨z.1, z.2.1, (k2 u q z.1 z.2.1).mpr z.2.2⟩ (by rw [hb u q (by omega) (by omega)]; exact e)
          unfold pri at this ⊢
          (try dsimp only at this)
          rw [eh (hnR r cr (c F 1).toNat).1 (by omega), eh u (by omega)] at this
          exact this
    exact (isTop_u t3 t2).1
