/-! -/
/-! who is ahead in a row; who is surely ahead -/
/-- a row, the last first: a is ahead of b -/
def hbr (a b : Nat) : List Nat → Bool
  | [] => false
  | x :: c => if x = b then mem_ c a else hbr a b c
theorem hbr_h {a b : Nat} {c : List Nat} : hbr a b (b :: c) = mem_ c a := if_pos rfl
theorem hbr_t {a b x : Nat} {c : List Nat} (h : ¬ x = b) : hbr a b (x :: c) = hbr a b c := if_neg h
theorem vr_hb {T : Nat → Nat → Bool} : ∀ r : List Nat, r.Nodup → (vr T r = true ↔ ∀ y ∈ r, ∀ x, x < 6 → T y x = true → hbr x y r = true)
  | [], _ => ⟨fun _ y h => absurd h List.not_mem_nil, fun _ => rfl⟩
  | l :: c, hn => by
    have n := List.nodup_cons.mp hn
    rw [vr_c, vr_hb c n.2]
    constructor
    · rintro ⟨h1, h2⟩ y hy x hx t
      rcases List.mem_cons.mp hy with rfl | hy
      · rw [hbr_h]
        exact mem_i.mpr (h1 x hx t)
      · rw [hbr_t (fun (z : l = y) => n.1 (by rw [z]; exact hy))]
        exact h2 y hy x hx t
    · intro h
      refine ⟨fun i hi t => ?_, fun y hy x hx t => ?_⟩
      · have k := h l List.mem_cons_self i hi t
        rw [hbr_h] at k
        exact mem_i.mp k
      · have k := h y (List.mem_cons_of_mem _ hy) x hx t
        rw [hbr_t (fun (z : l = y) => n.1 (by rw [z]; exact hy))] at k
        exact k
/-- what must be ahead of one is ahead of it -/
theorem hbr_k {T : Nat → Nat → Bool} {K : Nat → Bool} {b : Nat} (hK : ∀ S : Nat → Bool, (∀ x, x < 6 → T b x = true → S x = true) → (∀ k x, k < 6 → x < 6 → S k = true → T k x = true → S x = true) → ∀ x, x < 6 → K x = true → S x = true) : ∀ r : List Nat, vr T r = true → b ∈ r → ∀ a, a < 6 → K a = true → hbr a b r = true
  | [], _, h, _, _, _ => absurd h List.not_mem_nil
  | l :: c, hv, h, a, ha, hk => by
    obtain ⟨v1, v2⟩ := vr_c.mp hv
    by_cases e : l = b
    · subst e
      rw [hbr_h]
      -- those of c are closed
      have cl : ∀ (d : List Nat), vr T d = true → ∀ k x, x < 6 → k ∈ d → T k x = true → x ∈ d := by
        intro d
        induction d with
        | nil => intro _ k x _ hk; exact absurd hk List.not_mem_nil
        | cons l d ih =>
          intro hv k x hx hk t
          obtain ⟨w1, w2⟩ := vr_c.mp hv
          rcases List.mem_cons.mp hk with rfl | hk
          · exact List.mem_cons_of_mem _ (w1 x hx t)
          · exact List.mem_cons_of_mem _ (ih w2 k x hx hk t)
      exact hK (mem_ c) (fun x hx t => mem_i.mpr (v1 x hx t)) (fun k x _ hx sk t => mem_i.mpr (cl c v2 k x hx (mem_i.mp sk) t)) a ha hk
    · rw [hbr_t e]
      rcases List.mem_cons.mp h with h | h
      · exact absurd h.symm e
      · exact hbr_k hK c v2 h a ha hk
theorem fl_len {f : Nat → Bool} : ∀ l : List Nat, (l.filter (fun x => !f x)).length + (l.filter f).length = l.length
  | [] => rfl
  | x :: l => by
    have ih := fl_len (f := f) l
    rw [List.filter_cons, List.filter_cons, List.length_cons]
    cases h : f x with
    | true =>
      rw [Bool.not_true, if_neg (by decide), if_pos rfl, List.length_cons]
      omega
    | false =>
      rw [Bool.not_false, if_pos rfl, if_neg (by decide), List.length_cons]
      omega
theorem vr_f1 {T : Nat → Nat → Bool} {K : Nat → Bool} (hK : ∀ k x, x < 6 → K k = true → T k x = true → K x = true) : ∀ r : List Nat, vr T r = true → vr T (r.filter K) = true
  | [], _ => rfl
  | l :: c, h => by
    obtain ⟨v1, v2⟩ := vr_c.mp h
    rw [List.filter_cons]
    by_cases k : K l = true
    · rw [if_pos k]
      exact vr_c.mpr ⟨fun i hi t => List.mem_filter.mpr ⟨v1 i hi t, hK l i hi k t⟩, vr_f1 hK c v2⟩
    · rw [if_neg k]
      exact vr_f1 hK c v2
theorem vr_f2 {T : Nat → Nat → Bool} {K : Nat → Bool} {D : List Nat} (hD : vr T D = true) : ∀ r : List Nat, vr T r = true → (∀ x ∈ r, K x = true → x ∈ D) → vr T (r.filter (fun x => !K x) ++ D) = true
  | [], _, _ => hD
  | l :: c, h, hs => by
    obtain ⟨v1, v2⟩ := vr_c.mp h
    have ih := vr_f2 hD c v2 (fun x hx => hs x (List.mem_cons_of_mem _ hx))
    rw [List.filter_cons]
    by_cases k : (!K l) = true
    · rw [if_pos k]
      refine vr_c.mpr ⟨fun i hi t => ?_, ih⟩
      have m := v1 i hi t
      cases z : K i with
      | true => exact List.mem_append.mpr (Or.inr (hs i (List.mem_cons_of_mem _ m) z))
      | false => exact List.mem_append.mpr (Or.inl (List.mem_filter.mpr ⟨m, by rw [z]; rfl⟩))
    · rw [if_neg k]
      exact ih
theorem hbr_f {a b : Nat} : ∀ (c d : List Nat), ¬ b ∈ c → ¬ a ∈ d → hbr a b (c ++ d) = false
  | [], [], _, _ => rfl
  | [], x :: d, _, h => by
    show hbr a b (x :: d) = false
    by_cases e : x = b
    · subst e
      rw [hbr_h]
      cases z : mem_ d a with
      | false => rfl
      | true => exact absurd (List.mem_cons_of_mem _ (mem_i.mp z)) h
    · rw [hbr_t e]
      exact hbr_f [] d List.not_mem_nil (fun z => h (List.mem_cons_of_mem _ z))
  | x :: c, d, h, h2 => by
    show hbr a b (x :: (c ++ d)) = false
    rw [hbr_t (fun (z : x = b) => h (by rw [z]; exact List.mem_cons_self))]
    exact hbr_f c d (fun z => h (List.mem_cons_of_mem _ z)) h2
theorem cntP_le {A : Type} {p q : A → Bool} : ∀ L : List A, (∀ x ∈ L, q x = true → p x = true) → L.countP q ≤ L.countP p
  | [], _ => Nat.le_refl _
  | x :: L, h => by
    have ih := cntP_le L (fun y hy => h y (List.mem_cons_of_mem _ hy))
    have k := h x List.mem_cons_self
    rw [List.countP_cons, List.countP_cons]
    cases a : q x with
    | false =>
      cases b : p x with
      | false => exact ih
      | true => show _ + 0 ≤ _ + 1; omega
    | true =>
      rw [k a]
      show _ + 1 ≤ _ + 1
      omega
theorem cntP_lt {A : Type} {p q : A → Bool} {r : A} (hp : p r = true) (hq : q r = false) : ∀ L : List A, r ∈ L → (∀ x ∈ L, q x = true → p x = true) → L.countP q < L.countP p
  | [], h, _ => absurd h List.not_mem_nil
  | x :: L, h, hh => by
    have k := hh x List.mem_cons_self
    have le := cntP_le L (fun y hy => hh y (List.mem_cons_of_mem _ hy))
    rw [List.countP_cons, List.countP_cons]
    rcases List.mem_cons.mp h with rfl | h
    · rw [hp, hq]
      show _ + 0 < _ + 1
      omega
    · have ih := cntP_lt hp hq L h (fun y hy => hh y (List.mem_cons_of_mem _ hy))
      cases a : q x with
      | false =>
        cases b : p x with
        | false => exact ih
        | true => show _ + 0 < _ + 1; omega
      | true =>
        rw [k a]
        show _ + 1 < _ + 1
        omega
/-- in all rows ahead, just if it must be -/
theorem sur_ {T : Nat → Nat → Bool} {K : Nat → Bool} {P a b : Nat} (hP : P ≤ 6) (ha : a < P) (hb1 : b < P) (hab : ¬ a = b) (hT : ∀ x, x < 6 → T b x = true → K x = true) (hC : ∀ k x, k < 6 → x < 6 → K k = true → T k x = true → K x = true) (hS : ∀ k, K k = true → k < 6) (hK : ∀ S : Nat → Bool, (∀ x, x < 6 → T b x = true → S x = true) → (∀ k x, k < 6 → x < 6 → S k = true → T k x = true → S x = true) → ∀ x, x < 6 → K x = true → S x = true) (h0 : ¬ (lx P P []).countP (vr T) = 0) : (lx P P []).countP (fun r => vr T r && hbr a b r) = (lx P P []).countP (vr T) ↔ K a = true := by
  have bm : ∀ r ∈ lx P P [], r.length = P ∧ r.Nodup ∧ ∀ x ∈ r, x < P := fun r hr => by
    obtain ⟨d, rfl, d1, d2, d3⟩ := (lx_mem P []).mp hr
    rw [List.append_nil]
    exact ⟨d1, d2, fun x hx => (d3 x hx).1⟩
  have al : ∀ r ∈ lx P P [], ∀ x, x < P → x ∈ r := fun r hr x hx => by
    obtain ⟨b1, b2, b3⟩ := bm r hr
    exact ph_all b2 b3 b1 hx
  constructor
  · intro h
    cases z : K a with
    | true => rfl
    | false =>
      exfalso
      obtain ⟨r, hr, hv⟩ := List.countP_pos_iff.mp (Nat.pos_of_ne_zero h0)
      obtain ⟨b1, b2, b3⟩ := bm r hr
      obtain ⟨K', hK'⟩ : ∃ K' : Nat → Bool, K' = fun x => K x || decide (x = b) := ⟨_, rfl⟩
      have kc : ∀ k x, x < 6 → K' k = true → T k x = true → K' x = true := fun k x hx hk t => by
        rw [hK'] at hk ⊢
        have hk : (K k || decide (k = b)) = true := hk
        show (K x || decide (x = b)) = true
        rw [Bool.or_eq_true] at hk ⊢
        rcases hk with hk | hk
        · exact Or.inl (hC k x (hS k hk) hx hk t)
        · have e := of_decide_eq_true hk
          subst e
          exact Or.inl (hT x hx t)
      have v1 := vr_f1 (K := K') kc r hv
      have v2 := vr_f2 (K := K') v1 r hv (fun x hx k => List.mem_filter.mpr ⟨hx, k⟩)
      have inl : r.filter (fun x => !K' x) ++ r.filter K' ∈ lx P P [] := by
        refine (lx_mem P []).mpr ⟨_, (List.append_nil _).symm, by rw [List.length_append, fl_len]; exact b1, List.nodup_append.mpr ⟨b2.filter _, b2.filter _, fun x hx y hy e => ?_⟩, fun x hx => ⟨?_, List.not_mem_nil⟩⟩
        · have p1 := (List.mem_filter.mp hx).2
          have p2 := (List.mem_filter.mp hy).2
          rw [e, p2] at p1
          cases p1
        · rcases List.mem_append.mp hx with hx | hx
          · exact b3 x (List.mem_filter.mp hx).1
          · exact b3 x (List.mem_filter.mp hx).1
      have kb : K' b = true := by
        rw [hK']
        show (K b || decide (b = b)) = true
        rw [decide_eq_true rfl, Bool.or_true]
      have ka : K' a = false := by
        rw [hK']
        show (K a || decide (a = b)) = false
        rw [z, decide_eq_false hab]
        rfl
      have f := hbr_f (a := a) (b := b) (r.filter (fun x => !K' x)) (r.filter K') (fun m => by
        have p1 := (List.mem_filter.mp m).2
        rw [kb] at p1
        cases p1) (fun m => by
        have p1 := (List.mem_filter.mp m).2
        rw [ka] at p1
        cases p1)
      have lt := cntP_lt (p := vr T) (q := fun r => vr T r && hbr a b r) (r := r.filter (fun x => !K' x) ++ r.filter K') v2 (by show (_ && _) = false; rw [f, Bool.and_false]) (lx P P []) inl (fun x _ hx => (Bool.and_eq_true _ _ ▸ hx : _ ∧ _).1)
      omega
  · intro hk
    refine Nat.le_antisymm (cntP_le _ (fun x _ hx => (Bool.and_eq_true _ _ ▸ hx : _ ∧ _).1)) (cntP_le _ (fun r hr hv => ?_))
    show (vr T r && hbr a b r) = true
    rw [hv, hbr_k hK r hv (al r hr b hb1) a (by omega) hk]
    rfl
/-! all that must be ahead, by masks -/
def stm (tm : Nat → Nat) (m : Nat) : Nat → Nat
  | 0 => m
  | k + 1 => if (stm tm m k).testBit k = true then stm tm m k ||| tm k else stm tm m k
def tnm (tm : Nat → Nat) (m : Nat) : Nat → Nat
  | 0 => m
  | k + 1 => stm tm (tnm tm m k) 6
theorem or_64 : ∀ a b : Fin 64, a.val ||| b.val < 64 := by decide +kernel
theorem stm_l {tm : Nat → Nat} (ht : ∀ k, k < 6 → tm k < 64) {m : Nat} (hm : m < 64) : ∀ k : Nat, k ≤ 6 → stm tm m k < 64
  | 0, _ => hm
  | k + 1, h => by
    have ih := stm_l ht hm k (by omega)
    show (if _ then _ else _ : Nat) < 64
    split
    · exact or_64 ⟨_, ih⟩ ⟨_, ht k (by omega)⟩
    · exact ih
theorem tnm_l {tm : Nat → Nat} (ht : ∀ k, k < 6 → tm k < 64) {m : Nat} (hm : m < 64) : ∀ k : Nat, tnm tm m k < 64
  | 0 => hm
  | k + 1 => stm_l ht (tnm_l ht hm k) 6 (Nat.le_refl _)
theorem stm_m {tm : Nat → Nat} {m i : Nat} (h : m.testBit i = true) : ∀ k : Nat, (stm tm m k).testBit i = true
  | 0 => h
  | k + 1 => by
    have ih := stm_m h (tm := tm) k
    show (if _ then _ else _ : Nat).testBit i = true
    split
    · rw [Nat.testBit_or, ih, Bool.true_or]
    · exact ih
theorem stm_k {tm : Nat → Nat} {m : Nat} : ∀ k : Nat, ∀ i, i < k → (stm tm m i).testBit i = true → ∀ x, (tm i).testBit x = true → (stm tm m k).testBit x = true
  | 0, _, h, _, _, _ => absurd h (Nat.not_lt_zero _)
  | k + 1, i, h, hbr, x, hx => by
    by_cases e : i = k
    · subst e
      show (if (stm tm m i).testBit i = true then stm tm m i ||| tm i else stm tm m i).testBit x = true
      rw [if_pos hbr, Nat.testBit_or, hx, Bool.or_true]
    · have ih := stm_k k i (by omega) hbr x hx
      show (if _ then _ else _ : Nat).testBit x = true
      split
      · rw [Nat.testBit_or, ih, Bool.true_or]
      · exact ih
/-- a turn that adds nobody: closed -/
theorem tn_c {tm : Nat → Nat} {m : Nat} (h : stm tm m 6 = m) : ∀ k x, k < 6 → m.testBit k = true → (tm k).testBit x = true → m.testBit x = true := fun k x hk hm hx => by
  have q := stm_k (tm := tm) (m := m) 6 k hk (stm_m hm k) x hx
  rw [h] at q
  exact q
def pc6 (m : Nat) : Nat := ((List.range 6).filter (fun i => m.testBit i)).length
theorem pc_lt : ∀ a b : Fin 64, (∀ i : Fin 6, a.val.testBit i.val = true → b.val.testBit i.val = true) → ¬ a.val = b.val → pc6 a.val < pc6 b.val := by decide +kernel
theorem pc_6 : ∀ a : Fin 64, pc6 a.val ≤ 6 := by decide +kernel
theorem pc_0 : ∀ a : Fin 64, pc6 a.val = 0 → a.val = 0 := by decide +kernel
theorem stm_0 {tm : Nat → Nat} : ∀ k : Nat, stm tm 0 k = 0
  | 0 => rfl
  | k + 1 => by
    show (if (stm tm 0 k).testBit k = true then stm tm 0 k ||| tm k else stm tm 0 k) = 0
    rw [stm_0 k, if_neg (by rw [Nat.zero_testBit]; decide)]
theorem tn_6 {tm : Nat → Nat} (ht : ∀ k, k < 6 → tm k < 64) {m : Nat} (hm : m < 64) : stm tm (tnm tm m 6) 6 = tnm tm m 6 := by
  have st : ∀ j : Nat, stm tm (tnm tm m j) 6 = tnm tm m j → stm tm (tnm tm m (j + 1)) 6 = tnm tm m (j + 1) := fun j h => by
    have e : tnm tm m (j + 1) = tnm tm m j := h
    rw [e]
    exact h
  have up : ∀ j : Nat, stm tm (tnm tm m j) 6 = tnm tm m j ∨ j + 1 ≤ pc6 (tnm tm m j) := by
    intro j
    induction j with
    | zero =>
      by_cases c : stm tm m 6 = m
      · exact Or.inl c
      · right
        by_cases z : pc6 m = 0
        · exfalso
          apply c
          have e : m = 0 := pc_0 ⟨m, hm⟩ z
          rw [e]
          exact stm_0 6
        · show 0 + 1 ≤ pc6 m
          omega
    | succ j ih =>
      by_cases c : stm tm (tnm tm m j) 6 = tnm tm m j
      · exact Or.inl (st j c)
      · rcases ih with ih | ih
        · exact absurd ih c
        · right
          have lt := pc_lt ⟨tnm tm m j, tnm_l ht hm j⟩ ⟨tnm tm m (j + 1), tnm_l ht hm (j + 1)⟩ (fun i hi => stm_m hi 6) (fun z => c z.symm)
          have lt : pc6 (tnm tm m j) < pc6 (tnm tm m (j + 1)) := lt
          omega
  rcases up 6 with h | h
  · exact h
  · have k := pc_6 ⟨tnm tm m 6, tnm_l ht hm 6⟩
    have k : pc6 (tnm tm m 6) ≤ 6 := k
    omega
theorem stm_s {tm : Nat → Nat} {S : Nat → Bool} (hC : ∀ k x, k < 6 → S k = true → (tm k).testBit x = true → S x = true) {m : Nat} (hm : ∀ x, m.testBit x = true → S x = true) : ∀ k : Nat, k ≤ 6 → ∀ x, (stm tm m k).testBit x = true → S x = true
  | 0, _, x, h => hm x h
  | k + 1, hk, x, h => by
    have ih := stm_s hC hm k (by omega)
    have h : (if (stm tm m k).testBit k = true then stm tm m k ||| tm k else stm tm m k).testBit x = true := h
    by_cases c : (stm tm m k).testBit k = true
    · rw [if_pos c, Nat.testBit_or, Bool.or_eq_true] at h
      rcases h with h | h
      · exact ih x h
      · exact hC k x (by omega) (ih k c) h
    · rw [if_neg c] at h
      exact ih x h
theorem tnm_s {tm : Nat → Nat} {S : Nat → Bool} (hC : ∀ k x, k < 6 → S k = true → (tm k).testBit x = true → S x = true) {m : Nat} (hm : ∀ x, m.testBit x = true → S x = true) : ∀ k : Nat, ∀ x, (tnm tm m k).testBit x = true → S x = true
  | 0 => hm
  | k + 1 => stm_s hC (tnm_s hC hm k) 6 (Nat.le_refl _)
theorem tnm_m {tm : Nat → Nat} {m x : Nat} (h : m.testBit x = true) : ∀ k : Nat, (tnm tm m k).testBit x = true
  | 0 => h
  | k + 1 => stm_m (tnm_m h k) 6
theorem tb_64 : ∀ m : Fin 64, m.val < 2 ^ 6 := by decide +kernel
theorem sur_m {T : Nat → Nat → Bool} {tm : Nat → Nat} (hT : ∀ k x, k < 6 → (tm k).testBit x = T k x) (ht : ∀ k, k < 6 → tm k < 64) {P a b : Nat} (hP : P ≤ 6) (ha : a < P) (hb1 : b < P) (hab : ¬ a = b) (h0 : ¬ (lx P P []).countP (vr T) = 0) : (lx P P []).countP (fun r => vr T r && hbr a b r) = (lx P P []).countP (vr T) ↔ (tnm tm (tm b) 6).testBit a = true := by
  have tb := ht b (by omega)
  have cl := tn_c (tn_6 ht tb)
  refine sur_ (K := fun x => (tnm tm (tm b) 6).testBit x) hP ha hb1 hab (fun x _ t => tnm_m ((hT b x (by omega)).trans t) 6) (fun k x hk _ h t => cl k x hk h ((hT k x hk).trans t)) (fun k h => ?_) (fun S s1 s2 x hx h => ?_) h0
  · by_cases c : k < 6
    · exact c
    · exfalso
      have l := tnm_l ht tb 6
      have h : (tnm tm (tm b) 6).testBit k = true := h
      rw [Nat.testBit_lt_two_pow (Nat.lt_of_lt_of_le l (Nat.pow_le_pow_right (by decide) (show 6 ≤ k by omega) : 2 ^ 6 ≤ 2 ^ k))] at h
      cases h
  · have bd : ∀ k y, k < 6 → (tm k).testBit y = true → y < 6 := fun k y hk h => by
      by_cases c : y < 6
      · exact c
      · exfalso
        rw [Nat.testBit_lt_two_pow (Nat.lt_of_lt_of_le (ht k hk) (Nat.pow_le_pow_right (by decide) (show 6 ≤ y by omega) : 2 ^ 6 ≤ 2 ^ y))] at h
        cases h
    exact tnm_s (S := S) (fun k y hk sk h => s2 k y hk (bd k y hk h) sk ((hT k y hk).symm.trans h)) (fun y h => s1 y (bd b y (by omega) h) ((hT b y (by omega)).symm.trans h)) 6 x h
