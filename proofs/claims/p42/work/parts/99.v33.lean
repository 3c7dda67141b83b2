/-! -/
/-! orders with what is told: rows by the first, rows by the last, the first of all -/
def sb6 (T S : Nat → Bool) : Bool := (List.range 6).all fun i => !T i || S i
theorem sb6_i {T S : Nat → Bool} : sb6 T S = true ↔ ∀ i, i < 6 → T i = true → S i = true := by
  unfold sb6
  rw [List.all_eq_true]
  constructor
  · intro h i hi t
    have q := h i (List.mem_range.mpr hi)
    rw [t] at q
    exact q
  · intro h i hi
    have q := h i (List.mem_range.mp hi)
    cases t : T i with
    | false => rfl
    | true => rw [q t]; rfl
def mem_ (c : List Nat) : Nat → Bool := fun i => decide (i ∈ c)
theorem mem_i {c : List Nat} {i : Nat} : mem_ c i = true ↔ i ∈ c := decide_eq_true_iff
/-- a row, the last one first: all told to be ahead of one are ahead -/
def vr (T : Nat → Nat → Bool) : List Nat → Bool
  | [] => true
  | l :: c => sb6 (T l) (mem_ c) && vr T c
theorem vr_c {T : Nat → Nat → Bool} {l : Nat} {c : List Nat} : vr T (l :: c) = true ↔ (∀ i, i < 6 → T l i = true → i ∈ c) ∧ vr T c = true := by
  show (sb6 (T l) (mem_ c) && vr T c) = true ↔ _
  rw [Bool.and_eq_true, sb6_i]
  exact ⟨fun h => ⟨fun i a b => mem_i.mp (h.1 i a b), h.2⟩, fun h => ⟨fun i a b => mem_i.mpr (h.1 i a b), h.2⟩⟩
theorem vr_app {T : Nat → Nat → Bool} {c : List Nat} : ∀ a : List Nat, vr T (a ++ c) = true → vr T c = true
  | [], h => h
  | _ :: a, h => vr_app a (vr_c.mp h).2
/-- one that is free may come at once -/
theorem vr_ex {T : Nat → Nat → Bool} {p : Nat} {c : List Nat} (hp : ∀ i, i < 6 → T p i = true → i ∈ c) : ∀ a : List Nat, a.Nodup → vr T (a ++ c) = true → vr T (a.erase p ++ p :: c) = true
  | [], _, h => vr_c.mpr ⟨hp, h⟩
  | x :: a, hn, h => by
    have hn2 := List.nodup_cons.mp hn
    obtain ⟨h1, h2⟩ := vr_c.mp h
    have ih := vr_ex hp a hn2.2 h2
    by_cases e : x = p
    · subst e
      rw [List.erase_cons_head]
      rw [List.erase_of_not_mem hn2.1] at ih
      exact ih
    · rw [List.erase_cons_tail (by simpa using e)]
      refine vr_c.mpr ⟨fun i a1 b1 => ?_, ih⟩
      have k := h1 i a1 b1
      rcases List.mem_append.mp k with k | k
      · by_cases ei : i = p
        · subst ei
          exact List.mem_append.mpr (Or.inr List.mem_cons_self)
        · exact List.mem_append.mpr (Or.inl ((List.mem_erase_of_ne ei).mpr k))
      · exact List.mem_append.mpr (Or.inr (List.mem_cons_of_mem _ k))
/-- as many as there are places: all are there -/
theorem ph_ : ∀ (P : Nat) (l : List Nat), l.Nodup → (∀ y ∈ l, y < P) → l.length ≤ P
  | 0, [], _, _ => Nat.le_refl _
  | 0, y :: _, _, h => absurd (h y List.mem_cons_self) (Nat.not_lt_zero _)
  | P + 1, l, hn, h => by
    by_cases c : P ∈ l
    · have k := ph_ P (l.erase P) (hn.erase P) (fun y hy => by
        have q := (hn.mem_erase_iff).mp hy
        have := h y q.2
        have := q.1
        omega)
      rw [List.length_erase_of_mem c] at k
      omega
    · have k := ph_ P l hn (fun y hy => by
        have q := h y hy
        have : ¬ y = P := fun z => c (z ▸ hy)
        omega)
      omega
theorem ph_all {P : Nat} {l : List Nat} (hn : l.Nodup) (h : ∀ y ∈ l, y < P) (hl : l.length = P) {x : Nat} (hx : x < P) : x ∈ l := by
  by_cases c : x ∈ l
  · exact c
  · have k := ph_ P (x :: l) (List.nodup_cons.mpr ⟨c, hn⟩) (fun y hy => by
      rcases List.mem_cons.mp hy with rfl | hy
      · exact hx
      · exact h y hy)
    have k : l.length + 1 ≤ P := k
    omega
def fm {A : Type} (g : Nat → List A) : Nat → List A
  | 0 => []
  | k + 1 => fm g k ++ g k
theorem fm_mem {A : Type} {g : Nat → List A} {r : A} : ∀ k : Nat, r ∈ fm g k ↔ ∃ p, p < k ∧ r ∈ g p
  | 0 => ⟨fun h => absurd h List.not_mem_nil, fun ⟨_, h, _⟩ => absurd h (Nat.not_lt_zero _)⟩
  | k + 1 => by
    show r ∈ fm g k ++ g k ↔ _
    rw [List.mem_append, fm_mem k]
    constructor
    · rintro (⟨p, a, b⟩ | h)
      · exact ⟨p, by omega, b⟩
      · exact ⟨k, by omega, h⟩
    · rintro ⟨p, a, b⟩
      by_cases c : p = k
      · subst c
        exact Or.inr b
      · exact Or.inl ⟨p, by omega, b⟩
/-- all rows that go on from c, by the first that comes -/
def lx (P : Nat) : Nat → List Nat → List (List Nat)
  | 0, c => [c]
  | f + 1, c => fm (fun p => if p ∈ c then [] else lx P f (p :: c)) P
theorem lx_mem {P : Nat} {r : List Nat} : ∀ (f : Nat) (c : List Nat), r ∈ lx P f c ↔ ∃ a : List Nat, r = a ++ c ∧ a.length = f ∧ a.Nodup ∧ ∀ x ∈ a, x < P ∧ ¬ x ∈ c
  | 0, c => by
    show r ∈ [c] ↔ _
    rw [List.mem_singleton]
    constructor
    · rintro rfl
      exact ⟨[], rfl, rfl, List.nodup_nil, fun x h => absurd h List.not_mem_nil⟩
    · rintro ⟨a, rfl, h, -, -⟩
      rw [List.length_eq_zero_iff.mp h]
      rfl
  | f + 1, c => by
    show r ∈ fm (fun p => if p ∈ c then [] else lx P f (p :: c)) P ↔ _
    rw [fm_mem]
    constructor
    · rintro ⟨p, hp, h⟩
      by_cases e : p ∈ c
      · rw [if_pos e] at h
        exact absurd h List.not_mem_nil
      · rw [if_neg e] at h
        obtain ⟨a, rfl, h1, h2, h3⟩ := (lx_mem f (p :: c)).mp h
        refine ⟨a ++ [p], by rw [List.append_assoc]; rfl, by rw [List.length_append, h1]; rfl, ?_, fun x hx => ?_⟩
        · refine List.nodup_append.mpr ⟨h2, List.nodup_cons.mpr ⟨List.not_mem_nil, List.nodup_nil⟩, fun x hx y hy => ?_⟩
          rw [List.mem_singleton.mp hy]
          exact fun z => (h3 x hx).2 (z ▸ List.mem_cons_self)
        · rcases List.mem_append.mp hx with hx | hx
          · exact ⟨(h3 x hx).1, fun z => (h3 x hx).2 (List.mem_cons_of_mem _ z)⟩
          · rw [List.mem_singleton.mp hx]
            exact ⟨hp, e⟩
    · rintro ⟨a, rfl, h1, h2, h3⟩
      have hne : a ≠ [] := fun z => by
        rw [z] at h1
        cases h1
      have ea : a.dropLast ++ [a.getLast hne] = a := List.dropLast_concat_getLast hne
      obtain ⟨b, hb⟩ : ∃ b, a.dropLast = b := ⟨_, rfl⟩
      obtain ⟨p, hp⟩ : ∃ p, a.getLast hne = p := ⟨_, rfl⟩
      rw [hb, hp] at ea
      clear hb hp
      subst ea
      have hp3 := h3 p (List.mem_append.mpr (Or.inr List.mem_cons_self))
      obtain ⟨n1, -, n3⟩ := List.nodup_append.mp h2
      refine ⟨p, hp3.1, ?_⟩
      rw [if_neg hp3.2]
      refine (lx_mem f (p :: c)).mpr ⟨b, by rw [List.append_assoc]; rfl, ?_, n1, fun x hx => ?_⟩
      · rw [List.length_append] at h1
        have h1 : b.length + 1 = f + 1 := h1
        omega
      · have k := h3 x (List.mem_append.mpr (Or.inl hx))
        refine ⟨k.1, fun z => ?_⟩
        rcases List.mem_cons.mp z with z | z
        · exact n3 x hx p List.mem_cons_self z
        · exact k.2 z
/-- who is free after c; the least of them below k -/
def fre (T : Nat → Nat → Bool) (c : List Nat) (p : Nat) : Bool := !mem_ c p && sb6 (T p) (mem_ c)
theorem fre_i {T : Nat → Nat → Bool} {c : List Nat} {p : Nat} : fre T c p = true ↔ ¬ p ∈ c ∧ ∀ i, i < 6 → T p i = true → i ∈ c := by
  unfold fre
  rw [Bool.and_eq_true, sb6_i]
  constructor
  · rintro ⟨a, b⟩
    refine ⟨fun z => ?_, fun i h1 h2 => mem_i.mp (b i h1 h2)⟩
    rw [mem_i.mpr z] at a
    cases a
  · rintro ⟨a, b⟩
    refine ⟨?_, fun i h1 h2 => mem_i.mpr (b i h1 h2)⟩
    cases z : mem_ c p with
    | false => rfl
    | true => exact absurd (mem_i.mp z) a
def lo_ (T : Nat → Nat → Bool) (c : List Nat) : Nat → Option Nat
  | 0 => none
  | k + 1 => match lo_ T c k with
    | some p => some p
    | none => if fre T c k = true then some k else none
theorem lo_v {T : Nat → Nat → Bool} {c : List Nat} : ∀ k : Nat, (∀ p, lo_ T c k = some p → p < k ∧ fre T c p = true ∧ ∀ i, i < p → fre T c i = false) ∧ (lo_ T c k = none → ∀ i, i < k → fre T c i = false)
  | 0 => ⟨fun p h => (by cases h), fun _ i h => absurd h (Nat.not_lt_zero _)⟩
  | k + 1 => by
    obtain ⟨h1, h2⟩ := lo_v (T := T) (c := c) k
    have e : lo_ T c (k + 1) = match lo_ T c k with
      | some p => some p
      | none => if fre T c k = true then some k else none := rfl
    rw [e]
    cases h : lo_ T c k with
    | some p =>
      have q := h1 p h
      exact ⟨fun p' hp => by cases hp; exact ⟨by omega, q.2⟩, fun z => by cases z⟩
    | none =>
      have q := h2 h
      show (∀ p, (if fre T c k = true then some k else none) = some p → _) ∧ ((if fre T c k = true then some k else none) = none → _)
      by_cases f : fre T c k = true
      · rw [if_pos f]
        exact ⟨fun p' hp => by cases hp; exact ⟨by omega, f, q⟩, fun z => by cases z⟩
      · rw [if_neg f]
        refine ⟨fun p' hp => (by cases hp), fun _ i hi => ?_⟩
        by_cases e : i = k
        · subst e
          exact Bool.eq_false_iff.mpr f
        · exact q i (by omega)
theorem fm_find {T : Nat → Nat → Bool} {c : List Nat} {g : Nat → List (List Nat)} {v : List Nat → Bool} {h : Nat → List Nat} (h0 : ∀ x, fre T c x = false → (g x).find? v = none) : ∀ k : Nat, (∀ x, x < k → fre T c x = true → (g x).find? v = some (h x)) → (fm g k).find? v = (lo_ T c k).map h
  | 0, _ => rfl
  | k + 1, h1 => by
    have ih := fm_find h0 k (fun x hx => h1 x (by omega))
    show (fm g k ++ g k).find? v = _
    rw [List.find?_append, ih]
    have e : lo_ T c (k + 1) = match lo_ T c k with
      | some p => some p
      | none => if fre T c k = true then some k else none := rfl
    rw [e]
    cases hl : lo_ T c k with
    | some p => rfl
    | none =>
      show (g k).find? v = Option.map h (if fre T c k = true then some k else none)
      by_cases f : fre T c k = true
      · rw [if_pos f]
        exact h1 k (by omega) f
      · rw [if_neg f]
        exact h0 k (Bool.eq_false_iff.mpr f)
/-- always the least that is free -/
def gr (T : Nat → Nat → Bool) (P : Nat) : Nat → List Nat → List Nat
  | 0, c => c
  | f + 1, c => gr T P f ((lo_ T c P).getD 0 :: c)
theorem lx_first {T : Nat → Nat → Bool} {P : Nat} (hP : P ≤ 6) : ∀ (f : Nat) (c : List Nat), c.Nodup → (∀ x ∈ c, x < P) → f + c.length = P → (∃ r, r ∈ lx P f c ∧ vr T r = true) → (lx P f c).find? (vr T) = some (gr T P f c)
  | 0, c, _, _, _, ⟨r, h1, h2⟩ => by
    rw [List.mem_singleton.mp h1] at h2
    show List.find? (vr T) [c] = some c
    rw [List.find?_cons_of_pos h2]
  | f + 1, c, hn, hc, hl, ⟨r, h1, h2⟩ => by
    obtain ⟨a, rfl, a1, a2, a3⟩ := (lx_mem (f + 1) c).mp h1
    have nac : (a ++ c).Nodup := List.nodup_append.mpr ⟨a2, hn, fun x hx y hy z => (a3 x hx).2 (z ▸ hy)⟩
    have lac : (a ++ c).length = P := by rw [List.length_append, a1]; omega
    have mac : ∀ y ∈ a ++ c, y < P := fun y hy => by
      rcases List.mem_append.mp hy with hy | hy
      · exact (a3 y hy).1
      · exact hc y hy
    -- whoever is free may come now
    have fx : ∀ x, x < P → fre T c x = true → (lx P f (x :: c)).find? (vr T) = some (gr T P f (x :: c)) := fun x hx hf => by
      obtain ⟨f1, f2⟩ := fre_i.mp hf
      have xa : x ∈ a := by
        rcases List.mem_append.mp (ph_all nac mac lac hx) with k | k
        · exact k
        · exact absurd k f1
      refine lx_first hP f (x :: c) (List.nodup_cons.mpr ⟨f1, hn⟩) (fun y hy => ?_) (by show f + (c.length + 1) = P; omega) ⟨a.erase x ++ x :: c, ?_, vr_ex f2 a a2 h2⟩
      · rcases List.mem_cons.mp hy with rfl | hy
        · exact hx
        · exact hc y hy
      · refine (lx_mem f (x :: c)).mpr ⟨a.erase x, rfl, by rw [List.length_erase_of_mem xa, a1]; omega, a2.erase x, fun y hy => ?_⟩
        have q := (a2.mem_erase_iff).mp hy
        refine ⟨(a3 y q.2).1, fun z => ?_⟩
        rcases List.mem_cons.mp z with z | z
        · exact q.1 z
        · exact (a3 y q.2).2 z
    have gx : ∀ x, fre T c x = false → (if x ∈ c then ([] : List (List Nat)) else lx P f (x :: c)).find? (vr T) = none := fun x hf => by
      by_cases e : x ∈ c
      · rw [if_pos e]
        rfl
      · rw [if_neg e]
        refine List.find?_eq_none.mpr (fun r hr hv => ?_)
        obtain ⟨b, rfl, -, -, -⟩ := (lx_mem f (x :: c)).mp hr
        have v := vr_c.mp (vr_app b hv)
        have k := fre_i.mpr ⟨e, v.1⟩
        rw [hf] at k
        cases k
    have key := fm_find (g := fun p => if p ∈ c then [] else lx P f (p :: c)) (v := vr T) (h := fun p => gr T P f (p :: c)) gx P (fun x hx hf => by
      show (if x ∈ c then ([] : List (List Nat)) else lx P f (x :: c)).find? (vr T) = _
      rw [if_neg (fre_i.mp hf).1]
      exact fx x hx hf)
    show (fm (fun p => if p ∈ c then [] else lx P f (p :: c)) P).find? (vr T) = some (gr T P f ((lo_ T c P).getD 0 :: c))
    rw [key]
    cases hlo : lo_ T c P with
    | some p => rfl
    | none =>
      exfalso
      have q := (lo_v (T := T) (c := c) P).2 hlo
      have hne : a ≠ [] := fun z => by
        rw [z] at a1
        cases a1
      have ea : a.dropLast ++ [a.getLast hne] = a := List.dropLast_concat_getLast hne
      have hpm : a.getLast hne ∈ a := List.getLast_mem hne
      have hp3 := a3 _ hpm
      have v : vr T (a.getLast hne :: c) = true := by
        refine vr_app a.dropLast ?_
        have e2 : a.dropLast ++ a.getLast hne :: c = a ++ c := by
          rw [show a.getLast hne :: c = [a.getLast hne] ++ c from rfl, ← List.append_assoc, ea]
        rw [e2]
        exact h2
      have k := fre_i.mpr ⟨hp3.2, (vr_c.mp v).1⟩
      rw [q _ hp3.1] at k
      cases k
/-! by the last -/
def sm_ (g : Nat → Nat) : Nat → Nat
  | 0 => 0
  | k + 1 => sm_ g k + g k
theorem sm_c {g g1 : Nat → Nat} : ∀ k : Nat, (∀ i, i < k → g i = g1 i) → sm_ g k = sm_ g1 k
  | 0, _ => rfl
  | k + 1, h => by
    show sm_ g k + g k = sm_ g1 k + g1 k
    rw [sm_c k (fun i hi => h i (by omega)), h k (by omega)]
theorem fm_cnt {A : Type} {g : Nat → List A} {v : A → Bool} : ∀ k : Nat, (fm g k).countP v = sm_ (fun l => (g l).countP v) k
  | 0 => rfl
  | k + 1 => by
    show (fm g k ++ g k).countP v = _ + _
    rw [List.countP_append, fm_cnt k]
def bl (P : Nat) : Nat → Nat → List (List Nat)
  | 0, _ => []
  | f + 1, m => if m = 0 then [[]] else fm (fun l => if m.testBit l = true then (bl P f (m - 2 ^ l)).map (fun c => l :: c) else []) P
def wy (T : Nat → Nat → Bool) (P : Nat) : Nat → Nat → Nat
  | 0, _ => 0
  | f + 1, m => if m = 0 then 1 else sm_ (fun l => if m.testBit l = true ∧ sb6 (T l) (fun i => (m - 2 ^ l).testBit i) = true then wy T P f (m - 2 ^ l) else 0) P
theorem tb_s : ∀ m : Fin 64, ∀ l : Fin 6, m.val.testBit l.val = true → m.val - 2 ^ l.val < m.val ∧ ∀ i : Fin 6, (m.val - 2 ^ l.val).testBit i.val = (m.val.testBit i.val && !decide (i.val = l.val)) := by decide +kernel
theorem tb_0 : ∀ i : Fin 6, (0 : Nat).testBit i.val = false := by decide +kernel
theorem bl_mem {P : Nat} (hP : P ≤ 6) : ∀ (f m : Nat), m < 64 → ∀ c ∈ bl P f m, ∀ i, i < 6 → (i ∈ c ↔ m.testBit i = true)
  | 0, _, _, c, h, _, _ => absurd h List.not_mem_nil
  | f + 1, m, hm, c, h, i, hi => by
    have h : c ∈ (if m = 0 then [[]] else fm (fun l => if m.testBit l = true then (bl P f (m - 2 ^ l)).map (fun c => l :: c) else []) P) := h
    by_cases z : m = 0
    · subst z
      rw [if_pos rfl] at h
      rw [List.mem_singleton.mp h]
      have k := tb_0 ⟨i, hi⟩
      have k : (0 : Nat).testBit i = false := k
      rw [k]
      exact ⟨fun z => absurd z List.not_mem_nil, fun z => by cases z⟩
    · rw [if_neg z] at h
      obtain ⟨l, hl, h⟩ := (fm_mem P).mp h
      by_cases b : m.testBit l = true
      · rw [if_pos b] at h
        obtain ⟨c1, h1, rfl⟩ := List.mem_map.mp h
        have q := tb_s ⟨m, hm⟩ ⟨l, by omega⟩ b
        have q1 : m - 2 ^ l < m := q.1
        have q2 : (m - 2 ^ l).testBit i = (m.testBit i && !decide (i = l)) := q.2 ⟨i, hi⟩
        have ih := bl_mem hP f (m - 2 ^ l) (by omega) c1 h1 i hi
        rw [List.mem_cons, ih, q2]
        by_cases e : i = l
        · subst e
          rw [b]
          simp
        · rw [decide_eq_false e, Bool.not_false, Bool.and_true]
          exact ⟨fun z => z.elim (fun y => absurd y e) id, Or.inr⟩
      · rw [if_neg b] at h
        exact absurd h List.not_mem_nil
theorem cnt_map {T : Nat → Nat → Bool} {l : Nat} : ∀ L : List (List Nat), (∀ c ∈ L, sb6 (T l) (mem_ c) = true) → (L.map (fun c => l :: c)).countP (vr T) = L.countP (vr T)
  | [], _ => rfl
  | c :: L, h => by
    have e : vr T (l :: c) = vr T c := by
      show (sb6 (T l) (mem_ c) && vr T c) = vr T c
      rw [h c List.mem_cons_self, Bool.true_and]
    rw [List.map_cons, List.countP_cons, List.countP_cons, cnt_map L (fun x hx => h x (List.mem_cons_of_mem _ hx)), e]
theorem cnt_map0 {T : Nat → Nat → Bool} {l : Nat} : ∀ L : List (List Nat), (∀ c ∈ L, sb6 (T l) (mem_ c) = false) → (L.map (fun c => l :: c)).countP (vr T) = 0
  | [], _ => rfl
  | c :: L, h => by
    have e : vr T (l :: c) = false := by
      show (sb6 (T l) (mem_ c) && vr T c) = false
      rw [h c List.mem_cons_self, Bool.false_and]
    rw [List.map_cons, List.countP_cons, cnt_map0 L (fun x hx => h x (List.mem_cons_of_mem _ hx)), e]
    rfl
theorem sb6_c {T S S1 : Nat → Bool} (h : ∀ i, i < 6 → S i = S1 i) : sb6 T S = sb6 T S1 := by
  have a : sb6 T S = true ↔ sb6 T S1 = true := by
    rw [sb6_i, sb6_i]
    exact ⟨fun z i hi t => (h i hi).symm.trans (z i hi t), fun z i hi t => (h i hi).trans (z i hi t)⟩
  cases x : sb6 T S with
  | true => exact (a.mp x).symm
  | false =>
    cases y : sb6 T S1 with
    | false => rfl
    | true =>
      rw [a.mpr y] at x
      cases x
theorem bl_cnt {T : Nat → Nat → Bool} {P : Nat} (hP : P ≤ 6) : ∀ (f m : Nat), m < 64 → (bl P f m).countP (vr T) = wy T P f m
  | 0, _, _ => rfl
  | f + 1, m, hm => by
    show (if m = 0 then [[]] else fm (fun l => if m.testBit l = true then (bl P f (m - 2 ^ l)).map (fun c => l :: c) else []) P).countP (vr T) = (if m = 0 then 1 else sm_ (fun l => if m.testBit l = true ∧ sb6 (T l) (fun i => (m - 2 ^ l).testBit i) = true then wy T P f (m - 2 ^ l) else 0) P)
    by_cases z : m = 0
    · rw [if_pos z, if_pos z]
      rfl
    · rw [if_neg z, if_neg z, fm_cnt]
      refine sm_c P (fun l hl => ?_)
      by_cases b : m.testBit l = true
      · have q1 : m - 2 ^ l < m := (tb_s ⟨m, hm⟩ ⟨l, by omega⟩ b).1
        have s : ∀ c ∈ bl P f (m - 2 ^ l), sb6 (T l) (mem_ c) = sb6 (T l) (fun i => (m - 2 ^ l).testBit i) := fun c hc => sb6_c (fun i hi => by
          have k := bl_mem hP f (m - 2 ^ l) (by omega) c hc i hi
          cases x : (m - 2 ^ l).testBit i with
          | true => exact mem_i.mpr (k.mpr x)
          | false =>
            cases y : mem_ c i with
            | false => rfl
            | true =>
              rw [k.mp (mem_i.mp y)] at x
              cases x)
        show ((if m.testBit l = true then (bl P f (m - 2 ^ l)).map (fun c => l :: c) else []) : List (List Nat)).countP (vr T) = _
        rw [if_pos b]
        by_cases t : sb6 (T l) (fun i => (m - 2 ^ l).testBit i) = true
        · rw [if_pos ⟨b, t⟩, cnt_map _ (fun c hc => (s c hc).trans t)]
          exact bl_cnt hP f (m - 2 ^ l) (by omega)
        · rw [if_neg (fun x => t x.2), cnt_map0 _ (fun c hc => (s c hc).trans (Bool.eq_false_iff.mpr t))]
      · show ((if m.testBit l = true then (bl P f (m - 2 ^ l)).map (fun c => l :: c) else []) : List (List Nat)).countP (vr T) = _
        rw [if_neg b, if_neg (fun x => b x.1)]
        rfl
theorem wy_f {T : Nat → Nat → Bool} {P : Nat} (hP : P ≤ 6) : ∀ (f f1 m : Nat), m < 64 → m < f → m < f1 → wy T P f m = wy T P f1 m
  | 0, _, _, _, h, _ => absurd h (Nat.not_lt_zero _)
  | _ + 1, 0, _, _, _, h => absurd h (Nat.not_lt_zero _)
  | f + 1, f1 + 1, m, hm, h, h1 => by
    show (if m = 0 then 1 else sm_ (fun l => if m.testBit l = true ∧ sb6 (T l) (fun i => (m - 2 ^ l).testBit i) = true then wy T P f (m - 2 ^ l) else 0) P) = (if m = 0 then 1 else sm_ (fun l => if m.testBit l = true ∧ sb6 (T l) (fun i => (m - 2 ^ l).testBit i) = true then wy T P f1 (m - 2 ^ l) else 0) P)
    by_cases z : m = 0
    · rw [if_pos z, if_pos z]
    · rw [if_neg z, if_neg z]
      refine sm_c P (fun l hl => ?_)
      (try dsimp only)
      by_cases t : m.testBit l = true ∧ sb6 (T l) (fun i => (m - 2 ^ l).testBit i) = true
      · have q1 : m - 2 ^ l < m := (tb_s ⟨m, hm⟩ ⟨l, by omega⟩ t.1).1
        rw [if_pos t, if_pos t]
        exact wy_f hP f f1 (m - 2 ^ l) (by omega) (by omega) (by omega)
      · rw [if_neg t, if_neg t]
