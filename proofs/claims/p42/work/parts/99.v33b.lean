/-! -/
/-! orders: by the first and by the last there are as many -/
theorem fm_nd {A : Type} {g : Nat → List A} : ∀ k : Nat, (∀ p, p < k → (g p).Nodup) → (∀ p q x, p < k → q < k → x ∈ g p → x ∈ g q → p = q) → (fm g k).Nodup
  | 0, _, _ => List.nodup_nil
  | k + 1, h1, h2 => by
    show (fm g k ++ g k).Nodup
    refine List.nodup_append.mpr ⟨fm_nd k (fun p hp => h1 p (by omega)) (fun p q x hp hq => h2 p q x (by omega) (by omega)), h1 k (by omega), fun x hx y hy e => ?_⟩
    obtain ⟨p, hp, hx⟩ := (fm_mem k).mp hx
    subst e
    have := h2 p k x (by omega) (by omega) hx hy
    omega
theorem lx_nd {P : Nat} : ∀ (f : Nat) (c : List Nat), (lx P f c).Nodup
  | 0, _ => List.nodup_cons.mpr ⟨List.not_mem_nil, List.nodup_nil⟩
  | f + 1, c => by
    show (fm (fun p => if p ∈ c then [] else lx P f (p :: c)) P).Nodup
    refine fm_nd P (fun p _ => ?_) (fun p q x _ _ h1 h2 => ?_)
    · show (if p ∈ c then [] else lx P f (p :: c)).Nodup
      by_cases e : p ∈ c
      · rw [if_pos e]
        exact List.nodup_nil
      · rw [if_neg e]
        exact lx_nd f (p :: c)
    · have h1 : x ∈ (if p ∈ c then [] else lx P f (p :: c)) := h1
      have h2 : x ∈ (if q ∈ c then [] else lx P f (q :: c)) := h2
      by_cases e1 : p ∈ c
      · rw [if_pos e1] at h1
        exact absurd h1 List.not_mem_nil
      · by_cases e2 : q ∈ c
        · rw [if_pos e2] at h2
          exact absurd h2 List.not_mem_nil
        · rw [if_neg e1] at h1
          rw [if_neg e2] at h2
          obtain ⟨a, ha, la, -, -⟩ := (lx_mem f (p :: c)).mp h1
          obtain ⟨b, hb, lb, -, -⟩ := (lx_mem f (q :: c)).mp h2
          rw [ha] at hb
          have k := (List.append_inj hb (la.trans lb.symm)).2
          exact (List.cons.inj k).1
theorem tb_z : ∀ m : Fin 64, (∀ i : Fin 6, m.val.testBit i.val = false) → m.val = 0 := by decide +kernel
theorem bl_mem2 {P : Nat} (hP : P ≤ 6) : ∀ (f m : Nat), m < 64 → m < f → ∀ c, c ∈ bl P f m ↔ c.Nodup ∧ (∀ x ∈ c, x < P) ∧ ∀ i, i < 6 → (i ∈ c ↔ m.testBit i = true)
  | 0, _, _, h, _ => absurd h (Nat.not_lt_zero _)
  | f + 1, m, hm, hf, c => by
    show c ∈ (if m = 0 then [[]] else fm (fun l => if m.testBit l = true then (bl P f (m - 2 ^ l)).map (fun c => l :: c) else []) P) ↔ _
    by_cases z : m = 0
    · subst z
      rw [if_pos rfl, List.mem_singleton]
      constructor
      · rintro rfl
        exact ⟨List.nodup_nil, fun x h => absurd h List.not_mem_nil, fun i hi => ⟨fun z => absurd z List.not_mem_nil, fun z => by rw [Nat.zero_testBit] at z; cases z⟩⟩
      · rintro ⟨-, h2, h3⟩
        cases c with
        | nil => rfl
        | cons x c =>
          have hx := h2 x List.mem_cons_self
          have k := (h3 x (by omega)).mp List.mem_cons_self
          rw [Nat.zero_testBit] at k
          cases k
    · rw [if_neg z, fm_mem]
      have Q : ∀ l, l < P → m.testBit l = true → m - 2 ^ l < m ∧ ∀ i, i < 6 → (m - 2 ^ l).testBit i = (m.testBit i && !decide (i = l)) := fun l hl b => by
        have q := tb_s ⟨m, hm⟩ ⟨l, by omega⟩ b
        exact ⟨q.1, fun i hi => q.2 ⟨i, hi⟩⟩
      constructor
      · rintro ⟨l, hl, h⟩
        have h : c ∈ (if m.testBit l = true then (bl P f (m - 2 ^ l)).map (fun c => l :: c) else []) := h
        by_cases b : m.testBit l = true
        · rw [if_pos b] at h
          obtain ⟨c1, h1, rfl⟩ := List.mem_map.mp h
          obtain ⟨q1, q2⟩ := Q l hl b
          obtain ⟨n1, n2, n3⟩ := (bl_mem2 hP f (m - 2 ^ l) (by omega) (by omega) c1).mp h1
          have nl : ¬ l ∈ c1 := fun z => by
            have k := (n3 l (by omega)).mp z
            rw [q2 l (by omega), decide_eq_true rfl, Bool.not_true, Bool.and_false] at k
            cases k
          refine ⟨List.nodup_cons.mpr ⟨nl, n1⟩, fun x hx => ?_, fun i hi => ?_⟩
          · rcases List.mem_cons.mp hx with rfl | hx
            · exact hl
            · exact n2 x hx
          · rw [List.mem_cons, n3 i hi, q2 i hi]
            by_cases e : i = l
            · subst e
              rw [b]
              simp
            · rw [decide_eq_false e, Bool.not_false, Bool.and_true]
              exact ⟨fun z => z.elim (fun y => absurd y e) id, Or.inr⟩
        · rw [if_neg b] at h
          exact absurd h List.not_mem_nil
      · rintro ⟨n1, n2, n3⟩
        cases c with
        | nil =>
          exfalso
          apply z
          exact tb_z ⟨m, hm⟩ (fun i => by
            cases x : m.testBit i.val with
            | false => rfl
            | true => exact absurd ((n3 i.val i.isLt).mpr x) List.not_mem_nil)
        | cons l c1 =>
          have hl := n2 l List.mem_cons_self
          have b := (n3 l (by omega)).mp List.mem_cons_self
          refine ⟨l, hl, ?_⟩
          show (l :: c1) ∈ (if m.testBit l = true then (bl P f (m - 2 ^ l)).map (fun c => l :: c) else [])
          rw [if_pos b]
          refine List.mem_map.mpr ⟨c1, ?_, rfl⟩
          have n := List.nodup_cons.mp n1
          obtain ⟨q1, q2⟩ := Q l hl b
          refine (bl_mem2 hP f (m - 2 ^ l) (by omega) (by omega) c1).mpr ⟨n.2, fun x hx => n2 x (List.mem_cons_of_mem _ hx), fun i hi => ?_⟩
          rw [q2 i hi]
          have k := n3 i hi
          by_cases e : i = l
          · subst e
            rw [decide_eq_true rfl, Bool.not_true, Bool.and_false]
            exact ⟨fun z => absurd z n.1, fun z => by cases z⟩
          · rw [decide_eq_false e, Bool.not_false, Bool.and_true, ← k, List.mem_cons]
            exact ⟨Or.inr, fun z => z.elim (fun y => absurd y e) id⟩
theorem nd_map {l : Nat} : ∀ L : List (List Nat), L.Nodup → (L.map (fun c => l :: c)).Nodup
  | [], _ => List.nodup_nil
  | c :: L, h => by
    have n := List.nodup_cons.mp h
    rw [List.map_cons]
    refine List.nodup_cons.mpr ⟨fun z => ?_, nd_map L n.2⟩
    obtain ⟨d, hd, e⟩ := List.mem_map.mp z
    have e : d = c := (List.cons.inj e).2
    exact n.1 (e ▸ hd)
theorem bl_nd {P : Nat} : ∀ (f m : Nat), (bl P f m).Nodup
  | 0, _ => List.nodup_nil
  | f + 1, m => by
    show (if m = 0 then [[]] else fm (fun l => if m.testBit l = true then (bl P f (m - 2 ^ l)).map (fun c => l :: c) else []) P).Nodup
    by_cases z : m = 0
    · rw [if_pos z]
      exact List.nodup_cons.mpr ⟨List.not_mem_nil, List.nodup_nil⟩
    · rw [if_neg z]
      refine fm_nd P (fun l _ => ?_) (fun p q x _ _ h1 h2 => ?_)
      · show (if m.testBit l = true then (bl P f (m - 2 ^ l)).map (fun c => l :: c) else []).Nodup
        by_cases b : m.testBit l = true
        · rw [if_pos b]
          exact nd_map _ (bl_nd f _)
        · rw [if_neg b]
          exact List.nodup_nil
      · have h1 : x ∈ (if m.testBit p = true then (bl P f (m - 2 ^ p)).map (fun c => p :: c) else []) := h1
        have h2 : x ∈ (if m.testBit q = true then (bl P f (m - 2 ^ q)).map (fun c => q :: c) else []) := h2
        by_cases b1 : m.testBit p = true
        · by_cases b2 : m.testBit q = true
          · rw [if_pos b1] at h1
            rw [if_pos b2] at h2
            obtain ⟨c, -, rfl⟩ := List.mem_map.mp h1
            obtain ⟨d, -, e⟩ := List.mem_map.mp h2
            exact (List.cons.inj e).1.symm
          · rw [if_neg b2] at h2
            exact absurd h2 List.not_mem_nil
        · rw [if_neg b1] at h1
          exact absurd h1 List.not_mem_nil
theorem tb_P : ∀ P : Fin 7, ∀ i : Fin 6, (2 ^ P.val - 1).testBit i.val = decide (i.val < P.val) := by decide +kernel
theorem ph_ge : ∀ (P : Nat) (l : List Nat), (∀ i, i < P → i ∈ l) → P ≤ l.length
  | 0, _, _ => Nat.zero_le _
  | P + 1, l, h => by
    have c := h P (by omega)
    have k := ph_ge P (l.erase P) (fun i hi => (List.mem_erase_of_ne (by omega)).mpr (h i (by omega)))
    rw [List.length_erase_of_mem c] at k
    have := List.length_pos_of_mem c
    omega
theorem p2_64 {P : Nat} (hP : P ≤ 6) : 1 ≤ 2 ^ P ∧ 2 ^ P ≤ 64 := by
  rcases (show P = 0 ∨ P = 1 ∨ P = 2 ∨ P = 3 ∨ P = 4 ∨ P = 5 ∨ P = 6 by omega) with rfl | rfl | rfl | rfl | rfl | rfl | rfl <;> decide
/-- in how many rows all comes as told: by rows, by sets -/
theorem lx_cnt {T : Nat → Nat → Bool} {P : Nat} (hP : P ≤ 6) : (lx P P []).countP (vr T) = wy T P 64 (2 ^ P - 1) := by
  have h6 := p2_64 hP
  rw [← bl_cnt hP 64 (2 ^ P - 1) (by omega)]
  refine List.Perm.countP_eq _ ((List.perm_ext_iff_of_nodup (lx_nd P []) (bl_nd 64 (2 ^ P - 1))).mpr (fun r => ?_))
  rw [lx_mem, bl_mem2 hP 64 (2 ^ P - 1) (by omega) (by omega)]
  have tP : ∀ i, i < 6 → (2 ^ P - 1).testBit i = decide (i < P) := fun i hi => tb_P ⟨P, by omega⟩ ⟨i, hi⟩
  constructor
  · rintro ⟨a, rfl, a1, a2, a3⟩
    rw [List.append_nil]
    refine ⟨a2, fun x hx => (a3 x hx).1, fun i hi => ?_⟩
    rw [tP i hi, decide_eq_true_iff]
    exact ⟨fun z => (a3 i z).1, fun z => ph_all a2 (fun y hy => (a3 y hy).1) a1 z⟩
  · rintro ⟨n1, n2, n3⟩
    refine ⟨r, (List.append_nil r).symm, ?_, n1, fun x hx => ⟨n2 x hx, List.not_mem_nil⟩⟩
    have up := ph_ P r n1 n2
    have lo := ph_ge P r (fun i hi => (n3 i (by omega)).mpr (by rw [tP i (by omega), decide_eq_true_iff]; exact hi))
    omega
