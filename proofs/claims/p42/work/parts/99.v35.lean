/-! -/
/-! the reference's rows as lists: who is where in them, what is told; masks -/
def rqL (P : Nat) : Nat → List Int → List (List Int)
  | 0, _ => []
  | n + 1, q => q :: match nr P q with
    | none => []
    | some q' => rqL P n q'
def q05 : List Int := [0, 1, 2, 3, 4, 5]
def wx_ : List Nat → Nat → Nat
  | [], _ => 0
  | x :: t, a => if x = a then 0 else wx_ t a + 1
def rN_ (q : List Int) : List Nat := q.map Int.toNat
def rvs (P : Nat) (q : List Int) : List Nat := ((rN_ q).take P).reverse
set_option maxRecDepth 100000 in
theorem rq_lx : ∀ P : Fin 7, (rqL P.val 720 q05).map (rvs P.val) = lx P.val P.val [] := by decide +kernel
set_option maxRecDepth 100000 in
theorem rq_nn : ∀ P : Fin 7, ((rqL P.val 720 q05).all fun q => q.all fun x => decide (0 ≤ x)) = true := by decide +kernel
theorem wx_t {a : Nat} : ∀ (t d : List Nat), a ∈ t → wx_ (t ++ d) a = wx_ t a
  | [], _, h => absurd h List.not_mem_nil
  | x :: t, d, h => by
    show (if x = a then 0 else wx_ (t ++ d) a + 1) = (if x = a then 0 else wx_ t a + 1)
    by_cases e : x = a
    · rw [if_pos e, if_pos e]
    · rw [if_neg e, if_neg e]
      rcases List.mem_cons.mp h with h | h
      · exact absurd h.symm e
      · rw [wx_t t d h]
theorem wx_i {a b : Nat} : ∀ t : List Nat, a ∈ t → wx_ t a = wx_ t b → a = b
  | [], h, _ => absurd h List.not_mem_nil
  | x :: t, h, e => by
    have e : (if x = a then 0 else wx_ t a + 1) = (if x = b then 0 else wx_ t b + 1) := e
    by_cases c : x = a
    · rw [if_pos c] at e
      by_cases c2 : x = b
      · exact c.symm.trans c2
      · rw [if_neg c2] at e
        omega
    · rw [if_neg c] at e
      by_cases c2 : x = b
      · rw [if_pos c2] at e
        omega
      · rw [if_neg c2] at e
        rcases List.mem_cons.mp h with h | h
        · exact absurd h.symm c
        · exact wx_i t h (by omega)
theorem wx_at {a : Nat} : ∀ (t : List Nat) (y : Nat), t[y]? = some a → (∀ j, j < y → ¬ t[j]? = some a) → wx_ t a = y
  | [], _, h, _ => by cases h
  | x :: t, 0, h, _ => by
    have h : some x = some a := h
    show (if x = a then 0 else wx_ t a + 1) = 0
    exact if_pos (Option.some.inj h)
  | x :: t, y + 1, h, hn => by
    have h : t[y]? = some a := h
    have c : ¬ x = a := fun z => hn 0 (by omega) (by show some x = some a; rw [z])
    show (if x = a then 0 else wx_ t a + 1) = y + 1
    rw [if_neg c, wx_at t y h (fun j hj => hn (j + 1) (by omega))]
theorem hb_1 {a b : Nat} : ∀ (c d : List Nat), ¬ b ∈ c → hbr a b (c ++ d) = hbr a b d
  | [], _, _ => rfl
  | x :: c, d, h => by
    show hbr a b (x :: (c ++ d)) = _
    rw [hbr_t (fun (z : x = b) => h (by rw [z]; exact List.mem_cons_self)), hb_1 c d (fun z => h (List.mem_cons_of_mem _ z))]
theorem hb_2 {a b : Nat} : ∀ (c d : List Nat), b ∈ c → (hbr a b (c ++ d) = true ↔ hbr a b c = true ∨ a ∈ d)
  | [], _, h => absurd h List.not_mem_nil
  | x :: c, d, h => by
    show hbr a b (x :: (c ++ d)) = true ↔ _
    by_cases e : x = b
    · subst e
      rw [hbr_h, hbr_h, mem_i, mem_i, List.mem_append]
    · rw [hbr_t e, hbr_t e]
      rcases List.mem_cons.mp h with h | h
      · exact absurd h.symm e
      · exact hb_2 c d h
theorem hb_wx {a b : Nat} : ∀ t : List Nat, t.Nodup → b ∈ t → a ∈ t → (hbr a b t.reverse = true ↔ wx_ t a < wx_ t b)
  | [], _, h, _ => absurd h List.not_mem_nil
  | x :: t, hn, hb, ha => by
    have n := List.nodup_cons.mp hn
    rw [List.reverse_cons]
    show _ ↔ (if x = a then 0 else wx_ t a + 1) < (if x = b then 0 else wx_ t b + 1)
    by_cases e : x = b
    · subst e
      rw [hb_1 _ _ (fun z => n.1 (List.mem_reverse.mp z)), hbr_h, if_pos rfl, mem_i]
      exact ⟨fun z => absurd z List.not_mem_nil, fun z => absurd z (Nat.not_lt_zero _)⟩
    · have hb : b ∈ t := by
        rcases List.mem_cons.mp hb with h | h
        · exact absurd h.symm e
        · exact h
      rw [hb_2 _ _ (List.mem_reverse.mpr hb), List.mem_singleton, if_neg e]
      by_cases c : x = a
      · rw [if_pos c]
        exact ⟨fun _ => by omega, fun _ => Or.inr c.symm⟩
      · rw [if_neg c]
        have ha : a ∈ t := by
          rcases List.mem_cons.mp ha with h | h
          · exact absurd h.symm c
          · exact h
        rw [hb_wx t n.2 hb ha]
        exact ⟨fun z => z.elim (fun y => by omega) (fun y => absurd y.symm c), fun z => Or.inl (by omega)⟩
/-- told: x ahead of y -/
def tT (n : Nat) (o e : Nat → Nat) (y x : Nat) : Bool := (List.range n).any fun k => decide (e k = y) && decide (o k = x)
theorem tT_i {n : Nat} {o e : Nat → Nat} {y x : Nat} : tT n o e y x = true ↔ ∃ k, k < n ∧ e k = y ∧ o k = x := by
  unfold tT
  rw [List.any_eq_true]
  constructor
  · rintro ⟨k, hk, h⟩
    rw [Bool.and_eq_true, decide_eq_true_iff, decide_eq_true_iff] at h
    exact ⟨k, List.mem_range.mp hk, h⟩
  · rintro ⟨k, hk, h⟩
    refine ⟨k, List.mem_range.mpr hk, ?_⟩
    rw [Bool.and_eq_true, decide_eq_true_iff, decide_eq_true_iff]
    exact h
/-- a row is as told -/
def asT (n : Nat) (o e : Nat → Nat) (q : List Int) : Bool := (List.range n).all fun k => decide (wx_ (rN_ q) (o k) ≤ wx_ (rN_ q) (e k))
theorem asT_i {n : Nat} {o e : Nat → Nat} {q : List Int} : asT n o e q = true ↔ ∀ k, k < n → wx_ (rN_ q) (o k) ≤ wx_ (rN_ q) (e k) := by
  unfold asT
  rw [List.all_eq_true]
  exact ⟨fun h k hk => of_decide_eq_true (h k (List.mem_range.mpr hk)), fun h k hk => decide_eq_true (h k (List.mem_range.mp hk))⟩
theorem rv_t {P : Nat} {q : List Int} (hq : rvs P q ∈ lx P P []) : ((rN_ q).take P).Nodup ∧ (∀ x, x < P → x ∈ (rN_ q).take P) ∧ (∀ x ∈ (rN_ q).take P, x < P) ∧ ∀ x, x < P → wx_ (rN_ q) x = wx_ ((rN_ q).take P) x := by
  obtain ⟨a, ea, a1, a2, a3⟩ := (lx_mem P []).mp hq
  rw [List.append_nil] at ea
  have et : (rN_ q).take P = a.reverse := List.reverse_eq_iff.mp ea
  have m : ∀ x, x < P → x ∈ (rN_ q).take P := fun x hx => by
    rw [et]
    exact List.mem_reverse.mpr (ph_all a2 (fun y hy => (a3 y hy).1) a1 hx)
  refine ⟨?_, m, fun x hx => ?_, fun x hx => ?_⟩
  · rw [et]
    exact List.pairwise_reverse.mpr (List.Pairwise.imp (fun h => fun z => h z.symm) a2)
  · rw [et] at hx
    exact (a3 x (List.mem_reverse.mp hx)).1
  · have k := wx_t ((rN_ q).take P) ((rN_ q).drop P) (m x hx)
    rw [List.take_append_drop] at k
    exact k
theorem as_vr {n P : Nat} {o e : Nat → Nat} (hP : P ≤ 6) (hk : ∀ k, k < n → o k < P ∧ e k < P ∧ ¬ o k = e k) {q : List Int} (hq : rvs P q ∈ lx P P []) : asT n o e q = vr (tT n o e) (rvs P q) := by
  obtain ⟨tn, tm, tl, tw⟩ := rv_t hq
  have rn : (rvs P q).Nodup := List.pairwise_reverse.mpr (List.Pairwise.imp (fun h => fun z => h z.symm) tn)
  have key : asT n o e q = true ↔ vr (tT n o e) (rvs P q) = true := by
    rw [asT_i, vr_hb _ rn]
    constructor
    · intro h y hy x hx t
      obtain ⟨k, k1, k2, k3⟩ := tT_i.mp t
      subst k2 k3
      obtain ⟨h1, h2, h3⟩ := hk k k1
      refine (hb_wx _ tn (tm _ h2) (tm _ h1)).mpr ?_
      have l := h k k1
      rw [tw _ h1, tw _ h2] at l
      have ne : ¬ wx_ ((rN_ q).take P) (o k) = wx_ ((rN_ q).take P) (e k) := fun z => h3 (wx_i _ (tm _ h1) z)
      omega
    · intro h k k1
      obtain ⟨h1, h2, h3⟩ := hk k k1
      have l := (hb_wx _ tn (tm _ h2) (tm _ h1)).mp (h (e k) (List.mem_reverse.mpr (tm _ h2)) (o k) (by omega) (tT_i.mpr ⟨k, k1, rfl, rfl⟩))
      rw [tw _ h1, tw _ h2]
      omega
  cases x : asT n o e q with
  | true => exact (key.mp x).symm
  | false =>
    cases y : vr (tT n o e) (rvs P q) with
    | false => rfl
    | true =>
      rw [key.mpr y] at x
      cases x
theorem cnt_mp {A B : Type} {f : A → B} {p : B → Bool} {q : A → Bool} : ∀ L : List A, (∀ x ∈ L, q x = p (f x)) → L.countP q = (L.map f).countP p
  | [], _ => rfl
  | x :: L, h => by
    rw [List.map_cons, List.countP_cons, List.countP_cons, cnt_mp L (fun y hy => h y (List.mem_cons_of_mem _ hy)), h x List.mem_cons_self]
theorem fnd_mp {A B : Type} {f : A → B} {p : B → Bool} {q : A → Bool} : ∀ L : List A, (∀ x ∈ L, q x = p (f x)) → (L.find? q).map f = (L.map f).find? p
  | [], _ => rfl
  | x :: L, h => by
    have k := h x List.mem_cons_self
    rw [List.map_cons]
    cases z : q x with
    | true =>
      rw [List.find?_cons_of_pos z, List.find?_cons_of_pos (k ▸ z)]
      rfl
    | false =>
      rw [List.find?_cons_of_neg (by rw [z]; decide), List.find?_cons_of_neg (by rw [← k, z]; decide)]
      exact fnd_mp L (fun y hy => h y (List.mem_cons_of_mem _ hy))
theorem rq_m {P : Nat} (hP : P ≤ 6) {q : List Int} (hq : q ∈ rqL P 720 q05) : rvs P q ∈ lx P P [] := by
  rw [← show (rqL P 720 q05).map (rvs P) = lx P P [] from rq_lx ⟨P, by omega⟩]
  exact List.mem_map.mpr ⟨q, hq, rfl⟩
theorem rq_cnt {n P : Nat} {o e : Nat → Nat} (hP : P ≤ 6) (hk : ∀ k, k < n → o k < P ∧ e k < P ∧ ¬ o k = e k) : (rqL P 720 q05).countP (asT n o e) = wy (tT n o e) P 64 (2 ^ P - 1) := by
  rw [← lx_cnt hP, ← show (rqL P 720 q05).map (rvs P) = lx P P [] from rq_lx ⟨P, by omega⟩]
  exact cnt_mp _ (fun q hq => as_vr hP hk (rq_m hP hq))
theorem rq_hb {n P : Nat} {o e : Nat → Nat} (hP : P ≤ 6) (hk : ∀ k, k < n → o k < P ∧ e k < P ∧ ¬ o k = e k) {a b : Nat} (ha : a < P) (hb : b < P) : (rqL P 720 q05).countP (fun q => asT n o e q && decide (wx_ (rN_ q) a < wx_ (rN_ q) b)) = (lx P P []).countP (fun r => vr (tT n o e) r && hbr a b r) := by
  rw [← show (rqL P 720 q05).map (rvs P) = lx P P [] from rq_lx ⟨P, by omega⟩]
  refine cnt_mp _ (fun q hq => ?_)
  obtain ⟨tn, tm, tl, tw⟩ := rv_t (rq_m hP hq)
  rw [as_vr hP hk (rq_m hP hq), tw a ha, tw b hb]
  have k := hb_wx _ tn (tm b hb) (tm a ha)
  have k2 : hbr a b (rvs P q) = decide (wx_ ((rN_ q).take P) a < wx_ ((rN_ q).take P) b) := by
    by_cases c : wx_ ((rN_ q).take P) a < wx_ ((rN_ q).take P) b
    · rw [decide_eq_true c]
      exact k.mpr c
    · rw [decide_eq_false c]
      exact Bool.eq_false_iff.mpr (fun z => c (k.mp z))
  rw [k2]
def gk (T : Nat → Nat → Bool) (P : Nat) : Nat → List Nat
  | 0 => []
  | k + 1 => (lo_ T (gk T P k) P).getD 0 :: gk T P k
theorem gr_k {T : Nat → Nat → Bool} {P : Nat} : ∀ f k : Nat, gr T P f (gk T P k) = gk T P (k + f)
  | 0, _ => rfl
  | f + 1, k => by
    show gr T P f (gk T P (k + 1)) = _
    rw [gr_k f (k + 1), Nat.add_assoc, Nat.add_comm 1 f]
theorem gk_l {T : Nat → Nat → Bool} {P : Nat} : ∀ k : Nat, (gk T P k).length = k
  | 0 => rfl
  | k + 1 => congrArg Nat.succ (gk_l k)
theorem gk_r {T : Nat → Nat → Bool} {P : Nat} : ∀ k i : Nat, i < k → (gk T P k).reverse[i]? = some ((lo_ T (gk T P i) P).getD 0)
  | 0, _, h => absurd h (Nat.not_lt_zero _)
  | k + 1, i, h => by
    show (((lo_ T (gk T P k) P).getD 0 :: gk T P k).reverse)[i]? = _
    rw [List.reverse_cons]
    have hl : (gk T P k).reverse.length = k := by rw [List.length_reverse, gk_l]
    by_cases c : i < k
    · rw [List.getElem?_append_left (by omega)]
      exact gk_r k i c
    · have ei : i = k := by omega
      subst ei
      rw [List.getElem?_append_right (by omega), hl, Nat.sub_self]
      rfl
/-- the first row: always the least that is free -/
theorem rq_fst {n P : Nat} {o e : Nat → Nat} (hP : P ≤ 6) (hk : ∀ k, k < n → o k < P ∧ e k < P ∧ ¬ o k = e k) (h0 : ¬ wy (tT n o e) P 64 (2 ^ P - 1) = 0) : ∃ q, (rqL P 720 q05).find? (asT n o e) = some q ∧ ∀ i, i < P → q.getD i 0 = (((lo_ (tT n o e) (gk (tT n o e) P i) P).getD 0 : Nat) : Int) := by
  have hc : ¬ (lx P P []).countP (vr (tT n o e)) = 0 := by
    rw [lx_cnt hP]
    exact h0
  obtain ⟨r, r1, r2⟩ := List.countP_pos_iff.mp (Nat.pos_of_ne_zero hc)
  have f := lx_first (T := tT n o e) hP P [] List.nodup_nil (fun x h => absurd h List.not_mem_nil) (Nat.add_zero _) ⟨r, r1, r2⟩
  have m := fnd_mp (f := rvs P) (p := vr (tT n o e)) (q := asT n o e) (rqL P 720 q05) (fun q hq => as_vr hP hk (rq_m hP hq))
  rw [show (rqL P 720 q05).map (rvs P) = lx P P [] from rq_lx ⟨P, by omega⟩, f] at m
  cases z : (rqL P 720 q05).find? (asT n o e) with
  | none =>
    rw [z] at m
    cases m
  | some q =>
    rw [z] at m
    have m : some (rvs P q) = some (gr (tT n o e) P P (gk (tT n o e) P 0)) := m
    rw [gr_k, Nat.zero_add] at m
    have m : ((rN_ q).take P).reverse = gk (tT n o e) P P := Option.some.inj m
    have m2 : (rN_ q).take P = (gk (tT n o e) P P).reverse := List.reverse_eq_iff.mp m
    refine ⟨q, rfl, fun i hi => ?_⟩
    have a := gk_r (T := tT n o e) (P := P) P i hi
    rw [← m2, List.getElem?_take_of_lt hi] at a
    have a : (q.map Int.toNat)[i]? = _ := a
    rw [List.getElem?_map] at a
    rw [List.getD_eq_getElem?_getD]
    cases y : q[i]? with
    | none =>
      rw [y] at a
      cases a
    | some x =>
      rw [y] at a
      have a : x.toNat = _ := Option.some.inj a
      have nn := List.all_eq_true.mp (rq_nn ⟨P, by omega⟩) q (List.mem_of_find?_eq_some z)
      have nx := of_decide_eq_true (List.all_eq_true.mp nn x (List.mem_of_getElem? y))
      rw [← a]
      show x = (x.toNat : Int)
      omega
/-- the mask of those told to be ahead of p -/
def tk_ (o e : Nat → Nat) (p : Nat) : Nat → Nat
  | 0 => 0
  | k + 1 => if e k = p then tk_ o e p k ||| 2 ^ o k else tk_ o e p k
theorem tT_s {n : Nat} {o e : Nat → Nat} {y x : Nat} : tT (n + 1) o e y x = (tT n o e y x || (decide (e n = y) && decide (o n = x))) := by
  unfold tT
  rw [List.range_succ, List.any_append, List.any_cons, List.any_nil, Bool.or_false]
theorem tkx_t {o e : Nat → Nat} {p x : Nat} : ∀ n : Nat, (tk_ o e p n).testBit x = tT n o e p x
  | 0 => Nat.zero_testBit x
  | n + 1 => by
    rw [tT_s, ← tkx_t n]
    show (if e n = p then tk_ o e p n ||| 2 ^ o n else tk_ o e p n).testBit x = _
    by_cases c : e n = p
    · rw [if_pos c, Nat.testBit_or, Nat.testBit_two_pow, decide_eq_true c, Bool.true_and]
    · rw [if_neg c, decide_eq_false c, Bool.false_and, Bool.or_false]
theorem p2_5 : ∀ w : Fin 6, 2 ^ w.val < 64 := by decide +kernel
theorem tk_64 {o e : Nat → Nat} {p : Nat} : ∀ n : Nat, (∀ k, k < n → o k < 6) → tk_ o e p n < 64
  | 0, _ => by
    show 0 < 64
    decide
  | n + 1, h => by
    have ih := tk_64 (p := p) (e := e) n (fun k hk => h k (by omega))
    show (if e n = p then tk_ o e p n ||| 2 ^ o n else tk_ o e p n) < 64
    split
    · exact or_64 ⟨_, ih⟩ ⟨_, p2_5 ⟨o n, h n (by omega)⟩⟩
    · exact ih
theorem an_0 : ∀ t b : Fin 64, (t.val &&& (63 ^^^ b.val) = 0 ↔ sb6 t.val.testBit b.val.testBit = true) := by decide +kernel
