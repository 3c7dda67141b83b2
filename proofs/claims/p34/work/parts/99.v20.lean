/-! -/
/-! all orders, counted by who is ahead of one; laid by program (wp_v20.py) -/
def msk (q : List Int) : Nat → Nat
  | 0 => 0
  | k + 1 => msk q k + 2 ^ (q.getD k 0).toNat
def jx (q : List Int) (w : Int) : Nat → Nat
  | 0 => 0
  | k + 1 => if q.getD k 0 = w then k else jx q w k
/-- the first P of a row are apart -/
def rgd (P : Nat) (q : List Int) : Bool := (List.range P).all fun k => decide (0 ≤ q.getD k 0 ∧ q.getD k 0 < (P : Int)) && (decide (msk q k < 64) && decide (((msk q k : Nat) : Int) / 2 ^ (q.getD k 0).toNat % 2 = 0))
/-- who is ahead of w, as a set -/
def rk (P w : Nat) (q : List Int) : Option Nat := if rgd P q && (decide (jx q w P < P) && (decide (q.getD (jx q w P) 0 = (w : Int)) && (List.range P).all fun j => decide (j = jx q w P) || !decide (q.getD j 0 = (w : Int)))) then some (msk q (jx q w P)) else none
theorem bt_a : ∀ m : Fin 64, ∀ i : Fin 6, (m.val : Int) / 2 ^ i.val % 2 = 0 → ∀ j : Fin 6, ((m.val : Int) + 2 ^ i.val) / 2 ^ j.val % 2 = if j.val = i.val then 1 else (m.val : Int) / 2 ^ j.val % 2 := by decide +kernel
theorem hdM_a {g : Int → Int} {m i : Nat} (hm : m < 64) (hi : i < 6) (hb : (m : Int) / 2 ^ i % 2 = 0) : ∀ n : Nat, n ≤ 6 → hdM g ((m : Int) + 2 ^ i) n = hdM g (m : Int) n + (if i < n then g (i : Int) else 0)
  | 0, _ => by
    rw [if_neg (by omega)]
    rfl
  | n + 1, hn => by
    have ih := hdM_a (g := g) hm hi hb n (by omega)
    have b := bt_a ⟨m, hm⟩ ⟨i, hi⟩ hb ⟨n, by omega⟩
    have b : ((m : Int) + 2 ^ i) / 2 ^ n % 2 = if n = i then 1 else (m : Int) / 2 ^ n % 2 := b
    show hdM g ((m : Int) + 2 ^ i) n + (if ((m : Int) + 2 ^ i) / 2 ^ n % 2 = 1 then g (n : Int) else 0) = hdM g (m : Int) n + (if (m : Int) / 2 ^ n % 2 = 1 then g (n : Int) else 0) + _
    rw [ih, b]
    by_cases c : n = i
    · subst c
      rw [if_neg (by omega), if_pos rfl, if_pos rfl, if_neg (by omega), if_pos (by omega)]
    · rw [if_neg c]
      by_cases d : i < n
      · rw [if_pos d, if_pos (show i < n + 1 by omega)]
        omega
      · rw [if_neg d, if_neg (show ¬ i < n + 1 by omega)]
        omega
theorem rgd_k {P : Nat} {q : List Int} (h : rgd P q = true) {k : Nat} (hk : k < P) : (0 ≤ q.getD k 0 ∧ q.getD k 0 < (P : Int)) ∧ msk q k < 64 ∧ ((msk q k : Nat) : Int) / 2 ^ (q.getD k 0).toNat % 2 = 0 := by
  have a := List.all_eq_true.mp h k (List.mem_range.mpr hk)
  rw [Bool.and_eq_true, Bool.and_eq_true] at a
  exact ⟨of_decide_eq_true a.1, of_decide_eq_true a.2.1, of_decide_eq_true a.2.2⟩
theorem hdM_0 {g : Int → Int} : ∀ n : Nat, hdM g 0 n = 0
  | 0 => rfl
  | n + 1 => by
    show hdM g 0 n + (if (0 : Int) / 2 ^ n % 2 = 1 then g (n : Int) else 0) = 0
    rw [hdM_0 n, Int.zero_ediv, if_neg (by decide)]
    rfl
theorem sg_hd {g : Int → Int} {P : Nat} {q : List Int} (hP : P ≤ 6) (h : rgd P q = true) : ∀ k : Nat, k ≤ P → sgK g q k = hdM g ((msk q k : Nat) : Int) P
  | 0, _ => by
    show (0 : Int) = hdM g 0 P
    exact (hdM_0 P).symm
  | k + 1, hk => by
    have ih := sg_hd (g := g) hP h k (by omega)
    obtain ⟨a, b, c⟩ := rgd_k h (k := k) (by omega)
    have e := hdM_a (g := g) b (i := (q.getD k 0).toNat) (by omega) c P hP
    have em : ((msk q (k + 1) : Nat) : Int) = ((msk q k : Nat) : Int) + 2 ^ (q.getD k 0).toNat := by
      show ((msk q k + 2 ^ (q.getD k 0).toNat : Nat) : Int) = _
      rw [Int.natCast_add, mk_pc]
    show sgK g q k + g (q.getD k 0) = _
    rw [em, e, if_pos (by omega), ih, show (((q.getD k 0).toNat : Nat) : Int) = q.getD k 0 by omega]
theorem rk_v {g : Int → Int} {q0 : Int} {P w : Nat} {q : List Int} {m : Nat} (hP : P ≤ 6) (h : rk P w q = some m) : pvK g q0 q w P = if hdM g (m : Int) P < q0 ∧ q0 ≤ hdM g (m : Int) P + g (w : Int) then 1 else 0 := by
  unfold rk at h
  by_cases c : (rgd P q && (decide (jx q w P < P) && (decide (q.getD (jx q w P) 0 = (w : Int)) && (List.range P).all fun j => decide (j = jx q w P) || !decide (q.getD j 0 = (w : Int))))) = true
  · rw [if_pos c] at h
    rw [Bool.and_eq_true, Bool.and_eq_true, Bool.and_eq_true] at c
    obtain ⟨c1, c2, c3, c4⟩ := c
    have c2 := of_decide_eq_true c2
    have c3 := of_decide_eq_true c3
    have em : m = msk q (jx q w P) := (Option.some.inj h).symm
    obtain ⟨j, hj⟩ : ∃ j, jx q w P = j := ⟨_, rfl⟩
    rw [hj] at c2 c3 c4 em
    have s0 := sg_hd (g := g) hP c1 j (by omega)
    have s1 : sgK g q (j + 1) = sgK g q j + g (w : Int) := by show sgK g q j + g (q.getD j 0) = _; rw [c3]
    have key : ∀ k : Nat, k ≤ P → pvK g q0 q w k = if j < k then (if hdM g (m : Int) P < q0 ∧ q0 ≤ hdM g (m : Int) P + g (w : Int) then 1 else 0) else 0 := by
      intro k
      induction k with
      | zero => intro _; rw [if_neg (by omega)]; rfl
      | succ k ih =>
        intro hk
        have i := ih (by omega)
        show pvK g q0 q w k + (if q.getD k 0 = (w : Int) ∧ sgK g q k < q0 ∧ q0 ≤ sgK g q (k + 1) then 1 else 0) = _
        rw [i]
        by_cases e : k = j
        · subst e
          rw [if_neg (by omega), if_pos (show k < k + 1 by omega), s1, s0, ← em, c3, Int.zero_add]
          by_cases f : hdM g (m : Int) P < q0 ∧ q0 ≤ hdM g (m : Int) P + g (w : Int)
          · rw [if_pos f, if_pos ⟨rfl, f⟩]
          · rw [if_neg f, if_neg (fun z => f z.2)]
        · have n := List.all_eq_true.mp c4 k (List.mem_range.mpr (by omega))
          rw [decide_eq_false e, Bool.false_or] at n
          have n : ¬ q.getD k 0 = (w : Int) := by
            intro z
            rw [decide_eq_true z] at n
            cases n
          rw [if_neg (show ¬ (q.getD k 0 = (w : Int) ∧ sgK g q k < q0 ∧ q0 ≤ sgK g q (k + 1)) from fun z => n z.1), Int.add_zero]
          by_cases d : j < k
          · rw [if_pos d, if_pos (show j < k + 1 by omega)]
          · rw [if_neg d, if_neg (show ¬ j < k + 1 by omega)]
    rw [key P (Nat.le_refl _), if_pos c2]
  · rw [if_neg c] at h
    cases h
/-- all rows -/
def rwL (P : Nat) : Nat → List Int → List (List Int)
  | 0, _ => []
  | n + 1, q => q :: match nr P q with
    | none => []
    | some q' => rwL P n q'
def smL_ {A : Type} (f : A → Int) : List A → Int
  | [] => 0
  | x :: r => f x + smL_ f r
theorem rwS_L {g : Int → Int} {q0 : Int} {P w : Nat} : ∀ (n : Nat) (q : List Int), rwS g q0 P w n q = smL_ (fun q => pvK g q0 q w P) (rwL P n q)
  | 0, _ => rfl
  | n + 1, q => by
    show pvK g q0 q w P + _ = pvK g q0 q w P + smL_ _ _
    cases h : nr P q with
    | none => rfl
    | some q' =>
      show pvK g q0 q w P + rwS g q0 P w n q' = pvK g q0 q w P + smL_ (fun q => pvK g q0 q w P) (rwL P n q')
      rw [rwS_L n q']
theorem sumL_m {g : Int → Int} {q0 : Int} {P w : Nat} (hP : P ≤ 6) : ∀ (L : List (List Int)) (ms : List Nat), L.map (rk P w) = ms.map some → smL_ (fun q => pvK g q0 q w P) L = smL_ (fun m : Nat => if hdM g (m : Int) P < q0 ∧ q0 ≤ hdM g (m : Int) P + g (w : Int) then 1 else 0) ms
  | [], [], _ => rfl
  | [], _ :: _, h => by cases h
  | _ :: _, [], h => by cases h
  | q :: L, m :: ms, h => by
    have h1 : rk P w q = some m := (List.cons.inj h).1
    have h2 : L.map (rk P w) = ms.map some := (List.cons.inj h).2
    show pvK g q0 q w P + smL_ _ L = _ + smL_ _ ms
    rw [rk_v hP h1, sumL_m hP L ms h2]
theorem tot_1 {f : Int → Int} {x : Nat} : ∀ N : Nat, tot (fun b => if b = (x : Int) then f b else 0) N = if x < N then f (x : Int) else 0
  | 0 => by rw [if_neg (by omega)]; rfl
  | N + 1 => by
    show tot _ N + (if (N : Int) = (x : Int) then f (N : Int) else 0) = _
    rw [tot_1 N]
    by_cases c : x = N
    · subst c
      rw [if_neg (by omega), if_pos rfl, if_pos (by omega), Int.zero_add]
    · rw [if_neg (show ¬ (N : Int) = (x : Int) by omega), Int.add_zero]
      by_cases d : x < N
      · rw [if_pos d, if_pos (by omega)]
      · rw [if_neg d, if_neg (by omega)]
/-- a sum over a list, by what is in it -/
theorem sumL_c {F : Int → Int} {N : Nat} : ∀ ms : List Nat, (∀ x ∈ ms, x < N) → smL_ (fun m : Nat => F (m : Int)) ms = tot (fun b => ((ms.count b.toNat : Nat) : Int) * F b) N
  | [], _ => by
    refine (tot_z N (fun j a b => ?_)).symm
    show ((0 : Nat) : Int) * F j = 0
    exact Int.zero_mul _
  | x :: ms, h => by
    have ih := sumL_c (F := F) ms (fun y hy => h y (List.mem_cons_of_mem _ hy))
    have hx := h x List.mem_cons_self
    show F (x : Int) + smL_ _ ms = _
    rw [ih]
    have e := tot_1 (f := F) (x := x) N
    rw [if_pos hx] at e
    rw [← e, ← tot_p]
    refine tot_c N (fun b a c => ?_)
    show (if b = (x : Int) then F b else 0) + ((ms.count b.toNat : Nat) : Int) * F b = (((x :: ms).count b.toNat : Nat) : Int) * F b
    rw [List.count_cons]
    by_cases z : b = (x : Int)
    · subst z
      rw [if_pos rfl, if_pos (by simp), Int.natCast_add, Int.add_mul]
      show _ = _ + (1 : Int) * _
      rw [Int.one_mul]
      omega
    · rw [if_neg z, if_neg (by simp; omega), Int.zero_add]
      rfl
theorem ord_ok {g : Int → Int} {q0 : Int} {P w N : Nat} {ms : List Nat} (hP : P ≤ 6) (h1 : (rwL P 720 [0, 1, 2, 3, 4, 5]).map (rk P w) = ms.map some) (h2 : (ms.all fun x => decide (x < N)) = true) (h3 : ((List.range N).all fun b => decide (((ms.count b : Nat) : Int) = if (b : Int) / 2 ^ w % 2 = 1 then 0 else fct (bcn (b : Int)).toNat * fct ((P : Int) - 1 - bcn (b : Int)).toNat)) = true) : rwS g q0 P w 720 [0, 1, 2, 3, 4, 5] = tot (deT g P q0 w) N := by
  rw [rwS_L, sumL_m hP _ _ h1, sumL_c (F := fun b => if hdM g b P < q0 ∧ q0 ≤ hdM g b P + g (w : Int) then 1 else 0) (N := N) ms (fun x hx => of_decide_eq_true (List.all_eq_true.mp h2 x hx))]
  refine tot_c N (fun b a c => ?_)
  have k := of_decide_eq_true (List.all_eq_true.mp h3 b.toNat (List.mem_range.mpr (by omega)))
  rw [show ((b.toNat : Nat) : Int) = b by omega] at k
  show ((ms.count b.toNat : Nat) : Int) * (if hdM g b P < q0 ∧ q0 ≤ hdM g b P + g (w : Int) then 1 else 0) = deT g P q0 w b
  unfold deT
  rw [k]
  by_cases z : b / 2 ^ w % 2 = 1
  · rw [if_pos z, if_pos z, Int.zero_mul]
  · rw [if_neg z, if_neg z]
    by_cases y : hdM g b P < q0 ∧ q0 ≤ hdM g b P + g (w : Int)
    · rw [if_pos y, if_pos y, Int.mul_one]
    · rw [if_neg y, if_neg y, Int.mul_zero]
theorem sumL_b {F : Nat → Int} (h : ∀ m, 0 ≤ F m ∧ F m ≤ 1) : ∀ ms : List Nat, 0 ≤ smL_ F ms ∧ smL_ F ms ≤ (ms.length : Int)
  | [] => ⟨Int.le_refl _, Int.le_refl _⟩
  | x :: ms => by
    have a := sumL_b h ms
    have b := h x
    show 0 ≤ F x + smL_ F ms ∧ F x + smL_ F ms ≤ ((ms.length + 1 : Nat) : Int)
    omega
theorem ord_b {g : Int → Int} {q0 : Int} {P w : Nat} {ms : List Nat} (hP : P ≤ 6) (h1 : (rwL P 720 [0, 1, 2, 3, 4, 5]).map (rk P w) = ms.map some) (hl : ms.length ≤ 720) : 0 ≤ rwS g q0 P w 720 [0, 1, 2, 3, 4, 5] ∧ rwS g q0 P w 720 [0, 1, 2, 3, 4, 5] ≤ 720 := by
  rw [rwS_L, sumL_m hP _ _ h1]
  have := sumL_b (F := fun m : Nat => if hdM g (m : Int) P < q0 ∧ q0 ≤ hdM g (m : Int) P + g (w : Int) then 1 else 0) (fun m => by
    (try dsimp only)
    by_cases c : hdM g (m : Int) P < q0 ∧ q0 ≤ hdM g (m : Int) P + g (w : Int)
    · rw [if_pos c]
      decide
    · rw [if_neg c]
      decide) ms
  omega
def mx1_0 : List Nat := [0]
set_option maxRecDepth 100000 in
theorem rx1_0 : (rwL 1 720 [0, 1, 2, 3, 4, 5]).map (rk 1 0) = mx1_0.map some := by decide +kernel
set_option maxRecDepth 100000 in
theorem ra1_0 : (mx1_0.all fun x => decide (x < 2)) = true := by decide +kernel
set_option maxRecDepth 100000 in
theorem rb1_0 : ((List.range 2).all fun b => decide (((mx1_0.count b : Nat) : Int) = if (b : Int) / 2 ^ 0 % 2 = 1 then 0 else fct (bcn (b : Int)).toNat * fct (((1 : Nat) : Int) - 1 - bcn (b : Int)).toNat)) = true := by decide +kernel
theorem rl1_0 : mx1_0.length ≤ 720 := by decide +kernel
def mx2_0 : List Nat := [0, 2]
set_option maxRecDepth 100000 in
theorem rx2_0 : (rwL 2 720 [0, 1, 2, 3, 4, 5]).map (rk 2 0) = mx2_0.map some := by decide +kernel
set_option maxRecDepth 100000 in
theorem ra2_0 : (mx2_0.all fun x => decide (x < 4)) = true := by decide +kernel
set_option maxRecDepth 100000 in
theorem rb2_0 : ((List.range 4).all fun b => decide (((mx2_0.count b : Nat) : Int) = if (b : Int) / 2 ^ 0 % 2 = 1 then 0 else fct (bcn (b : Int)).toNat * fct (((2 : Nat) : Int) - 1 - bcn (b : Int)).toNat)) = true := by decide +kernel
theorem rl2_0 : mx2_0.length ≤ 720 := by decide +kernel
def mx2_1 : List Nat := [1, 0]
set_option maxRecDepth 100000 in
theorem rx2_1 : (rwL 2 720 [0, 1, 2, 3, 4, 5]).map (rk 2 1) = mx2_1.map some := by decide +kernel
set_option maxRecDepth 100000 in
theorem ra2_1 : (mx2_1.all fun x => decide (x < 4)) = true := by decide +kernel
set_option maxRecDepth 100000 in
theorem rb2_1 : ((List.range 4).all fun b => decide (((mx2_1.count b : Nat) : Int) = if (b : Int) / 2 ^ 1 % 2 = 1 then 0 else fct (bcn (b : Int)).toNat * fct (((2 : Nat) : Int) - 1 - bcn (b : Int)).toNat)) = true := by decide +kernel
theorem rl2_1 : mx2_1.length ≤ 720 := by decide +kernel
def mx3_0 : List Nat := [0, 0, 2, 6, 4, 6]
set_option maxRecDepth 100000 in
theorem rx3_0 : (rwL 3 720 [0, 1, 2, 3, 4, 5]).map (rk 3 0) = mx3_0.map some := by decide +kernel
set_option maxRecDepth 100000 in
theorem ra3_0 : (mx3_0.all fun x => decide (x < 8)) = true := by decide +kernel
set_option maxRecDepth 100000 in
theorem rb3_0 : ((List.range 8).all fun b => decide (((mx3_0.count b : Nat) : Int) = if (b : Int) / 2 ^ 0 % 2 = 1 then 0 else fct (bcn (b : Int)).toNat * fct (((3 : Nat) : Int) - 1 - bcn (b : Int)).toNat)) = true := by decide +kernel
theorem rl3_0 : mx3_0.length ≤ 720 := by decide +kernel
def mx3_1 : List Nat := [1, 5, 0, 0, 5, 4]
set_option maxRecDepth 100000 in
theorem rx3_1 : (rwL 3 720 [0, 1, 2, 3, 4, 5]).map (rk 3 1) = mx3_1.map some := by decide +kernel
set_option maxRecDepth 100000 in
theorem ra3_1 : (mx3_1.all fun x => decide (x < 8)) = true := by decide +kernel
set_option maxRecDepth 100000 in
theorem rb3_1 : ((List.range 8).all fun b => decide (((mx3_1.count b : Nat) : Int) = if (b : Int) / 2 ^ 1 % 2 = 1 then 0 else fct (bcn (b : Int)).toNat * fct (((3 : Nat) : Int) - 1 - bcn (b : Int)).toNat)) = true := by decide +kernel
theorem rl3_1 : mx3_1.length ≤ 720 := by decide +kernel
def mx3_2 : List Nat := [3, 1, 3, 2, 0, 0]
set_option maxRecDepth 100000 in
theorem rx3_2 : (rwL 3 720 [0, 1, 2, 3, 4, 5]).map (rk 3 2) = mx3_2.map some := by decide +kernel
set_option maxRecDepth 100000 in
theorem ra3_2 : (mx3_2.all fun x => decide (x < 8)) = true := by decide +kernel
set_option maxRecDepth 100000 in
theorem rb3_2 : ((List.range 8).all fun b => decide (((mx3_2.count b : Nat) : Int) = if (b : Int) / 2 ^ 2 % 2 = 1 then 0 else fct (bcn (b : Int)).toNat * fct (((3 : Nat) : Int) - 1 - bcn (b : Int)).toNat)) = true := by decide +kernel
theorem rl3_2 : mx3_2.length ≤ 720 := by decide +kernel
def mx4_0 : List Nat := [0, 0, 0, 0, 0, 0, 2, 2, 6, 14, 10, 14, 4, 4, 6, 14, 12, 14, 8, 8, 10, 14, 12, 14]
set_option maxRecDepth 100000 in
theorem rx4_0 : (rwL 4 720 [0, 1, 2, 3, 4, 5]).map (rk 4 0) = mx4_0.map some := by decide +kernel
set_option maxRecDepth 100000 in
theorem ra4_0 : (mx4_0.all fun x => decide (x < 16)) = true := by decide +kernel
set_option maxRecDepth 100000 in
theorem rb4_0 : ((List.range 16).all fun b => decide (((mx4_0.count b : Nat) : Int) = if (b : Int) / 2 ^ 0 % 2 = 1 then 0 else fct (bcn (b : Int)).toNat * fct (((4 : Nat) : Int) - 1 - bcn (b : Int)).toNat)) = true := by decide +kernel
theorem rl4_0 : mx4_0.length ≤ 720 := by decide +kernel
def mx4_1 : List Nat := [1, 1, 5, 13, 9, 13, 0, 0, 0, 0, 0, 0, 5, 13, 4, 4, 13, 12, 9, 13, 8, 8, 13, 12]
set_option maxRecDepth 100000 in
theorem rx4_1 : (rwL 4 720 [0, 1, 2, 3, 4, 5]).map (rk 4 1) = mx4_1.map some := by decide +kernel
set_option maxRecDepth 100000 in
theorem ra4_1 : (mx4_1.all fun x => decide (x < 16)) = true := by decide +kernel
set_option maxRecDepth 100000 in
theorem rb4_1 : ((List.range 16).all fun b => decide (((mx4_1.count b : Nat) : Int) = if (b : Int) / 2 ^ 1 % 2 = 1 then 0 else fct (bcn (b : Int)).toNat * fct (((4 : Nat) : Int) - 1 - bcn (b : Int)).toNat)) = true := by decide +kernel
theorem rl4_1 : mx4_1.length ≤ 720 := by decide +kernel
def mx4_2 : List Nat := [3, 11, 1, 1, 11, 9, 3, 11, 2, 2, 11, 10, 0, 0, 0, 0, 0, 0, 11, 9, 11, 10, 8, 8]
set_option maxRecDepth 100000 in
theorem rx4_2 : (rwL 4 720 [0, 1, 2, 3, 4, 5]).map (rk 4 2) = mx4_2.map some := by decide +kernel
set_option maxRecDepth 100000 in
theorem ra4_2 : (mx4_2.all fun x => decide (x < 16)) = true := by decide +kernel
set_option maxRecDepth 100000 in
theorem rb4_2 : ((List.range 16).all fun b => decide (((mx4_2.count b : Nat) : Int) = if (b : Int) / 2 ^ 2 % 2 = 1 then 0 else fct (bcn (b : Int)).toNat * fct (((4 : Nat) : Int) - 1 - bcn (b : Int)).toNat)) = true := by decide +kernel
theorem rl4_2 : mx4_2.length ≤ 720 := by decide +kernel
def mx4_3 : List Nat := [7, 3, 7, 5, 1, 1, 7, 3, 7, 6, 2, 2, 7, 5, 7, 6, 4, 4, 0, 0, 0, 0, 0, 0]
set_option maxRecDepth 100000 in
theorem rx4_3 : (rwL 4 720 [0, 1, 2, 3, 4, 5]).map (rk 4 3) = mx4_3.map some := by decide +kernel
set_option maxRecDepth 100000 in
theorem ra4_3 : (mx4_3.all fun x => decide (x < 16)) = true := by decide +kernel
set_option maxRecDepth 100000 in
theorem rb4_3 : ((List.range 16).all fun b => decide (((mx4_3.count b : Nat) : Int) = if (b : Int) / 2 ^ 3 % 2 = 1 then 0 else fct (bcn (b : Int)).toNat * fct (((4 : Nat) : Int) - 1 - bcn (b : Int)).toNat)) = true := by decide +kernel
theorem rl4_3 : mx4_3.length ≤ 720 := by decide +kernel
def mx5_0 : List Nat := [0, 0, 0, 0, 0, 0, 0, 0, 0, 0, 0, 0, 0, 0, 0, 0, 0, 0, 0, 0, 0, 0, 0, 0, 2, 2, 2, 2, 2, 2, 6, 6, 14, 30, 22, 30, 10, 10, 14, 30, 26, 30, 18, 18, 22, 30, 26, 30, 4, 4, 4, 4, 4, 4, 6, 6, 14, 30, 22, 30, 12, 12, 14, 30, 28, 30, 20, 20, 22, 30, 28, 30, 8, 8, 8, 8, 8, 8, 10, 10, 14, 30, 26, 30, 12, 12, 14, 30, 28, 30, 24, 24, 26, 30, 28, 30, 16, 16, 16, 16, 16, 16, 18, 18, 22, 30, 26, 30, 20, 20, 22, 30, 28, 30, 24, 24, 26, 30, 28, 30]
set_option maxRecDepth 100000 in
theorem rx5_0 : (rwL 5 720 [0, 1, 2, 3, 4, 5]).map (rk 5 0) = mx5_0.map some := by decide +kernel
set_option maxRecDepth 100000 in
theorem ra5_0 : (mx5_0.all fun x => decide (x < 32)) = true := by decide +kernel
set_option maxRecDepth 100000 in
theorem rb5_0 : ((List.range 32).all fun b => decide (((mx5_0.count b : Nat) : Int) = if (b : Int) / 2 ^ 0 % 2 = 1 then 0 else fct (bcn (b : Int)).toNat * fct (((5 : Nat) : Int) - 1 - bcn (b : Int)).toNat)) = true := by decide +kernel
theorem rl5_0 : mx5_0.length ≤ 720 := by decide +kernel
def mx5_1 : List Nat := [1, 1, 1, 1, 1, 1, 5, 5, 13, 29, 21, 29, 9, 9, 13, 29, 25, 29, 17, 17, 21, 29, 25, 29, 0, 0, 0, 0, 0, 0, 0, 0, 0, 0, 0, 0, 0, 0, 0, 0, 0, 0, 0, 0, 0, 0, 0, 0, 5, 5, 13, 29, 21, 29, 4, 4, 4, 4, 4, 4, 13, 29, 12, 12, 29, 28, 21, 29, 20, 20, 29, 28, 9, 9, 13, 29, 25, 29, 8, 8, 8, 8, 8, 8, 13, 29, 12, 12, 29, 28, 25, 29, 24, 24, 29, 28, 17, 17, 21, 29, 25, 29, 16, 16, 16, 16, 16, 16, 21, 29, 20, 20, 29, 28, 25, 29, 24, 24, 29, 28]
set_option maxRecDepth 100000 in
theorem rx5_1 : (rwL 5 720 [0, 1, 2, 3, 4, 5]).map (rk 5 1) = mx5_1.map some := by decide +kernel
set_option maxRecDepth 100000 in
theorem ra5_1 : (mx5_1.all fun x => decide (x < 32)) = true := by decide +kernel
set_option maxRecDepth 100000 in
theorem rb5_1 : ((List.range 32).all fun b => decide (((mx5_1.count b : Nat) : Int) = if (b : Int) / 2 ^ 1 % 2 = 1 then 0 else fct (bcn (b : Int)).toNat * fct (((5 : Nat) : Int) - 1 - bcn (b : Int)).toNat)) = true := by decide +kernel
theorem rl5_1 : mx5_1.length ≤ 720 := by decide +kernel
def mx5_2 : List Nat := [3, 3, 11, 27, 19, 27, 1, 1, 1, 1, 1, 1, 11, 27, 9, 9, 27, 25, 19, 27, 17, 17, 27, 25, 3, 3, 11, 27, 19, 27, 2, 2, 2, 2, 2, 2, 11, 27, 10, 10, 27, 26, 19, 27, 18, 18, 27, 26, 0, 0, 0, 0, 0, 0, 0, 0, 0, 0, 0, 0, 0, 0, 0, 0, 0, 0, 0, 0, 0, 0, 0, 0, 11, 27, 9, 9, 27, 25, 11, 27, 10, 10, 27, 26, 8, 8, 8, 8, 8, 8, 27, 25, 27, 26, 24, 24, 19, 27, 17, 17, 27, 25, 19, 27, 18, 18, 27, 26, 16, 16, 16, 16, 16, 16, 27, 25, 27, 26, 24, 24]
set_option maxRecDepth 100000 in
theorem rx5_2 : (rwL 5 720 [0, 1, 2, 3, 4, 5]).map (rk 5 2) = mx5_2.map some := by decide +kernel
set_option maxRecDepth 100000 in
theorem ra5_2 : (mx5_2.all fun x => decide (x < 32)) = true := by decide +kernel
set_option maxRecDepth 100000 in
theorem rb5_2 : ((List.range 32).all fun b => decide (((mx5_2.count b : Nat) : Int) = if (b : Int) / 2 ^ 2 % 2 = 1 then 0 else fct (bcn (b : Int)).toNat * fct (((5 : Nat) : Int) - 1 - bcn (b : Int)).toNat)) = true := by decide +kernel
theorem rl5_2 : mx5_2.length ≤ 720 := by decide +kernel
def mx5_3 : List Nat := [7, 23, 3, 3, 23, 19, 7, 23, 5, 5, 23, 21, 1, 1, 1, 1, 1, 1, 23, 19, 23, 21, 17, 17, 7, 23, 3, 3, 23, 19, 7, 23, 6, 6, 23, 22, 2, 2, 2, 2, 2, 2, 23, 19, 23, 22, 18, 18, 7, 23, 5, 5, 23, 21, 7, 23, 6, 6, 23, 22, 4, 4, 4, 4, 4, 4, 23, 21, 23, 22, 20, 20, 0, 0, 0, 0, 0, 0, 0, 0, 0, 0, 0, 0, 0, 0, 0, 0, 0, 0, 0, 0, 0, 0, 0, 0, 23, 19, 23, 21, 17, 17, 23, 19, 23, 22, 18, 18, 23, 21, 23, 22, 20, 20, 16, 16, 16, 16, 16, 16]
set_option maxRecDepth 100000 in
theorem rx5_3 : (rwL 5 720 [0, 1, 2, 3, 4, 5]).map (rk 5 3) = mx5_3.map some := by decide +kernel
set_option maxRecDepth 100000 in
theorem ra5_3 : (mx5_3.all fun x => decide (x < 32)) = true := by decide +kernel
set_option maxRecDepth 100000 in
theorem rb5_3 : ((List.range 32).all fun b => decide (((mx5_3.count b : Nat) : Int) = if (b : Int) / 2 ^ 3 % 2 = 1 then 0 else fct (bcn (b : Int)).toNat * fct (((5 : Nat) : Int) - 1 - bcn (b : Int)).toNat)) = true := by decide +kernel
theorem rl5_3 : mx5_3.length ≤ 720 := by decide +kernel
def mx5_4 : List Nat := [15, 7, 15, 11, 3, 3, 15, 7, 15, 13, 5, 5, 15, 11, 15, 13, 9, 9, 1, 1, 1, 1, 1, 1, 15, 7, 15, 11, 3, 3, 15, 7, 15, 14, 6, 6, 15, 11, 15, 14, 10, 10, 2, 2, 2, 2, 2, 2, 15, 7, 15, 13, 5, 5, 15, 7, 15, 14, 6, 6, 15, 13, 15, 14, 12, 12, 4, 4, 4, 4, 4, 4, 15, 11, 15, 13, 9, 9, 15, 11, 15, 14, 10, 10, 15, 13, 15, 14, 12, 12, 8, 8, 8, 8, 8, 8, 0, 0, 0, 0, 0, 0, 0, 0, 0, 0, 0, 0, 0, 0, 0, 0, 0, 0, 0, 0, 0, 0, 0, 0]
set_option maxRecDepth 100000 in
theorem rx5_4 : (rwL 5 720 [0, 1, 2, 3, 4, 5]).map (rk 5 4) = mx5_4.map some := by decide +kernel
set_option maxRecDepth 100000 in
theorem ra5_4 : (mx5_4.all fun x => decide (x < 32)) = true := by decide +kernel
set_option maxRecDepth 100000 in
theorem rb5_4 : ((List.range 32).all fun b => decide (((mx5_4.count b : Nat) : Int) = if (b : Int) / 2 ^ 4 % 2 = 1 then 0 else fct (bcn (b : Int)).toNat * fct (((5 : Nat) : Int) - 1 - bcn (b : Int)).toNat)) = true := by decide +kernel
theorem rl5_4 : mx5_4.length ≤ 720 := by decide +kernel
def mx6_0 : List Nat := [0, 0, 0, 0, 0, 0, 0, 0, 0, 0, 0, 0, 0, 0, 0, 0, 0, 0, 0, 0, 0, 0, 0, 0, 0, 0, 0, 0, 0, 0, 0, 0, 0, 0, 0, 0, 0, 0, 0, 0, 0, 0, 0, 0, 0, 0, 0, 0, 0, 0, 0, 0, 0, 0, 0, 0, 0, 0, 0, 0, 0, 0, 0, 0, 0, 0, 0, 0, 0, 0, 0, 0, 0, 0, 0, 0, 0, 0, 0, 0, 0, 0, 0, 0, 0, 0, 0, 0, 0, 0, 0, 0, 0, 0, 0, 0, 0, 0, 0, 0, 0, 0, 0, 0, 0, 0, 0, 0, 0, 0, 0, 0, 0, 0, 0, 0, 0, 0, 0, 0, 2, 2, 2, 2, 2, 2, 2, 2, 2, 2, 2, 2, 2, 2, 2, 2, 2, 2, 2, 2, 2, 2, 2, 2, 6, 6, 6, 6, 6, 6, 14, 14, 30, 62, 46, 62, 22, 22, 30, 62, 54, 62, 38, 38, 46, 62, 54, 62, 10, 10, 10, 10, 10, 10, 14, 14, 30, 62, 46, 62, 26, 26, 30, 62, 58, 62, 42, 42, 46, 62, 58, 62, 18, 18, 18, 18, 18, 18, 22, 22, 30, 62, 54, 62, 26, 26, 30, 62, 58, 62, 50, 50, 54, 62, 58, 62, 34, 34, 34, 34, 34, 34, 38, 38, 46, 62, 54, 62, 42, 42, 46, 62, 58, 62, 50, 50, 54, 62, 58, 62, 4, 4, 4, 4, 4, 4, 4, 4, 4, 4, 4, 4, 4, 4, 4, 4, 4, 4, 4, 4, 4, 4, 4, 4, 6, 6, 6, 6, 6, 6, 14, 14, 30, 62, 46, 62, 22, 22, 30, 62, 54, 62, 38, 38, 46, 62, 54, 62, 12, 12, 12, 12, 12, 12, 14, 14, 30, 62, 46, 62, 28, 28, 30, 62, 60, 62, 44, 44, 46, 62, 60, 62, 20, 20, 20, 20, 20, 20, 22, 22, 30, 62, 54, 62, 28, 28, 30, 62, 60, 62, 52, 52, 54, 62, 60, 62, 36, 36, 36, 36, 36, 36, 38, 38, 46, 62, 54, 62, 44, 44, 46, 62, 60, 62, 52, 52, 54, 62, 60, 62, 8, 8, 8, 8, 8, 8, 8, 8, 8, 8, 8, 8, 8, 8, 8, 8, 8, 8, 8, 8, 8, 8, 8, 8, 10, 10, 10, 10, 10, 10, 14, 14, 30, 62, 46, 62, 26, 26, 30, 62, 58, 62, 42, 42, 46, 62, 58, 62, 12, 12, 12, 12, 12, 12, 14, 14, 30, 62, 46, 62, 28, 28, 30, 62, 60, 62, 44, 44, 46, 62, 60, 62, 24, 24, 24, 24, 24, 24, 26, 26, 30, 62, 58, 62, 28, 28, 30, 62, 60, 62, 56, 56, 58, 62, 60, 62, 40, 40, 40, 40, 40, 40, 42, 42, 46, 62, 58, 62, 44, 44, 46, 62, 60, 62, 56, 56, 58, 62, 60, 62, 16, 16, 16, 16, 16, 16, 16, 16, 16, 16, 16, 16, 16, 16, 16, 16, 16, 16, 16, 16, 16, 16, 16, 16, 18, 18, 18, 18, 18, 18, 22, 22, 30, 62, 54, 62, 26, 26, 30, 62, 58, 62, 50, 50, 54, 62, 58, 62, 20, 20, 20, 20, 20, 20, 22, 22, 30, 62, 54, 62, 28, 28, 30, 62, 60, 62, 52, 52, 54, 62, 60, 62, 24, 24, 24, 24, 24, 24, 26, 26, 30, 62, 58, 62, 28, 28, 30, 62, 60, 62, 56, 56, 58, 62, 60, 62, 48, 48, 48, 48, 48, 48, 50, 50, 54, 62, 58, 62, 52, 52, 54, 62, 60, 62, 56, 56, 58, 62, 60, 62, 32, 32, 32, 32, 32, 32, 32, 32, 32, 32, 32, 32, 32, 32, 32, 32, 32, 32, 32, 32, 32, 32, 32, 32, 34, 34, 34, 34, 34, 34, 38, 38, 46, 62, 54, 62, 42, 42, 46, 62, 58, 62, 50, 50, 54, 62, 58, 62, 36, 36, 36, 36, 36, 36, 38, 38, 46, 62, 54, 62, 44, 44, 46, 62, 60, 62, 52, 52, 54, 62, 60, 62, 40, 40, 40, 40, 40, 40, 42, 42, 46, 62, 58, 62, 44, 44, 46, 62, 60, 62, 56, 56, 58, 62, 60, 62, 48, 48, 48, 48, 48, 48, 50, 50, 54, 62, 58, 62, 52, 52, 54, 62, 60, 62, 56, 56, 58, 62, 60, 62]
set_option maxRecDepth 100000 in
theorem rx6_0 : (rwL 6 720 [0, 1, 2, 3, 4, 5]).map (rk 6 0) = mx6_0.map some := by decide +kernel
set_option maxRecDepth 100000 in
theorem ra6_0 : (mx6_0.all fun x => decide (x < 64)) = true := by decide +kernel
set_option maxRecDepth 100000 in
theorem rb6_0 : ((List.range 64).all fun b => decide (((mx6_0.count b : Nat) : Int) = if (b : Int) / 2 ^ 0 % 2 = 1 then 0 else fct (bcn (b : Int)).toNat * fct (((6 : Nat) : Int) - 1 - bcn (b : Int)).toNat)) = true := by decide +kernel
theorem rl6_0 : mx6_0.length ≤ 720 := by decide +kernel
def mx6_1 : List Nat := [1, 1, 1, 1, 1, 1, 1, 1, 1, 1, 1, 1, 1, 1, 1, 1, 1, 1, 1, 1, 1, 1, 1, 1, 5, 5, 5, 5, 5, 5, 13, 13, 29, 61, 45, 61, 21, 21, 29, 61, 53, 61, 37, 37, 45, 61, 53, 61, 9, 9, 9, 9, 9, 9, 13, 13, 29, 61, 45, 61, 25, 25, 29, 61, 57, 61, 41, 41, 45, 61, 57, 61, 17, 17, 17, 17, 17, 17, 21, 21, 29, 61, 53, 61, 25, 25, 29, 61, 57, 61, 49, 49, 53, 61, 57, 61, 33, 33, 33, 33, 33, 33, 37, 37, 45, 61, 53, 61, 41, 41, 45, 61, 57, 61, 49, 49, 53, 61, 57, 61, 0, 0, 0, 0, 0, 0, 0, 0, 0, 0, 0, 0, 0, 0, 0, 0, 0, 0, 0, 0, 0, 0, 0, 0, 0, 0, 0, 0, 0, 0, 0, 0, 0, 0, 0, 0, 0, 0, 0, 0, 0, 0, 0, 0, 0, 0, 0, 0, 0, 0, 0, 0, 0, 0, 0, 0, 0, 0, 0, 0, 0, 0, 0, 0, 0, 0, 0, 0, 0, 0, 0, 0, 0, 0, 0, 0, 0, 0, 0, 0, 0, 0, 0, 0, 0, 0, 0, 0, 0, 0, 0, 0, 0, 0, 0, 0, 0, 0, 0, 0, 0, 0, 0, 0, 0, 0, 0, 0, 0, 0, 0, 0, 0, 0, 0, 0, 0, 0, 0, 0, 5, 5, 5, 5, 5, 5, 13, 13, 29, 61, 45, 61, 21, 21, 29, 61, 53, 61, 37, 37, 45, 61, 53, 61, 4, 4, 4, 4, 4, 4, 4, 4, 4, 4, 4, 4, 4, 4, 4, 4, 4, 4, 4, 4, 4, 4, 4, 4, 13, 13, 29, 61, 45, 61, 12, 12, 12, 12, 12, 12, 29, 61, 28, 28, 61, 60, 45, 61, 44, 44, 61, 60, 21, 21, 29, 61, 53, 61, 20, 20, 20, 20, 20, 20, 29, 61, 28, 28, 61, 60, 53, 61, 52, 52, 61, 60, 37, 37, 45, 61, 53, 61, 36, 36, 36, 36, 36, 36, 45, 61, 44, 44, 61, 60, 53, 61, 52, 52, 61, 60, 9, 9, 9, 9, 9, 9, 13, 13, 29, 61, 45, 61, 25, 25, 29, 61, 57, 61, 41, 41, 45, 61, 57, 61, 8, 8, 8, 8, 8, 8, 8, 8, 8, 8, 8, 8, 8, 8, 8, 8, 8, 8, 8, 8, 8, 8, 8, 8, 13, 13, 29, 61, 45, 61, 12, 12, 12, 12, 12, 12, 29, 61, 28, 28, 61, 60, 45, 61, 44, 44, 61, 60, 25, 25, 29, 61, 57, 61, 24, 24, 24, 24, 24, 24, 29, 61, 28, 28, 61, 60, 57, 61, 56, 56, 61, 60, 41, 41, 45, 61, 57, 61, 40, 40, 40, 40, 40, 40, 45, 61, 44, 44, 61, 60, 57, 61, 56, 56, 61, 60, 17, 17, 17, 17, 17, 17, 21, 21, 29, 61, 53, 61, 25, 25, 29, 61, 57, 61, 49, 49, 53, 61, 57, 61, 16, 16, 16, 16, 16, 16, 16, 16, 16, 16, 16, 16, 16, 16, 16, 16, 16, 16, 16, 16, 16, 16, 16, 16, 21, 21, 29, 61, 53, 61, 20, 20, 20, 20, 20, 20, 29, 61, 28, 28, 61, 60, 53, 61, 52, 52, 61, 60, 25, 25, 29, 61, 57, 61, 24, 24, 24, 24, 24, 24, 29, 61, 28, 28, 61, 60, 57, 61, 56, 56, 61, 60, 49, 49, 53, 61, 57, 61, 48, 48, 48, 48, 48, 48, 53, 61, 52, 52, 61, 60, 57, 61, 56, 56, 61, 60, 33, 33, 33, 33, 33, 33, 37, 37, 45, 61, 53, 61, 41, 41, 45, 61, 57, 61, 49, 49, 53, 61, 57, 61, 32, 32, 32, 32, 32, 32, 32, 32, 32, 32, 32, 32, 32, 32, 32, 32, 32, 32, 32, 32, 32, 32, 32, 32, 37, 37, 45, 61, 53, 61, 36, 36, 36, 36, 36, 36, 45, 61, 44, 44, 61, 60, 53, 61, 52, 52, 61, 60, 41, 41, 45, 61, 57, 61, 40, 40, 40, 40, 40, 40, 45, 61, 44, 44, 61, 60, 57, 61, 56, 56, 61, 60, 49, 49, 53, 61, 57, 61, 48, 48, 48, 48, 48, 48, 53, 61, 52, 52, 61, 60, 57, 61, 56, 56, 61, 60]
set_option maxRecDepth 100000 in
theorem rx6_1 : (rwL 6 720 [0, 1, 2, 3, 4, 5]).map (rk 6 1) = mx6_1.map some := by decide +kernel
set_option maxRecDepth 100000 in
theorem ra6_1 : (mx6_1.all fun x => decide (x < 64)) = true := by decide +kernel
set_option maxRecDepth 100000 in
theorem rb6_1 : ((List.range 64).all fun b => decide (((mx6_1.count b : Nat) : Int) = if (b : Int) / 2 ^ 1 % 2 = 1 then 0 else fct (bcn (b : Int)).toNat * fct (((6 : Nat) : Int) - 1 - bcn (b : Int)).toNat)) = true := by decide +kernel
theorem rl6_1 : mx6_1.length ≤ 720 := by decide +kernel
def mx6_2 : List Nat := [3, 3, 3, 3, 3, 3, 11, 11, 27, 59, 43, 59, 19, 19, 27, 59, 51, 59, 35, 35, 43, 59, 51, 59, 1, 1, 1, 1, 1, 1, 1, 1, 1, 1, 1, 1, 1, 1, 1, 1, 1, 1, 1, 1, 1, 1, 1, 1, 11, 11, 27, 59, 43, 59, 9, 9, 9, 9, 9, 9, 27, 59, 25, 25, 59, 57, 43, 59, 41, 41, 59, 57, 19, 19, 27, 59, 51, 59, 17, 17, 17, 17, 17, 17, 27, 59, 25, 25, 59, 57, 51, 59, 49, 49, 59, 57, 35, 35, 43, 59, 51, 59, 33, 33, 33, 33, 33, 33, 43, 59, 41, 41, 59, 57, 51, 59, 49, 49, 59, 57, 3, 3, 3, 3, 3, 3, 11, 11, 27, 59, 43, 59, 19, 19, 27, 59, 51, 59, 35, 35, 43, 59, 51, 59, 2, 2, 2, 2, 2, 2, 2, 2, 2, 2, 2, 2, 2, 2, 2, 2, 2, 2, 2, 2, 2, 2, 2, 2, 11, 11, 27, 59, 43, 59, 10, 10, 10, 10, 10, 10, 27, 59, 26, 26, 59, 58, 43, 59, 42, 42, 59, 58, 19, 19, 27, 59, 51, 59, 18, 18, 18, 18, 18, 18, 27, 59, 26, 26, 59, 58, 51, 59, 50, 50, 59, 58, 35, 35, 43, 59, 51, 59, 34, 34, 34, 34, 34, 34, 43, 59, 42, 42, 59, 58, 51, 59, 50, 50, 59, 58, 0, 0, 0, 0, 0, 0, 0, 0, 0, 0, 0, 0, 0, 0, 0, 0, 0, 0, 0, 0, 0, 0, 0, 0, 0, 0, 0, 0, 0, 0, 0, 0, 0, 0, 0, 0, 0, 0, 0, 0, 0, 0, 0, 0, 0, 0, 0, 0, 0, 0, 0, 0, 0, 0, 0, 0, 0, 0, 0, 0, 0, 0, 0, 0, 0, 0, 0, 0, 0, 0, 0, 0, 0, 0, 0, 0, 0, 0, 0, 0, 0, 0, 0, 0, 0, 0, 0, 0, 0, 0, 0, 0, 0, 0, 0, 0, 0, 0, 0, 0, 0, 0, 0, 0, 0, 0, 0, 0, 0, 0, 0, 0, 0, 0, 0, 0, 0, 0, 0, 0, 11, 11, 27, 59, 43, 59, 9, 9, 9, 9, 9, 9, 27, 59, 25, 25, 59, 57, 43, 59, 41, 41, 59, 57, 11, 11, 27, 59, 43, 59, 10, 10, 10, 10, 10, 10, 27, 59, 26, 26, 59, 58, 43, 59, 42, 42, 59, 58, 8, 8, 8, 8, 8, 8, 8, 8, 8, 8, 8, 8, 8, 8, 8, 8, 8, 8, 8, 8, 8, 8, 8, 8, 27, 59, 25, 25, 59, 57, 27, 59, 26, 26, 59, 58, 24, 24, 24, 24, 24, 24, 59, 57, 59, 58, 56, 56, 43, 59, 41, 41, 59, 57, 43, 59, 42, 42, 59, 58, 40, 40, 40, 40, 40, 40, 59, 57, 59, 58, 56, 56, 19, 19, 27, 59, 51, 59, 17, 17, 17, 17, 17, 17, 27, 59, 25, 25, 59, 57, 51, 59, 49, 49, 59, 57, 19, 19, 27, 59, 51, 59, 18, 18, 18, 18, 18, 18, 27, 59, 26, 26, 59, 58, 51, 59, 50, 50, 59, 58, 16, 16, 16, 16, 16, 16, 16, 16, 16, 16, 16, 16, 16, 16, 16, 16, 16, 16, 16, 16, 16, 16, 16, 16, 27, 59, 25, 25, 59, 57, 27, 59, 26, 26, 59, 58, 24, 24, 24, 24, 24, 24, 59, 57, 59, 58, 56, 56, 51, 59, 49, 49, 59, 57, 51, 59, 50, 50, 59, 58, 48, 48, 48, 48, 48, 48, 59, 57, 59, 58, 56, 56, 35, 35, 43, 59, 51, 59, 33, 33, 33, 33, 33, 33, 43, 59, 41, 41, 59, 57, 51, 59, 49, 49, 59, 57, 35, 35, 43, 59, 51, 59, 34, 34, 34, 34, 34, 34, 43, 59, 42, 42, 59, 58, 51, 59, 50, 50, 59, 58, 32, 32, 32, 32, 32, 32, 32, 32, 32, 32, 32, 32, 32, 32, 32, 32, 32, 32, 32, 32, 32, 32, 32, 32, 43, 59, 41, 41, 59, 57, 43, 59, 42, 42, 59, 58, 40, 40, 40, 40, 40, 40, 59, 57, 59, 58, 56, 56, 51, 59, 49, 49, 59, 57, 51, 59, 50, 50, 59, 58, 48, 48, 48, 48, 48, 48, 59, 57, 59, 58, 56, 56]
set_option maxRecDepth 100000 in
theorem rx6_2 : (rwL 6 720 [0, 1, 2, 3, 4, 5]).map (rk 6 2) = mx6_2.map some := by decide +kernel
set_option maxRecDepth 100000 in
theorem ra6_2 : (mx6_2.all fun x => decide (x < 64)) = true := by decide +kernel
set_option maxRecDepth 100000 in
theorem rb6_2 : ((List.range 64).all fun b => decide (((mx6_2.count b : Nat) : Int) = if (b : Int) / 2 ^ 2 % 2 = 1 then 0 else fct (bcn (b : Int)).toNat * fct (((6 : Nat) : Int) - 1 - bcn (b : Int)).toNat)) = true := by decide +kernel
theorem rl6_2 : mx6_2.length ≤ 720 := by decide +kernel
def mx6_3 : List Nat := [7, 7, 23, 55, 39, 55, 3, 3, 3, 3, 3, 3, 23, 55, 19, 19, 55, 51, 39, 55, 35, 35, 55, 51, 7, 7, 23, 55, 39, 55, 5, 5, 5, 5, 5, 5, 23, 55, 21, 21, 55, 53, 39, 55, 37, 37, 55, 53, 1, 1, 1, 1, 1, 1, 1, 1, 1, 1, 1, 1, 1, 1, 1, 1, 1, 1, 1, 1, 1, 1, 1, 1, 23, 55, 19, 19, 55, 51, 23, 55, 21, 21, 55, 53, 17, 17, 17, 17, 17, 17, 55, 51, 55, 53, 49, 49, 39, 55, 35, 35, 55, 51, 39, 55, 37, 37, 55, 53, 33, 33, 33, 33, 33, 33, 55, 51, 55, 53, 49, 49, 7, 7, 23, 55, 39, 55, 3, 3, 3, 3, 3, 3, 23, 55, 19, 19, 55, 51, 39, 55, 35, 35, 55, 51, 7, 7, 23, 55, 39, 55, 6, 6, 6, 6, 6, 6, 23, 55, 22, 22, 55, 54, 39, 55, 38, 38, 55, 54, 2, 2, 2, 2, 2, 2, 2, 2, 2, 2, 2, 2, 2, 2, 2, 2, 2, 2, 2, 2, 2, 2, 2, 2, 23, 55, 19, 19, 55, 51, 23, 55, 22, 22, 55, 54, 18, 18, 18, 18, 18, 18, 55, 51, 55, 54, 50, 50, 39, 55, 35, 35, 55, 51, 39, 55, 38, 38, 55, 54, 34, 34, 34, 34, 34, 34, 55, 51, 55, 54, 50, 50, 7, 7, 23, 55, 39, 55, 5, 5, 5, 5, 5, 5, 23, 55, 21, 21, 55, 53, 39, 55, 37, 37, 55, 53, 7, 7, 23, 55, 39, 55, 6, 6, 6, 6, 6, 6, 23, 55, 22, 22, 55, 54, 39, 55, 38, 38, 55, 54, 4, 4, 4, 4, 4, 4, 4, 4, 4, 4, 4, 4, 4, 4, 4, 4, 4, 4, 4, 4, 4, 4, 4, 4, 23, 55, 21, 21, 55, 53, 23, 55, 22, 22, 55, 54, 20, 20, 20, 20, 20, 20, 55, 53, 55, 54, 52, 52, 39, 55, 37, 37, 55, 53, 39, 55, 38, 38, 55, 54, 36, 36, 36, 36, 36, 36, 55, 53, 55, 54, 52, 52, 0, 0, 0, 0, 0, 0, 0, 0, 0, 0, 0, 0, 0, 0, 0, 0, 0, 0, 0, 0, 0, 0, 0, 0, 0, 0, 0, 0, 0, 0, 0, 0, 0, 0, 0, 0, 0, 0, 0, 0, 0, 0, 0, 0, 0, 0, 0, 0, 0, 0, 0, 0, 0, 0, 0, 0, 0, 0, 0, 0, 0, 0, 0, 0, 0, 0, 0, 0, 0, 0, 0, 0, 0, 0, 0, 0, 0, 0, 0, 0, 0, 0, 0, 0, 0, 0, 0, 0, 0, 0, 0, 0, 0, 0, 0, 0, 0, 0, 0, 0, 0, 0, 0, 0, 0, 0, 0, 0, 0, 0, 0, 0, 0, 0, 0, 0, 0, 0, 0, 0, 23, 55, 19, 19, 55, 51, 23, 55, 21, 21, 55, 53, 17, 17, 17, 17, 17, 17, 55, 51, 55, 53, 49, 49, 23, 55, 19, 19, 55, 51, 23, 55, 22, 22, 55, 54, 18, 18, 18, 18, 18, 18, 55, 51, 55, 54, 50, 50, 23, 55, 21, 21, 55, 53, 23, 55, 22, 22, 55, 54, 20, 20, 20, 20, 20, 20, 55, 53, 55, 54, 52, 52, 16, 16, 16, 16, 16, 16, 16, 16, 16, 16, 16, 16, 16, 16, 16, 16, 16, 16, 16, 16, 16, 16, 16, 16, 55, 51, 55, 53, 49, 49, 55, 51, 55, 54, 50, 50, 55, 53, 55, 54, 52, 52, 48, 48, 48, 48, 48, 48, 39, 55, 35, 35, 55, 51, 39, 55, 37, 37, 55, 53, 33, 33, 33, 33, 33, 33, 55, 51, 55, 53, 49, 49, 39, 55, 35, 35, 55, 51, 39, 55, 38, 38, 55, 54, 34, 34, 34, 34, 34, 34, 55, 51, 55, 54, 50, 50, 39, 55, 37, 37, 55, 53, 39, 55, 38, 38, 55, 54, 36, 36, 36, 36, 36, 36, 55, 53, 55, 54, 52, 52, 32, 32, 32, 32, 32, 32, 32, 32, 32, 32, 32, 32, 32, 32, 32, 32, 32, 32, 32, 32, 32, 32, 32, 32, 55, 51, 55, 53, 49, 49, 55, 51, 55, 54, 50, 50, 55, 53, 55, 54, 52, 52, 48, 48, 48, 48, 48, 48]
set_option maxRecDepth 100000 in
theorem rx6_3 : (rwL 6 720 [0, 1, 2, 3, 4, 5]).map (rk 6 3) = mx6_3.map some := by decide +kernel
set_option maxRecDepth 100000 in
theorem ra6_3 : (mx6_3.all fun x => decide (x < 64)) = true := by decide +kernel
set_option maxRecDepth 100000 in
theorem rb6_3 : ((List.range 64).all fun b => decide (((mx6_3.count b : Nat) : Int) = if (b : Int) / 2 ^ 3 % 2 = 1 then 0 else fct (bcn (b : Int)).toNat * fct (((6 : Nat) : Int) - 1 - bcn (b : Int)).toNat)) = true := by decide +kernel
theorem rl6_3 : mx6_3.length ≤ 720 := by decide +kernel
def mx6_4 : List Nat := [15, 47, 7, 7, 47, 39, 15, 47, 11, 11, 47, 43, 3, 3, 3, 3, 3, 3, 47, 39, 47, 43, 35, 35, 15, 47, 7, 7, 47, 39, 15, 47, 13, 13, 47, 45, 5, 5, 5, 5, 5, 5, 47, 39, 47, 45, 37, 37, 15, 47, 11, 11, 47, 43, 15, 47, 13, 13, 47, 45, 9, 9, 9, 9, 9, 9, 47, 43, 47, 45, 41, 41, 1, 1, 1, 1, 1, 1, 1, 1, 1, 1, 1, 1, 1, 1, 1, 1, 1, 1, 1, 1, 1, 1, 1, 1, 47, 39, 47, 43, 35, 35, 47, 39, 47, 45, 37, 37, 47, 43, 47, 45, 41, 41, 33, 33, 33, 33, 33, 33, 15, 47, 7, 7, 47, 39, 15, 47, 11, 11, 47, 43, 3, 3, 3, 3, 3, 3, 47, 39, 47, 43, 35, 35, 15, 47, 7, 7, 47, 39, 15, 47, 14, 14, 47, 46, 6, 6, 6, 6, 6, 6, 47, 39, 47, 46, 38, 38, 15, 47, 11, 11, 47, 43, 15, 47, 14, 14, 47, 46, 10, 10, 10, 10, 10, 10, 47, 43, 47, 46, 42, 42, 2, 2, 2, 2, 2, 2, 2, 2, 2, 2, 2, 2, 2, 2, 2, 2, 2, 2, 2, 2, 2, 2, 2, 2, 47, 39, 47, 43, 35, 35, 47, 39, 47, 46, 38, 38, 47, 43, 47, 46, 42, 42, 34, 34, 34, 34, 34, 34, 15, 47, 7, 7, 47, 39, 15, 47, 13, 13, 47, 45, 5, 5, 5, 5, 5, 5, 47, 39, 47, 45, 37, 37, 15, 47, 7, 7, 47, 39, 15, 47, 14, 14, 47, 46, 6, 6, 6, 6, 6, 6, 47, 39, 47, 46, 38, 38, 15, 47, 13, 13, 47, 45, 15, 47, 14, 14, 47, 46, 12, 12, 12, 12, 12, 12, 47, 45, 47, 46, 44, 44, 4, 4, 4, 4, 4, 4, 4, 4, 4, 4, 4, 4, 4, 4, 4, 4, 4, 4, 4, 4, 4, 4, 4, 4, 47, 39, 47, 45, 37, 37, 47, 39, 47, 46, 38, 38, 47, 45, 47, 46, 44, 44, 36, 36, 36, 36, 36, 36, 15, 47, 11, 11, 47, 43, 15, 47, 13, 13, 47, 45, 9, 9, 9, 9, 9, 9, 47, 43, 47, 45, 41, 41, 15, 47, 11, 11, 47, 43, 15, 47, 14, 14, 47, 46, 10, 10, 10, 10, 10, 10, 47, 43, 47, 46, 42, 42, 15, 47, 13, 13, 47, 45, 15, 47, 14, 14, 47, 46, 12, 12, 12, 12, 12, 12, 47, 45, 47, 46, 44, 44, 8, 8, 8, 8, 8, 8, 8, 8, 8, 8, 8, 8, 8, 8, 8, 8, 8, 8, 8, 8, 8, 8, 8, 8, 47, 43, 47, 45, 41, 41, 47, 43, 47, 46, 42, 42, 47, 45, 47, 46, 44, 44, 40, 40, 40, 40, 40, 40, 0, 0, 0, 0, 0, 0, 0, 0, 0, 0, 0, 0, 0, 0, 0, 0, 0, 0, 0, 0, 0, 0, 0, 0, 0, 0, 0, 0, 0, 0, 0, 0, 0, 0, 0, 0, 0, 0, 0, 0, 0, 0, 0, 0, 0, 0, 0, 0, 0, 0, 0, 0, 0, 0, 0, 0, 0, 0, 0, 0, 0, 0, 0, 0, 0, 0, 0, 0, 0, 0, 0, 0, 0, 0, 0, 0, 0, 0, 0, 0, 0, 0, 0, 0, 0, 0, 0, 0, 0, 0, 0, 0, 0, 0, 0, 0, 0, 0, 0, 0, 0, 0, 0, 0, 0, 0, 0, 0, 0, 0, 0, 0, 0, 0, 0, 0, 0, 0, 0, 0, 47, 39, 47, 43, 35, 35, 47, 39, 47, 45, 37, 37, 47, 43, 47, 45, 41, 41, 33, 33, 33, 33, 33, 33, 47, 39, 47, 43, 35, 35, 47, 39, 47, 46, 38, 38, 47, 43, 47, 46, 42, 42, 34, 34, 34, 34, 34, 34, 47, 39, 47, 45, 37, 37, 47, 39, 47, 46, 38, 38, 47, 45, 47, 46, 44, 44, 36, 36, 36, 36, 36, 36, 47, 43, 47, 45, 41, 41, 47, 43, 47, 46, 42, 42, 47, 45, 47, 46, 44, 44, 40, 40, 40, 40, 40, 40, 32, 32, 32, 32, 32, 32, 32, 32, 32, 32, 32, 32, 32, 32, 32, 32, 32, 32, 32, 32, 32, 32, 32, 32]
set_option maxRecDepth 100000 in
theorem rx6_4 : (rwL 6 720 [0, 1, 2, 3, 4, 5]).map (rk 6 4) = mx6_4.map some := by decide +kernel
set_option maxRecDepth 100000 in
theorem ra6_4 : (mx6_4.all fun x => decide (x < 64)) = true := by decide +kernel
set_option maxRecDepth 100000 in
theorem rb6_4 : ((List.range 64).all fun b => decide (((mx6_4.count b : Nat) : Int) = if (b : Int) / 2 ^ 4 % 2 = 1 then 0 else fct (bcn (b : Int)).toNat * fct (((6 : Nat) : Int) - 1 - bcn (b : Int)).toNat)) = true := by decide +kernel
theorem rl6_4 : mx6_4.length ≤ 720 := by decide +kernel
def mx6_5 : List Nat := [31, 15, 31, 23, 7, 7, 31, 15, 31, 27, 11, 11, 31, 23, 31, 27, 19, 19, 3, 3, 3, 3, 3, 3, 31, 15, 31, 23, 7, 7, 31, 15, 31, 29, 13, 13, 31, 23, 31, 29, 21, 21, 5, 5, 5, 5, 5, 5, 31, 15, 31, 27, 11, 11, 31, 15, 31, 29, 13, 13, 31, 27, 31, 29, 25, 25, 9, 9, 9, 9, 9, 9, 31, 23, 31, 27, 19, 19, 31, 23, 31, 29, 21, 21, 31, 27, 31, 29, 25, 25, 17, 17, 17, 17, 17, 17, 1, 1, 1, 1, 1, 1, 1, 1, 1, 1, 1, 1, 1, 1, 1, 1, 1, 1, 1, 1, 1, 1, 1, 1, 31, 15, 31, 23, 7, 7, 31, 15, 31, 27, 11, 11, 31, 23, 31, 27, 19, 19, 3, 3, 3, 3, 3, 3, 31, 15, 31, 23, 7, 7, 31, 15, 31, 30, 14, 14, 31, 23, 31, 30, 22, 22, 6, 6, 6, 6, 6, 6, 31, 15, 31, 27, 11, 11, 31, 15, 31, 30, 14, 14, 31, 27, 31, 30, 26, 26, 10, 10, 10, 10, 10, 10, 31, 23, 31, 27, 19, 19, 31, 23, 31, 30, 22, 22, 31, 27, 31, 30, 26, 26, 18, 18, 18, 18, 18, 18, 2, 2, 2, 2, 2, 2, 2, 2, 2, 2, 2, 2, 2, 2, 2, 2, 2, 2, 2, 2, 2, 2, 2, 2, 31, 15, 31, 23, 7, 7, 31, 15, 31, 29, 13, 13, 31, 23, 31, 29, 21, 21, 5, 5, 5, 5, 5, 5, 31, 15, 31, 23, 7, 7, 31, 15, 31, 30, 14, 14, 31, 23, 31, 30, 22, 22, 6, 6, 6, 6, 6, 6, 31, 15, 31, 29, 13, 13, 31, 15, 31, 30, 14, 14, 31, 29, 31, 30, 28, 28, 12, 12, 12, 12, 12, 12, 31, 23, 31, 29, 21, 21, 31, 23, 31, 30, 22, 22, 31, 29, 31, 30, 28, 28, 20, 20, 20, 20, 20, 20, 4, 4, 4, 4, 4, 4, 4, 4, 4, 4, 4, 4, 4, 4, 4, 4, 4, 4, 4, 4, 4, 4, 4, 4, 31, 15, 31, 27, 11, 11, 31, 15, 31, 29, 13, 13, 31, 27, 31, 29, 25, 25, 9, 9, 9, 9, 9, 9, 31, 15, 31, 27, 11, 11, 31, 15, 31, 30, 14, 14, 31, 27, 31, 30, 26, 26, 10, 10, 10, 10, 10, 10, 31, 15, 31, 29, 13, 13, 31, 15, 31, 30, 14, 14, 31, 29, 31, 30, 28, 28, 12, 12, 12, 12, 12, 12, 31, 27, 31, 29, 25, 25, 31, 27, 31, 30, 26, 26, 31, 29, 31, 30, 28, 28, 24, 24, 24, 24, 24, 24, 8, 8, 8, 8, 8, 8, 8, 8, 8, 8, 8, 8, 8, 8, 8, 8, 8, 8, 8, 8, 8, 8, 8, 8, 31, 23, 31, 27, 19, 19, 31, 23, 31, 29, 21, 21, 31, 27, 31, 29, 25, 25, 17, 17, 17, 17, 17, 17, 31, 23, 31, 27, 19, 19, 31, 23, 31, 30, 22, 22, 31, 27, 31, 30, 26, 26, 18, 18, 18, 18, 18, 18, 31, 23, 31, 29, 21, 21, 31, 23, 31, 30, 22, 22, 31, 29, 31, 30, 28, 28, 20, 20, 20, 20, 20, 20, 31, 27, 31, 29, 25, 25, 31, 27, 31, 30, 26, 26, 31, 29, 31, 30, 28, 28, 24, 24, 24, 24, 24, 24, 16, 16, 16, 16, 16, 16, 16, 16, 16, 16, 16, 16, 16, 16, 16, 16, 16, 16, 16, 16, 16, 16, 16, 16, 0, 0, 0, 0, 0, 0, 0, 0, 0, 0, 0, 0, 0, 0, 0, 0, 0, 0, 0, 0, 0, 0, 0, 0, 0, 0, 0, 0, 0, 0, 0, 0, 0, 0, 0, 0, 0, 0, 0, 0, 0, 0, 0, 0, 0, 0, 0, 0, 0, 0, 0, 0, 0, 0, 0, 0, 0, 0, 0, 0, 0, 0, 0, 0, 0, 0, 0, 0, 0, 0, 0, 0, 0, 0, 0, 0, 0, 0, 0, 0, 0, 0, 0, 0, 0, 0, 0, 0, 0, 0, 0, 0, 0, 0, 0, 0, 0, 0, 0, 0, 0, 0, 0, 0, 0, 0, 0, 0, 0, 0, 0, 0, 0, 0, 0, 0, 0, 0, 0, 0]
set_option maxRecDepth 100000 in
theorem rx6_5 : (rwL 6 720 [0, 1, 2, 3, 4, 5]).map (rk 6 5) = mx6_5.map some := by decide +kernel
set_option maxRecDepth 100000 in
theorem ra6_5 : (mx6_5.all fun x => decide (x < 64)) = true := by decide +kernel
set_option maxRecDepth 100000 in
theorem rb6_5 : ((List.range 64).all fun b => decide (((mx6_5.count b : Nat) : Int) = if (b : Int) / 2 ^ 5 % 2 = 1 then 0 else fct (bcn (b : Int)).toNat * fct (((6 : Nat) : Int) - 1 - bcn (b : Int)).toNat)) = true := by decide +kernel
theorem rl6_5 : mx6_5.length ≤ 720 := by decide +kernel
/-- in how many orders one decides: by all orders, by sets of those ahead -/
theorem ord_all {g : Int → Int} {q0 : Int} {P w : Nat} (hP : P ≤ 6) (hw : w < P) : rwS g q0 P w 720 [0, 1, 2, 3, 4, 5] = tot (deT g P q0 w) (2 ^ P) ∧ 0 ≤ rwS g q0 P w 720 [0, 1, 2, 3, 4, 5] ∧ rwS g q0 P w 720 [0, 1, 2, 3, 4, 5] ≤ 720 := by
  rcases (show P = 1 ∨ P = 2 ∨ P = 3 ∨ P = 4 ∨ P = 5 ∨ P = 6 by omega) with rfl | rfl | rfl | rfl | rfl | rfl
  · obtain rfl : w = 0 := by omega
    exact ⟨ord_ok (N := 2 ^ 1) hP rx1_0 ra1_0 rb1_0, ord_b hP rx1_0 rl1_0⟩
  · rcases (show w = 0 ∨ w = 1 by omega) with rfl | rfl
    · exact ⟨ord_ok (N := 2 ^ 2) hP rx2_0 ra2_0 rb2_0, ord_b hP rx2_0 rl2_0⟩
    · exact ⟨ord_ok (N := 2 ^ 2) hP rx2_1 ra2_1 rb2_1, ord_b hP rx2_1 rl2_1⟩
  · rcases (show w = 0 ∨ w = 1 ∨ w = 2 by omega) with rfl | rfl | rfl
    · exact ⟨ord_ok (N := 2 ^ 3) hP rx3_0 ra3_0 rb3_0, ord_b hP rx3_0 rl3_0⟩
    · exact ⟨ord_ok (N := 2 ^ 3) hP rx3_1 ra3_1 rb3_1, ord_b hP rx3_1 rl3_1⟩
    · exact ⟨ord_ok (N := 2 ^ 3) hP rx3_2 ra3_2 rb3_2, ord_b hP rx3_2 rl3_2⟩
  · rcases (show w = 0 ∨ w = 1 ∨ w = 2 ∨ w = 3 by omega) with rfl | rfl | rfl | rfl
    · exact ⟨ord_ok (N := 2 ^ 4) hP rx4_0 ra4_0 rb4_0, ord_b hP rx4_0 rl4_0⟩
    · exact ⟨ord_ok (N := 2 ^ 4) hP rx4_1 ra4_1 rb4_1, ord_b hP rx4_1 rl4_1⟩
    · exact ⟨ord_ok (N := 2 ^ 4) hP rx4_2 ra4_2 rb4_2, ord_b hP rx4_2 rl4_2⟩
    · exact ⟨ord_ok (N := 2 ^ 4) hP rx4_3 ra4_3 rb4_3, ord_b hP rx4_3 rl4_3⟩
  · rcases (show w = 0 ∨ w = 1 ∨ w = 2 ∨ w = 3 ∨ w = 4 by omega) with rfl | rfl | rfl | rfl | rfl
    · exact ⟨ord_ok (N := 2 ^ 5) hP rx5_0 ra5_0 rb5_0, ord_b hP rx5_0 rl5_0⟩
    · exact ⟨ord_ok (N := 2 ^ 5) hP rx5_1 ra5_1 rb5_1, ord_b hP rx5_1 rl5_1⟩
    · exact ⟨ord_ok (N := 2 ^ 5) hP rx5_2 ra5_2 rb5_2, ord_b hP rx5_2 rl5_2⟩
    · exact ⟨ord_ok (N := 2 ^ 5) hP rx5_3 ra5_3 rb5_3, ord_b hP rx5_3 rl5_3⟩
    · exact ⟨ord_ok (N := 2 ^ 5) hP rx5_4 ra5_4 rb5_4, ord_b hP rx5_4 rl5_4⟩
  · rcases (show w = 0 ∨ w = 1 ∨ w = 2 ∨ w = 3 ∨ w = 4 ∨ w = 5 by omega) with rfl | rfl | rfl | rfl | rfl | rfl
    · exact ⟨ord_ok (N := 2 ^ 6) hP rx6_0 ra6_0 rb6_0, ord_b hP rx6_0 rl6_0⟩
    · exact ⟨ord_ok (N := 2 ^ 6) hP rx6_1 ra6_1 rb6_1, ord_b hP rx6_1 rl6_1⟩
    · exact ⟨ord_ok (N := 2 ^ 6) hP rx6_2 ra6_2 rb6_2, ord_b hP rx6_2 rl6_2⟩
    · exact ⟨ord_ok (N := 2 ^ 6) hP rx6_3 ra6_3 rb6_3, ord_b hP rx6_3 rl6_3⟩
    · exact ⟨ord_ok (N := 2 ^ 6) hP rx6_4 ra6_4 rb6_4, ord_b hP rx6_4 rl6_4⟩
    · exact ⟨ord_ok (N := 2 ^ 6) hP rx6_5 ra6_5 rb6_5, ord_b hP rx6_5 rl6_5⟩
set_option maxRecDepth 100000 in
theorem rwN_f : ((List.range 7).all fun P => decide (rwN P 720 [0, 1, 2, 3, 4, 5] = fct P)) = true := by decide +kernel
