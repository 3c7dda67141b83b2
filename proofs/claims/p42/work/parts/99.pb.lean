/-! -/
set_option maxRecDepth 100000 in
theorem ji_24_0 : mj_ins 24 0 = some (.iload_n 0) := by decide +kernel
set_option maxRecDepth 100000 in
theorem ji_24_1 : mj_ins 24 1 = some (.bipush 97) := by decide +kernel
set_option maxRecDepth 100000 in
theorem ji_24_3 : mj_ins 24 3 = some (.if_icmp .lt 9) := by decide +kernel
set_option maxRecDepth 100000 in
theorem ji_24_12 : mj_ins 24 12 = some (.iload_n 0) := by decide +kernel
set_option maxRecDepth 100000 in
theorem ji_24_13 : mj_ins 24 13 = some (.bipush 65) := by decide +kernel
set_option maxRecDepth 100000 in
theorem ji_24_15 : mj_ins 24 15 = some (.if_icmp .lt 13) := by decide +kernel
set_option maxRecDepth 100000 in
theorem ji_24_28 : mj_ins 24 28 = some (.iconst 0) := by decide +kernel
set_option maxRecDepth 100000 in
theorem ji_24_29 : mj_ins 24 29 = some (.ireturn) := by decide +kernel
set_option maxRecDepth 100000 in
theorem jr_24 : mj_ret 24 = some .boolean := by decide +kernel
set_option maxRecDepth 100000 in
theorem ji_24_18 : mj_ins 24 18 = some (.iload_n 0) := by decide +kernel
set_option maxRecDepth 100000 in
theorem ji_24_19 : mj_ins 24 19 = some (.bipush 90) := by decide +kernel
set_option maxRecDepth 100000 in
theorem ji_24_21 : mj_ins 24 21 = some (.if_icmp .gt 7) := by decide +kernel
set_option maxRecDepth 100000 in
theorem ji_24_24 : mj_ins 24 24 = some (.iconst 1) := by decide +kernel
set_option maxRecDepth 100000 in
theorem ji_24_25 : mj_ins 24 25 = some (.goto 4) := by decide +kernel
set_option maxRecDepth 100000 in
theorem ji_24_6 : mj_ins 24 6 = some (.iload_n 0) := by decide +kernel
set_option maxRecDepth 100000 in
theorem ji_24_7 : mj_ins 24 7 = some (.bipush 122) := by decide +kernel
set_option maxRecDepth 100000 in
theorem ji_24_9 : mj_ins 24 9 = some (.if_icmp .le 15) := by decide +kernel
set_option maxRecDepth 100000 in
theorem ji_27_0 : mj_ins 27 0 = some (.iload_n 0) := by decide +kernel
set_option maxRecDepth 100000 in
theorem ji_27_1 : mj_ins 27 1 = some (.bipush 48) := by decide +kernel
set_option maxRecDepth 100000 in
theorem ji_27_3 : mj_ins 27 3 = some (.if_icmp .lt 13) := by decide +kernel
set_option maxRecDepth 100000 in
theorem ji_27_16 : mj_ins 27 16 = some (.iconst 0) := by decide +kernel
set_option maxRecDepth 100000 in
theorem ji_27_17 : mj_ins 27 17 = some (.ireturn) := by decide +kernel
set_option maxRecDepth 100000 in
theorem jr_27 : mj_ret 27 = some .boolean := by decide +kernel
set_option maxRecDepth 100000 in
theorem ji_27_6 : mj_ins 27 6 = some (.iload_n 0) := by decide +kernel
set_option maxRecDepth 100000 in
theorem ji_27_7 : mj_ins 27 7 = some (.bipush 57) := by decide +kernel
set_option maxRecDepth 100000 in
theorem ji_27_9 : mj_ins 27 9 = some (.if_icmp .gt 7) := by decide +kernel
set_option maxRecDepth 100000 in
theorem ji_27_12 : mj_ins 27 12 = some (.iconst 1) := by decide +kernel
set_option maxRecDepth 100000 in
theorem ji_27_13 : mj_ins 27 13 = some (.goto 4) := by decide +kernel
set_option maxRecDepth 100000 in
theorem jn_24 : mj_nl 24 = 1 := by decide +kernel
set_option maxRecDepth 100000 in
theorem jn_27 : mj_nl 27 = 1 := by decide +kernel
set_option maxRecDepth 100000 in
theorem ji_25_0 : mj_ins 25 0 = some (.aload_n 0) := by decide +kernel
set_option maxRecDepth 100000 in
theorem ji_25_1 : mj_ins 25 1 = some (.getfield 28) := by decide +kernel
set_option maxRecDepth 100000 in
theorem jf_25_28 : mj_fld 25 28 = some (8, 5, .int, true) := by decide +kernel
set_option maxRecDepth 100000 in
theorem ji_25_4 : mj_ins 25 4 = some (.aload_n 0) := by decide +kernel
set_option maxRecDepth 100000 in
theorem ji_25_5 : mj_ins 25 5 = some (.getfield 15) := by decide +kernel
set_option maxRecDepth 100000 in
theorem jf_25_15 : mj_fld 25 15 = some (8, 1, .int, true) := by decide +kernel
set_option maxRecDepth 100000 in
theorem ji_25_8 : mj_ins 25 8 = some (.if_icmp .ge 31) := by decide +kernel
set_option maxRecDepth 100000 in
theorem ji_25_39 : mj_ins 25 39 = some (.return_) := by decide +kernel
set_option maxRecDepth 100000 in
theorem jr_25 : mj_ret 25 = none := by decide +kernel
set_option maxRecDepth 100000 in
theorem ji_25_11 : mj_ins 25 11 = some (.aload_n 0) := by decide +kernel
set_option maxRecDepth 100000 in
theorem ji_25_12 : mj_ins 25 12 = some (.getfield 11) := by decide +kernel
set_option maxRecDepth 100000 in
theorem jf_25_11 : mj_fld 25 11 = some (8, 0, (.array .int), false) := by decide +kernel
set_option maxRecDepth 100000 in
theorem ji_25_15 : mj_ins 25 15 = some (.aload_n 0) := by decide +kernel
set_option maxRecDepth 100000 in
theorem ji_25_16 : mj_ins 25 16 = some (.getfield 28) := by decide +kernel
set_option maxRecDepth 100000 in
theorem ji_25_19 : mj_ins 25 19 = some (.iaload) := by decide +kernel
set_option maxRecDepth 100000 in
theorem ji_25_20 : mj_ins 25 20 = some (.invokestatic 31) := by decide +kernel
set_option maxRecDepth 100000 in
theorem jc_25_31 : mj_cal 25 31 = some (1, 24, 1) := by decide +kernel
set_option maxRecDepth 100000 in
theorem ji_25_23 : mj_ins 25 23 = some (.ifCond .eq 16) := by decide +kernel
set_option maxRecDepth 100000 in
theorem ji_25_26 : mj_ins 25 26 = some (.aload_n 0) := by decide +kernel
set_option maxRecDepth 100000 in
theorem ji_25_27 : mj_ins 25 27 = some (.dup) := by decide +kernel
set_option maxRecDepth 100000 in
theorem ji_25_28 : mj_ins 25 28 = some (.getfield 28) := by decide +kernel
set_option maxRecDepth 100000 in
theorem ji_25_31 : mj_ins 25 31 = some (.iconst 1) := by decide +kernel
set_option maxRecDepth 100000 in
theorem ji_25_32 : mj_ins 25 32 = some (.iadd) := by decide +kernel
set_option maxRecDepth 100000 in
theorem ji_25_33 : mj_ins 25 33 = some (.putfield 28) := by decide +kernel
set_option maxRecDepth 100000 in
theorem ji_25_36 : mj_ins 25 36 = some (.goto (-36)) := by decide +kernel
set_option maxRecDepth 100000 in
theorem ji_28_2 : mj_ins 28 2 = some (.aload_n 0) := by decide +kernel
set_option maxRecDepth 100000 in
theorem ji_28_3 : mj_ins 28 3 = some (.getfield 28) := by decide +kernel
set_option maxRecDepth 100000 in
theorem jf_28_28 : mj_fld 28 28 = some (8, 5, .int, true) := by decide +kernel
set_option maxRecDepth 100000 in
theorem ji_28_6 : mj_ins 28 6 = some (.aload_n 0) := by decide +kernel
set_option maxRecDepth 100000 in
theorem ji_28_7 : mj_ins 28 7 = some (.getfield 15) := by decide +kernel
set_option maxRecDepth 100000 in
theorem jf_28_15 : mj_fld 28 15 = some (8, 1, .int, true) := by decide +kernel
set_option maxRecDepth 100000 in
theorem ji_28_10 : mj_ins 28 10 = some (.if_icmp .ge 55) := by decide +kernel
set_option maxRecDepth 100000 in
theorem ji_28_65 : mj_ins 28 65 = some (.aload_n 0) := by decide +kernel
set_option maxRecDepth 100000 in
theorem ji_28_66 : mj_ins 28 66 = some (.iconst 1) := by decide +kernel
set_option maxRecDepth 100000 in
theorem ji_28_67 : mj_ins 28 67 = some (.putfield 19) := by decide +kernel
set_option maxRecDepth 100000 in
theorem jf_28_19 : mj_fld 28 19 = some (8, 2, .int, true) := by decide +kernel
set_option maxRecDepth 100000 in
theorem ji_28_70 : mj_ins 28 70 = some (.aload_n 0) := by decide +kernel
set_option maxRecDepth 100000 in
theorem ji_28_71 : mj_ins 28 71 = some (.iload_n 1) := by decide +kernel
set_option maxRecDepth 100000 in
theorem ji_28_72 : mj_ins 28 72 = some (.putfield 22) := by decide +kernel
set_option maxRecDepth 100000 in
theorem jf_28_22 : mj_fld 28 22 = some (8, 3, .int, true) := by decide +kernel
set_option maxRecDepth 100000 in
theorem ji_28_75 : mj_ins 28 75 = some (.return_) := by decide +kernel
set_option maxRecDepth 100000 in
theorem jr_28 : mj_ret 28 = none := by decide +kernel
set_option maxRecDepth 100000 in
theorem ji_28_13 : mj_ins 28 13 = some (.aload_n 0) := by decide +kernel
set_option maxRecDepth 100000 in
theorem ji_28_14 : mj_ins 28 14 = some (.getfield 11) := by decide +kernel
set_option maxRecDepth 100000 in
theorem jf_28_11 : mj_fld 28 11 = some (8, 0, (.array .int), false) := by decide +kernel
set_option maxRecDepth 100000 in
theorem ji_28_17 : mj_ins 28 17 = some (.aload_n 0) := by decide +kernel
set_option maxRecDepth 100000 in
theorem ji_28_18 : mj_ins 28 18 = some (.getfield 28) := by decide +kernel
set_option maxRecDepth 100000 in
theorem ji_28_21 : mj_ins 28 21 = some (.iaload) := by decide +kernel
set_option maxRecDepth 100000 in
theorem ji_28_22 : mj_ins 28 22 = some (.invokestatic 42) := by decide +kernel
set_option maxRecDepth 100000 in
theorem jc_28_42 : mj_cal 28 42 = some (1, 27, 1) := by decide +kernel
set_option maxRecDepth 100000 in
theorem ji_28_25 : mj_ins 28 25 = some (.ifCond .eq 40) := by decide +kernel
set_option maxRecDepth 100000 in
theorem ji_28_28 : mj_ins 28 28 = some (.sipush 10000) := by decide +kernel
set_option maxRecDepth 100000 in
theorem ji_28_31 : mj_ins 28 31 = some (.iload_n 1) := by decide +kernel
set_option maxRecDepth 100000 in
theorem ji_28_32 : mj_ins 28 32 = some (.bipush 10) := by decide +kernel
set_option maxRecDepth 100000 in
theorem ji_28_34 : mj_ins 28 34 = some (.imul) := by decide +kernel
set_option maxRecDepth 100000 in
theorem ji_28_35 : mj_ins 28 35 = some (.aload_n 0) := by decide +kernel
set_option maxRecDepth 100000 in
theorem ji_28_36 : mj_ins 28 36 = some (.getfield 11) := by decide +kernel
set_option maxRecDepth 100000 in
theorem ji_28_39 : mj_ins 28 39 = some (.aload_n 0) := by decide +kernel
set_option maxRecDepth 100000 in
theorem ji_28_40 : mj_ins 28 40 = some (.getfield 28) := by decide +kernel
set_option maxRecDepth 100000 in
theorem ji_28_43 : mj_ins 28 43 = some (.iaload) := by decide +kernel
set_option maxRecDepth 100000 in
theorem ji_28_44 : mj_ins 28 44 = some (.iadd) := by decide +kernel
set_option maxRecDepth 100000 in
theorem ji_28_45 : mj_ins 28 45 = some (.bipush 48) := by decide +kernel
set_option maxRecDepth 100000 in
theorem ji_28_47 : mj_ins 28 47 = some (.isub) := by decide +kernel
set_option maxRecDepth 100000 in
theorem ji_28_48 : mj_ins 28 48 = some (.invokestatic 51) := by decide +kernel
set_option maxRecDepth 100000 in
theorem jc_28_51 : mj_cal 28 51 = some (11, 0, 0) := by decide +kernel
set_option maxRecDepth 100000 in
theorem ji_28_51 : mj_ins 28 51 = some (.istore_n 1) := by decide +kernel
set_option maxRecDepth 100000 in
theorem ji_28_52 : mj_ins 28 52 = some (.aload_n 0) := by decide +kernel
set_option maxRecDepth 100000 in
theorem ji_28_53 : mj_ins 28 53 = some (.dup) := by decide +kernel
set_option maxRecDepth 100000 in
theorem ji_28_54 : mj_ins 28 54 = some (.getfield 28) := by decide +kernel
set_option maxRecDepth 100000 in
theorem ji_28_57 : mj_ins 28 57 = some (.iconst 1) := by decide +kernel
set_option maxRecDepth 100000 in
theorem ji_28_58 : mj_ins 28 58 = some (.iadd) := by decide +kernel
set_option maxRecDepth 100000 in
theorem ji_28_59 : mj_ins 28 59 = some (.putfield 28) := by decide +kernel
set_option maxRecDepth 100000 in
theorem ji_28_62 : mj_ins 28 62 = some (.goto (-60)) := by decide +kernel
set_option maxRecDepth 100000 in
theorem ji_28_0 : mj_ins 28 0 = some (.iconst 0) := by decide +kernel
set_option maxRecDepth 100000 in
theorem ji_28_1 : mj_ins 28 1 = some (.istore_n 1) := by decide +kernel
/-! tokens; the class's tape, exactly; laid by program (wp_ctok.py) -/
theorem fd_lt {h : mj_H} {a : Nat} {c : mj_C} (e : h[a]? = some c) : a < h.length := (List.getElem?_eq_some_iff.mp e).1
def tk_b (c : Int) : Prop := c = 32 ∨ c = 10
def tk_l (c : Int) : Prop := 97 ≤ c ∧ c ≤ 122 ∨ 65 ≤ c ∧ c ≤ 90
def tk_d (c : Int) : Prop := 48 ≤ c ∧ c ≤ 57
/-- from p on all are so, up to q -/
def wh (c : Int → Prop) (B : Int → Int) (p q : Int) : Prop := p ≤ q ∧ (∀ j, p ≤ j → j < q → c (B j)) ∧ ¬ c (B q)
theorem wh_u {c : Int → Prop} {B : Int → Int} {p q q' : Int} (a : wh c B p q) (b : wh c B p q') : q = q' := by
  obtain ⟨a1, a2, a3⟩ := a
  obtain ⟨b1, b2, b3⟩ := b
  by_cases h1 : q < q'
  · exact absurd (b2 q a1 h1) a3
  · by_cases h2 : q' < q
    · exact absurd (a2 q' b1 h2) b3
    · omega
def tk_n (B : Int → Int) (p : Int) : Nat → Int
  | 0 => 0
  | k + 1 => 10 * tk_n B p k + (B (p + (k : Int)) - 48)
def tk_ls (B : Int → Int) (p q : Int) : List Int := (List.range (q - p).toNat).map (fun i : Nat => B (p + (i : Int)))
def tk_W : List (List Int) := [[99, 108, 105, 109, 98, 115], [116, 101, 97, 114, 115], [99, 111, 117, 110, 116, 115], [112, 111, 108, 101], [112, 111, 119, 101, 114], [104, 111, 105, 115, 116], [108, 111, 119, 101, 114], [112, 114, 117, 110, 101], [98, 108, 111, 119], [104, 111, 117, 114], [97, 116], [111, 110], [98, 121], [111, 114], [97, 110, 100], [110, 111, 116], [105, 110], [119, 105, 110, 100], [104, 97, 110, 100, 115], [116, 97, 108, 108], [104, 101, 105, 103, 104, 116], [119, 101, 97, 114], [104, 101, 114, 101], [112, 108, 97, 99, 101], [104, 111, 108, 100, 115]]
def wix (l : List Int) : List (List Int) → Int → Int
  | [], _ => -1
  | K :: Ks, n => if l = K then n else wix l Ks (n + 1)
/-- a sign: what stands there, and what is behind it: kind, value, how many bytes -/
def tk_s (c e : Int) : Int × Int × Int := if c = 60 ∨ c = 62 then (if e = 61 then (2, if c = 60 then 108 else 103, 2) else (2, c, 1)) else if c = 61 ∨ c = 35 ∨ c = 43 ∨ c = 45 ∨ c = 42 ∨ c = 47 ∨ c = 40 ∨ c = 41 ∨ c = 44 ∨ c = 59 then (2, c, 1) else (4, -1, 1)
/-- the token from p on: kind, value, its place, the place behind it -/
def tok (B : Int → Int) (p k v q r : Int) : Prop := wh tk_b B p q ∧ ((B q = -1 ∧ k = 3 ∧ v = -1 ∧ r = q) ∨ (tk_l (B q) ∧ k = 0 ∧ wh tk_l B q r ∧ v = wix (tk_ls B q r) tk_W 0) ∨ (tk_d (B q) ∧ k = 1 ∧ wh tk_d B q r ∧ v = min 10000 (tk_n B q (r - q).toNat)) ∨ (¬ B q = -1 ∧ ¬ tk_l (B q) ∧ ¬ tk_d (B q) ∧ k = (tk_s (B q) (B (q + 1))).1 ∧ v = (tk_s (B q) (B (q + 1))).2.1 ∧ r = q + (tk_s (B q) (B (q + 1))).2.2))
/-! the word's number -/
def nw (B : Int → Int) (s q : Int) : List Int → Int → Int → Bool → Int
  | [], _, _, _ => -1
  | c :: cs, k, a, e => if c = 32 then (if e = true ∧ a = q then k else nw B s q cs (k + 1) s true) else nw B s q cs k (a + 1) (e && decide (a < q ∧ B a = c))
def tk_m (B : Int → Int) (q : Int) : List Int → Int → Bool
  | [], a => decide (a = q)
  | c :: cs, a => decide (a < q ∧ B a = c) && tk_m B q cs (a + 1)
theorem nw_f {B : Int → Int} {s q : Int} : ∀ {K : List Int} {rest : List Int} {k a : Int}, (∀ c ∈ K, ¬ c = 32) → nw B s q (K ++ 32 :: rest) k a false = nw B s q rest (k + 1) s true
  | [], rest, k, a, _ => by
    show (if (32 : Int) = 32 then (if false = true ∧ a = q then k else nw B s q rest (k + 1) s true) else _) = _
    rw [if_pos rfl, if_neg (fun h => by cases h.1)]
  | c :: K, rest, k, a, h => by
    show (if c = 32 then _ else nw B s q (K ++ 32 :: rest) k (a + 1) (false && _)) = _
    rw [if_neg (h c List.mem_cons_self), Bool.false_and]
    exact nw_f (fun x hx => h x (List.mem_cons_of_mem _ hx))
theorem nw_w {B : Int → Int} {s q : Int} : ∀ {K : List Int} {rest : List Int} {k a : Int}, (∀ c ∈ K, ¬ c = 32) → nw B s q (K ++ 32 :: rest) k a true = if tk_m B q K a = true then k else nw B s q rest (k + 1) s true
  | [], rest, k, a, _ => by
    show (if (32 : Int) = 32 then (if true = true ∧ a = q then k else nw B s q rest (k + 1) s true) else _) = if decide (a = q) = true then k else nw B s q rest (k + 1) s true
    rw [if_pos rfl]
    by_cases e : a = q
    · rw [if_pos ⟨rfl, e⟩, if_pos (decide_eq_true e)]
    · rw [if_neg (fun h => e h.2), if_neg (fun h => e (of_decide_eq_true h))]
  | c :: K, rest, k, a, h => by
    have h2 : ∀ x ∈ K, ¬ x = 32 := fun x hx => h x (List.mem_cons_of_mem _ hx)
    show (if c = 32 then _ else nw B s q (K ++ 32 :: rest) k (a + 1) (true && decide (a < q ∧ B a = c))) = if (decide (a < q ∧ B a = c) && tk_m B q K (a + 1)) = true then k else nw B s q rest (k + 1) s true
    rw [if_neg (h c List.mem_cons_self), Bool.true_and]
    by_cases e : a < q ∧ B a = c
    · rw [decide_eq_true e, nw_w h2, Bool.true_and]
    · rw [decide_eq_false e, nw_f h2, Bool.false_and]
      rfl
theorem tk_me {B : Int → Int} {q : Int} : ∀ {K : List Int} {a : Int}, tk_m B q K a = true ↔ a ≤ q ∧ tk_ls B a q = K
  | [], a => by
    show decide (a = q) = true ↔ _
    rw [decide_eq_true_eq]
    constructor
    · intro h
      subst h
      refine ⟨Int.le_refl _, ?_⟩
      unfold tk_ls
      rw [Int.sub_self]
      rfl
    · rintro ⟨h1, h2⟩
      have := congrArg List.length h2
      unfold tk_ls at this
      rw [List.length_map, List.length_range] at this
      have e0 : ([] : List Int).length = 0 := rfl
      omega
  | c :: K, a => by
    show (decide (a < q ∧ B a = c) && tk_m B q K (a + 1)) = true ↔ _
    rw [Bool.and_eq_true, decide_eq_true_eq, tk_me]
    have key : a < q → tk_ls B a q = B a :: tk_ls B (a + 1) q := by
      intro h
      unfold tk_ls
      rw [show (q - a).toNat = (q - (a + 1)).toNat + 1 by omega, List.range_succ_eq_map, List.map_cons, List.map_map]
      congr 1
      · show B (a + ((0 : Nat) : Int)) = B a
        rw [show a + ((0 : Nat) : Int) = a by omega]
      · refine List.map_congr_left (fun i _ => ?_)
        show B (a + ((i + 1 : Nat) : Int)) = B (a + 1 + (i : Int))
        rw [show a + ((i + 1 : Nat) : Int) = a + 1 + (i : Int) by omega]
    constructor
    · rintro ⟨⟨h1, h2⟩, h3, h4⟩
      refine ⟨by omega, ?_⟩
      rw [key h1, h2, h4]
    · rintro ⟨h1, h2⟩
      by_cases h3 : a < q
      · rw [key h3] at h2
        injection h2 with h4 h5
        exact ⟨⟨h3, h4⟩, by omega, h5⟩
      · have e : a = q := by omega
        subst e
        unfold tk_ls at h2
        rw [Int.sub_self] at h2
        cases h2
theorem nw_all {B : Int → Int} {s q : Int} (hs : s ≤ q) : ∀ {Ks : List (List Int)} {k : Int}, (∀ K ∈ Ks, ∀ c ∈ K, ¬ c = 32) → nw B s q (Ks.flatMap (fun K => K ++ [32])) k s true = wix (tk_ls B s q) Ks k
  | [], k, _ => rfl
  | K :: Ks, k, h => by
    rw [List.flatMap_cons, List.append_assoc]
    show nw B s q (K ++ 32 :: Ks.flatMap (fun K => K ++ [32])) k s true = _
    rw [nw_w (h K List.mem_cons_self), nw_all hs (fun X hX => h X (List.mem_cons_of_mem _ hX))]
    show _ = if tk_ls B s q = K then k else wix (tk_ls B s q) Ks (k + 1)
    by_cases e : tk_ls B s q = K
    · rw [if_pos (tk_me.mpr ⟨hs, e⟩), if_pos e]
    · rw [if_neg (fun x => e (tk_me.mp x).2), if_neg e]
/-! the tape's cells -/
def tB (bl : List Value) : Prop := bl.length = 300 ∧ ∀ j, j < 300 → bl[j]? = some (wp_i (sx_el bl j)) ∧ 0 ≤ sx_el bl j ∧ sx_el bl j ≤ 255
def cT (h0 h : mj_H) (bl : List Value) (L k v s p : Int) : Prop := h[91]? = some (8, [.ref 92, wp_i L, wp_i k, wp_i v, wp_i s, wp_i p]) ∧ h[92]? = some (1000, bl) ∧ ∀ a, a ≠ 91 → h[a]? = h0[a]?
theorem bt_r {bl : List Value} (D : tB bl) {L k : Int} (hL : L ≤ 300) (hk : 0 ≤ k) : -1 ≤ bt bl L k ∧ bt bl L k ≤ 255 := by
  unfold bt
  split
  · have := D.2 k.toNat (by omega)
    omega
  · omega
theorem bt_e {bl : List Value} {L k : Int} (h : L ≤ k) : bt bl L k = -1 := by
  unfold bt
  rw [if_neg (by omega)]
theorem bt_i {bl : List Value} {L k : Int} (D : tB bl) (hL : L ≤ 300) (hk : 0 ≤ k) (h : k < L) : 0 ≤ bt bl L k := by
  unfold bt
  rw [if_pos h]
  exact (D.2 k.toNat (by omega)).2.1
section WCT
variable {nn d m pc : Nat} {lv : mj_L} {st : List Value} {h h0 : mj_H} {Q : Option Value → mj_H → Prop} {bl : List Value} {L k v s p : Int}
theorem ct_g {x kk : Nat} {ty : FieldType} {w : Bool} {y : Value} (V : cT h0 h bl L k v s p) (hi : mj_ins m pc = some (.getfield x)) (hf : mj_fld m x = some (8, kk, ty, w)) (hy : [Value.ref 92, wp_i L, wp_i k, wp_i v, wp_i s, wp_i p][kk]? = some y) (hr : wl_R nn d m (pc + 3) lv (y :: st) h Q) : wl_R nn d m pc lv (.ref 91 :: st) h Q := wl_gf hi hf V.1 hy hr
theorem ct_p {x kk : Nat} {y L' k' v' s' p' : Int} (V : cT h0 h bl L k v s p) (hi : mj_ins m pc = some (.putfield x)) (hf : mj_fld m x = some (8, kk, .int, true)) (hkk : kk < 6) (hs : [Value.ref 92, wp_i L, wp_i k, wp_i v, wp_i s, wp_i p].set kk (wp_i y) = [Value.ref 92, wp_i L', wp_i k', wp_i v', wp_i s', wp_i p']) (hr : ∀ h, cT h0 h bl L' k' v' s' p' → wl_R nn d m (pc + 3) lv st h Q) : wl_R nn d m pc lv (wp_i y :: .ref 91 :: st) h Q := by
  obtain ⟨e1, e2, e3⟩ := V
  refine wl_pf hi hf e1 (by decide) hkk rfl rfl (hr _ ⟨?_, ?_, fun a ha => ?_⟩)
  · rw [hs]; exact List.getElem?_set_self (fd_lt e1)
  · rw [List.getElem?_set_ne (by decide)]; exact e2
  · rw [List.getElem?_set_ne (Ne.symm ha)]; exact e3 a ha
theorem ct_l {x : Int} (V : cT h0 h bl L k v s p) (D : tB bl) (hL : L ≤ 300) (hx : 0 ≤ x ∧ x < L) (hi : mj_ins m pc = some .iaload) (hr : wl_R nn d m (pc + 1) lv (wp_i (bt bl L x) :: st) h Q) : wl_R nn d m pc lv (wp_i x :: .ref 92 :: st) h Q := by
  refine wl_ial hi V.2.1 hx.1 (by have := D.1; omega) (by have := D.1; omega) (v := wp_i (bt bl L x)) ?_ hr
  unfold bt
  rw [if_pos hx.2]
  exact (D.2 x.toNat (by omega)).1
end WCT
theorem wc_let {n d : Nat} {h : mj_H} {c : Int} (hc : wp_r c) : wl_R n d 24 0 [some (wp_i c)] [] h (fun v h1 => h1 = h ∧ ∃ y : Int, v = some (wp_i y) ∧ (y = 0 ∨ y = 1) ∧ (y = 1 ↔ tk_l c)) := by
  refine wl_s (pc' := 1) ji_24_0 rfl rfl rfl ?_
  refine wl_bp ji_24_1 rfl ?_
  refine wl_icmp (t := 12) ji_24_3 rfl (by omega) (by omega) (fun (hb1 : (c : Int) < 97) => ?_) (fun (hb1 : ¬ ((c : Int) < 97)) => ?_)
  · refine wl_s (pc' := 13) ji_24_12 rfl rfl rfl ?_
    refine wl_bp ji_24_13 rfl ?_
    refine wl_icmp (t := 28) ji_24_15 rfl (by omega) (by omega) (fun (hb2 : (c : Int) < 65) => ?_) (fun (hb2 : ¬ ((c : Int) < 65)) => ?_)
    · refine wl_s (pc' := 29) ji_24_28 rfl rfl rfl ?_
      exact wl_ri ji_24_29 jr_24 rfl ⟨rfl, 0, rfl, by omega, by unfold tk_l; omega⟩
    · refine wl_s (pc' := 19) ji_24_18 rfl rfl rfl ?_
      refine wl_bp ji_24_19 rfl ?_
      refine wl_icmp (t := 28) ji_24_21 rfl (by omega) (by omega) (fun (hb3 : (90 : Int) < c) => ?_) (fun (hb3 : ¬ ((90 : Int) < c)) => ?_)
      · refine wl_s (pc' := 29) ji_24_28 rfl rfl rfl ?_
        exact wl_ri ji_24_29 jr_24 rfl ⟨rfl, 0, rfl, by omega, by unfold tk_l; omega⟩
      · refine wl_s (pc' := 25) ji_24_24 rfl rfl rfl ?_
        refine wl_goto (t := 29) ji_24_25 rfl ?_
        exact wl_ri ji_24_29 jr_24 rfl ⟨rfl, 1, rfl, by omega, by unfold tk_l; omega⟩
  · refine wl_s (pc' := 7) ji_24_6 rfl rfl rfl ?_
    refine wl_bp ji_24_7 rfl ?_
    refine wl_icmp (t := 24) ji_24_9 rfl (by omega) (by omega) (fun (hb4 : (c : Int) ≤ 122) => ?_) (fun (hb4 : ¬ ((c : Int) ≤ 122)) => ?_)
    · refine wl_s (pc' := 25) ji_24_24 rfl rfl rfl ?_
      refine wl_goto (t := 29) ji_24_25 rfl ?_
      exact wl_ri ji_24_29 jr_24 rfl ⟨rfl, 1, rfl, by omega, by unfold tk_l; omega⟩
    · refine wl_s (pc' := 13) ji_24_12 rfl rfl rfl ?_
      refine wl_bp ji_24_13 rfl ?_
      refine wl_icmp (t := 28) ji_24_15 rfl (by omega) (by omega) (fun (hb5 : (c : Int) < 65) => ?_) (fun (hb5 : ¬ ((c : Int) < 65)) => ?_)
      · refine wl_s (pc' := 29) ji_24_28 rfl rfl rfl ?_
        exact wl_ri ji_24_29 jr_24 rfl ⟨rfl, 0, rfl, by omega, by unfold tk_l; omega⟩
      · refine wl_s (pc' := 19) ji_24_18 rfl rfl rfl ?_
        refine wl_bp ji_24_19 rfl ?_
        refine wl_icmp (t := 28) ji_24_21 rfl (by omega) (by omega) (fun (hb6 : (90 : Int) < c) => ?_) (fun (hb6 : ¬ ((90 : Int) < c)) => ?_)
        · refine wl_s (pc' := 29) ji_24_28 rfl rfl rfl ?_
          exact wl_ri ji_24_29 jr_24 rfl ⟨rfl, 0, rfl, by omega, by unfold tk_l; omega⟩
        · refine wl_s (pc' := 25) ji_24_24 rfl rfl rfl ?_
          refine wl_goto (t := 29) ji_24_25 rfl ?_
          exact wl_ri ji_24_29 jr_24 rfl ⟨rfl, 1, rfl, by omega, by unfold tk_l; omega⟩
theorem wc_dig {n d : Nat} {h : mj_H} {c : Int} (hc : wp_r c) : wl_R n d 27 0 [some (wp_i c)] [] h (fun v h1 => h1 = h ∧ ∃ y : Int, v = some (wp_i y) ∧ (y = 0 ∨ y = 1) ∧ (y = 1 ↔ tk_d c)) := by
  refine wl_s (pc' := 1) ji_27_0 rfl rfl rfl ?_
  refine wl_bp ji_27_1 rfl ?_
  refine wl_icmp (t := 16) ji_27_3 rfl (by omega) (by omega) (fun (hb1 : (c : Int) < 48) => ?_) (fun (hb1 : ¬ ((c : Int) < 48)) => ?_)
  · refine wl_s (pc' := 17) ji_27_16 rfl rfl rfl ?_
    exact wl_ri ji_27_17 jr_27 rfl ⟨rfl, 0, rfl, by omega, by unfold tk_d; omega⟩
  · refine wl_s (pc' := 7) ji_27_6 rfl rfl rfl ?_
    refine wl_bp ji_27_7 rfl ?_
    refine wl_icmp (t := 16) ji_27_9 rfl (by omega) (by omega) (fun (hb2 : (57 : Int) < c) => ?_) (fun (hb2 : ¬ ((57 : Int) < c)) => ?_)
    · refine wl_s (pc' := 17) ji_27_16 rfl rfl rfl ?_
      exact wl_ri ji_27_17 jr_27 rfl ⟨rfl, 0, rfl, by omega, by unfold tk_d; omega⟩
    · refine wl_s (pc' := 13) ji_27_12 rfl rfl rfl ?_
      refine wl_goto (t := 17) ji_27_13 rfl ?_
      exact wl_ri ji_27_17 jr_27 rfl ⟨rfl, 1, rfl, by omega, by unfold tk_d; omega⟩
theorem wc_pl {d : Nat} {h0 : mj_H} {bl : List Value} {L : Int} (D : tB bl) (hL : 0 ≤ L ∧ L ≤ 300) {k v s q : Int} (hq : 0 ≤ q) : ∀ (n : Nat) (h : mj_H) (p : Int), cT h0 h bl L k v s p → (q ≤ p ∧ p ≤ L) → (∀ j, q ≤ j → j < p → tk_l (bt bl L j)) → wl_R n (d + 1) 25 0 [some (.ref 91)] [] h (fun w h1 => w = none ∧ ∃ r, cT h0 h1 bl L k v s r ∧ wh tk_l (bt bl L) q r ∧ r ≤ L) := by
  obtain ⟨hL0, hL⟩ := hL
  intro n
  induction n with
  | zero => intro h p V hp hj; exact wl_0
  | succ n ih =>
    intro h p V hp hj
    refine wl_s1 (pc' := 1) ji_25_0 rfl rfl rfl ?_
    refine ct_g V ji_25_1 jf_25_28 rfl ?_
    refine wl_s (pc' := 5) ji_25_4 rfl rfl rfl ?_
    refine ct_g V ji_25_5 jf_25_15 rfl ?_
    refine wl_icmp (t := 39) ji_25_8 rfl (by omega) (by omega) (fun (hb1 : (L : Int) ≤ p) => ?_) (fun (hb1 : ¬ ((L : Int) ≤ p)) => ?_)
    · exact wl_rv ji_25_39 jr_25 ⟨rfl, p, V, ⟨by omega, hj, by rw [bt_e (by omega)]; unfold tk_l; omega⟩, by omega⟩
    · refine wl_s (pc' := 12) ji_25_11 rfl rfl rfl ?_
      refine ct_g V ji_25_12 jf_25_11 rfl ?_
      refine wl_s (pc' := 16) ji_25_15 rfl rfl rfl ?_
      refine ct_g V ji_25_16 jf_25_28 rfl ?_
      refine ct_l (x := p) V D hL (by omega) ji_25_19 ?_
      have hb_2 := bt_r D hL (k := p) (by omega)
      have hb_3 := bt_i D hL (k := p) (by omega) (by omega)
      refine wl_sc (d := d) (as := [wp_i (bt bl L p)]) (rest := []) ji_25_20 jc_25_31 (Nat.le_of_ble_eq_true rfl) rfl (Nat.le_of_ble_eq_true rfl) rfl (by rw [jn_24]; rfl) (wc_let (c := bt bl L p) (by omega)) (fun v h1 R => ?_)
      obtain ⟨e1, y, rfl, hya, hyb⟩ := R
      subst e1
      show wl_R _ (d + 1) 25 23 [some (.ref 91)] [wp_i y] h1 _
      refine wl_if (t := 39) ji_25_23 rfl (by omega) (fun (hb4 : (y : Int) = 0) => ?_) (fun (hb4 : ¬ ((y : Int) = 0)) => ?_)
      · exact wl_rv ji_25_39 jr_25 ⟨rfl, p, V, ⟨by omega, hj, fun e => by have := hyb.mpr e; omega⟩, by omega⟩
      · refine wl_s (pc' := 27) ji_25_26 rfl rfl rfl ?_
        refine wl_s (pc' := 28) ji_25_27 rfl rfl rfl ?_
        refine ct_g V ji_25_28 jf_25_28 rfl ?_
        refine wl_s (pc' := 32) ji_25_31 rfl rfl rfl ?_
        refine wl_iadd (x := p) (y := 1) (z := p + 1) ji_25_32 (by omega) ?_
        refine ct_p (y := p + 1) (L' := L) (k' := k) (v' := v) (s' := s) (p' := p + 1) V ji_25_33 jf_25_28 (by decide) rfl (fun h V => ?_)
        refine wl_goto (t := 0) ji_25_36 rfl ?_
        exact ih h (p + 1) V (by omega) (fun j h1 h2 => (Classical.em (j = p)).elim (fun e => by subst e; exact hyb.mp (by omega)) (fun e => hj j h1 (by omega)))
theorem tk_n0 {B : Int → Int} {q : Int} : ∀ k : Nat, (∀ j, q ≤ j → j < q + (k : Int) → tk_d (B j)) → 0 ≤ tk_n B q k
  | 0, _ => Int.le_refl _
  | k + 1, h => by
    have h1 := tk_n0 k (fun j a b => h j a (by omega))
    have h2 := h (q + (k : Int)) (by omega) (by omega)
    unfold tk_d at h2
    show 0 ≤ 10 * tk_n B q k + (B (q + (k : Int)) - 48)
    omega
theorem wc_nl {d : Nat} {h0 : mj_H} {bl : List Value} {L : Int} (D : tB bl) (hL : 0 ≤ L ∧ L ≤ 300) {k v s q : Int} (hq : 0 ≤ q) : ∀ (n : Nat) (h : mj_H) (p : Int), cT h0 h bl L k v s p → (q ≤ p ∧ p ≤ L) → (∀ j, q ≤ j → j < p → tk_d (bt bl L j)) → wl_R n (d + 1) 28 2 [some (.ref 91), some (wp_i (min 10000 (tk_n (bt bl L) q (p - q).toNat)))] [] h (fun w h1 => w = none ∧ ∃ r, cT h0 h1 bl L 1 (min 10000 (tk_n (bt bl L) q (r - q).toNat)) s r ∧ wh tk_d (bt bl L) q r ∧ r ≤ L) := by
  obtain ⟨hL0, hL⟩ := hL
  intro n
  induction n with
  | zero => intro h p V hp hj; exact wl_0
  | succ n ih =>
    intro h p V hp hj
    have hnn := tk_n0 (B := bt bl L) (q := q) (p - q).toNat (fun j a b => hj j a (by omega))
    obtain ⟨x, hx⟩ : ∃ x, x = min 10000 (tk_n (bt bl L) q (p - q).toNat) := ⟨_, rfl⟩
    rw [← hx]
    refine wl_s1 (pc' := 3) ji_28_2 rfl rfl rfl ?_
    refine ct_g V ji_28_3 jf_28_28 rfl ?_
    refine wl_s (pc' := 7) ji_28_6 rfl rfl rfl ?_
    refine ct_g V ji_28_7 jf_28_15 rfl ?_
    refine wl_icmp (t := 65) ji_28_10 rfl (by omega) (by omega) (fun (hb1 : (L : Int) ≤ p) => ?_) (fun (hb1 : ¬ ((L : Int) ≤ p)) => ?_)
    · refine wl_s (pc' := 66) ji_28_65 rfl rfl rfl ?_
      refine wl_s (pc' := 67) ji_28_66 rfl rfl rfl ?_
      refine ct_p (y := 1) (L' := L) (k' := 1) (v' := v) (s' := s) (p' := p) V ji_28_67 jf_28_19 (by decide) rfl (fun h V => ?_)
      refine wl_s (pc' := 71) ji_28_70 rfl rfl rfl ?_
      refine wl_s (pc' := 72) ji_28_71 rfl rfl rfl ?_
      refine ct_p (y := x) (L' := L) (k' := 1) (v' := x) (s' := s) (p' := p) V ji_28_72 jf_28_22 (by decide) rfl (fun h V => ?_)
      rw [hx] at V
      exact wl_rv ji_28_75 jr_28 ⟨rfl, p, V, ⟨by omega, hj, by rw [bt_e (by omega)]; unfold tk_d; omega⟩, by omega⟩
    · refine wl_s (pc' := 14) ji_28_13 rfl rfl rfl ?_
      refine ct_g V ji_28_14 jf_28_11 rfl ?_
      refine wl_s (pc' := 18) ji_28_17 rfl rfl rfl ?_
      refine ct_g V ji_28_18 jf_28_28 rfl ?_
      refine ct_l (x := p) V D hL (by omega) ji_28_21 ?_
      have hb_2 := bt_r D hL (k := p) (by omega)
      have hb_3 := bt_i D hL (k := p) (by omega) (by omega)
      refine wl_sc (d := d) (as := [wp_i (bt bl L p)]) (rest := []) ji_28_22 jc_28_42 (Nat.le_of_ble_eq_true rfl) rfl (Nat.le_of_ble_eq_true rfl) rfl (by rw [jn_27]; rfl) (wc_dig (c := bt bl L p) (by omega)) (fun v h1 R => ?_)
      obtain ⟨e1, y, rfl, hya, hyb⟩ := R
      subst e1
      show wl_R _ (d + 1) 28 25 [some (.ref 91), some (wp_i x)] [wp_i y] h1 _
      have hy10 : y = 1 → tk_d (bt bl L p) := hyb.mp
      refine wl_if (t := 65) ji_28_25 rfl (by omega) (fun (hb4 : (y : Int) = 0) => ?_) (fun (hb4 : ¬ ((y : Int) = 0)) => ?_)
      · refine wl_s (pc' := 66) ji_28_65 rfl rfl rfl ?_
        refine wl_s (pc' := 67) ji_28_66 rfl rfl rfl ?_
        refine ct_p (y := 1) (L' := L) (k' := 1) (v' := v) (s' := s) (p' := p) V ji_28_67 jf_28_19 (by decide) rfl (fun h V => ?_)
        refine wl_s (pc' := 71) ji_28_70 rfl rfl rfl ?_
        refine wl_s (pc' := 72) ji_28_71 rfl rfl rfl ?_
        refine ct_p (y := x) (L' := L) (k' := 1) (v' := x) (s' := s) (p' := p) V ji_28_72 jf_28_22 (by decide) rfl (fun h V => ?_)
        rw [hx] at V
        exact wl_rv ji_28_75 jr_28 ⟨rfl, p, V, ⟨by omega, hj, fun e => by have := hyb.mpr e; omega⟩, by omega⟩
      · have hd := hyb.mp (by omega)
        have e10 : (if x * 10 + bt bl L p - 48 < 10000 then x * 10 + bt bl L p - 48 else 10000) = min 10000 (tk_n (bt bl L) q (p + 1 - q).toNat) := by
          rw [show (p + 1 - q).toNat = (p - q).toNat + 1 by omega]
          show _ = min 10000 (10 * tk_n (bt bl L) q (p - q).toNat + (bt bl L (q + ((p - q).toNat : Int)) - 48))
          rw [show q + ((p - q).toNat : Int) = p by omega]
          unfold tk_d at hd
          split <;> omega
        refine wl_sp ji_28_28 rfl ?_
        refine wl_s (pc' := 32) ji_28_31 rfl rfl rfl ?_
        refine wl_bp ji_28_32 rfl ?_
        refine wl_imul (x := x) (y := 10) (z := x * 10) ji_28_34 (by omega) ?_
        refine wl_s (pc' := 36) ji_28_35 rfl rfl rfl ?_
        refine ct_g V ji_28_36 jf_28_11 rfl ?_
        refine wl_s (pc' := 40) ji_28_39 rfl rfl rfl ?_
        refine ct_g V ji_28_40 jf_28_28 rfl ?_
        refine ct_l (x := p) V D hL (by omega) ji_28_43 ?_
        have hb_5 := bt_r D hL (k := p) (by omega)
        have hb_6 := bt_i D hL (k := p) (by omega) (by omega)
        refine wl_iadd (x := x * 10) (y := bt bl L p) (z := x * 10 + (bt bl L p)) ji_28_44 (by omega) ?_
        refine wl_bp ji_28_45 rfl ?_
        refine wl_isub (x := x * 10 + (bt bl L p)) (y := 48) (z := x * 10 + (bt bl L p) - 48) ji_28_47 (by omega) ?_
        refine wl_min (a := 10000) (b := x * 10 + (bt bl L p) - 48) ji_28_48 jc_28_51 (Nat.le_of_ble_eq_true rfl) (by omega) (by omega) ?_
        rw [show (if x * 10 + (bt bl L p) - 48 < 10000 then x * 10 + (bt bl L p) - 48 else 10000) = min 10000 (tk_n (bt bl L) q (p + 1 - q).toNat) from e10]
        refine wl_s (pc' := 52) (lv' := [some (.ref 91), some (wp_i (min 10000 (tk_n (bt bl L) q (p + 1 - q).toNat)))]) ji_28_51 rfl rfl rfl ?_
        refine wl_s (pc' := 53) ji_28_52 rfl rfl rfl ?_
        refine wl_s (pc' := 54) ji_28_53 rfl rfl rfl ?_
        refine ct_g V ji_28_54 jf_28_28 rfl ?_
        refine wl_s (pc' := 58) ji_28_57 rfl rfl rfl ?_
        refine wl_iadd (x := p) (y := 1) (z := p + 1) ji_28_58 (by omega) ?_
        refine ct_p (y := p + 1) (L' := L) (k' := k) (v' := v) (s' := s) (p' := p + 1) V ji_28_59 jf_28_28 (by decide) rfl (fun h V => ?_)
        refine wl_goto (t := 2) ji_28_62 rfl ?_
        exact ih h (p + 1) V (by omega) (fun j h1 h2 => (Classical.em (j = p)).elim (fun e => by subst e; exact hyb.mp (by omega)) (fun e => hj j h1 (by omega)))
theorem wc_num {d : Nat} {h0 : mj_H} {bl : List Value} {L : Int} (D : tB bl) (hL : 0 ≤ L ∧ L ≤ 300) {h : mj_H} {k v s p : Int} (V : cT h0 h bl L k v s p) (hp : 0 ≤ p ∧ p ≤ L) (n : Nat) : wl_R n (d + 1) 28 0 [some (.ref 91), none] [] h (fun w h1 => w = none ∧ ∃ r, cT h0 h1 bl L 1 (min 10000 (tk_n (bt bl L) p (r - p).toNat)) s r ∧ wh tk_d (bt bl L) p r ∧ r ≤ L) := by
  refine wl_s (pc' := 1) ji_28_0 rfl rfl rfl ?_
  refine wl_s (pc' := 2) (lv' := [some (.ref 91), some (wp_i 0)]) ji_28_1 rfl rfl rfl ?_
  have R := wc_nl (d := d) (h0 := h0) D hL hp.1 n h p V (by omega) (fun j a b => (by omega))
  rw [show (p - p).toNat = 0 by omega] at R
  exact R
