/-! -/
/-! drops, in both; laid by program (wp_v13.py) -/
theorem smx_c {g f : Nat → Int} : ∀ n : Nat, (∀ x, 1 ≤ x → x ≤ n → g x = f x) → smx g n = smx f n
  | 0, _ => rfl
  | n + 1, h => by
    show smx g n + g (n + 1) = smx f n + f (n + 1)
    rw [smx_c n (fun x a b => h x a (by omega)), h (n + 1) (by omega) (by omega)]
/-- a sum over draws, by their first hour -/
theorem sum10 {f : Nat → Int} {S : Nat → Int} {b : Int} {g G : Nat → Nat → Int} (h0 : S 0 = 0) (hs : ∀ c, S (c + 1) = S c + f c) (hG0 : ∀ x, G x 0 = 0) (hG : ∀ x n, G x (n + 1) = G x n + g x n) (hb : ∀ n, f (10 * n) = b) (hd : ∀ n x, 1 ≤ x → x ≤ 9 → f (10 * n + x) = g x n) : ∀ N : Nat, S (10 * N) = (N : Int) * b + smx (fun x => G x N) 9
  | 0 => by
    rw [smx_0 (fun x => hG0 x) 9, show 10 * 0 = 0 from rfl, h0, show ((0 : Nat) : Int) * b = 0 from Int.zero_mul b]
    rfl
  | N + 1 => by
    have ih := sum10 h0 hs hG0 hG hb hd N
    have k0 : S (10 * N + 1) = S (10 * N) + f (10 * N) := hs (10 * N)
    have f0 : f (10 * N) = b := hb N
    have k1 : S (10 * N + 2) = S (10 * N + 1) + f (10 * N + 1) := hs (10 * N + 1)
    have f1 : f (10 * N + 1) = g 1 N := hd N 1 (by decide) (by decide)
    have g1 : G 1 (N + 1) = G 1 N + g 1 N := hG 1 N
    have k2 : S (10 * N + 3) = S (10 * N + 2) + f (10 * N + 2) := hs (10 * N + 2)
    have f2 : f (10 * N + 2) = g 2 N := hd N 2 (by decide) (by decide)
    have g2 : G 2 (N + 1) = G 2 N + g 2 N := hG 2 N
    have k3 : S (10 * N + 4) = S (10 * N + 3) + f (10 * N + 3) := hs (10 * N + 3)
    have f3 : f (10 * N + 3) = g 3 N := hd N 3 (by decide) (by decide)
    have g3 : G 3 (N + 1) = G 3 N + g 3 N := hG 3 N
    have k4 : S (10 * N + 5) = S (10 * N + 4) + f (10 * N + 4) := hs (10 * N + 4)
    have f4 : f (10 * N + 4) = g 4 N := hd N 4 (by decide) (by decide)
    have g4 : G 4 (N + 1) = G 4 N + g 4 N := hG 4 N
    have k5 : S (10 * N + 6) = S (10 * N + 5) + f (10 * N + 5) := hs (10 * N + 5)
    have f5 : f (10 * N + 5) = g 5 N := hd N 5 (by decide) (by decide)
    have g5 : G 5 (N + 1) = G 5 N + g 5 N := hG 5 N
    have k6 : S (10 * N + 7) = S (10 * N + 6) + f (10 * N + 6) := hs (10 * N + 6)
    have f6 : f (10 * N + 6) = g 6 N := hd N 6 (by decide) (by decide)
    have g6 : G 6 (N + 1) = G 6 N + g 6 N := hG 6 N
    have k7 : S (10 * N + 8) = S (10 * N + 7) + f (10 * N + 7) := hs (10 * N + 7)
    have f7 : f (10 * N + 7) = g 7 N := hd N 7 (by decide) (by decide)
    have g7 : G 7 (N + 1) = G 7 N + g 7 N := hG 7 N
    have k8 : S (10 * N + 9) = S (10 * N + 8) + f (10 * N + 8) := hs (10 * N + 8)
    have f8 : f (10 * N + 8) = g 8 N := hd N 8 (by decide) (by decide)
    have g8 : G 8 (N + 1) = G 8 N + g 8 N := hG 8 N
    have k9 : S (10 * N + 10) = S (10 * N + 9) + f (10 * N + 9) := hs (10 * N + 9)
    have f9 : f (10 * N + 9) = g 9 N := hd N 9 (by decide) (by decide)
    have g9 : G 9 (N + 1) = G 9 N + g 9 N := hG 9 N
    have e1a : smx (fun x => G x N) 1 = smx (fun x => G x N) 0 + G 1 N := rfl
    have e2a : smx (fun x => G x N) 2 = smx (fun x => G x N) 1 + G 2 N := rfl
    have e3a : smx (fun x => G x N) 3 = smx (fun x => G x N) 2 + G 3 N := rfl
    have e4a : smx (fun x => G x N) 4 = smx (fun x => G x N) 3 + G 4 N := rfl
    have e5a : smx (fun x => G x N) 5 = smx (fun x => G x N) 4 + G 5 N := rfl
    have e6a : smx (fun x => G x N) 6 = smx (fun x => G x N) 5 + G 6 N := rfl
    have e7a : smx (fun x => G x N) 7 = smx (fun x => G x N) 6 + G 7 N := rfl
    have e8a : smx (fun x => G x N) 8 = smx (fun x => G x N) 7 + G 8 N := rfl
    have e9a : smx (fun x => G x N) 9 = smx (fun x => G x N) 8 + G 9 N := rfl
    have e1b : smx (fun x => G x (N + 1)) 1 = smx (fun x => G x (N + 1)) 0 + G 1 (N + 1) := rfl
    have e2b : smx (fun x => G x (N + 1)) 2 = smx (fun x => G x (N + 1)) 1 + G 2 (N + 1) := rfl
    have e3b : smx (fun x => G x (N + 1)) 3 = smx (fun x => G x (N + 1)) 2 + G 3 (N + 1) := rfl
    have e4b : smx (fun x => G x (N + 1)) 4 = smx (fun x => G x (N + 1)) 3 + G 4 (N + 1) := rfl
    have e5b : smx (fun x => G x (N + 1)) 5 = smx (fun x => G x (N + 1)) 4 + G 5 (N + 1) := rfl
    have e6b : smx (fun x => G x (N + 1)) 6 = smx (fun x => G x (N + 1)) 5 + G 6 (N + 1) := rfl
    have e7b : smx (fun x => G x (N + 1)) 7 = smx (fun x => G x (N + 1)) 6 + G 7 (N + 1) := rfl
    have e8b : smx (fun x => G x (N + 1)) 8 = smx (fun x => G x (N + 1)) 7 + G 8 (N + 1) := rfl
    have e9b : smx (fun x => G x (N + 1)) 9 = smx (fun x => G x (N + 1)) 8 + G 9 (N + 1) := rfl
    have z1 : smx (fun x => G x N) 0 = 0 := rfl
    have z2 : smx (fun x => G x (N + 1)) 0 = 0 := rfl
    have mb : ((N + 1 : Nat) : Int) * b = (N : Int) * b + b := by
      rw [show ((N + 1 : Nat) : Int) = (N : Int) + 1 from rfl, Int.add_mul, Int.one_mul]
    rw [mb, show 10 * (N + 1) = 10 * N + 10 by omega]
    omega
theorem idR_s {cr : crs} {w c y : Int} {k : Nat} {u : sg_} : idR cr w (k + 1) c u y = if u 139 9 = 0 then y else idR cr w k (c / 10) (up (endR cr (flA cr u)) 139 9 (c % 10)) (if c % 10 = 0 ∧ endR cr (flA cr u) 139 10 = w then 1 else 0) := rfl
theorem idR_z {cr : crs} {w c y : Int} {u : sg_} (h : u 139 9 = 0) : ∀ k : Nat, idR cr w k c u y = y
  | 0 => rfl
  | k + 1 => by rw [idR_s, if_pos h]
theorem dpN_s {cr : crs} {w wt : Int} {k : Nat} {r : sg_} : dpN cr w (k + 1) wt r = (if endR cr (flA cr r) 139 10 = w then wt / 10 else 0) + smx (fun x : Nat => dpN cr w k (wt / 10) (up (endR cr (flA cr r)) 139 9 (x : Int))) 9 := rfl
/-- the count over all draws is the count by first hours -/
theorem id_dp {cr : crs} {w : Int} : ∀ (k N : Nat) (u : sg_), N = 10 ^ k → ¬ u 139 9 = 0 → idS cr w k u N = dpN cr w k (N : Int) u
  | 0, N, u, h, _ => by
    have e : N = 1 := h
    subst e
    rfl
  | k + 1, N, u, h, hu => by
    obtain ⟨m, hm⟩ : ∃ m, 10 ^ k = m := ⟨_, rfl⟩
    have e : N = 10 * m := by rw [h, Nat.pow_succ, hm]; omega
    subst e
    rw [dpN_s, show ((10 * m : Nat) : Int) / 10 = (m : Int) by omega]
    rw [sum10 (S := fun c => idS cr w (k + 1) u c) (f := fun c => idR cr w (k + 1) (c : Int) u 0) (b := if endR cr (flA cr u) 139 10 = w then 1 else 0) (G := fun x n => idS cr w k (up (endR cr (flA cr u)) 139 9 (x : Int)) n) (g := fun x n => idR cr w k (n : Int) (up (endR cr (flA cr u)) 139 9 (x : Int)) 0) rfl (fun c => rfl) (fun x => rfl) (fun x n => rfl) ?_ ?_ m]
    · rw [smx_c (g := fun x : Nat => idS cr w k (up (endR cr (flA cr u)) 139 9 (x : Int)) m) (f := fun x : Nat => dpN cr w k (m : Int) (up (endR cr (flA cr u)) 139 9 (x : Int))) 9 (fun x a b => id_dp k m _ hm.symm (by rw [up_e]; omega))]
      by_cases c : endR cr (flA cr u) 139 10 = w
      · rw [if_pos c, if_pos c, Int.mul_one]
      · rw [if_neg c, if_neg c, Int.mul_zero]
    · intro n
      show idR cr w (k + 1) ((10 * n : Nat) : Int) u 0 = _
      rw [idR_s, if_neg hu, show ((10 * n : Nat) : Int) % 10 = 0 by omega, idR_z (up_e _ _ _ _)]
      by_cases c : endR cr (flA cr u) 139 10 = w
      · rw [if_pos c, if_pos ⟨rfl, c⟩]
      · rw [if_neg c, if_neg (fun z => c z.2)]
    · intro n x a b
      show idR cr w (k + 1) ((10 * n + x : Nat) : Int) u 0 = idR cr w k (n : Int) (up (endR cr (flA cr u)) 139 9 (x : Int)) 0
      rw [idR_s, if_neg hu, show ((10 * n + x : Nat) : Int) % 10 = (x : Int) by omega, show ((10 * n + x : Nat) : Int) / 10 = (n : Int) by omega, if_neg (fun z => by have := z.1; omega)]
/-- the class's Euclid, cut off, is the divisor -/
theorem gc_eq : ∀ (j n x y : Nat), 2 * j + 1 ≤ n → y < 2 ^ j → gcE n (x : Int) (y : Int) = ((Nat.gcd x y : Nat) : Int)
  | 0, n, x, y, hn, hy => by
    have e : y = 0 := by have : y < 1 := hy; omega
    subst e
    obtain ⟨m, rfl⟩ : ∃ m, n = m + 1 := ⟨n - 1, by omega⟩
    rw [Nat.gcd_zero_right]
    exact if_pos rfl
  | j + 1, n, x, y, hn, hy => by
    obtain ⟨m, rfl⟩ : ∃ m, n = m + 1 + 1 := ⟨n - 2, by omega⟩
    show (if (y : Int) = 0 then (x : Int) else gcE (m + 1) (y : Int) ((x : Int) % (y : Int))) = _
    by_cases q : y = 0
    · subst q
      rw [Nat.gcd_zero_right]
      exact if_pos rfl
    · rw [if_neg (by omega), show (x : Int) % (y : Int) = ((x % y : Nat) : Int) from rfl, gcd_s x y]
      have l1 : x % y < y := Nat.mod_lt x (by omega)
      show (if ((x % y : Nat) : Int) = 0 then (y : Int) else gcE m ((x % y : Nat) : Int) ((y : Int) % ((x % y : Nat) : Int))) = _
      by_cases p : x % y = 0
      · rw [p, Nat.gcd_zero_right]
        exact if_pos rfl
      · obtain ⟨r, hr⟩ : ∃ r, x % y = r := ⟨_, rfl⟩
        rw [hr] at l1 p ⊢
        rw [if_neg (by omega), show (y : Int) % (r : Int) = ((y % r : Nat) : Int) from rfl, gcd_s y r]
        have l2 : y % r < r := Nat.mod_lt y (by omega)
        have l3 := Nat.div_add_mod y r
        have l4 : 1 ≤ y / r := Nat.div_pos (by omega) (by omega)
        have l5 : r * 1 ≤ r * (y / r) := Nat.mul_le_mul_left r l4
        have p2 : 2 ^ (j + 1) = 2 ^ j * 2 := Nat.pow_succ 2 j
        exact gc_eq j m r (y % r) (by omega) (by omega)
theorem gc_64 {x y : Nat} (hy : y ≤ 1000) : gcE 64 (x : Int) (y : Int) = ((Nat.gcd x y : Nat) : Int) := gc_eq 10 64 x y (by decide) (by have : (2 : Nat) ^ 10 = 1024 := rfl; omega)
theorem lt_eq {m k : Nat} {z : Int} (hk : 1 ≤ k ∧ k ≤ 1000) : ltC (m : Int) (k : Int) z = ltR m k z := by
  have g := Nat.gcd_pos_of_pos_right m (show 0 < k by omega)
  unfold ltC ltR
  rw [gc_64 hk.2, if_neg (by omega)]
  by_cases q : z = 0
  · rw [if_pos q, if_pos q]
    rfl
  · rw [if_neg q, if_neg q]
    rfl
/-- what the reference answers -/
def q_114 (tr : Int → crs) (s : sg_) (w n z : Int) : Int := if (0 ≤ w ∧ w < s 139 1) ∧ 0 ≤ n ∧ n ≤ 3 then (if s 139 9 = 0 then (if s 139 10 = w ∨ z = 1 then 1 else 0) else ltR (idS (tr (s 139 3)) w n.toNat (bgR s) (p10 n).toNat).toNat (p10 n).toNat z) else -1
theorem lt_kk {k : Nat} (hk : 1 ≤ k ∧ k ≤ 1000) {z : Int} (hz : z = 0 ∨ z = 1) : ltC (k : Int) (k : Int) z = 1 := by
  rw [lt_eq hk]
  unfold ltR
  rw [Nat.gcd_self]
  rcases hz with rfl | rfl
  · rw [if_pos rfl]
    show (((k / k : Nat)) : Int) = 1
    rw [Nat.div_self (by omega)]
    rfl
  · rw [if_neg (by decide)]
    show (((k / k : Nat)) : Int) = 1
    rw [Nat.div_self (by omega)]
    rfl
theorem lt_0k {k : Nat} (hk : 1 ≤ k ∧ k ≤ 1000) {z : Int} (hz : z = 0 ∨ z = 1) : ltC 0 (k : Int) z = z := by
  have e := lt_eq (m := 0) (k := k) (z := z) hk
  rw [show ((0 : Nat) : Int) = 0 from rfl] at e
  rw [e]
  unfold ltR
  rw [Nat.gcd_zero_left]
  rcases hz with rfl | rfl
  · rw [if_pos rfl]
    show (((0 / k : Nat)) : Int) = 0
    rw [Nat.zero_div]
    rfl
  · rw [if_neg (by decide)]
    show (((k / k : Nat)) : Int) = 1
    rw [Nat.div_self (by omega)]
    rfl
theorem p10_e {n : Int} (h : 0 ≤ n ∧ n ≤ 3) : (p10 n).toNat = 10 ^ n.toNat := by
  rcases (show n = 0 ∨ n = 1 ∨ n = 2 ∨ n = 3 by omega) with rfl | rfl | rfl | rfl <;> rfl
theorem eq_114 {tc : tcs} {tr : Int → crs} {s t : sg_} {M : Int} (L : LAWS tc tr s M) (e : ∀ (b : Nat) (j : Int), ¬ (95 ≤ b ∧ b ≤ 137) → t b j = s b j) {w n z : Int} (hn : (0 ≤ w ∧ w < s 48 1) ∧ 0 ≤ n ∧ n ≤ 3) (hz : z = 0 ∨ z = 1) : ltC (if s 48 9 = 0 then (if s 48 11 = w then (p10 n) else 0) else dpN (tr (s 139 3)) w n.toNat (p10 n) (bgR t)) (p10 n) z = q_114 tr t w n z := by
  have dm := dm_ L
  have R := L.1.1.2.1
  have pv := p10_v hn.2
  obtain ⟨k, hk⟩ : ∃ k, (p10 n).toNat = k := ⟨_, rfl⟩
  have ek : p10 n = (k : Int) := by omega
  have kk : 1 ≤ k ∧ k ≤ 1000 := by omega
  have pe := p10_e hn.2
  rw [hk] at pe
  unfold q_114
  rw [e 139 1 (by omega), e 139 9 (by omega), e 139 10 (by omega), e 139 3 (by omega), dm.2.1, if_pos hn, show s 139 9 = s 48 9 from R.2.2.2.2.2.1, show s 139 10 = s 48 11 from R.2.2.2.2.2.2.1, hk, ek]
  by_cases c : s 48 9 = 0
  · rw [if_pos c, if_pos c]
    by_cases d : s 48 11 = w
    · rw [if_pos d, if_pos (Or.inl d)]
      exact lt_kk kk hz
    · rw [if_neg d, lt_0k kk hz]
      rcases hz with rfl | rfl
      · rw [if_neg (fun y => y.elim d (by decide))]
      · rw [if_pos (Or.inr rfl)]
  · rw [if_neg c, if_neg c]
    have u9 : bgR t 139 9 = s 48 9 := (bgR_fr (by omega) (by omega)).trans ((e 139 9 (by omega)).trans R.2.2.2.2.2.1)
    have q := id_dp (cr := tr (s 139 3)) (w := w) n.toNat k (bgR t) pe (by rw [u9]; exact c)
    have b := idS_b (cr := tr (s 139 3)) (w := w) (k := n.toNat) (u := bgR t) k
    rw [← q, ← lt_eq kk, show (((idS (tr (s 139 3)) w n.toNat (bgR t) k).toNat : Nat) : Int) = idS (tr (s 139 3)) w n.toNat (bgR t) k by omega]
theorem uc_114a {nn d : Nat} {h : mj_H} {s : sg_} (C : CS h s) {tc : tcs} (N : NV s tc) {cr : crs} {w n z : Int} (E : eqLaw (tc (rulT s)) cr) (A : askR (cr 2)) (hw : wp_r w) (hn : wp_r n) (hz : z = 0 ∨ z = 1) : wl_R nn (d + 9) 114 0 [some (.ref 9), some (wp_i w), some (wp_i n), some (wp_i z), none, none] [] h (fun v1 h1 => ∀ r : sg_, relF s r 48 139 → RG r → 0 ≤ r 139 12 → (¬ ((0 ≤ w ∧ w < s 48 1) ∧ 0 ≤ n ∧ n ≤ 3) ∧ v1 = some (wl_L (-1)) ∧ CS h1 s) ∨ (((0 ≤ w ∧ w < s 48 1) ∧ 0 ≤ n ∧ n ≤ 3) ∧ v1 = some (wl_L (ltC (if s 48 9 = 0 then (if s 48 11 = w then (p10 n) else 0) else dpN cr w n.toNat (p10 n) r) (p10 n) z)) ∧ ∃ t, (∀ (b : Nat) (j : Int), ¬ (98 ≤ b ∧ b ≤ 121) → ¬ (b = 95 ∧ j = 2) → t b j = s b j) ∧ CS h1 t)) :=
  fun f hf v h' rr r H G h12 => uc_114 C N E A hw hn hz H G h12 f hf v h' rr
theorem tq_114 (AM : lw_AM) {sl : List Value} {h : mj_H} {B : Int} {s : sg_} {tc : tcs} {tr : Int → crs} {M : Int} (L : LAWS tc tr s M) {a b c : Int} (hc : c = 0 ∨ c = 1) (ra : wp_r a) (rb : wp_r b) (hMM : M ≤ 900000000) (W : WS sl h B s) (hB : 0 ≤ B ∧ B ≤ 130000000) : wp_R 1199 114 0 [some (.ref 9), some (wp_i a), some (wp_i b), some (wp_i c), none, none] [] h (fun v h1 => ∃ s1, v = some (wl_L (q_114 tr s1 a b c)) ∧ WS sl h1 (B + (0 : Nat)) s1 ∧ LAWS tc tr s1 M) := by
  have N := INV_NV L.1
  have T := INV_RT L.1
  have C := W.2.2.2
  refine wp_mono (ws_g (n := 0) (P := fun v t => v = some (wl_L (q_114 tr t a b c)) ∧ LAWS tc tr t M) W (AM 1199 114 sx_K114 rfl) (vs := [.ref 9, wp_i a, wp_i b, wp_i c]) ⟨⟨9, rfl, rfl⟩, ⟨_, rfl, (sx_r32 _).1, (sx_r32 _).2⟩, ⟨_, rfl, (sx_r32 _).1, (sx_r32 _).2⟩, ⟨_, rfl, (by rcases hc with rfl | rfl <;> decide), (by rcases hc with rfl | rfl <;> decide)⟩, trivial⟩ (show (9 : Int) + 0 ≤ ((1199 : Nat) : Int) by decide) (by decide) (by omega) (by rw [jn_114]; rfl) (by decide +kernel) (fun nn => wl_mono (uc_114a (d := 1190) C N T.2 T.1.rs.2.2.2.2.2.2 ra rb hc) (fun v h1 R => ?_))) ?_
  · have dm := dm_ L
    rcases R s L.1.1.2.1 T.1.rs.g T.1.b.1 with ⟨q0, e0, C⟩ | ⟨q0, -, t, fr, C⟩
    · exact ⟨s, C, e0.trans (congrArg (fun z => some (wl_L z)) (show q_114 tr s a b c = -1 by unfold q_114; rw [dm.2.1]; exact if_neg q0).symm), L⟩
    · have e : ∀ (b : Nat) (j : Int), ¬ (95 ≤ b ∧ b ≤ 137) → t b j = s b j := fun b j hb => fr b j (by omega) (by omega)
      have T1 := (INV_RT (LAWS_l L e).1).1
      have er : ∀ j : Int, bgR t 139 j = s 139 j := fun j => (bgR_fr (by omega) (by omega)).trans (e 139 j (by omega))
      have f0 : FCP s s 48 48 := ⟨⟨rfl, rfl⟩, fun _ _ _ => ⟨rfl, rfl, rfl⟩, fun _ _ _ => ⟨rfl, rfl⟩, fun _ _ _ => ⟨rfl, rfl⟩, rfl, rfl, rfl, rfl⟩
      rcases R (bgR t) (relF_t L.1.1.2.1 f0 (fun j _ _ => er j)) (RS_bg T1.rs).g (by rw [er]; exact T.1.b.1) with ⟨q1, -, -⟩ | ⟨-, e1, -⟩
      · exact absurd q0 q1
      · exact ⟨t, C, e1.trans (congrArg (fun z => some (wl_L z)) (eq_114 L (t := t) e q0 hc)), LAWS_l L e⟩
  · rintro v h1 ⟨-, s1, W1, e1, L1⟩
    exact ⟨s1, e1, W1, L1⟩
theorem tq_277 (AM : lw_AM) {sl : List Value} {h : mj_H} {B : Int} {s : sg_} {tc : tcs} {tr : Int → crs} {M : Int} (L : LAWS tc tr s M) {a b c : Int} (hc : c = 0 ∨ c = 1) (ra : wp_r a) (rb : wp_r b) (hMM : M ≤ 900000000) (W : WS sl h B s) (hB : 0 ≤ B ∧ B ≤ 130000000) : wp_R 1199 277 0 [some (.ref 138), some (wp_i a), some (wp_i b), some (wp_i c), none, none, none] [] h (fun v h1 => v = some (wl_L (q_114 tr s a b c)) ∧ ∃ s1, WS sl h1 (B + (3000 : Nat)) s1 ∧ LAWS tc tr s1 M) := by
  have N := INV_NV L.1
  have T := INV_RT L.1
  have C := W.2.2.2
  refine wp_mono (ws_g (n := 3000) (P := fun v t => v = some (wl_L (q_114 tr s a b c)) ∧ LAWS tc tr t M) W (AM 1199 277 sx_K277 rfl) (vs := [.ref 138, wp_i a, wp_i b, wp_i c]) ⟨⟨138, rfl, rfl⟩, ⟨_, rfl, (sx_r32 _).1, (sx_r32 _).2⟩, ⟨_, rfl, (sx_r32 _).1, (sx_r32 _).2⟩, ⟨_, rfl, (by rcases hc with rfl | rfl <;> decide), (by rcases hc with rfl | rfl <;> decide)⟩, trivial⟩ (show (14 : Int) + 0 ≤ ((1199 : Nat) : Int) by decide) (by decide) (by omega) (by rw [jn_277]; rfl) (by decide +kernel) (fun nn => wl_mono (uc_277 (d := 1190) C (by omega) T.1 ra rb hc) (fun v h1 R => ?_))) ?_
  · rcases R with ⟨q0, rfl, C⟩ | ⟨q0, rfl, t, C, fr⟩
    · exact ⟨s, C, congrArg (fun z => some (wl_L z)) (if_neg q0).symm, L⟩
    · exact ⟨t, C, congrArg (fun z => some (wl_L z)) (if_pos q0).symm, LAWS_b L fr⟩
  · rintro v h1 ⟨-, s1, W1, e1, L1⟩
    exact ⟨e1, s1, W1, L1⟩
