/-! the reference's work as a whole -/
theorem sx_work {d : Nat} (IH : sx_IH sx_PP d) (hd : 3 ≤ d) {B : Int} (hB : B ≤ sx_mx) {h : mj_H} (hH : sx_H sx_TT 20 sx_tau h) (hW : sx_W sx_tau h B) {a A Tx : Nat} {fs as ts : List Value} (ta : sx_tau[a]? = some 63) (h1 : h[a]? = some (11, fs)) (h0 : fs[0]? = some (.ref A)) (h2 : fs[2]? = some (.ref Tx)) (hA : h[A]? = some (1000, as)) (hla : as.length = 6044) (tT : sx_tau[Tx]? = some 20) (h3 : h[Tx]? = some (1000, ts)) {S K : Int32} {s k : Nat} (hS : as[3]? = some (.int S)) (eS : S.toInt = (s : Int)) (hs : s < 4) (eK : K.toInt = (k : Int)) (hk : k < 24) (hn : (k : Int) < sx_el ts (705 * s)) (hl : sx_el ts (705 * s + 1 + 4 * k) ≤ 2) : ∃ f h', mj_run f d 233 0 [some (.ref a), some (.int K), none, none, none, none, none, none, none] [] h = some (none, h') ∧ sx_H sx_TT 20 sx_tau h' ∧ sx_ef sx_tau [10067, 10068] h h' ∧ h'.length = h.length ∧ sx_W sx_tau h' B := by
  obtain ⟨-, ts', c1, -, -, c4⟩ := hH Tx 20 sx_y20 tT rfl
  have c1 : h[Tx]? = some (1000, ts') := c1
  rw [h3] at c1
  cases c1
  obtain ⟨p, q, j1, j2, j3, j4⟩ := c4 rfl s k hs hk hn hl
  have hmn : sx_mn = -2147483648 := rfl
  have hmx : sx_mx = 2147483647 := rfl
  have e705 : (Int16.ofInt 705).toInt32.toInt = 705 := by decide
  have e97 : (Int8.ofInt 97).toInt32.toInt = 97 := by decide
  have e4 : (Int32.ofInt 4).toInt = 4 := by decide
  have e1 : (Int32.ofInt 1).toInt = 1 := by decide
  have m1 : ((Int16.ofInt 705).toInt32 * S).toInt = 705 * (s : Int) := by rw [sx_imul (by rw [e705, eS]; omega), e705, eS]
  have m2 : (Int32.ofInt 4 * K).toInt = 4 * (k : Int) := by rw [sx_imul (by rw [e4, eK]; omega), e4, eK]
  have m3 : ((Int16.ofInt 705).toInt32 * S + Int32.ofInt 1).toInt = 705 * (s : Int) + 1 := by rw [sx_iadd (by rw [m1, e1]; omega), m1, e1]
  have m4 : ((Int16.ofInt 705).toInt32 * S + Int32.ofInt 1 + Int32.ofInt 4 * K).toInt = ((705 * s + 1 + 4 * k : Nat) : Int) := by rw [sx_iadd (by rw [m3, m2]; omega), m3, m2]; omega
  have m5 : ((Int16.ofInt 705).toInt32 * S + (Int8.ofInt 97).toInt32).toInt = ((705 * s + 97 : Nat) : Int) := by rw [sx_iadd (by rw [m1, e97]; omega), m1, e97]; omega
  obtain ⟨-, I, z1, z2, -⟩ := sx_txt hH tT h3 (J := (Int16.ofInt 705).toInt32 * S + Int32.ofInt 1 + Int32.ofInt 4 * K + Int32.ofInt 1) (j := 705 * s + 1 + 4 * k + 1) (by rw [sx_ia m4 (by omega) (by decide)]; omega) (by omega)
  rw [j1] at z2
  have he : mj_el h A 1000 (Int32.ofInt 3) = some (.int S) := by
    unfold mj_el
    rw [hA]
    dsimp only
    rw [if_pos rfl, hla, show mj_ix (Int32.ofInt 3) 6044 = some 3 from by decide]
    exact hS
  obtain ⟨f, h', r1, r2⟩ := sx_wloop IH hd hB ta tT hs (x := 705 * s + 1 + 4 * k) (by omega) j2 j3 (q - p) 0 0 p [some (.ref a), some (.int K), some (.int ((Int16.ofInt 705).toInt32 * S + Int32.ofInt 1 + Int32.ofInt 4 * K)), some (.int ((Int16.ofInt 705).toInt32 * S + (Int8.ofInt 97).toInt32)), some (.int (Int32.ofInt 0)), some (.int (Int32.ofInt 0)), some (.int I), none, none] h fs _ _ (Int32.ofInt 0) (Int32.ofInt 0) I rfl rfl rfl rfl rfl rfl rfl m4 m5 (by decide) (by decide) z2 hH hW h1 h2 h3 rfl (by omega) (by omega) j4
  exact ⟨f + 33, h', sx_went h1 h0 h2 he z1 f _ r1, r2⟩
