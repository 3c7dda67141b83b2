/-! shown by hand: the reference's work -/
/-- a case of the loop's body: what the sign may be, the value, how many values and truths are there at least -/
def sx_wE (c : Nat) : sx_E := match c with
  | 0 => [(1, 2208, []), (97, 2212, []), (0, 302, []), (0, 303, []), (0, 302, []), (0, 0, []), (-2147483648, 9999, [])]
  | 1 => [(1, 2208, []), (97, 2212, []), (0, 302, []), (0, 303, []), (0, 302, []), (1, 1, []), (0, 9, [])]
  | 2 => [(1, 2208, []), (97, 2212, []), (1, 303, []), (0, 302, []), (0, 302, []), (2, 2, []), (0, 6, [(-1, [(1, 2), (-1, 6)])])]
  | 3 => [(1, 2208, []), (97, 2212, []), (1, 303, []), (0, 303, []), (0, 302, []), (3, 3, []), (-2147483648, 9999, [])]
  | 4 => [(1, 2208, []), (97, 2212, []), (2, 303, []), (0, 303, []), (0, 302, []), (4, 9, []), (-2147483648, 9999, [])]
  | 5 => [(1, 2208, []), (97, 2212, []), (2, 303, []), (0, 302, []), (0, 302, []), (10, 19, []), (-2147483648, 9999, [])]
  | 6 => [(1, 2208, []), (97, 2212, []), (0, 303, []), (1, 303, []), (0, 302, []), (20, 20, []), (-2147483648, 9999, [])]
  | _ => [(1, 2208, []), (97, 2212, []), (0, 303, []), (2, 303, []), (0, 302, []), (21, 41, []), (-2147483648, 9999, [])]
def sx_wS (c : Nat) : sx_S := (88, [some (2, (63, [(0, 0)])), none, some (0, sx_v 0), some (0, sx_v 1), some (0, sx_v 2), some (0, sx_v 3), some (0, sx_v 4), some (0, sx_v 5), some (0, sx_v 6)], [], sx_wE c, 1, [])
/-- values and truths behind it -/
def sx_wn (c : Nat) : sx_X := match c with
  | 0 => (1, [(1, 2)])
  | 1 => (1, [(1, 2)])
  | 2 => (-1, [(1, 2), (-1, 6)])
  | 4 => (-1, [(1, 2)])
  | 5 => (-2, [(1, 2)])
  | _ => (0, [(1, 2)])
def sx_wt (c : Nat) : sx_X := match c with
  | 2 => (1, [(1, 3)])
  | 5 => (1, [(1, 3)])
  | 0 => (0, [(1, 3)])
  | 1 => (0, [(1, 3)])
  | 3 => (0, [(1, 3)])
  | 4 => (0, [(1, 3)])
  | 6 => (0, [(1, 3)])
  | _ => (-1, [(1, 3)])
def sx_wL (c : Nat) : List (Option sx_A) := [some (2, (63, [(0, 0)])), none, some (0, sx_v 0), some (0, sx_v 1), some (0, sx_wn c), some (0, sx_wt c), some (0, (1, [(1, 4)])), some (0, sx_v 5), some (0, sx_v 6)]
def sx_wc (c : Nat) : Bool := match sx_sg sx_PP [10067, 10068] [47] 233 (3, []) 400 true (sx_wS c) with
  | some L => L.all fun S => decide (S.1 = 47) && (decide (S.2.1 = sx_wL c) && S.2.2.1.isEmpty)
  | none => false
set_option maxRecDepth 100000 in
theorem sx_wc0 : sx_wc 0 = true := by decide +kernel
set_option maxRecDepth 100000 in
theorem sx_wc1 : sx_wc 1 = true := by decide +kernel
set_option maxRecDepth 100000 in
theorem sx_wc2 : sx_wc 2 = true := by decide +kernel
set_option maxRecDepth 100000 in
theorem sx_wc3 : sx_wc 3 = true := by decide +kernel
set_option maxRecDepth 100000 in
theorem sx_wc4 : sx_wc 4 = true := by decide +kernel
set_option maxRecDepth 100000 in
theorem sx_wc5 : sx_wc 5 = true := by decide +kernel
set_option maxRecDepth 100000 in
theorem sx_wc6 : sx_wc 6 = true := by decide +kernel
set_option maxRecDepth 100000 in
theorem sx_wc7 : sx_wc 7 = true := by decide +kernel
/-- one case: from the sign read to the loop's head -/
theorem sx_wk {d c : Nat} (IH : sx_IH sx_PP d) (hd : 3 ≤ d) (hc : sx_wc c = true) {B : Int} (hB : B ≤ sx_mx) {r : Nat → Int} {g : Nat → Nat} {lv : mj_L} {h : mj_H} (hg : sx_g sx_TT 20 sx_tau r g (sx_wS c) lv [] h) (hW : sx_W sx_tau h B) (hE : (sx_wE c).length = 7) : ∃ r' g' lv' h', (∀ f v h2, mj_run f d 233 47 lv' [] h' = some (v, h2) → ∃ f', mj_run f' d 233 88 lv [] h = some (v, h2)) ∧ sx_lr r' g' sx_tau (sx_wL c) lv' ∧ (∀ j, j < 7 → r' j = r j) ∧ g' 0 = g 0 ∧ sx_H sx_TT 20 sx_tau h' ∧ sx_ef sx_tau [10067, 10068] h h' ∧ h'.length = h.length ∧ sx_W sx_tau h' B := by
  unfold sx_wc at hc
  split at hc
  · rename_i L hL
    obtain ⟨S', m1, r', g', lv', st', h', k1, k2, k3, k4, k5, k6, k7⟩ := sx_sg_ok (P := sx_PP) (d := d) IH hB 400 true (sx_wS c) L r g lv [] h hL hg (show (3 : Int) + 0 ≤ d by omega) rfl hW
    have h1 := List.all_eq_true.mp hc S' m1
    simp only [Bool.and_eq_true, decide_eq_true_eq] at h1
    obtain ⟨p1, p2, p3⟩ := h1
    obtain ⟨pc, ls, ss, E, nr, C⟩ := S'
    dsimp only at p1 p2 p3
    subst p1 p2
    have p3 : ss = [] := List.isEmpty_iff.mp p3
    subst p3
    obtain ⟨hl, hs, hE2, hC, hH⟩ := k2
    have est : st' = [] := sx_sr0 hs
    subst est
    have k3 : ∀ j, j < (sx_wE c).length → r' j = r j := k3
    rw [hE] at k3
    exact ⟨r', g', lv', h', k1, hl, k3, k4 0 (show 0 < 1 by decide), hH, k5, k6, k7⟩
  · cases hc
