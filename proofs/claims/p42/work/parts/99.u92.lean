/-! -/
/-! the reference's reader with what it writes: a law; laid by program (wp_u92.py) -/
/-- an item is written, some items are -/
def em1 (x0 : Int) (ts : List Value) (wr o v : Int) : List Value := (ts.set (x0 + 97 + (2 * wr)).toNat (wp_i o)).set (x0 + 97 + (2 * wr) + 1).toNat (wp_i v)
def emW (x0 : Int) : List Value → Int → List (Int × Int) → List Value
  | ts, _, [] => ts
  | ts, wr, x :: W => emW x0 (em1 x0 ts wr x.1 x.2) (wr + 1) W
def qE (x0 : Int) (ts : List Value) (wr : Int) (W : List (Int × Int)) (ts' : List Value) (wr' : Int) : Prop := wr' = wr + (W.length : Int) ∧ ts' = emW x0 ts wr W
theorem qE_0 {x0 : Int} {ts : List Value} {wr : Int} : qE x0 ts wr [] ts wr := ⟨by show wr = wr + ((0 : Nat) : Int); omega, rfl⟩
theorem qE_c {x0 : Int} {ts ts' : List Value} {wr wr' a b : Int} {W : List (Int × Int)} (h : qE x0 (em1 x0 ts wr a b) (wr + 1) W ts' wr') : qE x0 ts wr ((a, b) :: W) ts' wr' := ⟨by rw [h.1]; show wr + 1 + (W.length : Int) = wr + ((W.length + 1 : Nat) : Int); omega, h.2⟩
theorem emW_app {x0 : Int} : ∀ (A B : List (Int × Int)) (ts : List Value) (wr : Int), emW x0 ts wr (A ++ B) = emW x0 (emW x0 ts wr A) (wr + (A.length : Int)) B
  | [], B, ts, wr => by
    show emW x0 ts wr B = emW x0 ts (wr + ((0 : Nat) : Int)) B
    rw [show wr + ((0 : Nat) : Int) = wr by omega]
  | x :: A, B, ts, wr => by
    show emW x0 (em1 x0 ts wr x.1 x.2) (wr + 1) (A ++ B) = emW x0 (emW x0 (em1 x0 ts wr x.1 x.2) (wr + 1) A) (wr + ((A.length + 1 : Nat) : Int)) B
    rw [emW_app A B, show wr + 1 + (A.length : Int) = wr + ((A.length + 1 : Nat) : Int) by omega]
theorem qE_t {x0 : Int} {ts ts1 ts2 : List Value} {wr wr1 wr2 : Int} {A B : List (Int × Int)} (h1 : qE x0 ts wr A ts1 wr1) (h2 : qE x0 ts1 wr1 B ts2 wr2) : qE x0 ts wr (A ++ B) ts2 wr2 := by
  obtain ⟨rfl, rfl⟩ := h1
  obtain ⟨rfl, rfl⟩ := h2
  exact ⟨by rw [List.length_append]; omega, (emW_app A B ts wr).symm⟩
theorem qE_1 {x0 : Int} {ts ts1 : List Value} {wr wr1 o v : Int} {A : List (Int × Int)} (h1 : qE x0 ts wr A ts1 wr1) : qE x0 ts wr (A ++ [(o, v)]) (em1 x0 ts1 wr1 o v) (wr1 + 1) := qE_t h1 (qE_c qE_0)
/-- what settle writes -/
def stE (r : Int) : List Int → List (Int × Int)
  | [] => []
  | c :: w => if r ≤ pr_rank c then (if c = 16 then stE r w else (c, 0) :: stE r w) else []
/-- the reference's item of the class's -/
def cvt (it : Int) : Int × Int := if it < 10000 then (0, it) else if it < 20000 then (1, nmo 0 (it - 10000)) else if it < 30000 then (mo (it - 20000), 0) else (2, it - 30000)
/-- what the reference has written already -/
def lag (st : Int) (w : List Int) : List Int := if st = 2 then jE 7 w else []
theorem cvt_s {c : Int} (h : 0 ≤ c ∧ c ≤ 200) : cvt (20000 + c) = (mo c, 0) := by
  unfold cvt
  rw [if_neg (by omega), if_neg (by omega), if_pos (by omega), show 20000 + c - 20000 = c by omega]
theorem stE_m {r : Int} (hr : 1 ≤ r) : ∀ {w : List Int}, shp w → stE r (w.map mo) = (jE r w).map cvt
  | [], _ => rfl
  | c :: w, h => by
    have f := mo_f h.2.2.1
    have ih := stE_m hr h.1
    show (if r ≤ pr_rank (mo c) then (if mo c = 16 then stE r (w.map mo) else (mo c, 0) :: stE r (w.map mo)) else []) = List.map cvt (if r ≤ ck c then (20000 + c) :: jE r w else [])
    rw [f.1]
    by_cases hc : r ≤ ck c
    · have h16 := mo_16 h.2.2.1
      rw [if_pos hc, if_pos hc, if_neg f.2.2.2.2.2.1, ih]
      show (mo c, 0) :: _ = cvt (20000 + c) :: _
      rw [cvt_s (by omega)]
    · rw [if_neg hc, if_neg hc]
      rfl
theorem jE_2 {r s : Int} (h : r ≤ s) : ∀ w : List Int, jE r w = jE s w ++ jE r (jwt s w)
  | [] => rfl
  | c :: w => by
    by_cases hs : s ≤ ck c
    · have e1 : jE s (c :: w) = (20000 + c) :: jE s w := if_pos hs
      have e2 : jE r (c :: w) = (20000 + c) :: jE r w := if_pos (by omega)
      have e3 : jwt s (c :: w) = jwt s w := if_pos hs
      rw [e1, e2, e3, jE_2 h w]
      rfl
    · have e1 : jE s (c :: w) = [] := if_neg hs
      have e3 : jwt s (c :: w) = c :: w := if_neg hs
      rw [e1, e3]
      rfl
theorem jE_45 : ∀ {w : List Int}, no4 w → jE 4 w = jE 5 w
  | [], _ => rfl
  | c :: w, h => by
    have h1 : ¬ ck c = 4 := h c List.mem_cons_self
    have ih := jE_45 (w := w) (fun x hx => h x (List.mem_cons_of_mem _ hx))
    by_cases hc : 5 ≤ ck c
    · have e1 : jE 4 (c :: w) = (20000 + c) :: jE 4 w := if_pos (by omega)
      have e2 : jE 5 (c :: w) = (20000 + c) :: jE 5 w := if_pos hc
      rw [e1, e2, ih]
    · have e1 : jE 4 (c :: w) = [] := if_neg (by omega)
      have e2 : jE 5 (c :: w) = [] := if_neg hc
      rw [e1, e2]
theorem jE_15 : ∀ {w : List Int}, shp w → 0 < brn w → jE 1 w = jE 5 w
  | [], _, h => absurd h (by decide)
  | c :: w, h, hb => by
    by_cases hc : ck c = 0
    · have e1 : jE 1 (c :: w) = [] := if_neg (by omega)
      have e2 : jE 5 (c :: w) = [] := if_neg (by omega)
      rw [e1, e2]
    · have hbc : brc c = 0 := by
        have f := mo_f h.2.2.1
        rcases f.2.2.2.2.2.2.2.1 with e | e
        · exact e
        · exact absurd (f.2.2.2.2.2.2.1.mp e) hc
      have hb : 0 < brn w + brc c := hb
      have h1 := h.2.2.2.1 (by omega)
      have hk := ck_r c
      have e1 : jE 1 (c :: w) = (20000 + c) :: jE 1 w := if_pos (by omega)
      have e2 : jE 5 (c :: w) = (20000 + c) :: jE 5 w := if_pos (by omega)
      rw [e1, e2, jE_15 h.1 (by omega)]
/-- what settle writes behind a ONE, with what was written already -/
theorem RL_E {law st : Int} {w : List Int} {ls as_ : Int} {u : List Int} {op am wi ei : Int} (R : RL law st w ls as_ u op am wi ei) (hs : st = 2 ∨ st = 4) {r : Int} (h1 : 1 ≤ r) (h4 : r ≤ 4 ∨ st = 2) (h7 : r ≤ 7) : (lag st w).map cvt ++ stE r u = (jE r w).map cvt := by
  obtain ⟨I, o, hu, ho, hw, he, hm, ha, h9⟩ := R
  rcases hs with e | e
  · subst e
    have eu : u = (jwt 7 w).map mo := hu
    rw [eu, stE_m h1 (shp_jw I.1), show lag 2 w = jE 7 w from if_pos rfl, jE_2 (r := r) h7 w, List.map_append]
  · subst e
    have eu : u = 16 :: w.map mo := hu
    have h4 : r ≤ 4 := by omega
    have e4 : pr_rank 16 = 4 := by decide
    rw [eu, show lag 4 w = [] from if_neg (by decide)]
    show (if r ≤ pr_rank 16 then (if (16 : Int) = 16 then stE r (w.map mo) else (16, 0) :: stE r (w.map mo)) else []) = _
    rw [e4, if_pos h4, if_pos rfl, stE_m h1 I.1]
theorem lag_n {st : Int} {w : List Int} (h : ¬ st = 2) : lag st w = [] := if_neg h
/-- what the class writes at a token -/
theorem ez_o {law k v st : Int} {w : List Int} {ls as_ : Int} (hs : st = 0 ∨ st = 1) (h : k = 2 ∨ (k = 0 ∧ v = 15 ∧ st = 0)) : estep law k v st w ls as_ = [] := by
  unfold estep e_one e_wd
  rcases h with h | h
  · rw [if_pos hs, if_neg (by omega), if_neg (by omega)]
  · rw [if_pos hs, if_neg (by omega), if_pos h.1, if_pos h.2]
theorem ez_1 {law k v st : Int} {w : List Int} {ls as_ t n : Int} {w9 : Nat} (T : tkr k v t n w9) (hs : st = 0 ∨ st = 1) (g1 : ¬ (k = 1 ∧ 9999 < v)) (h : k = 1 ∨ 0 ≤ nmo k v) : (estep law k v st w ls as_).map cvt = [(if k = 1 then 0 else 1, if k = 1 then n else nmo k v)] := by
  have hv := nmo_v k v
  have ht := (tk_t T).1
  have hnr := tk_nr T
  have h1 := tk_v1 T
  unfold estep e_one e_wd
  by_cases hk : k = 1
  · rw [if_pos hs, if_pos hk, if_pos hk, if_pos hk]
    show [cvt v] = _
    have hn := hnr (by omega)
    have e := h1 (by omega)
    have e2 : v = n := by omega
    have e3 : cvt v = (0, v) := if_pos (by omega)
    rw [e3, e2]
  · have h2 := hv.1.mp (by omega)
    rw [if_pos hs, if_neg hk, if_pos h2.1, if_neg hk, if_neg hk, if_neg (by omega)]
    show [cvt (10000 + v)] = _
    have e3 : cvt (10000 + v) = (1, nmo 0 (10000 + v - 10000)) := (if_neg (by omega)).trans (if_pos (by omega))
    rw [e3, show 10000 + v - 10000 = v by omega, h2.1]
section EZS
variable {law k v st : Int} {w : List Int} {ls as_ g : Int}
theorem ez_g (hs : st = 2 ∨ st = 4) : estep law k v st w ls as_ = e_sg law (sh k v) st w ls as_ := by
  unfold estep
  rw [if_neg (by omega), if_neg (by omega)]
theorem ez_b : estep law k v 3 w ls as_ = [] := by
  unfold estep
  rw [if_neg (by omega), if_pos rfl]
theorem ey_1 (h : ck g = 5 ∨ ck g = 6) (hs : ¬ st = 4) : e_sg law g st w ls as_ = jE (ck g) w := if_pos ⟨h, hs⟩
theorem ey_2 (h : ck g = 4) (h2 : law = 2 ∧ brn w = 0) (ha : as_ = 0) : e_sg law g st w ls as_ = jE 5 w := by
  unfold e_sg eg1
  rw [if_neg (by omega), if_pos ⟨h, h2, ha⟩]
theorem ey_3 (h : ck g = 1 ∨ ck g = 2) (h2 : law = 2 ∧ brn w = 0) (ha : as_ = 1) : e_sg law g st w ls as_ = jE (ck g) w := by
  unfold e_sg eg1 eg2 eg3
  rw [if_neg (by omega), if_neg (by omega), if_neg (by omega), if_pos ⟨h, h2, by omega⟩]
theorem ey_4 (hg : g = 91) (h2 : law = 2 ∧ brn w = 0) (ha : as_ = 0) : e_sg law g st w ls as_ = jE 5 w := by
  subst hg
  have hc := ck_x
  unfold e_sg eg1 eg2
  rw [if_neg (by omega), if_neg (by omega), if_pos ⟨rfl, h2, ha⟩]
theorem ey_5 (hg : g = 44) (hb : brn w = 1) (ha : as_ = 1) (hh : (jwt 5 w).head? = some 91) : e_sg law g st w ls as_ = jE 5 w := by
  subst hg
  have hc := ck_x
  unfold e_sg eg1 eg2 eg3 eg4 eg5
  rw [if_neg (by omega), if_neg (by omega), if_neg (by omega), if_neg (by omega), if_neg (by omega), if_pos ⟨rfl, hb, by omega, hh⟩]
theorem ey_6 (hg : g = 41) (hb : 0 < brn w) {c : Int} {w1 : List Int} (hj : jwt 5 w = c :: w1) : e_sg law g st w ls as_ = jE 5 w ++ (if c = 91 then [30000 + ls] else []) := by
  subst hg
  have hc := ck_x
  unfold e_sg eg1 eg2 eg3 eg4 e_cl
  rw [if_neg (by omega), if_neg (by omega), if_neg (by omega), if_neg (by omega), if_pos ⟨rfl, hb⟩, hj]
theorem ey_7 (h1 : ¬ ((ck g = 5 ∨ ck g = 6) ∧ ¬ st = 4)) (h2 : ¬ (ck g = 4 ∧ (law = 2 ∧ brn w = 0) ∧ as_ = 0)) (h3 : ¬ (g = 91 ∧ (law = 2 ∧ brn w = 0) ∧ as_ = 0)) (h4 : ¬ ((ck g = 1 ∨ ck g = 2) ∧ (law = 2 ∧ brn w = 0) ∧ ¬ as_ = 0)) (h5 : ¬ (g = 41 ∧ 0 < brn w)) (h6 : ¬ (g = 44 ∧ brn w = 1 ∧ ¬ as_ = 0 ∧ (jwt 5 w).head? = some 91)) : e_sg law g st w ls as_ = eg6 law g w ls as_ := by
  unfold e_sg eg1 eg2 eg3 eg4 eg5
  rw [if_neg h1, if_neg h2, if_neg h3, if_neg h4, if_neg h5, if_neg h6]
end EZS
section WRQ
variable {nn d m pc : Nat} {lv : mj_L} {st : List Value} {h h0 : mj_H} {Q : Option Value → mj_H → Prop} {fs0 bl pl ts : List Value} {L p q t n x0 wr so pd op am wi ei oc cn : Int} {w : Nat}
theorem rp_u {x y : Int} (V : rP h0 h fs0 bl L p q t n x0 wr so pd op am wi ei oc cn w pl ts) (hx : wp_r x) (hne : x0 ≤ x ∧ ¬ x = x0) (hx0 : 0 ≤ x0) (hi : mj_ins m pc = some .iastore) (hr : ∀ h, 0 ≤ x → x < ts.length → rP h0 h fs0 bl L p q t n x0 wr so pd op am wi ei oc cn w pl (ts.set x.toNat (wp_i y)) → wl_R nn d m (pc + 1) lv st h Q) : wl_R nn d m pc lv (wp_i y :: wp_i x :: .ref 141 :: st) h Q := by
  obtain ⟨⟨fs, e0, F⟩, f1, f2, ⟨f3, f4⟩, f5⟩ := V
  refine wl_as hi f3 hx (fun x1 x2 => hr _ x1 x2 ⟨⟨fs, ?_, F⟩, ?_, ?_, ⟨List.getElem?_set_self (fd_lt f3), ?_⟩, fun a a1 a2 a3 => ?_⟩)
  · rw [List.getElem?_set_ne (by decide)]; exact e0
  · rw [List.getElem?_set_ne (by decide)]; exact f1
  · rw [List.getElem?_set_ne (by decide)]; exact f2
  · exact ⟨by rw [List.getElem?_set_ne (by omega)]; exact f4.1, fun j hj => by rw [List.getElem?_set_ne (by omega)]; exact f4.2 j hj⟩
  · rw [List.getElem?_set_ne (Ne.symm a2)]; exact f5 a a1 a2 a3
end WRQ
theorem wq_em {nn d : Nat} {a b : Int} {h0 h : mj_H} {fs0 bl pl ts : List Value} {L p q t n x0 wr so pd op am wi ei oc cn : Int} {w : Nat} (V : rP h0 h fs0 bl L p q t n x0 wr so pd op am wi ei oc cn w pl ts) (hx0 : 0 ≤ x0 ∧ x0 ≤ 3000) (hwr : 0 ≤ wr ∧ wr ≤ 1000000) : wl_R nn d 203 0 [some (.ref 138), some (wp_i a), some (wp_i b)] [] h (fun v h1 => v = none ∧ rP h0 h1 fs0 bl L p q t n x0 (wr + 1) so pd op am wi ei oc cn w pl (em1 x0 ts wr a b)) := by
  refine wl_s (pc' := 1) ji_203_0 rfl rfl rfl ?_
  refine rp_g2 V ji_203_1 jf_203_16 ?_
  refine wl_s (pc' := 5) ji_203_4 rfl rfl rfl ?_
  refine rp_g12 V ji_203_5 jf_203_134 ?_
  refine wl_bp ji_203_8 rfl ?_
  refine wl_iadd (x := x0) (y := 97) (z := x0 + 97) ji_203_10 (by omega) ?_
  refine wl_s (pc' := 12) ji_203_11 rfl rfl rfl ?_
  refine wl_s (pc' := 13) ji_203_12 rfl rfl rfl ?_
  refine rp_g13 V ji_203_13 jf_203_137 ?_
  refine wl_imul (x := 2) (y := wr) (z := 2 * wr) ji_203_16 (by omega) ?_
  refine wl_iadd (x := x0 + 97) (y := 2 * wr) (z := x0 + 97 + (2 * wr)) ji_203_17 (by omega) ?_
  refine wl_s (pc' := 19) ji_203_18 rfl rfl rfl ?_
  refine rp_u (x := x0 + 97 + (2 * wr)) (y := a) V (by omega) (by omega) (by omega) ji_203_19 (fun h x1 x2 V => ?_)
  refine wl_s (pc' := 21) ji_203_20 rfl rfl rfl ?_
  refine rp_g2 V ji_203_21 jf_203_16 ?_
  refine wl_s (pc' := 25) ji_203_24 rfl rfl rfl ?_
  refine rp_g12 V ji_203_25 jf_203_134 ?_
  refine wl_bp ji_203_28 rfl ?_
  refine wl_iadd (x := x0) (y := 97) (z := x0 + 97) ji_203_30 (by omega) ?_
  refine wl_s (pc' := 32) ji_203_31 rfl rfl rfl ?_
  refine wl_s (pc' := 33) ji_203_32 rfl rfl rfl ?_
  refine rp_g13 V ji_203_33 jf_203_137 ?_
  refine wl_imul (x := 2) (y := wr) (z := 2 * wr) ji_203_36 (by omega) ?_
  refine wl_iadd (x := x0 + 97) (y := 2 * wr) (z := x0 + 97 + (2 * wr)) ji_203_37 (by omega) ?_
  refine wl_s (pc' := 39) ji_203_38 rfl rfl rfl ?_
  refine wl_iadd (x := x0 + 97 + (2 * wr)) (y := 1) (z := x0 + 97 + (2 * wr) + 1) ji_203_39 (by omega) ?_
  refine wl_s (pc' := 41) ji_203_40 rfl rfl rfl ?_
  refine rp_u (x := x0 + 97 + (2 * wr) + 1) (y := b) V (by omega) (by omega) (by omega) ji_203_41 (fun h x1 x2 V => ?_)
  refine wl_s (pc' := 43) ji_203_42 rfl rfl rfl ?_
  refine wl_s (pc' := 44) ji_203_43 rfl rfl rfl ?_
  refine rp_g13 V ji_203_44 jf_203_137 ?_
  refine wl_s (pc' := 48) ji_203_47 rfl rfl rfl ?_
  refine wl_iadd (x := wr) (y := 1) (z := wr + 1) ji_203_48 (by omega) ?_
  refine rp_p13 (y := wr + 1) V ji_203_49 jf_203_137 (fun h V => ?_)
  exact wl_rv ji_203_52 jr_203 ⟨rfl, V⟩
theorem wq_st {d : Nat} {h0 : mj_H} {fs0 bl pl : List Value} {L p q t n x0 so am wi ei oc cn r : Int} {w : Nat} (hx0 : 0 ≤ x0 ∧ x0 ≤ 3000) (hr : 1 ≤ r ∧ r ≤ 7) : ∀ (nn : Nat) (w1 : List Int) (h : mj_H) (wr op : Int) (ts : List Value), pn pl w1 → rP h0 h fs0 bl L p q t n x0 wr so (w1.length : Int) op am wi ei oc cn w pl ts → (0 ≤ wr ∧ wr + (w1.length : Int) ≤ 1000000 ∧ (w1.length : Int) ≤ 200) → wl_R nn (d + 1) 202 0 [some (.ref 138), some (wp_i r)] [] h (fun v h1 => v = none ∧ ∃ wr' ts', qE x0 ts wr (stE r w1) ts' wr' ∧ (wr ≤ wr' ∧ wr' ≤ wr + (w1.length : Int)) ∧ rP h0 h1 fs0 bl L p q t n x0 wr' so ((stl r w1).length : Int) (op - stn r w1) am wi ei oc cn w pl ts') := by
  intro nn
  induction nn with
  | zero => intro w1 h wr op ts e V hw; exact wl_0
  | succ nn ih =>
    intro w1 h wr op ts e V hw
    cases w1 with
    | nil =>
      refine wl_s (pc' := 1) ji_202_0 rfl rfl rfl ?_
      refine rp_g16 V ji_202_1 jf_202_147 ?_
      refine wl_if (t := 103) ji_202_4 rfl (x := 0) (by omega) (fun _ => wl_rv ji_202_103 jr_202 ⟨rfl, wr, ts, qE_0, by simp, by show rP h0 h fs0 bl L p q t n x0 wr so 0 (op - 0) am wi ei oc cn w pl ts; rw [Int.sub_zero]; exact V⟩) (fun (c : ¬ ((0 : Int) ≤ 0)) => absurd (Int.le_refl _) c)
    | cons c w1 =>
      obtain ⟨⟨e1, e1b⟩, e2⟩ := e
      have hlc : ((c :: w1).length : Int) = (w1.length : Int) + 1 := rfl
      rw [hlc] at hw ⊢
      have V : rP h0 h fs0 bl L p q t n x0 wr so ((w1.length : Int) + 1) op am wi ei oc cn w pl ts := V
      have hrk : 0 ≤ pr_rank c ∧ pr_rank c ≤ 7 := by unfold pr_rank; repeat' split; all_goals omega
      refine wl_s1 (pc' := 1) ji_202_0 rfl rfl rfl ?_
      refine rp_g16 V ji_202_1 jf_202_147 ?_
      refine wl_if (t := 103) ji_202_4 rfl (by omega) (fun (hb1 : ((w1.length : Int) + 1 : Int) ≤ 0) => (by exfalso; omega)) (fun (hb1 : ¬ (((w1.length : Int) + 1 : Int) ≤ 0)) => ?_)
      refine wl_s (pc' := 8) ji_202_7 rfl rfl rfl ?_
      refine rp_g15 V ji_202_8 jf_202_29 ?_
      refine wl_s (pc' := 12) ji_202_11 rfl rfl rfl ?_
      refine rp_g16 V ji_202_12 jf_202_147 ?_
      refine wl_s (pc' := 16) ji_202_15 rfl rfl rfl ?_
      refine wl_isub (x := (w1.length : Int) + 1) (y := 1) (z := (w1.length : Int) + 1 - 1) ji_202_16 (by omega) ?_
      refine rp_l (x := (w1.length : Int) + 1 - 1) V (by omega) ji_202_17 (fun y y1 y2 y3 => ?_)
      rw [show ((w1.length : Int) + 1 - 1).toNat = w1.length by omega, e1] at y3
      cases y3
      refine wl_sc (d := d) (as := [wp_i c]) (rest := []) ji_202_18 jc_202_150 (Nat.le_of_ble_eq_true rfl) rfl (Nat.le_of_ble_eq_true rfl) rfl (by rw [jn_200]; rfl) (wp_wl (ws_rank (o := c) (by omega))) (fun v1 h1 R => ?_)
      obtain ⟨ee, rfl⟩ := R
      subst ee
      show wl_R _ (d + 1) 202 21 [some (.ref 138), some (wp_i r)] [wp_i (pr_rank c)] h1 _
      refine wl_s (pc' := 22) ji_202_21 rfl rfl rfl ?_
      refine wl_icmp (t := 103) ji_202_22 rfl (by omega) (by omega) (fun (hb2 : (pr_rank c : Int) < r) => ?_) (fun (hb2 : ¬ ((pr_rank c : Int) < r)) => ?_)
      · rw [show stE r (c :: w1) = [] from if_neg (by omega), show stl r (c :: w1) = c :: w1 from if_neg (by omega), show stn r (c :: w1) = 0 from if_neg (by omega), Int.sub_zero]
        exact wl_rv ji_202_103 jr_202 ⟨rfl, wr, ts, qE_0, by omega, V⟩
      · refine wl_s (pc' := 26) ji_202_25 rfl rfl rfl ?_
        refine wl_s (pc' := 27) ji_202_26 rfl rfl rfl ?_
        refine rp_g16 V ji_202_27 jf_202_147 ?_
        refine wl_s (pc' := 31) ji_202_30 rfl rfl rfl ?_
        refine wl_isub (x := (w1.length : Int) + 1) (y := 1) (z := (w1.length : Int) + 1 - 1) ji_202_31 (by omega) ?_
        refine rp_p16 (y := (w1.length : Int) + 1 - 1) V ji_202_32 jf_202_147 (fun h V => ?_)
        refine wl_s (pc' := 36) ji_202_35 rfl rfl rfl ?_
        refine rp_g15 V ji_202_36 jf_202_29 ?_
        refine wl_s (pc' := 40) ji_202_39 rfl rfl rfl ?_
        refine rp_g16 V ji_202_40 jf_202_147 ?_
        refine rp_l (x := (w1.length : Int) + 1 - 1) V (by omega) ji_202_43 (fun y y1 y2 y3 => ?_)
        rw [show ((w1.length : Int) + 1 - 1).toNat = w1.length by omega, e1] at y3
        cases y3
        refine wl_bp ji_202_44 rfl ?_
        refine wl_icmp (t := 63) ji_202_46 rfl (by omega) (by omega) (fun (hb3 : (c : Int) = 16) => ?_) (fun (hb3 : ¬ ((c : Int) = 16)) => ?_)
        · refine wl_s (pc' := 64) ji_202_63 rfl rfl rfl ?_
          refine rp_g15 V ji_202_64 jf_202_29 ?_
          refine wl_s (pc' := 68) ji_202_67 rfl rfl rfl ?_
          refine rp_g16 V ji_202_68 jf_202_147 ?_
          refine rp_l (x := (w1.length : Int) + 1 - 1) V (by omega) ji_202_71 (fun y y1 y2 y3 => ?_)
          rw [show ((w1.length : Int) + 1 - 1).toNat = w1.length by omega, e1] at y3
          cases y3
          refine wl_s (pc' := 73) ji_202_72 rfl rfl rfl ?_
          refine wl_icmp (t := 90) ji_202_73 rfl (by omega) (by omega) (fun (hb4 : (c : Int) = 3) => ?_) (fun (hb4 : ¬ ((c : Int) = 3)) => ?_)
          · refine wl_s (pc' := 91) ji_202_90 rfl rfl rfl ?_
            refine wl_s (pc' := 92) ji_202_91 rfl rfl rfl ?_
            refine rp_g17 V ji_202_92 jf_202_157 ?_
            refine wl_s (pc' := 96) ji_202_95 rfl rfl rfl ?_
            refine wl_isub (x := op) (y := 1) (z := op - 1) ji_202_96 (by omega) ?_
            refine rp_p17 (y := op - 1) V ji_202_97 jf_202_157 (fun h V => ?_)
            refine wl_goto (t := 0) ji_202_100 rfl ?_
            rw [show stE r (c :: w1) = stE r w1 from (if_pos (by omega)).trans (if_pos (by omega)), show stl r (c :: w1) = stl r w1 from if_pos (by omega), show stn r (c :: w1) = stn r w1 + pop_ c from if_pos (by omega)]
            have hpc : pop_ c = 1 := if_pos (by omega)
            rw [show (w1.length : Int) + 1 - 1 = (w1.length : Int) by omega] at V
            refine wl_mono (ih w1 _ (wr) (op - 1) _ e2 V (by omega)) ?_
            rintro v9 h9 ⟨rfl, wr9, ts9, hE9, hw9, V9⟩
            exact ⟨rfl, wr9, ts9, hE9, by omega, by rw [show op - (stn r w1 + pop_ c) = (op - 1) - stn r w1 by omega]; exact V9⟩
          · refine wl_s (pc' := 77) ji_202_76 rfl rfl rfl ?_
            refine rp_g15 V ji_202_77 jf_202_29 ?_
            refine wl_s (pc' := 81) ji_202_80 rfl rfl rfl ?_
            refine rp_g16 V ji_202_81 jf_202_147 ?_
            refine rp_l (x := (w1.length : Int) + 1 - 1) V (by omega) ji_202_84 (fun y y1 y2 y3 => ?_)
            rw [show ((w1.length : Int) + 1 - 1).toNat = w1.length by omega, e1] at y3
            cases y3
            refine wl_bp ji_202_85 rfl ?_
            refine wl_icmp (t := 0) ji_202_87 rfl (by omega) (by omega) (fun (hb5 : ¬ (c : Int) = 20) => ?_) (fun (hb5 : ¬ (¬ (c : Int) = 20)) => ?_)
            · rw [show stE r (c :: w1) = stE r w1 from (if_pos (by omega)).trans (if_pos (by omega)), show stl r (c :: w1) = stl r w1 from if_pos (by omega), show stn r (c :: w1) = stn r w1 + pop_ c from if_pos (by omega)]
              have hpc : pop_ c = 0 := if_neg (by omega)
              rw [show (w1.length : Int) + 1 - 1 = (w1.length : Int) by omega] at V
              refine wl_mono (ih w1 _ (wr) (op) _ e2 V (by omega)) ?_
              rintro v9 h9 ⟨rfl, wr9, ts9, hE9, hw9, V9⟩
              exact ⟨rfl, wr9, ts9, hE9, by omega, by rw [show op - (stn r w1 + pop_ c) = op - stn r w1 by omega]; exact V9⟩
            · refine wl_s (pc' := 91) ji_202_90 rfl rfl rfl ?_
              refine wl_s (pc' := 92) ji_202_91 rfl rfl rfl ?_
              refine rp_g17 V ji_202_92 jf_202_157 ?_
              refine wl_s (pc' := 96) ji_202_95 rfl rfl rfl ?_
              refine wl_isub (x := op) (y := 1) (z := op - 1) ji_202_96 (by omega) ?_
              refine rp_p17 (y := op - 1) V ji_202_97 jf_202_157 (fun h V => ?_)
              refine wl_goto (t := 0) ji_202_100 rfl ?_
              rw [show stE r (c :: w1) = stE r w1 from (if_pos (by omega)).trans (if_pos (by omega)), show stl r (c :: w1) = stl r w1 from if_pos (by omega), show stn r (c :: w1) = stn r w1 + pop_ c from if_pos (by omega)]
              have hpc : pop_ c = 1 := if_pos (by omega)
              rw [show (w1.length : Int) + 1 - 1 = (w1.length : Int) by omega] at V
              refine wl_mono (ih w1 _ (wr) (op - 1) _ e2 V (by omega)) ?_
              rintro v9 h9 ⟨rfl, wr9, ts9, hE9, hw9, V9⟩
              exact ⟨rfl, wr9, ts9, hE9, by omega, by rw [show op - (stn r w1 + pop_ c) = (op - 1) - stn r w1 by omega]; exact V9⟩
        · refine wl_s (pc' := 50) ji_202_49 rfl rfl rfl ?_
          refine wl_s (pc' := 51) ji_202_50 rfl rfl rfl ?_
          refine rp_g15 V ji_202_51 jf_202_29 ?_
          refine wl_s (pc' := 55) ji_202_54 rfl rfl rfl ?_
          refine rp_g16 V ji_202_55 jf_202_147 ?_
          refine rp_l (x := (w1.length : Int) + 1 - 1) V (by omega) ji_202_58 (fun y y1 y2 y3 => ?_)
          rw [show ((w1.length : Int) + 1 - 1).toNat = w1.length by omega, e1] at y3
          cases y3
          refine wl_s (pc' := 60) ji_202_59 rfl rfl rfl ?_
          obtain ⟨cs, hcs⟩ := rp_c V
          refine wl_vc (d := d) (as := [.ref 138, wp_i c, wp_i 0]) (rest := []) ji_202_60 jc_202_153 rfl hcs jk_203.symm (Nat.le_of_ble_eq_true rfl) rfl (by rw [jn_203]; rfl) (wq_em V hx0 (by omega)) (fun v1 h2 R => ?_)
          obtain ⟨rfl, V⟩ := R
          show wl_R _ (d + 1) 202 63 [some (.ref 138), some (wp_i r)] [] h2 _
          refine wl_s (pc' := 64) ji_202_63 rfl rfl rfl ?_
          refine rp_g15 V ji_202_64 jf_202_29 ?_
          refine wl_s (pc' := 68) ji_202_67 rfl rfl rfl ?_
          refine rp_g16 V ji_202_68 jf_202_147 ?_
          refine rp_l (x := (w1.length : Int) + 1 - 1) V (by omega) ji_202_71 (fun y y1 y2 y3 => ?_)
          rw [show ((w1.length : Int) + 1 - 1).toNat = w1.length by omega, e1] at y3
          cases y3
          refine wl_s (pc' := 73) ji_202_72 rfl rfl rfl ?_
          refine wl_icmp (t := 90) ji_202_73 rfl (by omega) (by omega) (fun (hb6 : (c : Int) = 3) => ?_) (fun (hb6 : ¬ ((c : Int) = 3)) => ?_)
          · refine wl_s (pc' := 91) ji_202_90 rfl rfl rfl ?_
            refine wl_s (pc' := 92) ji_202_91 rfl rfl rfl ?_
            refine rp_g17 V ji_202_92 jf_202_157 ?_
            refine wl_s (pc' := 96) ji_202_95 rfl rfl rfl ?_
            refine wl_isub (x := op) (y := 1) (z := op - 1) ji_202_96 (by omega) ?_
            refine rp_p17 (y := op - 1) V ji_202_97 jf_202_157 (fun h V => ?_)
            refine wl_goto (t := 0) ji_202_100 rfl ?_
            rw [show stE r (c :: w1) = (c, 0) :: stE r w1 from (if_pos (by omega)).trans (if_neg (by omega)), show stl r (c :: w1) = stl r w1 from if_pos (by omega), show stn r (c :: w1) = stn r w1 + pop_ c from if_pos (by omega)]
            have hpc : pop_ c = 1 := if_pos (by omega)
            rw [show (w1.length : Int) + 1 - 1 = (w1.length : Int) by omega] at V
            refine wl_mono (ih w1 _ (wr + 1) (op - 1) _ e2 V (by omega)) ?_
            rintro v9 h9 ⟨rfl, wr9, ts9, hE9, hw9, V9⟩
            exact ⟨rfl, wr9, ts9, qE_c hE9, by omega, by rw [show op - (stn r w1 + pop_ c) = (op - 1) - stn r w1 by omega]; exact V9⟩
          · refine wl_s (pc' := 77) ji_202_76 rfl rfl rfl ?_
            refine rp_g15 V ji_202_77 jf_202_29 ?_
            refine wl_s (pc' := 81) ji_202_80 rfl rfl rfl ?_
            refine rp_g16 V ji_202_81 jf_202_147 ?_
            refine rp_l (x := (w1.length : Int) + 1 - 1) V (by omega) ji_202_84 (fun y y1 y2 y3 => ?_)
            rw [show ((w1.length : Int) + 1 - 1).toNat = w1.length by omega, e1] at y3
            cases y3
            refine wl_bp ji_202_85 rfl ?_
            refine wl_icmp (t := 0) ji_202_87 rfl (by omega) (by omega) (fun (hb7 : ¬ (c : Int) = 20) => ?_) (fun (hb7 : ¬ (¬ (c : Int) = 20)) => ?_)
            · rw [show stE r (c :: w1) = (c, 0) :: stE r w1 from (if_pos (by omega)).trans (if_neg (by omega)), show stl r (c :: w1) = stl r w1 from if_pos (by omega), show stn r (c :: w1) = stn r w1 + pop_ c from if_pos (by omega)]
              have hpc : pop_ c = 0 := if_neg (by omega)
              rw [show (w1.length : Int) + 1 - 1 = (w1.length : Int) by omega] at V
              refine wl_mono (ih w1 _ (wr + 1) (op) _ e2 V (by omega)) ?_
              rintro v9 h9 ⟨rfl, wr9, ts9, hE9, hw9, V9⟩
              exact ⟨rfl, wr9, ts9, qE_c hE9, by omega, by rw [show op - (stn r w1 + pop_ c) = op - stn r w1 by omega]; exact V9⟩
            · refine wl_s (pc' := 91) ji_202_90 rfl rfl rfl ?_
              refine wl_s (pc' := 92) ji_202_91 rfl rfl rfl ?_
              refine rp_g17 V ji_202_92 jf_202_157 ?_
              refine wl_s (pc' := 96) ji_202_95 rfl rfl rfl ?_
              refine wl_isub (x := op) (y := 1) (z := op - 1) ji_202_96 (by omega) ?_
              refine rp_p17 (y := op - 1) V ji_202_97 jf_202_157 (fun h V => ?_)
              refine wl_goto (t := 0) ji_202_100 rfl ?_
              rw [show stE r (c :: w1) = (c, 0) :: stE r w1 from (if_pos (by omega)).trans (if_neg (by omega)), show stl r (c :: w1) = stl r w1 from if_pos (by omega), show stn r (c :: w1) = stn r w1 + pop_ c from if_pos (by omega)]
              have hpc : pop_ c = 1 := if_pos (by omega)
              rw [show (w1.length : Int) + 1 - 1 = (w1.length : Int) by omega] at V
              refine wl_mono (ih w1 _ (wr + 1) (op - 1) _ e2 V (by omega)) ?_
              rintro v9 h9 ⟨rfl, wr9, ts9, hE9, hw9, V9⟩
              exact ⟨rfl, wr9, ts9, qE_c hE9, by omega, by rw [show op - (stn r w1 + pop_ c) = (op - 1) - stn r w1 by omega]; exact V9⟩

theorem wq_na {nn d : Nat} {h0 h : mj_H} {fs0 bl pl ts : List Value} {L p q t n x0 wr so pd op am wi ei oc cn : Int} {w : Nat} (V : rP h0 h fs0 bl L p q t n x0 wr so pd op am wi ei oc cn w pl ts) {u : List Int} (e : pn pl u) (hl : (u.length : Int) ≤ 200) (hpd : pd = (u.length : Int)) (hop : 0 ≤ op ∧ op ≤ 1000) (ham : 0 ≤ am ∧ am ≤ 100) (D : tB bl) (hL : 0 ≤ L ∧ L ≤ 300) (hp : 0 ≤ p ∧ p ≤ L) (hw0 : w ≤ 2 ^ 60) (hx0 : 0 ≤ x0 ∧ x0 ≤ 3000) (hwr : 0 ≤ wr ∧ wr ≤ 900000) : wl_R nn (d + 2) 206 0 [some (.ref 138)] [] h (fun v9 h1 => (am = 6 ∧ h1 = h ∧ v9 = some (wp_i 7)) ∨ (¬ am = 6 ∧ v9 = some (wp_i 0) ∧ ∃ (k v q' r' t' n' wr' : Int) (w' : Nat) (pl' ts' : List Value), (tok (bt bl L) p k v q' r' ∧ tkr k v t' n' w' ∧ (0 ≤ q' ∧ r' ≤ L) ∧ w' ≤ 2 ^ 60) ∧ qE x0 ts wr (stE 1 u) ts' wr' ∧ (wr ≤ wr' ∧ wr' ≤ wr + (u.length : Int)) ∧ pn pl' (stl 1 u) ∧ rP h0 h1 fs0 bl L r' q' t' n' x0 wr' so ((stl 1 u).length : Int) (op - stn 1 u) (am + 1) 0 ei oc cn w' pl' ts')) := by
  subst hpd
  refine wl_s (pc' := 1) ji_206_0 rfl rfl rfl ?_
  refine rp_g18 V ji_206_1 jf_206_202 ?_
  refine wl_bp ji_206_4 rfl ?_
  refine wl_icmp (t := 12) ji_206_6 rfl (by omega) (by omega) (fun (hb1 : ¬ (am : Int) = 6) => ?_) (fun (hb1 : ¬ (¬ (am : Int) = 6)) => ?_)
  · refine wl_s (pc' := 13) ji_206_12 rfl rfl rfl ?_
    refine wl_s (pc' := 14) ji_206_13 rfl rfl rfl ?_
    obtain ⟨csha, hcsha⟩ := rp_c V
    refine wl_vc (d := d + 1) (as := [.ref 138, wp_i 1]) (rest := []) ji_206_14 jc_206_183 rfl hcsha jk_202.symm (Nat.le_of_ble_eq_true rfl) rfl (by rw [jn_202]; rfl) (wq_st (d := d) (r := 1) hx0 (by omega) nn u _ wr _ _ e V (by omega)) (fun v1 ha R => ?_)
    obtain ⟨rfl, wrha, tsha, hEa, hwrha, V⟩ := R
    have hslha := stl_len (r := 1) u
    have hsnha := stn_r (r := 1) u
    show wl_R _ _ 206 17 [some (.ref 138)] [] ha _
    refine wl_s (pc' := 18) ji_206_17 rfl rfl rfl ?_
    refine wl_s (pc' := 19) ji_206_18 rfl rfl rfl ?_
    refine rp_g18 V ji_206_19 jf_206_202 ?_
    refine wl_s (pc' := 23) ji_206_22 rfl rfl rfl ?_
    refine wl_iadd (x := am) (y := 1) (z := am + 1) ji_206_23 (by omega) ?_
    refine rp_p18 (y := am + 1) V ji_206_24 jf_206_202 (fun h V => ?_)
    refine wl_s (pc' := 28) ji_206_27 rfl rfl rfl ?_
    refine wl_s (pc' := 29) ji_206_28 rfl rfl rfl ?_
    refine rp_p19 (y := 0) (by omega) V ji_206_29 jf_206_180 (fun h V => ?_)
    refine wl_s (pc' := 33) ji_206_32 rfl rfl rfl ?_
    obtain ⟨cs, hcs⟩ := rp_c V
    refine wl_vc (d := d + 1) (as := [.ref 138]) (rest := []) ji_206_33 jc_206_171 rfl hcs jk_178.symm (Nat.le_of_ble_eq_true rfl) rfl (by rw [jn_178]; rfl) (wr_nt (d := d) V D hL hp hw0) (fun v1 hb_ R => ?_)
    obtain ⟨rfl, k, v, q', r', t', n', w', tk, tr, hb, hw1, V⟩ := R
    show wl_R _ _ 206 36 [some (.ref 138)] [] hb_ _
    refine wl_s (pc' := 37) ji_206_36 rfl rfl rfl ?_
    exact wl_ri ji_206_37 jr_206 rfl (Or.inr ⟨by omega, rfl, k, v, q', r', t', n', wrha, w', pl, tsha, ⟨tk, tr, hb, hw1⟩, hEa, by omega, stl_pn e, V⟩)
  · refine wl_bp ji_206_9 rfl ?_
    exact wl_ri ji_206_11 jr_206 rfl (Or.inl ⟨by omega, rfl, rfl⟩)
theorem wq_ba {nn d : Nat} {h0 h : mj_H} {fs0 bl pl ts : List Value} {L p q t n x0 wr so pd op am wi ei oc cn : Int} {w : Nat} (V : rP h0 h fs0 bl L p q t n x0 wr so pd op am wi ei oc cn w pl ts) {u : List Int} (e : pn pl u) (hl : (u.length : Int) ≤ 200) (hpd : pd = (u.length : Int)) (hop : 0 ≤ op ∧ op ≤ 1000) (ham : 0 ≤ am ∧ am ≤ 100) (D : tB bl) (hL : 0 ≤ L ∧ L ≤ 300) (hp : 0 ≤ p ∧ p ≤ L) (hw0 : w ≤ 2 ^ 60) (hx0 : 0 ≤ x0 ∧ x0 ≤ 3000) (hwr : 0 ≤ wr ∧ wr ≤ 900000) : wl_R nn (d + 3) 204 0 [some (.ref 138)] [] h (fun v9 h1 => ∃ k v q' r', tok (bt bl L) p k v q' r' ∧ ((¬ (k = 2 ∧ v = 40) ∧ v9 = some (wp_i 1) ∧ ∃ (t' n' wr' : Int) (w' : Nat) (pl' ts' : List Value), tkr k v t' n' w' ∧ w' ≤ 2 ^ 60 ∧ (wr ≤ wr' ∧ wr' ≤ wr + (u.length : Int)) ∧ rP h0 h1 fs0 bl L r' q' t' n' x0 wr' so ((stl 5 u).length : Int) (op - stn 5 u) am 0 ei oc cn w' pl' ts') ∨ ((k = 2 ∧ v = 40) ∧ ((op - stn 5 u = 8 ∧ v9 = some (wp_i 3) ∧ ∃ (t' n' wr' : Int) (w' : Nat) (pl' ts' : List Value), tkr k v t' n' w' ∧ w' ≤ 2 ^ 60 ∧ (wr ≤ wr' ∧ wr' ≤ wr + (u.length : Int)) ∧ rP h0 h1 fs0 bl L r' q' t' n' x0 wr' so ((stl 5 u).length : Int) (op - stn 5 u) 1 0 ei oc cn w' pl' ts') ∨ (¬ op - stn 5 u = 8 ∧ v9 = some (wp_i 0) ∧ ∃ (k2 v2 q2 r2 t2 n2 wr' : Int) (w2 : Nat) (pl' ts' : List Value), (tok (bt bl L) r' k2 v2 q2 r2 ∧ tkr k2 v2 t2 n2 w2 ∧ (0 ≤ q2 ∧ r2 ≤ L) ∧ w2 ≤ 2 ^ 60) ∧ qE x0 ts wr (stE 5 u) ts' wr' ∧ (wr ≤ wr' ∧ wr' ≤ wr + (u.length : Int)) ∧ pn pl' (41 :: stl 5 u) ∧ rP h0 h1 fs0 bl L r2 q2 t2 n2 x0 wr' so (((stl 5 u).length : Int) + 1) (op - stn 5 u + 1) 1 0 ei oc cn w2 pl' ts'))))) := by
  subst hpd
  refine wl_s (pc' := 1) ji_204_0 rfl rfl rfl ?_
  refine wl_s (pc' := 2) ji_204_1 rfl rfl rfl ?_
  obtain ⟨csha, hcsha⟩ := rp_c V
  refine wl_vc (d := d + 1 + 1) (as := [.ref 138, wp_i 5]) (rest := []) ji_204_2 jc_204_183 rfl hcsha jk_202.symm (Nat.le_of_ble_eq_true rfl) rfl (by rw [jn_202]; rfl) (wq_st (d := d + 1) (r := 5) hx0 (by omega) nn u _ wr _ _ e V (by omega)) (fun v1 ha R => ?_)
  obtain ⟨rfl, wrha, tsha, hEa, hwrha, V⟩ := R
  have hslha := stl_len (r := 5) u
  have hsnha := stn_r (r := 5) u
  show wl_R _ _ 204 5 [some (.ref 138)] [] ha _
  refine wl_s (pc' := 6) ji_204_5 rfl rfl rfl ?_
  refine wl_s (pc' := 7) ji_204_6 rfl rfl rfl ?_
  refine rp_p19 (y := 0) (by omega) V ji_204_7 jf_204_180 (fun h V => ?_)
  refine wl_s (pc' := 11) ji_204_10 rfl rfl rfl ?_
  obtain ⟨cs, hcs⟩ := rp_c V
  refine wl_vc (d := d + 1 + 1) (as := [.ref 138]) (rest := []) ji_204_11 jc_204_171 rfl hcs jk_178.symm (Nat.le_of_ble_eq_true rfl) rfl (by rw [jn_178]; rfl) (wr_nt (d := d + 1) V D hL hp hw0) (fun v1 hb_ R => ?_)
  obtain ⟨rfl, k, v, q', r', t', n', w', tk, tr, hb, hw1, V⟩ := R
  show wl_R _ _ 204 14 [some (.ref 138)] [] hb_ _
  have htr := tk_r2 tk tr (fun j hj => bt_r D hL.2 hj) hp.1
  refine wl_s (pc' := 15) ji_204_14 rfl rfl rfl ?_
  refine rp_g9 V ji_204_15 jf_204_95 ?_
  refine wl_bp ji_204_18 rfl ?_
  refine wl_icmp (t := 25) ji_204_20 rfl (by omega) (by omega) (fun (hb1 : (t' : Int) = 40) => ?_) (fun (hb1 : ¬ ((t' : Int) = 40)) => ?_)
  · refine wl_s (pc' := 26) ji_204_25 rfl rfl rfl ?_
    refine wl_s (pc' := 27) ji_204_26 rfl rfl rfl ?_
    refine rp_p18 (y := 1) V ji_204_27 jf_204_202 (fun h V => ?_)
    refine wl_s (pc' := 31) ji_204_30 rfl rfl rfl ?_
    refine wl_bp ji_204_31 rfl ?_
    obtain ⟨cs9, hcs9⟩ := rp_c V
    refine wl_vc (d := d + 2) (as := [.ref 138, wp_i 41]) (rest := []) ji_204_33 jc_204_186 rfl hcs9 jk_205.symm (Nat.le_of_ble_eq_true rfl) rfl (by rw [jn_205]; rfl) (wr_op (d := d) (c := 41) V (u := stl 5 u) (stl_pn e) (by omega) rfl (by omega) D hL (by have := (tok_adv tk).1; have := (tok_adv tk).2.1; omega) hw1 (by decide)) (fun v1 h9 R => ?_)
    rcases R with ⟨o1, ee, rfl⟩ | ⟨o1, rfl, k2, v2, q2, r2, t2, n2, w2, pl2, tk2, tr2, hb2, hw2, e2, V⟩
    · subst ee
      exact wl_ri ji_204_36 jr_204 rfl ⟨k, v, q', r', tk, Or.inr ⟨by omega, Or.inl ⟨by omega, rfl, t', n', wrha, w', pl, tsha, tr, hw1, by omega, V⟩⟩⟩
    · exact wl_ri ji_204_36 jr_204 rfl ⟨k, v, q', r', tk, Or.inr ⟨by omega, Or.inr ⟨by omega, rfl, k2, v2, q2, r2, t2, n2, wrha, w2, pl2, tsha, ⟨tk2, tr2, hb2, hw2⟩, hEa, by omega, e2, V⟩⟩⟩
  · refine wl_s (pc' := 24) ji_204_23 rfl rfl rfl ?_
    exact wl_ri ji_204_24 jr_204 rfl ⟨k, v, q', r', tk, Or.inl ⟨by omega, rfl, t', n', wrha, w', pl, tsha, tr, hw1, by omega, V⟩⟩

theorem wq_sh {nn d : Nat} {o : Int} {h0 h : mj_H} {fs0 bl pl ts : List Value} {L p q t n x0 wr so pd op am wi ei oc cn : Int} {w : Nat} (V : rP h0 h fs0 bl L p q t n x0 wr so pd op am wi ei oc cn w pl ts) {u : List Int} (e : pn pl u) (hl : (u.length : Int) ≤ 200) (hpd : pd = (u.length : Int)) (hop : 0 ≤ op ∧ op ≤ 1000) (ham : 0 ≤ am ∧ am ≤ 100) (D : tB bl) (hL : 0 ≤ L ∧ L ≤ 300) (hp : 0 ≤ p ∧ p ≤ L) (hw0 : w ≤ 2 ^ 60) (hx0 : 0 ≤ x0 ∧ x0 ≤ 3000) (hwr : 0 ≤ wr ∧ wr ≤ 900000) {c : Int} {u2 : List Int} (hu : stl 1 u = c :: u2) (ho : wp_r o) : wl_R nn (d + 2) 207 0 [some (.ref 138), some (wp_i o)] [] h (fun v9 h1 => v9 = none ∧ ∃ (k v q' r' t' n' : Int) (w' : Nat), tok (bt bl L) p k v q' r' ∧ tkr k v t' n' w' ∧ (0 ≤ q' ∧ r' ≤ L) ∧ w' ≤ 2 ^ 60 ∧ ((o = 41 ∧ ∃ (wr' : Int) (pl' ts' : List Value), qE x0 ts wr (stE 1 u ++ [(2, am)]) ts' wr' ∧ (wr ≤ wr' ∧ wr' ≤ wr + (u.length : Int) + 1) ∧ pn pl' (16 :: u2) ∧ rP h0 h1 fs0 bl L r' q' t' n' x0 wr' so ((u2.length : Int) + 1) (op - stn 1 u - 1) am wi ei oc cn w' pl' ts') ∨ (¬ o = 41 ∧ ∃ (wr' : Int) (pl' ts' : List Value), qE x0 ts wr (stE 1 u ++ stE 7 u2) ts' wr' ∧ (wr ≤ wr' ∧ wr' ≤ wr + 2 * (u.length : Int)) ∧ pn pl' (stl 7 u2) ∧ rP h0 h1 fs0 bl L r' q' t' n' x0 wr' so ((stl 7 u2).length : Int) (op - stn 1 u - 1 - stn 7 u2) am wi ei oc cn w' pl' ts'))) := by
  subst hpd
  refine wl_s (pc' := 1) ji_207_0 rfl rfl rfl ?_
  refine wl_s (pc' := 2) ji_207_1 rfl rfl rfl ?_
  obtain ⟨csha, hcsha⟩ := rp_c V
  refine wl_vc (d := d + 1) (as := [.ref 138, wp_i 1]) (rest := []) ji_207_2 jc_207_183 rfl hcsha jk_202.symm (Nat.le_of_ble_eq_true rfl) rfl (by rw [jn_202]; rfl) (wq_st (d := d) (r := 1) hx0 (by omega) nn u _ wr _ _ e V (by omega)) (fun v1 ha R => ?_)
  obtain ⟨rfl, wrha, tsha, hEa, hwrha, V⟩ := R
  have hslha := stl_len (r := 1) u
  have hsnha := stn_r (r := 1) u
  show wl_R _ _ 207 5 [some (.ref 138), some (wp_i o)] [] ha _
  have hpl := stl_pn (r := 1) e
  rw [hu] at hpl hslha
  obtain ⟨⟨p1, p1b⟩, p2⟩ := hpl
  have hlc : ((c :: u2).length : Int) = (u2.length : Int) + 1 := rfl
  rw [hu, hlc] at V
  have hsl2 : u2.length + 1 ≤ u.length := hslha
  refine wl_s (pc' := 6) ji_207_5 rfl rfl rfl ?_
  refine wl_s (pc' := 7) ji_207_6 rfl rfl rfl ?_
  refine rp_g17 V ji_207_7 jf_207_157 ?_
  refine wl_s (pc' := 11) ji_207_10 rfl rfl rfl ?_
  refine wl_isub (x := op - stn 1 u) (y := 1) (z := op - stn 1 u - 1) ji_207_11 (by omega) ?_
  refine rp_p17 (y := op - stn 1 u - 1) V ji_207_12 jf_207_157 (fun h V => ?_)
  refine wl_s (pc' := 16) ji_207_15 rfl rfl rfl ?_
  refine wl_bp ji_207_16 rfl ?_
  refine wl_icmp (t := 48) ji_207_18 rfl (by omega) (by omega) (fun (hb1 : ¬ (o : Int) = 41) => ?_) (fun (hb1 : ¬ (¬ (o : Int) = 41)) => ?_)
  · refine wl_s (pc' := 49) ji_207_48 rfl rfl rfl ?_
    refine wl_s (pc' := 50) ji_207_49 rfl rfl rfl ?_
    refine rp_g16 V ji_207_50 jf_207_147 ?_
    refine wl_s (pc' := 54) ji_207_53 rfl rfl rfl ?_
    refine wl_isub (x := (u2.length : Int) + 1) (y := 1) (z := (u2.length : Int) + 1 - 1) ji_207_54 (by omega) ?_
    refine rp_p16 (y := (u2.length : Int) + 1 - 1) V ji_207_55 jf_207_147 (fun h V => ?_)
    refine wl_s (pc' := 59) ji_207_58 rfl rfl rfl ?_
    obtain ⟨cs, hcs⟩ := rp_c V
    refine wl_vc (d := d + 1) (as := [.ref 138]) (rest := []) ji_207_59 jc_207_171 rfl hcs jk_178.symm (Nat.le_of_ble_eq_true rfl) rfl (by rw [jn_178]; rfl) (wr_nt (d := d) V D hL hp hw0) (fun v1 hb_ R => ?_)
    obtain ⟨rfl, k, v, q', r', t', n', w', tk, tr, hb, hw1, V⟩ := R
    show wl_R _ _ 207 62 [some (.ref 138), some (wp_i o)] [] hb_ _
    refine wl_s (pc' := 63) ji_207_62 rfl rfl rfl ?_
    refine wl_bp ji_207_63 rfl ?_
    rw [show (u2.length : Int) + 1 - 1 = (u2.length : Int) by omega] at V
    obtain ⟨cshz, hcshz⟩ := rp_c V
    refine wl_vc (d := d + 1) (as := [.ref 138, wp_i 7]) (rest := []) ji_207_65 jc_207_183 rfl hcshz jk_202.symm (Nat.le_of_ble_eq_true rfl) rfl (by rw [jn_202]; rfl) (wq_st (d := d) (r := 7) hx0 (by omega) nn u2 _ wrha _ _ p2 V (by omega)) (fun v1 hz R => ?_)
    obtain ⟨rfl, wrhz, tshz, hEz, hwrhz, V⟩ := R
    have hslhz := stl_len (r := 7) u2
    have hsnhz := stn_r (r := 7) u2
    show wl_R _ _ 207 68 [some (.ref 138), some (wp_i o)] [] hz _
    exact wl_rv ji_207_68 jr_207 ⟨rfl, k, v, q', r', t', n', w', tk, tr, hb, hw1, Or.inr ⟨by omega, wrhz, pl, tshz, qE_t hEa hEz, by omega, stl_pn p2, V⟩⟩
  · refine wl_s (pc' := 22) ji_207_21 rfl rfl rfl ?_
    refine wl_s (pc' := 23) ji_207_22 rfl rfl rfl ?_
    refine wl_s (pc' := 24) ji_207_23 rfl rfl rfl ?_
    refine rp_g18 V ji_207_24 jf_207_202 ?_
    obtain ⟨cs5, hcs5⟩ := rp_c V
    refine wl_vc (d := d + 1) (as := [.ref 138, wp_i 2, wp_i am]) (rest := []) ji_207_27 jc_207_153 rfl hcs5 jk_203.symm (Nat.le_of_ble_eq_true rfl) rfl (by rw [jn_203]; rfl) (wq_em V hx0 (by omega)) (fun v1 hd R => ?_)
    obtain ⟨rfl, V⟩ := R
    show wl_R _ _ 207 30 [some (.ref 138), some (wp_i o)] [] hd _
    refine wl_s (pc' := 31) ji_207_30 rfl rfl rfl ?_
    refine rp_g15 V ji_207_31 jf_207_29 ?_
    refine wl_s (pc' := 35) ji_207_34 rfl rfl rfl ?_
    refine rp_g16 V ji_207_35 jf_207_147 ?_
    refine wl_s (pc' := 39) ji_207_38 rfl rfl rfl ?_
    refine wl_isub (x := (u2.length : Int) + 1) (y := 1) (z := (u2.length : Int) + 1 - 1) ji_207_39 (by omega) ?_
    refine wl_bp ji_207_40 rfl ?_
    refine rp_s (x := (u2.length : Int) + 1 - 1) (y := 16) V (by omega) ji_207_42 (fun h x1 x2 V => ?_)
    rw [show ((u2.length : Int) + 1 - 1).toNat = u2.length by omega] at V
    refine wl_s (pc' := 44) ji_207_43 rfl rfl rfl ?_
    obtain ⟨cs, hcs⟩ := rp_c V
    refine wl_vc (d := d + 1) (as := [.ref 138]) (rest := []) ji_207_44 jc_207_171 rfl hcs jk_178.symm (Nat.le_of_ble_eq_true rfl) rfl (by rw [jn_178]; rfl) (wr_nt (d := d) V D hL hp hw0) (fun v1 hb_ R => ?_)
    obtain ⟨rfl, k, v, q', r', t', n', w', tk, tr, hb, hw1, V⟩ := R
    show wl_R _ _ 207 47 [some (.ref 138), some (wp_i o)] [] hb_ _
    exact wl_rv ji_207_47 jr_207 ⟨rfl, k, v, q', r', t', n', w', tk, tr, hb, hw1, Or.inl ⟨by omega, wrha + 1, _, _, qE_1 hEa, by omega, ⟨⟨List.getElem?_set_self (by omega), by decide⟩, pn_set (Nat.le_refl _) p2⟩, V⟩⟩

theorem wq_b1 {nn d : Nat} {h0 h : mj_H} {fs0 bl pl ts : List Value} {L p q t n x0 wr so pd op am wi ei oc cn : Int} {w : Nat} (V : rP h0 h fs0 bl L p q t n x0 wr so pd op am wi ei oc cn w pl ts) {u : List Int} (e : pn pl u) (hl : (u.length : Int) ≤ 200) (hpd : pd = (u.length : Int)) (hop : 0 ≤ op ∧ op ≤ 1000) (ham : 0 ≤ am ∧ am ≤ 100) (D : tB bl) (hL : 0 ≤ L ∧ L ≤ 300) (hp : 0 ≤ p ∧ p ≤ L) (hw0 : w ≤ 2 ^ 60) (hx0 : 0 ≤ x0 ∧ x0 ≤ 3000) (hwr : 0 ≤ wr ∧ wr ≤ 900000) (hei : ei = 0 ∨ ei = 1) (hso : wp_r so) {k v : Int} (T : tkr k v t n w) (htr : wp_r t) : wl_R nn (d + 6) 208 0 [some (.ref 138), none] [] h (fun v9 h1 => ((k = 1 ∧ 9999 < v) ∧ v9 = some (wp_i 2) ∧ h1 = h) ∨ (¬ (k = 1 ∧ 9999 < v) ∧ (((0 ≤ nmo k v ∧ ¬ ofc so (nmo k v)) ∧ v9 = some (wp_i 5) ∧ h1 = h) ∨ (¬ (0 ≤ nmo k v ∧ ¬ ofc so (nmo k v)) ∧ (((k = 1 ∨ 0 ≤ nmo k v) ∧ v9 = some (wp_i 0) ∧ ∃ (k2 v2 q' r' t' n' wr' : Int) (w' : Nat) (ts' : List Value), (tok (bt bl L) p k2 v2 q' r' ∧ tkr k2 v2 t' n' w' ∧ (0 ≤ q' ∧ r' ≤ L) ∧ w' ≤ 2 ^ 60) ∧ qE x0 ts wr ((if k = 1 then 0 else 1, if k = 1 then n else nmo k v) :: stE 7 u) ts' wr' ∧ (wr ≤ wr' ∧ wr' ≤ wr + (u.length : Int) + 1) ∧ rP h0 h1 fs0 bl L r' q' t' n' x0 wr' so ((stl 7 u).length : Int) (op - stn 7 u) am 1 ei oc cn w' pl ts') ∨ (¬ (k = 1 ∨ 0 ≤ nmo k v) ∧ (((k = 2 ∧ v = 40) ∧ ((op = 8 ∧ h1 = h ∧ v9 = some (wp_i 3)) ∨ (¬ op = 8 ∧ v9 = some (wp_i 0) ∧ ∃ (k2 v2 q' r' t' n' : Int) (w' : Nat) (pl' : List Value), tok (bt bl L) p k2 v2 q' r' ∧ tkr k2 v2 t' n' w' ∧ (0 ≤ q' ∧ r' ≤ L) ∧ w' ≤ 2 ^ 60 ∧ pn pl' (40 :: u) ∧ rP h0 h1 fs0 bl L r' q' t' n' x0 wr so ((u.length : Int) + 1) (op + 1) am wi ei oc cn w' pl' ts))) ∨ ((k = 2 ∧ v = 45) ∧ ((op = 8 ∧ h1 = h ∧ v9 = some (wp_i 3)) ∨ (¬ op = 8 ∧ v9 = some (wp_i 0) ∧ ∃ (k2 v2 q' r' t' n' : Int) (w' : Nat) (pl' : List Value), tok (bt bl L) p k2 v2 q' r' ∧ tkr k2 v2 t' n' w' ∧ (0 ≤ q' ∧ r' ≤ L) ∧ w' ≤ 2 ^ 60 ∧ pn pl' (3 :: u) ∧ rP h0 h1 fs0 bl L r' q' t' n' x0 wr so ((u.length : Int) + 1) (op + 1) am wi ei oc cn w' pl' ts))) ∨ ((k = 0 ∧ v = 15) ∧ ((ei = 1 ∧ opw u = -1) ∧ aha u) ∧ ((op = 8 ∧ h1 = h ∧ v9 = some (wp_i 3)) ∨ (¬ op = 8 ∧ v9 = some (wp_i 0) ∧ ∃ (k2 v2 q' r' t' n' : Int) (w' : Nat) (pl' : List Value), tok (bt bl L) p k2 v2 q' r' ∧ tkr k2 v2 t' n' w' ∧ (0 ≤ q' ∧ r' ≤ L) ∧ w' ≤ 2 ^ 60 ∧ pn pl' (20 :: u) ∧ rP h0 h1 fs0 bl L r' q' t' n' x0 wr so ((u.length : Int) + 1) (op + 1) am wi ei oc cn w' pl' ts))) ∨ ((¬ (k = 2 ∧ v = 40) ∧ ¬ (k = 2 ∧ v = 45) ∧ ¬ ((k = 0 ∧ v = 15) ∧ (ei = 1 ∧ opw u = -1) ∧ aha u)) ∧ v9 = some (wp_i 1) ∧ h1 = h)))))))) := by
  subst hpd
  obtain ⟨a1, a2, a3, a4⟩ := tk_t T
  have hnr := tk_nr T
  refine wl_s (pc' := 1) ji_208_0 rfl rfl rfl ?_
  refine rp_g9 V ji_208_1 jf_208_95 ?_
  refine wl_s (pc' := 5) ji_208_4 rfl rfl rfl ?_
  refine wl_icmp (t := 20) ji_208_5 rfl (by omega) (by omega) (fun (hb1 : ¬ (t : Int) = 1) => ?_) (fun (hb1 : ¬ (¬ (t : Int) = 1)) => ?_)
  · refine wl_s (pc' := 21) ji_208_20 rfl rfl rfl ?_
    obtain ⟨cs, hcs⟩ := rp_c V
    refine wl_vc (d := d + 5) (as := [.ref 138]) (rest := []) ji_208_21 jc_208_174 rfl hcs jk_209.symm (Nat.le_of_ble_eq_true rfl) rfl (by rw [jn_209]; rfl) (wr_nm (d := d) V T hw0 htr) (fun v1 h1 R => ?_)
    obtain ⟨ee, rfl⟩ := R
    subst ee
    obtain ⟨x, hx⟩ : ∃ x, nmo k v = x := ⟨_, rfl⟩
    have hxr := nmo_r k v
    rw [hx] at hxr ⊢
    show wl_R _ _ 208 24 [some (.ref 138), none] [wp_i x] h1 _
    refine wl_s (pc' := 25) (lv' := [some (.ref 138), some (wp_i x)]) ji_208_24 rfl rfl rfl ?_
    refine wl_s (pc' := 26) ji_208_25 rfl rfl rfl ?_
    refine wl_if (t := 39) ji_208_26 rfl (by omega) (fun (hb2 : (x : Int) < 0) => ?_) (fun (hb2 : ¬ ((x : Int) < 0)) => ?_)
    · refine wl_s (pc' := 40) ji_208_39 rfl rfl rfl ?_
      refine rp_g9 V ji_208_40 jf_208_95 ?_
      refine wl_s (pc' := 44) ji_208_43 rfl rfl rfl ?_
      refine wl_icmp (t := 51) ji_208_44 rfl (by omega) (by omega) (fun (hb3 : (t : Int) = 1) => ?_) (fun (hb3 : ¬ ((t : Int) = 1)) => ?_)
      · refine wl_s (pc' := 52) ji_208_51 rfl rfl rfl ?_
        refine wl_s (pc' := 53) ji_208_52 rfl rfl rfl ?_
        refine rp_g9 V ji_208_53 jf_208_95 ?_
        refine wl_s (pc' := 57) ji_208_56 rfl rfl rfl ?_
        refine wl_icmp (t := 64) ji_208_57 rfl (by omega) (by omega) (fun (hb4 : ¬ (t : Int) = 1) => ?_) (fun (hb4 : ¬ (¬ (t : Int) = 1)) => ?_)
        · refine wl_s (pc' := 65) ji_208_64 rfl rfl rfl ?_
          refine wl_s (pc' := 66) ji_208_65 rfl rfl rfl ?_
          refine rp_g9 V ji_208_66 jf_208_95 ?_
          refine wl_s (pc' := 70) ji_208_69 rfl rfl rfl ?_
          refine wl_icmp (t := 80) ji_208_70 rfl (by omega) (by omega) (fun (hb5 : ¬ (t : Int) = 1) => ?_) (fun (hb5 : ¬ (¬ (t : Int) = 1)) => ?_)
          · refine wl_s (pc' := 81) ji_208_80 rfl rfl rfl ?_
            obtain ⟨cs5, hcs5⟩ := rp_c V
            refine wl_vc (d := d + 5) (as := [.ref 138, wp_i 1, wp_i x]) (rest := []) ji_208_81 jc_208_153 rfl hcs5 jk_203.symm (Nat.le_of_ble_eq_true rfl) rfl (by rw [jn_203]; rfl) (wq_em V hx0 (by omega)) (fun v1 h1 R => ?_)
            obtain ⟨rfl, V⟩ := R
            show wl_R _ _ 208 84 [some (.ref 138), some (wp_i x)] [] h1 _
            refine wl_s (pc' := 85) ji_208_84 rfl rfl rfl ?_
            obtain ⟨cs, hcs⟩ := rp_c V
            refine wl_vc (d := d + 5) (as := [.ref 138]) (rest := []) ji_208_85 jc_208_171 rfl hcs jk_178.symm (Nat.le_of_ble_eq_true rfl) rfl (by rw [jn_178]; rfl) (wr_nt (d := d + 4) V D hL hp hw0) (fun v1 h1 R => ?_)
            obtain ⟨rfl, k2, v2, q', r', t', n', w', tk2, tr2, hb, hw1, V⟩ := R
            show wl_R _ _ 208 88 [some (.ref 138), some (wp_i x)] [] h1 _
            refine wl_s (pc' := 89) ji_208_88 rfl rfl rfl ?_
            refine wl_s (pc' := 90) ji_208_89 rfl rfl rfl ?_
            refine rp_p19 (y := 1) (by omega) V ji_208_90 jf_208_180 (fun h V => ?_)
            refine wl_s (pc' := 94) ji_208_93 rfl rfl rfl ?_
            refine wl_bp ji_208_94 rfl ?_
            obtain ⟨cshz, hcshz⟩ := rp_c V
            refine wl_vc (d := d + 4 + 1) (as := [.ref 138, wp_i 7]) (rest := []) ji_208_96 jc_208_183 rfl hcshz jk_202.symm (Nat.le_of_ble_eq_true rfl) rfl (by rw [jn_202]; rfl) (wq_st (d := d + 4) (r := 7) hx0 (by omega) nn u _ (wr + 1) _ _ e V (by omega)) (fun v1 hz R => ?_)
            obtain ⟨rfl, wrhz, tshz, hEz, hwrhz, V⟩ := R
            have hslhz := stl_len (r := 7) u
            have hsnhz := stn_r (r := 7) u
            show wl_R _ _ 208 99 [some (.ref 138), some (wp_i x)] [] hz _
            refine wl_s (pc' := 100) ji_208_99 rfl rfl rfl ?_
            exact wl_ri ji_208_100 jr_208 rfl (Or.inr ⟨by omega, Or.inr ⟨fun z => (by omega), Or.inl ⟨by omega, rfl, k2, v2, q', r', t', n', wrhz, w', tshz, ⟨tk2, tr2, hb, hw1⟩, (by first | (exfalso; omega) | (rw [if_pos (show k = 1 by omega), if_pos (show k = 1 by omega)]; exact qE_c hEz) | (rw [if_neg (show ¬ k = 1 by omega), if_neg (show ¬ k = 1 by omega)]; exact qE_c hEz)), by omega, V⟩⟩⟩)
          · refine wl_s (pc' := 74) ji_208_73 rfl rfl rfl ?_
            refine rp_g10 V ji_208_74 jf_208_102 ?_
            refine wl_goto (t := 81) ji_208_77 rfl ?_
            obtain ⟨cs5, hcs5⟩ := rp_c V
            refine wl_vc (d := d + 5) (as := [.ref 138, wp_i 1, wp_i n]) (rest := []) ji_208_81 jc_208_153 rfl hcs5 jk_203.symm (Nat.le_of_ble_eq_true rfl) rfl (by rw [jn_203]; rfl) (wq_em V hx0 (by omega)) (fun v1 h1 R => ?_)
            obtain ⟨rfl, V⟩ := R
            show wl_R _ _ 208 84 [some (.ref 138), some (wp_i x)] [] h1 _
            refine wl_s (pc' := 85) ji_208_84 rfl rfl rfl ?_
            obtain ⟨cs, hcs⟩ := rp_c V
            refine wl_vc (d := d + 5) (as := [.ref 138]) (rest := []) ji_208_85 jc_208_171 rfl hcs jk_178.symm (Nat.le_of_ble_eq_true rfl) rfl (by rw [jn_178]; rfl) (wr_nt (d := d + 4) V D hL hp hw0) (fun v1 h1 R => ?_)
            obtain ⟨rfl, k2, v2, q', r', t', n', w', tk2, tr2, hb, hw1, V⟩ := R
            show wl_R _ _ 208 88 [some (.ref 138), some (wp_i x)] [] h1 _
            refine wl_s (pc' := 89) ji_208_88 rfl rfl rfl ?_
            refine wl_s (pc' := 90) ji_208_89 rfl rfl rfl ?_
            refine rp_p19 (y := 1) (by omega) V ji_208_90 jf_208_180 (fun h V => ?_)
            refine wl_s (pc' := 94) ji_208_93 rfl rfl rfl ?_
            refine wl_bp ji_208_94 rfl ?_
            obtain ⟨cshz, hcshz⟩ := rp_c V
            refine wl_vc (d := d + 4 + 1) (as := [.ref 138, wp_i 7]) (rest := []) ji_208_96 jc_208_183 rfl hcshz jk_202.symm (Nat.le_of_ble_eq_true rfl) rfl (by rw [jn_202]; rfl) (wq_st (d := d + 4) (r := 7) hx0 (by omega) nn u _ (wr + 1) _ _ e V (by omega)) (fun v1 hz R => ?_)
            obtain ⟨rfl, wrhz, tshz, hEz, hwrhz, V⟩ := R
            have hslhz := stl_len (r := 7) u
            have hsnhz := stn_r (r := 7) u
            show wl_R _ _ 208 99 [some (.ref 138), some (wp_i x)] [] hz _
            refine wl_s (pc' := 100) ji_208_99 rfl rfl rfl ?_
            exact wl_ri ji_208_100 jr_208 rfl (Or.inr ⟨by omega, Or.inr ⟨fun z => (by omega), Or.inl ⟨by omega, rfl, k2, v2, q', r', t', n', wrhz, w', tshz, ⟨tk2, tr2, hb, hw1⟩, (by first | (exfalso; omega) | (rw [if_pos (show k = 1 by omega), if_pos (show k = 1 by omega)]; exact qE_c hEz) | (rw [if_neg (show ¬ k = 1 by omega), if_neg (show ¬ k = 1 by omega)]; exact qE_c hEz)), by omega, V⟩⟩⟩)
        · refine wl_s (pc' := 61) ji_208_60 rfl rfl rfl ?_
          refine wl_goto (t := 65) ji_208_61 rfl ?_
          refine wl_s (pc' := 66) ji_208_65 rfl rfl rfl ?_
          refine rp_g9 V ji_208_66 jf_208_95 ?_
          refine wl_s (pc' := 70) ji_208_69 rfl rfl rfl ?_
          refine wl_icmp (t := 80) ji_208_70 rfl (by omega) (by omega) (fun (hb6 : ¬ (t : Int) = 1) => ?_) (fun (hb6 : ¬ (¬ (t : Int) = 1)) => ?_)
          · refine wl_s (pc' := 81) ji_208_80 rfl rfl rfl ?_
            obtain ⟨cs5, hcs5⟩ := rp_c V
            refine wl_vc (d := d + 5) (as := [.ref 138, wp_i 0, wp_i x]) (rest := []) ji_208_81 jc_208_153 rfl hcs5 jk_203.symm (Nat.le_of_ble_eq_true rfl) rfl (by rw [jn_203]; rfl) (wq_em V hx0 (by omega)) (fun v1 h1 R => ?_)
            obtain ⟨rfl, V⟩ := R
            show wl_R _ _ 208 84 [some (.ref 138), some (wp_i x)] [] h1 _
            refine wl_s (pc' := 85) ji_208_84 rfl rfl rfl ?_
            obtain ⟨cs, hcs⟩ := rp_c V
            refine wl_vc (d := d + 5) (as := [.ref 138]) (rest := []) ji_208_85 jc_208_171 rfl hcs jk_178.symm (Nat.le_of_ble_eq_true rfl) rfl (by rw [jn_178]; rfl) (wr_nt (d := d + 4) V D hL hp hw0) (fun v1 h1 R => ?_)
            obtain ⟨rfl, k2, v2, q', r', t', n', w', tk2, tr2, hb, hw1, V⟩ := R
            show wl_R _ _ 208 88 [some (.ref 138), some (wp_i x)] [] h1 _
            refine wl_s (pc' := 89) ji_208_88 rfl rfl rfl ?_
            refine wl_s (pc' := 90) ji_208_89 rfl rfl rfl ?_
            refine rp_p19 (y := 1) (by omega) V ji_208_90 jf_208_180 (fun h V => ?_)
            refine wl_s (pc' := 94) ji_208_93 rfl rfl rfl ?_
            refine wl_bp ji_208_94 rfl ?_
            obtain ⟨cshz, hcshz⟩ := rp_c V
            refine wl_vc (d := d + 4 + 1) (as := [.ref 138, wp_i 7]) (rest := []) ji_208_96 jc_208_183 rfl hcshz jk_202.symm (Nat.le_of_ble_eq_true rfl) rfl (by rw [jn_202]; rfl) (wq_st (d := d + 4) (r := 7) hx0 (by omega) nn u _ (wr + 1) _ _ e V (by omega)) (fun v1 hz R => ?_)
            obtain ⟨rfl, wrhz, tshz, hEz, hwrhz, V⟩ := R
            have hslhz := stl_len (r := 7) u
            have hsnhz := stn_r (r := 7) u
            show wl_R _ _ 208 99 [some (.ref 138), some (wp_i x)] [] hz _
            refine wl_s (pc' := 100) ji_208_99 rfl rfl rfl ?_
            exact wl_ri ji_208_100 jr_208 rfl (Or.inr ⟨by omega, Or.inr ⟨fun z => (by omega), Or.inl ⟨by omega, rfl, k2, v2, q', r', t', n', wrhz, w', tshz, ⟨tk2, tr2, hb, hw1⟩, (by first | (exfalso; omega) | (rw [if_pos (show k = 1 by omega), if_pos (show k = 1 by omega)]; exact qE_c hEz) | (rw [if_neg (show ¬ k = 1 by omega), if_neg (show ¬ k = 1 by omega)]; exact qE_c hEz)), by omega, V⟩⟩⟩)
          · refine wl_s (pc' := 74) ji_208_73 rfl rfl rfl ?_
            refine rp_g10 V ji_208_74 jf_208_102 ?_
            refine wl_goto (t := 81) ji_208_77 rfl ?_
            obtain ⟨cs5, hcs5⟩ := rp_c V
            refine wl_vc (d := d + 5) (as := [.ref 138, wp_i 0, wp_i n]) (rest := []) ji_208_81 jc_208_153 rfl hcs5 jk_203.symm (Nat.le_of_ble_eq_true rfl) rfl (by rw [jn_203]; rfl) (wq_em V hx0 (by omega)) (fun v1 h1 R => ?_)
            obtain ⟨rfl, V⟩ := R
            show wl_R _ _ 208 84 [some (.ref 138), some (wp_i x)] [] h1 _
            refine wl_s (pc' := 85) ji_208_84 rfl rfl rfl ?_
            obtain ⟨cs, hcs⟩ := rp_c V
            refine wl_vc (d := d + 5) (as := [.ref 138]) (rest := []) ji_208_85 jc_208_171 rfl hcs jk_178.symm (Nat.le_of_ble_eq_true rfl) rfl (by rw [jn_178]; rfl) (wr_nt (d := d + 4) V D hL hp hw0) (fun v1 h1 R => ?_)
            obtain ⟨rfl, k2, v2, q', r', t', n', w', tk2, tr2, hb, hw1, V⟩ := R
            show wl_R _ _ 208 88 [some (.ref 138), some (wp_i x)] [] h1 _
            refine wl_s (pc' := 89) ji_208_88 rfl rfl rfl ?_
            refine wl_s (pc' := 90) ji_208_89 rfl rfl rfl ?_
            refine rp_p19 (y := 1) (by omega) V ji_208_90 jf_208_180 (fun h V => ?_)
            refine wl_s (pc' := 94) ji_208_93 rfl rfl rfl ?_
            refine wl_bp ji_208_94 rfl ?_
            obtain ⟨cshz, hcshz⟩ := rp_c V
            refine wl_vc (d := d + 4 + 1) (as := [.ref 138, wp_i 7]) (rest := []) ji_208_96 jc_208_183 rfl hcshz jk_202.symm (Nat.le_of_ble_eq_true rfl) rfl (by rw [jn_202]; rfl) (wq_st (d := d + 4) (r := 7) hx0 (by omega) nn u _ (wr + 1) _ _ e V (by omega)) (fun v1 hz R => ?_)
            obtain ⟨rfl, wrhz, tshz, hEz, hwrhz, V⟩ := R
            have hslhz := stl_len (r := 7) u
            have hsnhz := stn_r (r := 7) u
            show wl_R _ _ 208 99 [some (.ref 138), some (wp_i x)] [] hz _
            refine wl_s (pc' := 100) ji_208_99 rfl rfl rfl ?_
            exact wl_ri ji_208_100 jr_208 rfl (Or.inr ⟨by omega, Or.inr ⟨fun z => (by omega), Or.inl ⟨by omega, rfl, k2, v2, q', r', t', n', wrhz, w', tshz, ⟨tk2, tr2, hb, hw1⟩, (by first | (exfalso; omega) | (rw [if_pos (show k = 1 by omega), if_pos (show k = 1 by omega)]; exact qE_c hEz) | (rw [if_neg (show ¬ k = 1 by omega), if_neg (show ¬ k = 1 by omega)]; exact qE_c hEz)), by omega, V⟩⟩⟩)
      · refine wl_s (pc' := 48) ji_208_47 rfl rfl rfl ?_
        refine wl_if (t := 101) ji_208_48 rfl (by omega) (fun (hb7 : (x : Int) < 0) => ?_) (fun (hb7 : ¬ ((x : Int) < 0)) => ?_)
        · refine wl_s (pc' := 102) ji_208_101 rfl rfl rfl ?_
          refine rp_g9 V ji_208_102 jf_208_95 ?_
          refine wl_bp ji_208_105 rfl ?_
          refine wl_icmp (t := 117) ji_208_107 rfl (by omega) (by omega) (fun (hb8 : ¬ (t : Int) = 40) => ?_) (fun (hb8 : ¬ (¬ (t : Int) = 40)) => ?_)
          · refine wl_s (pc' := 118) ji_208_117 rfl rfl rfl ?_
            refine rp_g9 V ji_208_118 jf_208_95 ?_
            refine wl_bp ji_208_121 rfl ?_
            refine wl_icmp (t := 132) ji_208_123 rfl (by omega) (by omega) (fun (hb9 : ¬ (t : Int) = 45) => ?_) (fun (hb9 : ¬ (¬ (t : Int) = 45)) => ?_)
            · refine wl_s (pc' := 133) ji_208_132 rfl rfl rfl ?_
              refine wl_bp ji_208_133 rfl ?_
              refine wl_bp ji_208_135 rfl ?_
              refine wl_bp ji_208_137 rfl ?_
              refine wl_sc (d := d + 5) (as := [wp_i 110, wp_i 111, wp_i 116]) (rest := [.ref 138]) ji_208_139 jc_208_122 (Nat.le_of_ble_eq_true rfl) rfl (Nat.le_of_ble_eq_true rfl) rfl (by rw [jn_188]; rfl) (wr_w3 (d := d + 4) (by decide) (by decide) (by decide)) (fun v1 h1 R => ?_)
              obtain ⟨ee, rfl⟩ := R
              subst ee
              show wl_R _ _ 208 142 [some (.ref 138), some (wp_i x)] [.long (Int64.ofNat (wd [110, 111, 116])), .ref 138] h1 _
              obtain ⟨cs8, hcs8⟩ := rp_c V
              refine wl_vc (d := d + 5) (as := [.ref 138, .long (Int64.ofNat (wd [110, 111, 116]))]) (rest := []) ji_208_142 jc_208_189 rfl hcs8 jk_190.symm (Nat.le_of_ble_eq_true rfl) rfl (by rw [jn_190]; rfl) (wr_iw (W := wd [110, 111, 116]) V hw0 (by decide +kernel) htr) (fun v1 h1 R => ?_)
              obtain ⟨ee, z, rfl, hza, hzb⟩ := R
              subst ee
              rw [kw T (j := 15) (K := [110, 111, 116]) rfl] at hzb
              show wl_R _ _ 208 145 [some (.ref 138), some (wp_i x)] [wp_i z] h1 _
              refine wl_if (t := 164) ji_208_145 rfl (by omega) (fun (hb10 : (z : Int) = 0) => ?_) (fun (hb10 : ¬ ((z : Int) = 0)) => ?_)
              · refine wl_s (pc' := 165) ji_208_164 rfl rfl rfl ?_
                exact wl_ri ji_208_165 jr_208 rfl (Or.inr ⟨by omega, Or.inr ⟨fun z => (by omega), Or.inr ⟨by omega, Or.inr (Or.inr (Or.inr ⟨⟨by omega, by omega, fun z => by have := hzb.mpr z.1; omega⟩, rfl, rfl⟩))⟩⟩⟩)
              · refine wl_s (pc' := 149) ji_208_148 rfl rfl rfl ?_
                obtain ⟨cs, hcs⟩ := rp_c V
                refine wl_vc (d := d + 5) (as := [.ref 138]) (rest := []) ji_208_149 jc_208_193 rfl hcs jk_211.symm (Nat.le_of_ble_eq_true rfl) rfl (by rw [jn_211]; rfl) (wr_aa (d := d + 3) V e (by omega) rfl hei) (fun v1 h1 R => ?_)
                obtain ⟨ee, a, rfl, haa, hab⟩ := R
                subst ee
                show wl_R _ _ 208 152 [some (.ref 138), some (wp_i x)] [wp_i a] h1 _
                refine wl_if (t := 164) ji_208_152 rfl (by omega) (fun (hb11 : (a : Int) = 0) => ?_) (fun (hb11 : ¬ ((a : Int) = 0)) => ?_)
                · refine wl_s (pc' := 165) ji_208_164 rfl rfl rfl ?_
                  exact wl_ri ji_208_165 jr_208 rfl (Or.inr ⟨by omega, Or.inr ⟨fun z => (by omega), Or.inr ⟨by omega, Or.inr (Or.inr (Or.inr ⟨⟨by omega, by omega, fun z => by have := hab.mpr z.2; omega⟩, rfl, rfl⟩))⟩⟩⟩)
                · refine wl_s (pc' := 156) ji_208_155 rfl rfl rfl ?_
                  refine wl_bp ji_208_156 rfl ?_
                  obtain ⟨cs9, hcs9⟩ := rp_c V
                  have g1 : ¬ (k = 1 ∧ 9999 < v) := by omega
                  have g2 : ¬ (0 ≤ x ∧ ¬ ofc so x) := fun z => (by omega)
                  have g3 : ¬ (k = 1 ∨ 0 ≤ x) := by omega
                  have g4 := hzb.mp (by omega)
                  have g5 := hab.mp (by omega)
                  refine wl_vc (d := d + 5) (as := [.ref 138, wp_i 20]) (rest := []) ji_208_158 jc_208_186 rfl hcs9 jk_205.symm (Nat.le_of_ble_eq_true rfl) rfl (by rw [jn_205]; rfl) (wr_op (d := d + 3) (c := 20) V (u := u) e (by omega) rfl (by omega) D hL hp hw0 (by decide)) (fun v1 h9 R => ?_)
                  obtain ⟨y9, hy9⟩ : ∃ y9 : Int, v1 = some (wp_i y9) := by rcases R with ⟨-, -, x⟩ | ⟨-, x, -⟩ <;> exact ⟨_, x⟩
                  subst hy9
                  show wl_R _ _ 208 161 [some (.ref 138), some (wp_i x)] [wp_i y9] h9 _
                  refine wl_goto (t := 165) ji_208_161 rfl ?_
                  exact wl_ri ji_208_165 jr_208 rfl (Or.inr ⟨g1, Or.inr ⟨g2, Or.inr ⟨g3, Or.inr (Or.inr (Or.inl ⟨g4, g5, R⟩))⟩⟩⟩)
            · refine wl_s (pc' := 127) ji_208_126 rfl rfl rfl ?_
              refine wl_s (pc' := 128) ji_208_127 rfl rfl rfl ?_
              obtain ⟨cs9, hcs9⟩ := rp_c V
              have g1 : ¬ (k = 1 ∧ 9999 < v) := by omega
              have g2 : ¬ (0 ≤ x ∧ ¬ ofc so x) := fun z => (by omega)
              have g3 : ¬ (k = 1 ∨ 0 ≤ x) := by omega
              have g4 : k = 2 ∧ v = 45 := by omega
              refine wl_vc (d := d + 5) (as := [.ref 138, wp_i 3]) (rest := []) ji_208_128 jc_208_186 rfl hcs9 jk_205.symm (Nat.le_of_ble_eq_true rfl) rfl (by rw [jn_205]; rfl) (wr_op (d := d + 3) (c := 3) V (u := u) e (by omega) rfl (by omega) D hL hp hw0 (by decide)) (fun v1 h9 R => ?_)
              obtain ⟨y9, hy9⟩ : ∃ y9 : Int, v1 = some (wp_i y9) := by rcases R with ⟨-, -, x⟩ | ⟨-, x, -⟩ <;> exact ⟨_, x⟩
              subst hy9
              show wl_R _ _ 208 131 [some (.ref 138), some (wp_i x)] [wp_i y9] h9 _
              exact wl_ri ji_208_131 jr_208 rfl (Or.inr ⟨g1, Or.inr ⟨g2, Or.inr ⟨g3, Or.inr (Or.inl ⟨g4, R⟩)⟩⟩⟩)
          · refine wl_s (pc' := 111) ji_208_110 rfl rfl rfl ?_
            refine wl_bp ji_208_111 rfl ?_
            obtain ⟨cs9, hcs9⟩ := rp_c V
            have g1 : ¬ (k = 1 ∧ 9999 < v) := by omega
            have g2 : ¬ (0 ≤ x ∧ ¬ ofc so x) := fun z => (by omega)
            have g3 : ¬ (k = 1 ∨ 0 ≤ x) := by omega
            have g4 : k = 2 ∧ v = 40 := by omega
            refine wl_vc (d := d + 5) (as := [.ref 138, wp_i 40]) (rest := []) ji_208_113 jc_208_186 rfl hcs9 jk_205.symm (Nat.le_of_ble_eq_true rfl) rfl (by rw [jn_205]; rfl) (wr_op (d := d + 3) (c := 40) V (u := u) e (by omega) rfl (by omega) D hL hp hw0 (by decide)) (fun v1 h9 R => ?_)
            obtain ⟨y9, hy9⟩ : ∃ y9 : Int, v1 = some (wp_i y9) := by rcases R with ⟨-, -, x⟩ | ⟨-, x, -⟩ <;> exact ⟨_, x⟩
            subst hy9
            show wl_R _ _ 208 116 [some (.ref 138), some (wp_i x)] [wp_i y9] h9 _
            exact wl_ri ji_208_116 jr_208 rfl (Or.inr ⟨g1, Or.inr ⟨g2, Or.inr ⟨g3, Or.inl ⟨g4, R⟩⟩⟩⟩)
        · refine wl_s (pc' := 52) ji_208_51 rfl rfl rfl ?_
          refine wl_s (pc' := 53) ji_208_52 rfl rfl rfl ?_
          refine rp_g9 V ji_208_53 jf_208_95 ?_
          refine wl_s (pc' := 57) ji_208_56 rfl rfl rfl ?_
          refine wl_icmp (t := 64) ji_208_57 rfl (by omega) (by omega) (fun (hb12 : ¬ (t : Int) = 1) => ?_) (fun (hb12 : ¬ (¬ (t : Int) = 1)) => ?_)
          · refine wl_s (pc' := 65) ji_208_64 rfl rfl rfl ?_
            refine wl_s (pc' := 66) ji_208_65 rfl rfl rfl ?_
            refine rp_g9 V ji_208_66 jf_208_95 ?_
            refine wl_s (pc' := 70) ji_208_69 rfl rfl rfl ?_
            refine wl_icmp (t := 80) ji_208_70 rfl (by omega) (by omega) (fun (hb13 : ¬ (t : Int) = 1) => ?_) (fun (hb13 : ¬ (¬ (t : Int) = 1)) => ?_)
            · refine wl_s (pc' := 81) ji_208_80 rfl rfl rfl ?_
              obtain ⟨cs5, hcs5⟩ := rp_c V
              refine wl_vc (d := d + 5) (as := [.ref 138, wp_i 1, wp_i x]) (rest := []) ji_208_81 jc_208_153 rfl hcs5 jk_203.symm (Nat.le_of_ble_eq_true rfl) rfl (by rw [jn_203]; rfl) (wq_em V hx0 (by omega)) (fun v1 h1 R => ?_)
              obtain ⟨rfl, V⟩ := R
              show wl_R _ _ 208 84 [some (.ref 138), some (wp_i x)] [] h1 _
              refine wl_s (pc' := 85) ji_208_84 rfl rfl rfl ?_
              obtain ⟨cs, hcs⟩ := rp_c V
              refine wl_vc (d := d + 5) (as := [.ref 138]) (rest := []) ji_208_85 jc_208_171 rfl hcs jk_178.symm (Nat.le_of_ble_eq_true rfl) rfl (by rw [jn_178]; rfl) (wr_nt (d := d + 4) V D hL hp hw0) (fun v1 h1 R => ?_)
              obtain ⟨rfl, k2, v2, q', r', t', n', w', tk2, tr2, hb, hw1, V⟩ := R
              show wl_R _ _ 208 88 [some (.ref 138), some (wp_i x)] [] h1 _
              refine wl_s (pc' := 89) ji_208_88 rfl rfl rfl ?_
              refine wl_s (pc' := 90) ji_208_89 rfl rfl rfl ?_
              refine rp_p19 (y := 1) (by omega) V ji_208_90 jf_208_180 (fun h V => ?_)
              refine wl_s (pc' := 94) ji_208_93 rfl rfl rfl ?_
              refine wl_bp ji_208_94 rfl ?_
              obtain ⟨cshz, hcshz⟩ := rp_c V
              refine wl_vc (d := d + 4 + 1) (as := [.ref 138, wp_i 7]) (rest := []) ji_208_96 jc_208_183 rfl hcshz jk_202.symm (Nat.le_of_ble_eq_true rfl) rfl (by rw [jn_202]; rfl) (wq_st (d := d + 4) (r := 7) hx0 (by omega) nn u _ (wr + 1) _ _ e V (by omega)) (fun v1 hz R => ?_)
              obtain ⟨rfl, wrhz, tshz, hEz, hwrhz, V⟩ := R
              have hslhz := stl_len (r := 7) u
              have hsnhz := stn_r (r := 7) u
              show wl_R _ _ 208 99 [some (.ref 138), some (wp_i x)] [] hz _
              refine wl_s (pc' := 100) ji_208_99 rfl rfl rfl ?_
              exact wl_ri ji_208_100 jr_208 rfl (Or.inr ⟨by omega, Or.inr ⟨fun z => (by omega), Or.inl ⟨by omega, rfl, k2, v2, q', r', t', n', wrhz, w', tshz, ⟨tk2, tr2, hb, hw1⟩, (by first | (exfalso; omega) | (rw [if_pos (show k = 1 by omega), if_pos (show k = 1 by omega)]; exact qE_c hEz) | (rw [if_neg (show ¬ k = 1 by omega), if_neg (show ¬ k = 1 by omega)]; exact qE_c hEz)), by omega, V⟩⟩⟩)
            · refine wl_s (pc' := 74) ji_208_73 rfl rfl rfl ?_
              refine rp_g10 V ji_208_74 jf_208_102 ?_
              refine wl_goto (t := 81) ji_208_77 rfl ?_
              obtain ⟨cs5, hcs5⟩ := rp_c V
              refine wl_vc (d := d + 5) (as := [.ref 138, wp_i 1, wp_i n]) (rest := []) ji_208_81 jc_208_153 rfl hcs5 jk_203.symm (Nat.le_of_ble_eq_true rfl) rfl (by rw [jn_203]; rfl) (wq_em V hx0 (by omega)) (fun v1 h1 R => ?_)
              obtain ⟨rfl, V⟩ := R
              show wl_R _ _ 208 84 [some (.ref 138), some (wp_i x)] [] h1 _
              refine wl_s (pc' := 85) ji_208_84 rfl rfl rfl ?_
              obtain ⟨cs, hcs⟩ := rp_c V
              refine wl_vc (d := d + 5) (as := [.ref 138]) (rest := []) ji_208_85 jc_208_171 rfl hcs jk_178.symm (Nat.le_of_ble_eq_true rfl) rfl (by rw [jn_178]; rfl) (wr_nt (d := d + 4) V D hL hp hw0) (fun v1 h1 R => ?_)
              obtain ⟨rfl, k2, v2, q', r', t', n', w', tk2, tr2, hb, hw1, V⟩ := R
              show wl_R _ _ 208 88 [some (.ref 138), some (wp_i x)] [] h1 _
              refine wl_s (pc' := 89) ji_208_88 rfl rfl rfl ?_
              refine wl_s (pc' := 90) ji_208_89 rfl rfl rfl ?_
              refine rp_p19 (y := 1) (by omega) V ji_208_90 jf_208_180 (fun h V => ?_)
              refine wl_s (pc' := 94) ji_208_93 rfl rfl rfl ?_
              refine wl_bp ji_208_94 rfl ?_
              obtain ⟨cshz, hcshz⟩ := rp_c V
              refine wl_vc (d := d + 4 + 1) (as := [.ref 138, wp_i 7]) (rest := []) ji_208_96 jc_208_183 rfl hcshz jk_202.symm (Nat.le_of_ble_eq_true rfl) rfl (by rw [jn_202]; rfl) (wq_st (d := d + 4) (r := 7) hx0 (by omega) nn u _ (wr + 1) _ _ e V (by omega)) (fun v1 hz R => ?_)
              obtain ⟨rfl, wrhz, tshz, hEz, hwrhz, V⟩ := R
              have hslhz := stl_len (r := 7) u
              have hsnhz := stn_r (r := 7) u
              show wl_R _ _ 208 99 [some (.ref 138), some (wp_i x)] [] hz _
              refine wl_s (pc' := 100) ji_208_99 rfl rfl rfl ?_
              exact wl_ri ji_208_100 jr_208 rfl (Or.inr ⟨by omega, Or.inr ⟨fun z => (by omega), Or.inl ⟨by omega, rfl, k2, v2, q', r', t', n', wrhz, w', tshz, ⟨tk2, tr2, hb, hw1⟩, (by first | (exfalso; omega) | (rw [if_pos (show k = 1 by omega), if_pos (show k = 1 by omega)]; exact qE_c hEz) | (rw [if_neg (show ¬ k = 1 by omega), if_neg (show ¬ k = 1 by omega)]; exact qE_c hEz)), by omega, V⟩⟩⟩)
          · refine wl_s (pc' := 61) ji_208_60 rfl rfl rfl ?_
            refine wl_goto (t := 65) ji_208_61 rfl ?_
            refine wl_s (pc' := 66) ji_208_65 rfl rfl rfl ?_
            refine rp_g9 V ji_208_66 jf_208_95 ?_
            refine wl_s (pc' := 70) ji_208_69 rfl rfl rfl ?_
            refine wl_icmp (t := 80) ji_208_70 rfl (by omega) (by omega) (fun (hb14 : ¬ (t : Int) = 1) => ?_) (fun (hb14 : ¬ (¬ (t : Int) = 1)) => ?_)
            · refine wl_s (pc' := 81) ji_208_80 rfl rfl rfl ?_
              obtain ⟨cs5, hcs5⟩ := rp_c V
              refine wl_vc (d := d + 5) (as := [.ref 138, wp_i 0, wp_i x]) (rest := []) ji_208_81 jc_208_153 rfl hcs5 jk_203.symm (Nat.le_of_ble_eq_true rfl) rfl (by rw [jn_203]; rfl) (wq_em V hx0 (by omega)) (fun v1 h1 R => ?_)
              obtain ⟨rfl, V⟩ := R
              show wl_R _ _ 208 84 [some (.ref 138), some (wp_i x)] [] h1 _
              refine wl_s (pc' := 85) ji_208_84 rfl rfl rfl ?_
              obtain ⟨cs, hcs⟩ := rp_c V
              refine wl_vc (d := d + 5) (as := [.ref 138]) (rest := []) ji_208_85 jc_208_171 rfl hcs jk_178.symm (Nat.le_of_ble_eq_true rfl) rfl (by rw [jn_178]; rfl) (wr_nt (d := d + 4) V D hL hp hw0) (fun v1 h1 R => ?_)
              obtain ⟨rfl, k2, v2, q', r', t', n', w', tk2, tr2, hb, hw1, V⟩ := R
              show wl_R _ _ 208 88 [some (.ref 138), some (wp_i x)] [] h1 _
              refine wl_s (pc' := 89) ji_208_88 rfl rfl rfl ?_
              refine wl_s (pc' := 90) ji_208_89 rfl rfl rfl ?_
              refine rp_p19 (y := 1) (by omega) V ji_208_90 jf_208_180 (fun h V => ?_)
              refine wl_s (pc' := 94) ji_208_93 rfl rfl rfl ?_
              refine wl_bp ji_208_94 rfl ?_
              obtain ⟨cshz, hcshz⟩ := rp_c V
              refine wl_vc (d := d + 4 + 1) (as := [.ref 138, wp_i 7]) (rest := []) ji_208_96 jc_208_183 rfl hcshz jk_202.symm (Nat.le_of_ble_eq_true rfl) rfl (by rw [jn_202]; rfl) (wq_st (d := d + 4) (r := 7) hx0 (by omega) nn u _ (wr + 1) _ _ e V (by omega)) (fun v1 hz R => ?_)
              obtain ⟨rfl, wrhz, tshz, hEz, hwrhz, V⟩ := R
              have hslhz := stl_len (r := 7) u
              have hsnhz := stn_r (r := 7) u
              show wl_R _ _ 208 99 [some (.ref 138), some (wp_i x)] [] hz _
              refine wl_s (pc' := 100) ji_208_99 rfl rfl rfl ?_
              exact wl_ri ji_208_100 jr_208 rfl (Or.inr ⟨by omega, Or.inr ⟨fun z => (by omega), Or.inl ⟨by omega, rfl, k2, v2, q', r', t', n', wrhz, w', tshz, ⟨tk2, tr2, hb, hw1⟩, (by first | (exfalso; omega) | (rw [if_pos (show k = 1 by omega), if_pos (show k = 1 by omega)]; exact qE_c hEz) | (rw [if_neg (show ¬ k = 1 by omega), if_neg (show ¬ k = 1 by omega)]; exact qE_c hEz)), by omega, V⟩⟩⟩)
            · refine wl_s (pc' := 74) ji_208_73 rfl rfl rfl ?_
              refine rp_g10 V ji_208_74 jf_208_102 ?_
              refine wl_goto (t := 81) ji_208_77 rfl ?_
              obtain ⟨cs5, hcs5⟩ := rp_c V
              refine wl_vc (d := d + 5) (as := [.ref 138, wp_i 0, wp_i n]) (rest := []) ji_208_81 jc_208_153 rfl hcs5 jk_203.symm (Nat.le_of_ble_eq_true rfl) rfl (by rw [jn_203]; rfl) (wq_em V hx0 (by omega)) (fun v1 h1 R => ?_)
              obtain ⟨rfl, V⟩ := R
              show wl_R _ _ 208 84 [some (.ref 138), some (wp_i x)] [] h1 _
              refine wl_s (pc' := 85) ji_208_84 rfl rfl rfl ?_
              obtain ⟨cs, hcs⟩ := rp_c V
              refine wl_vc (d := d + 5) (as := [.ref 138]) (rest := []) ji_208_85 jc_208_171 rfl hcs jk_178.symm (Nat.le_of_ble_eq_true rfl) rfl (by rw [jn_178]; rfl) (wr_nt (d := d + 4) V D hL hp hw0) (fun v1 h1 R => ?_)
              obtain ⟨rfl, k2, v2, q', r', t', n', w', tk2, tr2, hb, hw1, V⟩ := R
              show wl_R _ _ 208 88 [some (.ref 138), some (wp_i x)] [] h1 _
              refine wl_s (pc' := 89) ji_208_88 rfl rfl rfl ?_
              refine wl_s (pc' := 90) ji_208_89 rfl rfl rfl ?_
              refine rp_p19 (y := 1) (by omega) V ji_208_90 jf_208_180 (fun h V => ?_)
              refine wl_s (pc' := 94) ji_208_93 rfl rfl rfl ?_
              refine wl_bp ji_208_94 rfl ?_
              obtain ⟨cshz, hcshz⟩ := rp_c V
              refine wl_vc (d := d + 4 + 1) (as := [.ref 138, wp_i 7]) (rest := []) ji_208_96 jc_208_183 rfl hcshz jk_202.symm (Nat.le_of_ble_eq_true rfl) rfl (by rw [jn_202]; rfl) (wq_st (d := d + 4) (r := 7) hx0 (by omega) nn u _ (wr + 1) _ _ e V (by omega)) (fun v1 hz R => ?_)
              obtain ⟨rfl, wrhz, tshz, hEz, hwrhz, V⟩ := R
              have hslhz := stl_len (r := 7) u
              have hsnhz := stn_r (r := 7) u
              show wl_R _ _ 208 99 [some (.ref 138), some (wp_i x)] [] hz _
              refine wl_s (pc' := 100) ji_208_99 rfl rfl rfl ?_
              exact wl_ri ji_208_100 jr_208 rfl (Or.inr ⟨by omega, Or.inr ⟨fun z => (by omega), Or.inl ⟨by omega, rfl, k2, v2, q', r', t', n', wrhz, w', tshz, ⟨tk2, tr2, hb, hw1⟩, (by first | (exfalso; omega) | (rw [if_pos (show k = 1 by omega), if_pos (show k = 1 by omega)]; exact qE_c hEz) | (rw [if_neg (show ¬ k = 1 by omega), if_neg (show ¬ k = 1 by omega)]; exact qE_c hEz)), by omega, V⟩⟩⟩)
    · refine wl_s (pc' := 30) ji_208_29 rfl rfl rfl ?_
      refine wl_s (pc' := 31) ji_208_30 rfl rfl rfl ?_
      obtain ⟨cs7, hcs7⟩ := rp_c V
      refine wl_vc (d := d + 5) (as := [.ref 138, wp_i x]) (rest := []) ji_208_31 jc_208_177 rfl hcs7 jk_210.symm (Nat.le_of_ble_eq_true rfl) rfl (by rw [jn_210]; rfl) (wr_of (x := x) V (by omega) hso) (fun v1 h1 R => ?_)
      obtain ⟨ee, y, rfl, hya, hyb⟩ := R
      subst ee
      have hyo : y = 1 ↔ ofc so x := hyb
      clear hyb
      show wl_R _ _ 208 34 [some (.ref 138), some (wp_i x)] [wp_i y] h1 _
      refine wl_if (t := 39) ji_208_34 rfl (by omega) (fun (hb15 : ¬ (y : Int) = 0) => ?_) (fun (hb15 : ¬ (¬ (y : Int) = 0)) => ?_)
      · refine wl_s (pc' := 40) ji_208_39 rfl rfl rfl ?_
        refine rp_g9 V ji_208_40 jf_208_95 ?_
        refine wl_s (pc' := 44) ji_208_43 rfl rfl rfl ?_
        refine wl_icmp (t := 51) ji_208_44 rfl (by omega) (by omega) (fun (hb16 : (t : Int) = 1) => ?_) (fun (hb16 : ¬ ((t : Int) = 1)) => ?_)
        · refine wl_s (pc' := 52) ji_208_51 rfl rfl rfl ?_
          refine wl_s (pc' := 53) ji_208_52 rfl rfl rfl ?_
          refine rp_g9 V ji_208_53 jf_208_95 ?_
          refine wl_s (pc' := 57) ji_208_56 rfl rfl rfl ?_
          refine wl_icmp (t := 64) ji_208_57 rfl (by omega) (by omega) (fun (hb17 : ¬ (t : Int) = 1) => ?_) (fun (hb17 : ¬ (¬ (t : Int) = 1)) => ?_)
          · refine wl_s (pc' := 65) ji_208_64 rfl rfl rfl ?_
            refine wl_s (pc' := 66) ji_208_65 rfl rfl rfl ?_
            refine rp_g9 V ji_208_66 jf_208_95 ?_
            refine wl_s (pc' := 70) ji_208_69 rfl rfl rfl ?_
            refine wl_icmp (t := 80) ji_208_70 rfl (by omega) (by omega) (fun (hb18 : ¬ (t : Int) = 1) => ?_) (fun (hb18 : ¬ (¬ (t : Int) = 1)) => ?_)
            · refine wl_s (pc' := 81) ji_208_80 rfl rfl rfl ?_
              obtain ⟨cs5, hcs5⟩ := rp_c V
              refine wl_vc (d := d + 5) (as := [.ref 138, wp_i 1, wp_i x]) (rest := []) ji_208_81 jc_208_153 rfl hcs5 jk_203.symm (Nat.le_of_ble_eq_true rfl) rfl (by rw [jn_203]; rfl) (wq_em V hx0 (by omega)) (fun v1 h1 R => ?_)
              obtain ⟨rfl, V⟩ := R
              show wl_R _ _ 208 84 [some (.ref 138), some (wp_i x)] [] h1 _
              refine wl_s (pc' := 85) ji_208_84 rfl rfl rfl ?_
              obtain ⟨cs, hcs⟩ := rp_c V
              refine wl_vc (d := d + 5) (as := [.ref 138]) (rest := []) ji_208_85 jc_208_171 rfl hcs jk_178.symm (Nat.le_of_ble_eq_true rfl) rfl (by rw [jn_178]; rfl) (wr_nt (d := d + 4) V D hL hp hw0) (fun v1 h1 R => ?_)
              obtain ⟨rfl, k2, v2, q', r', t', n', w', tk2, tr2, hb, hw1, V⟩ := R
              show wl_R _ _ 208 88 [some (.ref 138), some (wp_i x)] [] h1 _
              refine wl_s (pc' := 89) ji_208_88 rfl rfl rfl ?_
              refine wl_s (pc' := 90) ji_208_89 rfl rfl rfl ?_
              refine rp_p19 (y := 1) (by omega) V ji_208_90 jf_208_180 (fun h V => ?_)
              refine wl_s (pc' := 94) ji_208_93 rfl rfl rfl ?_
              refine wl_bp ji_208_94 rfl ?_
              obtain ⟨cshz, hcshz⟩ := rp_c V
              refine wl_vc (d := d + 4 + 1) (as := [.ref 138, wp_i 7]) (rest := []) ji_208_96 jc_208_183 rfl hcshz jk_202.symm (Nat.le_of_ble_eq_true rfl) rfl (by rw [jn_202]; rfl) (wq_st (d := d + 4) (r := 7) hx0 (by omega) nn u _ (wr + 1) _ _ e V (by omega)) (fun v1 hz R => ?_)
              obtain ⟨rfl, wrhz, tshz, hEz, hwrhz, V⟩ := R
              have hslhz := stl_len (r := 7) u
              have hsnhz := stn_r (r := 7) u
              show wl_R _ _ 208 99 [some (.ref 138), some (wp_i x)] [] hz _
              refine wl_s (pc' := 100) ji_208_99 rfl rfl rfl ?_
              exact wl_ri ji_208_100 jr_208 rfl (Or.inr ⟨by omega, Or.inr ⟨fun z => z.2 (hyo.mp (by omega)), Or.inl ⟨by omega, rfl, k2, v2, q', r', t', n', wrhz, w', tshz, ⟨tk2, tr2, hb, hw1⟩, (by first | (exfalso; omega) | (rw [if_pos (show k = 1 by omega), if_pos (show k = 1 by omega)]; exact qE_c hEz) | (rw [if_neg (show ¬ k = 1 by omega), if_neg (show ¬ k = 1 by omega)]; exact qE_c hEz)), by omega, V⟩⟩⟩)
            · refine wl_s (pc' := 74) ji_208_73 rfl rfl rfl ?_
              refine rp_g10 V ji_208_74 jf_208_102 ?_
              refine wl_goto (t := 81) ji_208_77 rfl ?_
              obtain ⟨cs5, hcs5⟩ := rp_c V
              refine wl_vc (d := d + 5) (as := [.ref 138, wp_i 1, wp_i n]) (rest := []) ji_208_81 jc_208_153 rfl hcs5 jk_203.symm (Nat.le_of_ble_eq_true rfl) rfl (by rw [jn_203]; rfl) (wq_em V hx0 (by omega)) (fun v1 h1 R => ?_)
              obtain ⟨rfl, V⟩ := R
              show wl_R _ _ 208 84 [some (.ref 138), some (wp_i x)] [] h1 _
              refine wl_s (pc' := 85) ji_208_84 rfl rfl rfl ?_
              obtain ⟨cs, hcs⟩ := rp_c V
              refine wl_vc (d := d + 5) (as := [.ref 138]) (rest := []) ji_208_85 jc_208_171 rfl hcs jk_178.symm (Nat.le_of_ble_eq_true rfl) rfl (by rw [jn_178]; rfl) (wr_nt (d := d + 4) V D hL hp hw0) (fun v1 h1 R => ?_)
              obtain ⟨rfl, k2, v2, q', r', t', n', w', tk2, tr2, hb, hw1, V⟩ := R
              show wl_R _ _ 208 88 [some (.ref 138), some (wp_i x)] [] h1 _
              refine wl_s (pc' := 89) ji_208_88 rfl rfl rfl ?_
              refine wl_s (pc' := 90) ji_208_89 rfl rfl rfl ?_
              refine rp_p19 (y := 1) (by omega) V ji_208_90 jf_208_180 (fun h V => ?_)
              refine wl_s (pc' := 94) ji_208_93 rfl rfl rfl ?_
              refine wl_bp ji_208_94 rfl ?_
              obtain ⟨cshz, hcshz⟩ := rp_c V
              refine wl_vc (d := d + 4 + 1) (as := [.ref 138, wp_i 7]) (rest := []) ji_208_96 jc_208_183 rfl hcshz jk_202.symm (Nat.le_of_ble_eq_true rfl) rfl (by rw [jn_202]; rfl) (wq_st (d := d + 4) (r := 7) hx0 (by omega) nn u _ (wr + 1) _ _ e V (by omega)) (fun v1 hz R => ?_)
              obtain ⟨rfl, wrhz, tshz, hEz, hwrhz, V⟩ := R
              have hslhz := stl_len (r := 7) u
              have hsnhz := stn_r (r := 7) u
              show wl_R _ _ 208 99 [some (.ref 138), some (wp_i x)] [] hz _
              refine wl_s (pc' := 100) ji_208_99 rfl rfl rfl ?_
              exact wl_ri ji_208_100 jr_208 rfl (Or.inr ⟨by omega, Or.inr ⟨fun z => z.2 (hyo.mp (by omega)), Or.inl ⟨by omega, rfl, k2, v2, q', r', t', n', wrhz, w', tshz, ⟨tk2, tr2, hb, hw1⟩, (by first | (exfalso; omega) | (rw [if_pos (show k = 1 by omega), if_pos (show k = 1 by omega)]; exact qE_c hEz) | (rw [if_neg (show ¬ k = 1 by omega), if_neg (show ¬ k = 1 by omega)]; exact qE_c hEz)), by omega, V⟩⟩⟩)
          · refine wl_s (pc' := 61) ji_208_60 rfl rfl rfl ?_
            refine wl_goto (t := 65) ji_208_61 rfl ?_
            refine wl_s (pc' := 66) ji_208_65 rfl rfl rfl ?_
            refine rp_g9 V ji_208_66 jf_208_95 ?_
            refine wl_s (pc' := 70) ji_208_69 rfl rfl rfl ?_
            refine wl_icmp (t := 80) ji_208_70 rfl (by omega) (by omega) (fun (hb19 : ¬ (t : Int) = 1) => ?_) (fun (hb19 : ¬ (¬ (t : Int) = 1)) => ?_)
            · refine wl_s (pc' := 81) ji_208_80 rfl rfl rfl ?_
              obtain ⟨cs5, hcs5⟩ := rp_c V
              refine wl_vc (d := d + 5) (as := [.ref 138, wp_i 0, wp_i x]) (rest := []) ji_208_81 jc_208_153 rfl hcs5 jk_203.symm (Nat.le_of_ble_eq_true rfl) rfl (by rw [jn_203]; rfl) (wq_em V hx0 (by omega)) (fun v1 h1 R => ?_)
              obtain ⟨rfl, V⟩ := R
              show wl_R _ _ 208 84 [some (.ref 138), some (wp_i x)] [] h1 _
              refine wl_s (pc' := 85) ji_208_84 rfl rfl rfl ?_
              obtain ⟨cs, hcs⟩ := rp_c V
              refine wl_vc (d := d + 5) (as := [.ref 138]) (rest := []) ji_208_85 jc_208_171 rfl hcs jk_178.symm (Nat.le_of_ble_eq_true rfl) rfl (by rw [jn_178]; rfl) (wr_nt (d := d + 4) V D hL hp hw0) (fun v1 h1 R => ?_)
              obtain ⟨rfl, k2, v2, q', r', t', n', w', tk2, tr2, hb, hw1, V⟩ := R
              show wl_R _ _ 208 88 [some (.ref 138), some (wp_i x)] [] h1 _
              refine wl_s (pc' := 89) ji_208_88 rfl rfl rfl ?_
              refine wl_s (pc' := 90) ji_208_89 rfl rfl rfl ?_
              refine rp_p19 (y := 1) (by omega) V ji_208_90 jf_208_180 (fun h V => ?_)
              refine wl_s (pc' := 94) ji_208_93 rfl rfl rfl ?_
              refine wl_bp ji_208_94 rfl ?_
              obtain ⟨cshz, hcshz⟩ := rp_c V
              refine wl_vc (d := d + 4 + 1) (as := [.ref 138, wp_i 7]) (rest := []) ji_208_96 jc_208_183 rfl hcshz jk_202.symm (Nat.le_of_ble_eq_true rfl) rfl (by rw [jn_202]; rfl) (wq_st (d := d + 4) (r := 7) hx0 (by omega) nn u _ (wr + 1) _ _ e V (by omega)) (fun v1 hz R => ?_)
              obtain ⟨rfl, wrhz, tshz, hEz, hwrhz, V⟩ := R
              have hslhz := stl_len (r := 7) u
              have hsnhz := stn_r (r := 7) u
              show wl_R _ _ 208 99 [some (.ref 138), some (wp_i x)] [] hz _
              refine wl_s (pc' := 100) ji_208_99 rfl rfl rfl ?_
              exact wl_ri ji_208_100 jr_208 rfl (Or.inr ⟨by omega, Or.inr ⟨fun z => z.2 (hyo.mp (by omega)), Or.inl ⟨by omega, rfl, k2, v2, q', r', t', n', wrhz, w', tshz, ⟨tk2, tr2, hb, hw1⟩, (by first | (exfalso; omega) | (rw [if_pos (show k = 1 by omega), if_pos (show k = 1 by omega)]; exact qE_c hEz) | (rw [if_neg (show ¬ k = 1 by omega), if_neg (show ¬ k = 1 by omega)]; exact qE_c hEz)), by omega, V⟩⟩⟩)
            · refine wl_s (pc' := 74) ji_208_73 rfl rfl rfl ?_
              refine rp_g10 V ji_208_74 jf_208_102 ?_
              refine wl_goto (t := 81) ji_208_77 rfl ?_
              obtain ⟨cs5, hcs5⟩ := rp_c V
              refine wl_vc (d := d + 5) (as := [.ref 138, wp_i 0, wp_i n]) (rest := []) ji_208_81 jc_208_153 rfl hcs5 jk_203.symm (Nat.le_of_ble_eq_true rfl) rfl (by rw [jn_203]; rfl) (wq_em V hx0 (by omega)) (fun v1 h1 R => ?_)
              obtain ⟨rfl, V⟩ := R
              show wl_R _ _ 208 84 [some (.ref 138), some (wp_i x)] [] h1 _
              refine wl_s (pc' := 85) ji_208_84 rfl rfl rfl ?_
              obtain ⟨cs, hcs⟩ := rp_c V
              refine wl_vc (d := d + 5) (as := [.ref 138]) (rest := []) ji_208_85 jc_208_171 rfl hcs jk_178.symm (Nat.le_of_ble_eq_true rfl) rfl (by rw [jn_178]; rfl) (wr_nt (d := d + 4) V D hL hp hw0) (fun v1 h1 R => ?_)
              obtain ⟨rfl, k2, v2, q', r', t', n', w', tk2, tr2, hb, hw1, V⟩ := R
              show wl_R _ _ 208 88 [some (.ref 138), some (wp_i x)] [] h1 _
              refine wl_s (pc' := 89) ji_208_88 rfl rfl rfl ?_
              refine wl_s (pc' := 90) ji_208_89 rfl rfl rfl ?_
              refine rp_p19 (y := 1) (by omega) V ji_208_90 jf_208_180 (fun h V => ?_)
              refine wl_s (pc' := 94) ji_208_93 rfl rfl rfl ?_
              refine wl_bp ji_208_94 rfl ?_
              obtain ⟨cshz, hcshz⟩ := rp_c V
              refine wl_vc (d := d + 4 + 1) (as := [.ref 138, wp_i 7]) (rest := []) ji_208_96 jc_208_183 rfl hcshz jk_202.symm (Nat.le_of_ble_eq_true rfl) rfl (by rw [jn_202]; rfl) (wq_st (d := d + 4) (r := 7) hx0 (by omega) nn u _ (wr + 1) _ _ e V (by omega)) (fun v1 hz R => ?_)
              obtain ⟨rfl, wrhz, tshz, hEz, hwrhz, V⟩ := R
              have hslhz := stl_len (r := 7) u
              have hsnhz := stn_r (r := 7) u
              show wl_R _ _ 208 99 [some (.ref 138), some (wp_i x)] [] hz _
              refine wl_s (pc' := 100) ji_208_99 rfl rfl rfl ?_
              exact wl_ri ji_208_100 jr_208 rfl (Or.inr ⟨by omega, Or.inr ⟨fun z => z.2 (hyo.mp (by omega)), Or.inl ⟨by omega, rfl, k2, v2, q', r', t', n', wrhz, w', tshz, ⟨tk2, tr2, hb, hw1⟩, (by first | (exfalso; omega) | (rw [if_pos (show k = 1 by omega), if_pos (show k = 1 by omega)]; exact qE_c hEz) | (rw [if_neg (show ¬ k = 1 by omega), if_neg (show ¬ k = 1 by omega)]; exact qE_c hEz)), by omega, V⟩⟩⟩)
        · refine wl_s (pc' := 48) ji_208_47 rfl rfl rfl ?_
          refine wl_if (t := 101) ji_208_48 rfl (by omega) (fun (hb20 : (x : Int) < 0) => ?_) (fun (hb20 : ¬ ((x : Int) < 0)) => ?_)
          · refine wl_s (pc' := 102) ji_208_101 rfl rfl rfl ?_
            refine rp_g9 V ji_208_102 jf_208_95 ?_
            refine wl_bp ji_208_105 rfl ?_
            refine wl_icmp (t := 117) ji_208_107 rfl (by omega) (by omega) (fun (hb21 : ¬ (t : Int) = 40) => ?_) (fun (hb21 : ¬ (¬ (t : Int) = 40)) => ?_)
            · refine wl_s (pc' := 118) ji_208_117 rfl rfl rfl ?_
              refine rp_g9 V ji_208_118 jf_208_95 ?_
              refine wl_bp ji_208_121 rfl ?_
              refine wl_icmp (t := 132) ji_208_123 rfl (by omega) (by omega) (fun (hb22 : ¬ (t : Int) = 45) => ?_) (fun (hb22 : ¬ (¬ (t : Int) = 45)) => ?_)
              · refine wl_s (pc' := 133) ji_208_132 rfl rfl rfl ?_
                refine wl_bp ji_208_133 rfl ?_
                refine wl_bp ji_208_135 rfl ?_
                refine wl_bp ji_208_137 rfl ?_
                refine wl_sc (d := d + 5) (as := [wp_i 110, wp_i 111, wp_i 116]) (rest := [.ref 138]) ji_208_139 jc_208_122 (Nat.le_of_ble_eq_true rfl) rfl (Nat.le_of_ble_eq_true rfl) rfl (by rw [jn_188]; rfl) (wr_w3 (d := d + 4) (by decide) (by decide) (by decide)) (fun v1 h1 R => ?_)
                obtain ⟨ee, rfl⟩ := R
                subst ee
                show wl_R _ _ 208 142 [some (.ref 138), some (wp_i x)] [.long (Int64.ofNat (wd [110, 111, 116])), .ref 138] h1 _
                obtain ⟨cs8, hcs8⟩ := rp_c V
                refine wl_vc (d := d + 5) (as := [.ref 138, .long (Int64.ofNat (wd [110, 111, 116]))]) (rest := []) ji_208_142 jc_208_189 rfl hcs8 jk_190.symm (Nat.le_of_ble_eq_true rfl) rfl (by rw [jn_190]; rfl) (wr_iw (W := wd [110, 111, 116]) V hw0 (by decide +kernel) htr) (fun v1 h1 R => ?_)
                obtain ⟨ee, z, rfl, hza, hzb⟩ := R
                subst ee
                rw [kw T (j := 15) (K := [110, 111, 116]) rfl] at hzb
                show wl_R _ _ 208 145 [some (.ref 138), some (wp_i x)] [wp_i z] h1 _
                refine wl_if (t := 164) ji_208_145 rfl (by omega) (fun (hb23 : (z : Int) = 0) => ?_) (fun (hb23 : ¬ ((z : Int) = 0)) => ?_)
                · refine wl_s (pc' := 165) ji_208_164 rfl rfl rfl ?_
                  exact wl_ri ji_208_165 jr_208 rfl (Or.inr ⟨by omega, Or.inr ⟨fun z => z.2 (hyo.mp (by omega)), Or.inr ⟨by omega, Or.inr (Or.inr (Or.inr ⟨⟨by omega, by omega, fun z => by have := hzb.mpr z.1; omega⟩, rfl, rfl⟩))⟩⟩⟩)
                · refine wl_s (pc' := 149) ji_208_148 rfl rfl rfl ?_
                  obtain ⟨cs, hcs⟩ := rp_c V
                  refine wl_vc (d := d + 5) (as := [.ref 138]) (rest := []) ji_208_149 jc_208_193 rfl hcs jk_211.symm (Nat.le_of_ble_eq_true rfl) rfl (by rw [jn_211]; rfl) (wr_aa (d := d + 3) V e (by omega) rfl hei) (fun v1 h1 R => ?_)
                  obtain ⟨ee, a, rfl, haa, hab⟩ := R
                  subst ee
                  show wl_R _ _ 208 152 [some (.ref 138), some (wp_i x)] [wp_i a] h1 _
                  refine wl_if (t := 164) ji_208_152 rfl (by omega) (fun (hb24 : (a : Int) = 0) => ?_) (fun (hb24 : ¬ ((a : Int) = 0)) => ?_)
                  · refine wl_s (pc' := 165) ji_208_164 rfl rfl rfl ?_
                    exact wl_ri ji_208_165 jr_208 rfl (Or.inr ⟨by omega, Or.inr ⟨fun z => z.2 (hyo.mp (by omega)), Or.inr ⟨by omega, Or.inr (Or.inr (Or.inr ⟨⟨by omega, by omega, fun z => by have := hab.mpr z.2; omega⟩, rfl, rfl⟩))⟩⟩⟩)
                  · refine wl_s (pc' := 156) ji_208_155 rfl rfl rfl ?_
                    refine wl_bp ji_208_156 rfl ?_
                    obtain ⟨cs9, hcs9⟩ := rp_c V
                    have g1 : ¬ (k = 1 ∧ 9999 < v) := by omega
                    have g2 : ¬ (0 ≤ x ∧ ¬ ofc so x) := fun z => z.2 (hyo.mp (by omega))
                    have g3 : ¬ (k = 1 ∨ 0 ≤ x) := by omega
                    have g4 := hzb.mp (by omega)
                    have g5 := hab.mp (by omega)
                    refine wl_vc (d := d + 5) (as := [.ref 138, wp_i 20]) (rest := []) ji_208_158 jc_208_186 rfl hcs9 jk_205.symm (Nat.le_of_ble_eq_true rfl) rfl (by rw [jn_205]; rfl) (wr_op (d := d + 3) (c := 20) V (u := u) e (by omega) rfl (by omega) D hL hp hw0 (by decide)) (fun v1 h9 R => ?_)
                    obtain ⟨y9, hy9⟩ : ∃ y9 : Int, v1 = some (wp_i y9) := by rcases R with ⟨-, -, x⟩ | ⟨-, x, -⟩ <;> exact ⟨_, x⟩
                    subst hy9
                    show wl_R _ _ 208 161 [some (.ref 138), some (wp_i x)] [wp_i y9] h9 _
                    refine wl_goto (t := 165) ji_208_161 rfl ?_
                    exact wl_ri ji_208_165 jr_208 rfl (Or.inr ⟨g1, Or.inr ⟨g2, Or.inr ⟨g3, Or.inr (Or.inr (Or.inl ⟨g4, g5, R⟩))⟩⟩⟩)
              · refine wl_s (pc' := 127) ji_208_126 rfl rfl rfl ?_
                refine wl_s (pc' := 128) ji_208_127 rfl rfl rfl ?_
                obtain ⟨cs9, hcs9⟩ := rp_c V
                have g1 : ¬ (k = 1 ∧ 9999 < v) := by omega
                have g2 : ¬ (0 ≤ x ∧ ¬ ofc so x) := fun z => z.2 (hyo.mp (by omega))
                have g3 : ¬ (k = 1 ∨ 0 ≤ x) := by omega
                have g4 : k = 2 ∧ v = 45 := by omega
                refine wl_vc (d := d + 5) (as := [.ref 138, wp_i 3]) (rest := []) ji_208_128 jc_208_186 rfl hcs9 jk_205.symm (Nat.le_of_ble_eq_true rfl) rfl (by rw [jn_205]; rfl) (wr_op (d := d + 3) (c := 3) V (u := u) e (by omega) rfl (by omega) D hL hp hw0 (by decide)) (fun v1 h9 R => ?_)
                obtain ⟨y9, hy9⟩ : ∃ y9 : Int, v1 = some (wp_i y9) := by rcases R with ⟨-, -, x⟩ | ⟨-, x, -⟩ <;> exact ⟨_, x⟩
                subst hy9
                show wl_R _ _ 208 131 [some (.ref 138), some (wp_i x)] [wp_i y9] h9 _
                exact wl_ri ji_208_131 jr_208 rfl (Or.inr ⟨g1, Or.inr ⟨g2, Or.inr ⟨g3, Or.inr (Or.inl ⟨g4, R⟩)⟩⟩⟩)
            · refine wl_s (pc' := 111) ji_208_110 rfl rfl rfl ?_
              refine wl_bp ji_208_111 rfl ?_
              obtain ⟨cs9, hcs9⟩ := rp_c V
              have g1 : ¬ (k = 1 ∧ 9999 < v) := by omega
              have g2 : ¬ (0 ≤ x ∧ ¬ ofc so x) := fun z => z.2 (hyo.mp (by omega))
              have g3 : ¬ (k = 1 ∨ 0 ≤ x) := by omega
              have g4 : k = 2 ∧ v = 40 := by omega
              refine wl_vc (d := d + 5) (as := [.ref 138, wp_i 40]) (rest := []) ji_208_113 jc_208_186 rfl hcs9 jk_205.symm (Nat.le_of_ble_eq_true rfl) rfl (by rw [jn_205]; rfl) (wr_op (d := d + 3) (c := 40) V (u := u) e (by omega) rfl (by omega) D hL hp hw0 (by decide)) (fun v1 h9 R => ?_)
              obtain ⟨y9, hy9⟩ : ∃ y9 : Int, v1 = some (wp_i y9) := by rcases R with ⟨-, -, x⟩ | ⟨-, x, -⟩ <;> exact ⟨_, x⟩
              subst hy9
              show wl_R _ _ 208 116 [some (.ref 138), some (wp_i x)] [wp_i y9] h9 _
              exact wl_ri ji_208_116 jr_208 rfl (Or.inr ⟨g1, Or.inr ⟨g2, Or.inr ⟨g3, Or.inl ⟨g4, R⟩⟩⟩⟩)
          · refine wl_s (pc' := 52) ji_208_51 rfl rfl rfl ?_
            refine wl_s (pc' := 53) ji_208_52 rfl rfl rfl ?_
            refine rp_g9 V ji_208_53 jf_208_95 ?_
            refine wl_s (pc' := 57) ji_208_56 rfl rfl rfl ?_
            refine wl_icmp (t := 64) ji_208_57 rfl (by omega) (by omega) (fun (hb25 : ¬ (t : Int) = 1) => ?_) (fun (hb25 : ¬ (¬ (t : Int) = 1)) => ?_)
            · refine wl_s (pc' := 65) ji_208_64 rfl rfl rfl ?_
              refine wl_s (pc' := 66) ji_208_65 rfl rfl rfl ?_
              refine rp_g9 V ji_208_66 jf_208_95 ?_
              refine wl_s (pc' := 70) ji_208_69 rfl rfl rfl ?_
              refine wl_icmp (t := 80) ji_208_70 rfl (by omega) (by omega) (fun (hb26 : ¬ (t : Int) = 1) => ?_) (fun (hb26 : ¬ (¬ (t : Int) = 1)) => ?_)
              · refine wl_s (pc' := 81) ji_208_80 rfl rfl rfl ?_
                obtain ⟨cs5, hcs5⟩ := rp_c V
                refine wl_vc (d := d + 5) (as := [.ref 138, wp_i 1, wp_i x]) (rest := []) ji_208_81 jc_208_153 rfl hcs5 jk_203.symm (Nat.le_of_ble_eq_true rfl) rfl (by rw [jn_203]; rfl) (wq_em V hx0 (by omega)) (fun v1 h1 R => ?_)
                obtain ⟨rfl, V⟩ := R
                show wl_R _ _ 208 84 [some (.ref 138), some (wp_i x)] [] h1 _
                refine wl_s (pc' := 85) ji_208_84 rfl rfl rfl ?_
                obtain ⟨cs, hcs⟩ := rp_c V
                refine wl_vc (d := d + 5) (as := [.ref 138]) (rest := []) ji_208_85 jc_208_171 rfl hcs jk_178.symm (Nat.le_of_ble_eq_true rfl) rfl (by rw [jn_178]; rfl) (wr_nt (d := d + 4) V D hL hp hw0) (fun v1 h1 R => ?_)
                obtain ⟨rfl, k2, v2, q', r', t', n', w', tk2, tr2, hb, hw1, V⟩ := R
                show wl_R _ _ 208 88 [some (.ref 138), some (wp_i x)] [] h1 _
                refine wl_s (pc' := 89) ji_208_88 rfl rfl rfl ?_
                refine wl_s (pc' := 90) ji_208_89 rfl rfl rfl ?_
                refine rp_p19 (y := 1) (by omega) V ji_208_90 jf_208_180 (fun h V => ?_)
                refine wl_s (pc' := 94) ji_208_93 rfl rfl rfl ?_
                refine wl_bp ji_208_94 rfl ?_
                obtain ⟨cshz, hcshz⟩ := rp_c V
                refine wl_vc (d := d + 4 + 1) (as := [.ref 138, wp_i 7]) (rest := []) ji_208_96 jc_208_183 rfl hcshz jk_202.symm (Nat.le_of_ble_eq_true rfl) rfl (by rw [jn_202]; rfl) (wq_st (d := d + 4) (r := 7) hx0 (by omega) nn u _ (wr + 1) _ _ e V (by omega)) (fun v1 hz R => ?_)
                obtain ⟨rfl, wrhz, tshz, hEz, hwrhz, V⟩ := R
                have hslhz := stl_len (r := 7) u
                have hsnhz := stn_r (r := 7) u
                show wl_R _ _ 208 99 [some (.ref 138), some (wp_i x)] [] hz _
                refine wl_s (pc' := 100) ji_208_99 rfl rfl rfl ?_
                exact wl_ri ji_208_100 jr_208 rfl (Or.inr ⟨by omega, Or.inr ⟨fun z => z.2 (hyo.mp (by omega)), Or.inl ⟨by omega, rfl, k2, v2, q', r', t', n', wrhz, w', tshz, ⟨tk2, tr2, hb, hw1⟩, (by first | (exfalso; omega) | (rw [if_pos (show k = 1 by omega), if_pos (show k = 1 by omega)]; exact qE_c hEz) | (rw [if_neg (show ¬ k = 1 by omega), if_neg (show ¬ k = 1 by omega)]; exact qE_c hEz)), by omega, V⟩⟩⟩)
              · refine wl_s (pc' := 74) ji_208_73 rfl rfl rfl ?_
                refine rp_g10 V ji_208_74 jf_208_102 ?_
                refine wl_goto (t := 81) ji_208_77 rfl ?_
                obtain ⟨cs5, hcs5⟩ := rp_c V
                refine wl_vc (d := d + 5) (as := [.ref 138, wp_i 1, wp_i n]) (rest := []) ji_208_81 jc_208_153 rfl hcs5 jk_203.symm (Nat.le_of_ble_eq_true rfl) rfl (by rw [jn_203]; rfl) (wq_em V hx0 (by omega)) (fun v1 h1 R => ?_)
                obtain ⟨rfl, V⟩ := R
                show wl_R _ _ 208 84 [some (.ref 138), some (wp_i x)] [] h1 _
                refine wl_s (pc' := 85) ji_208_84 rfl rfl rfl ?_
                obtain ⟨cs, hcs⟩ := rp_c V
                refine wl_vc (d := d + 5) (as := [.ref 138]) (rest := []) ji_208_85 jc_208_171 rfl hcs jk_178.symm (Nat.le_of_ble_eq_true rfl) rfl (by rw [jn_178]; rfl) (wr_nt (d := d + 4) V D hL hp hw0) (fun v1 h1 R => ?_)
                obtain ⟨rfl, k2, v2, q', r', t', n', w', tk2, tr2, hb, hw1, V⟩ := R
                show wl_R _ _ 208 88 [some (.ref 138), some (wp_i x)] [] h1 _
                refine wl_s (pc' := 89) ji_208_88 rfl rfl rfl ?_
                refine wl_s (pc' := 90) ji_208_89 rfl rfl rfl ?_
                refine rp_p19 (y := 1) (by omega) V ji_208_90 jf_208_180 (fun h V => ?_)
                refine wl_s (pc' := 94) ji_208_93 rfl rfl rfl ?_
                refine wl_bp ji_208_94 rfl ?_
                obtain ⟨cshz, hcshz⟩ := rp_c V
                refine wl_vc (d := d + 4 + 1) (as := [.ref 138, wp_i 7]) (rest := []) ji_208_96 jc_208_183 rfl hcshz jk_202.symm (Nat.le_of_ble_eq_true rfl) rfl (by rw [jn_202]; rfl) (wq_st (d := d + 4) (r := 7) hx0 (by omega) nn u _ (wr + 1) _ _ e V (by omega)) (fun v1 hz R => ?_)
                obtain ⟨rfl, wrhz, tshz, hEz, hwrhz, V⟩ := R
                have hslhz := stl_len (r := 7) u
                have hsnhz := stn_r (r := 7) u
                show wl_R _ _ 208 99 [some (.ref 138), some (wp_i x)] [] hz _
                refine wl_s (pc' := 100) ji_208_99 rfl rfl rfl ?_
                exact wl_ri ji_208_100 jr_208 rfl (Or.inr ⟨by omega, Or.inr ⟨fun z => z.2 (hyo.mp (by omega)), Or.inl ⟨by omega, rfl, k2, v2, q', r', t', n', wrhz, w', tshz, ⟨tk2, tr2, hb, hw1⟩, (by first | (exfalso; omega) | (rw [if_pos (show k = 1 by omega), if_pos (show k = 1 by omega)]; exact qE_c hEz) | (rw [if_neg (show ¬ k = 1 by omega), if_neg (show ¬ k = 1 by omega)]; exact qE_c hEz)), by omega, V⟩⟩⟩)
            · refine wl_s (pc' := 61) ji_208_60 rfl rfl rfl ?_
              refine wl_goto (t := 65) ji_208_61 rfl ?_
              refine wl_s (pc' := 66) ji_208_65 rfl rfl rfl ?_
              refine rp_g9 V ji_208_66 jf_208_95 ?_
              refine wl_s (pc' := 70) ji_208_69 rfl rfl rfl ?_
              refine wl_icmp (t := 80) ji_208_70 rfl (by omega) (by omega) (fun (hb27 : ¬ (t : Int) = 1) => ?_) (fun (hb27 : ¬ (¬ (t : Int) = 1)) => ?_)
              · refine wl_s (pc' := 81) ji_208_80 rfl rfl rfl ?_
                obtain ⟨cs5, hcs5⟩ := rp_c V
                refine wl_vc (d := d + 5) (as := [.ref 138, wp_i 0, wp_i x]) (rest := []) ji_208_81 jc_208_153 rfl hcs5 jk_203.symm (Nat.le_of_ble_eq_true rfl) rfl (by rw [jn_203]; rfl) (wq_em V hx0 (by omega)) (fun v1 h1 R => ?_)
                obtain ⟨rfl, V⟩ := R
                show wl_R _ _ 208 84 [some (.ref 138), some (wp_i x)] [] h1 _
                refine wl_s (pc' := 85) ji_208_84 rfl rfl rfl ?_
                obtain ⟨cs, hcs⟩ := rp_c V
                refine wl_vc (d := d + 5) (as := [.ref 138]) (rest := []) ji_208_85 jc_208_171 rfl hcs jk_178.symm (Nat.le_of_ble_eq_true rfl) rfl (by rw [jn_178]; rfl) (wr_nt (d := d + 4) V D hL hp hw0) (fun v1 h1 R => ?_)
                obtain ⟨rfl, k2, v2, q', r', t', n', w', tk2, tr2, hb, hw1, V⟩ := R
                show wl_R _ _ 208 88 [some (.ref 138), some (wp_i x)] [] h1 _
                refine wl_s (pc' := 89) ji_208_88 rfl rfl rfl ?_
                refine wl_s (pc' := 90) ji_208_89 rfl rfl rfl ?_
                refine rp_p19 (y := 1) (by omega) V ji_208_90 jf_208_180 (fun h V => ?_)
                refine wl_s (pc' := 94) ji_208_93 rfl rfl rfl ?_
                refine wl_bp ji_208_94 rfl ?_
                obtain ⟨cshz, hcshz⟩ := rp_c V
                refine wl_vc (d := d + 4 + 1) (as := [.ref 138, wp_i 7]) (rest := []) ji_208_96 jc_208_183 rfl hcshz jk_202.symm (Nat.le_of_ble_eq_true rfl) rfl (by rw [jn_202]; rfl) (wq_st (d := d + 4) (r := 7) hx0 (by omega) nn u _ (wr + 1) _ _ e V (by omega)) (fun v1 hz R => ?_)
                obtain ⟨rfl, wrhz, tshz, hEz, hwrhz, V⟩ := R
                have hslhz := stl_len (r := 7) u
                have hsnhz := stn_r (r := 7) u
                show wl_R _ _ 208 99 [some (.ref 138), some (wp_i x)] [] hz _
                refine wl_s (pc' := 100) ji_208_99 rfl rfl rfl ?_
                exact wl_ri ji_208_100 jr_208 rfl (Or.inr ⟨by omega, Or.inr ⟨fun z => z.2 (hyo.mp (by omega)), Or.inl ⟨by omega, rfl, k2, v2, q', r', t', n', wrhz, w', tshz, ⟨tk2, tr2, hb, hw1⟩, (by first | (exfalso; omega) | (rw [if_pos (show k = 1 by omega), if_pos (show k = 1 by omega)]; exact qE_c hEz) | (rw [if_neg (show ¬ k = 1 by omega), if_neg (show ¬ k = 1 by omega)]; exact qE_c hEz)), by omega, V⟩⟩⟩)
              · refine wl_s (pc' := 74) ji_208_73 rfl rfl rfl ?_
                refine rp_g10 V ji_208_74 jf_208_102 ?_
                refine wl_goto (t := 81) ji_208_77 rfl ?_
                obtain ⟨cs5, hcs5⟩ := rp_c V
                refine wl_vc (d := d + 5) (as := [.ref 138, wp_i 0, wp_i n]) (rest := []) ji_208_81 jc_208_153 rfl hcs5 jk_203.symm (Nat.le_of_ble_eq_true rfl) rfl (by rw [jn_203]; rfl) (wq_em V hx0 (by omega)) (fun v1 h1 R => ?_)
                obtain ⟨rfl, V⟩ := R
                show wl_R _ _ 208 84 [some (.ref 138), some (wp_i x)] [] h1 _
                refine wl_s (pc' := 85) ji_208_84 rfl rfl rfl ?_
                obtain ⟨cs, hcs⟩ := rp_c V
                refine wl_vc (d := d + 5) (as := [.ref 138]) (rest := []) ji_208_85 jc_208_171 rfl hcs jk_178.symm (Nat.le_of_ble_eq_true rfl) rfl (by rw [jn_178]; rfl) (wr_nt (d := d + 4) V D hL hp hw0) (fun v1 h1 R => ?_)
                obtain ⟨rfl, k2, v2, q', r', t', n', w', tk2, tr2, hb, hw1, V⟩ := R
                show wl_R _ _ 208 88 [some (.ref 138), some (wp_i x)] [] h1 _
                refine wl_s (pc' := 89) ji_208_88 rfl rfl rfl ?_
                refine wl_s (pc' := 90) ji_208_89 rfl rfl rfl ?_
                refine rp_p19 (y := 1) (by omega) V ji_208_90 jf_208_180 (fun h V => ?_)
                refine wl_s (pc' := 94) ji_208_93 rfl rfl rfl ?_
                refine wl_bp ji_208_94 rfl ?_
                obtain ⟨cshz, hcshz⟩ := rp_c V
                refine wl_vc (d := d + 4 + 1) (as := [.ref 138, wp_i 7]) (rest := []) ji_208_96 jc_208_183 rfl hcshz jk_202.symm (Nat.le_of_ble_eq_true rfl) rfl (by rw [jn_202]; rfl) (wq_st (d := d + 4) (r := 7) hx0 (by omega) nn u _ (wr + 1) _ _ e V (by omega)) (fun v1 hz R => ?_)
                obtain ⟨rfl, wrhz, tshz, hEz, hwrhz, V⟩ := R
                have hslhz := stl_len (r := 7) u
                have hsnhz := stn_r (r := 7) u
                show wl_R _ _ 208 99 [some (.ref 138), some (wp_i x)] [] hz _
                refine wl_s (pc' := 100) ji_208_99 rfl rfl rfl ?_
                exact wl_ri ji_208_100 jr_208 rfl (Or.inr ⟨by omega, Or.inr ⟨fun z => z.2 (hyo.mp (by omega)), Or.inl ⟨by omega, rfl, k2, v2, q', r', t', n', wrhz, w', tshz, ⟨tk2, tr2, hb, hw1⟩, (by first | (exfalso; omega) | (rw [if_pos (show k = 1 by omega), if_pos (show k = 1 by omega)]; exact qE_c hEz) | (rw [if_neg (show ¬ k = 1 by omega), if_neg (show ¬ k = 1 by omega)]; exact qE_c hEz)), by omega, V⟩⟩⟩)
      · refine wl_s (pc' := 38) ji_208_37 rfl rfl rfl ?_
        exact wl_ri ji_208_38 jr_208 rfl (Or.inr ⟨by omega, Or.inl ⟨⟨by omega, fun z => by have := hyo.mpr z; omega⟩, rfl, rfl⟩⟩)
  · refine wl_s (pc' := 9) ji_208_8 rfl rfl rfl ?_
    refine rp_g10 V ji_208_9 jf_208_102 ?_
    refine wl_sp ji_208_12 rfl ?_
    refine wl_icmp (t := 20) ji_208_15 rfl (by omega) (by omega) (fun (hb28 : (n : Int) ≤ 9999) => ?_) (fun (hb28 : ¬ ((n : Int) ≤ 9999)) => ?_)
    · refine wl_s (pc' := 21) ji_208_20 rfl rfl rfl ?_
      obtain ⟨cs, hcs⟩ := rp_c V
      refine wl_vc (d := d + 5) (as := [.ref 138]) (rest := []) ji_208_21 jc_208_174 rfl hcs jk_209.symm (Nat.le_of_ble_eq_true rfl) rfl (by rw [jn_209]; rfl) (wr_nm (d := d) V T hw0 htr) (fun v1 h1 R => ?_)
      obtain ⟨ee, rfl⟩ := R
      subst ee
      obtain ⟨x, hx⟩ : ∃ x, nmo k v = x := ⟨_, rfl⟩
      have hxr := nmo_r k v
      rw [hx] at hxr ⊢
      show wl_R _ _ 208 24 [some (.ref 138), none] [wp_i x] h1 _
      refine wl_s (pc' := 25) (lv' := [some (.ref 138), some (wp_i x)]) ji_208_24 rfl rfl rfl ?_
      refine wl_s (pc' := 26) ji_208_25 rfl rfl rfl ?_
      refine wl_if (t := 39) ji_208_26 rfl (by omega) (fun (hb29 : (x : Int) < 0) => ?_) (fun (hb29 : ¬ ((x : Int) < 0)) => ?_)
      · refine wl_s (pc' := 40) ji_208_39 rfl rfl rfl ?_
        refine rp_g9 V ji_208_40 jf_208_95 ?_
        refine wl_s (pc' := 44) ji_208_43 rfl rfl rfl ?_
        refine wl_icmp (t := 51) ji_208_44 rfl (by omega) (by omega) (fun (hb30 : (t : Int) = 1) => ?_) (fun (hb30 : ¬ ((t : Int) = 1)) => ?_)
        · refine wl_s (pc' := 52) ji_208_51 rfl rfl rfl ?_
          refine wl_s (pc' := 53) ji_208_52 rfl rfl rfl ?_
          refine rp_g9 V ji_208_53 jf_208_95 ?_
          refine wl_s (pc' := 57) ji_208_56 rfl rfl rfl ?_
          refine wl_icmp (t := 64) ji_208_57 rfl (by omega) (by omega) (fun (hb31 : ¬ (t : Int) = 1) => ?_) (fun (hb31 : ¬ (¬ (t : Int) = 1)) => ?_)
          · refine wl_s (pc' := 65) ji_208_64 rfl rfl rfl ?_
            refine wl_s (pc' := 66) ji_208_65 rfl rfl rfl ?_
            refine rp_g9 V ji_208_66 jf_208_95 ?_
            refine wl_s (pc' := 70) ji_208_69 rfl rfl rfl ?_
            refine wl_icmp (t := 80) ji_208_70 rfl (by omega) (by omega) (fun (hb32 : ¬ (t : Int) = 1) => ?_) (fun (hb32 : ¬ (¬ (t : Int) = 1)) => ?_)
            · refine wl_s (pc' := 81) ji_208_80 rfl rfl rfl ?_
              obtain ⟨cs5, hcs5⟩ := rp_c V
              refine wl_vc (d := d + 5) (as := [.ref 138, wp_i 1, wp_i x]) (rest := []) ji_208_81 jc_208_153 rfl hcs5 jk_203.symm (Nat.le_of_ble_eq_true rfl) rfl (by rw [jn_203]; rfl) (wq_em V hx0 (by omega)) (fun v1 h1 R => ?_)
              obtain ⟨rfl, V⟩ := R
              show wl_R _ _ 208 84 [some (.ref 138), some (wp_i x)] [] h1 _
              refine wl_s (pc' := 85) ji_208_84 rfl rfl rfl ?_
              obtain ⟨cs, hcs⟩ := rp_c V
              refine wl_vc (d := d + 5) (as := [.ref 138]) (rest := []) ji_208_85 jc_208_171 rfl hcs jk_178.symm (Nat.le_of_ble_eq_true rfl) rfl (by rw [jn_178]; rfl) (wr_nt (d := d + 4) V D hL hp hw0) (fun v1 h1 R => ?_)
              obtain ⟨rfl, k2, v2, q', r', t', n', w', tk2, tr2, hb, hw1, V⟩ := R
              show wl_R _ _ 208 88 [some (.ref 138), some (wp_i x)] [] h1 _
              refine wl_s (pc' := 89) ji_208_88 rfl rfl rfl ?_
              refine wl_s (pc' := 90) ji_208_89 rfl rfl rfl ?_
              refine rp_p19 (y := 1) (by omega) V ji_208_90 jf_208_180 (fun h V => ?_)
              refine wl_s (pc' := 94) ji_208_93 rfl rfl rfl ?_
              refine wl_bp ji_208_94 rfl ?_
              obtain ⟨cshz, hcshz⟩ := rp_c V
              refine wl_vc (d := d + 4 + 1) (as := [.ref 138, wp_i 7]) (rest := []) ji_208_96 jc_208_183 rfl hcshz jk_202.symm (Nat.le_of_ble_eq_true rfl) rfl (by rw [jn_202]; rfl) (wq_st (d := d + 4) (r := 7) hx0 (by omega) nn u _ (wr + 1) _ _ e V (by omega)) (fun v1 hz R => ?_)
              obtain ⟨rfl, wrhz, tshz, hEz, hwrhz, V⟩ := R
              have hslhz := stl_len (r := 7) u
              have hsnhz := stn_r (r := 7) u
              show wl_R _ _ 208 99 [some (.ref 138), some (wp_i x)] [] hz _
              refine wl_s (pc' := 100) ji_208_99 rfl rfl rfl ?_
              exact wl_ri ji_208_100 jr_208 rfl (Or.inr ⟨by omega, Or.inr ⟨fun z => (by omega), Or.inl ⟨by omega, rfl, k2, v2, q', r', t', n', wrhz, w', tshz, ⟨tk2, tr2, hb, hw1⟩, (by first | (exfalso; omega) | (rw [if_pos (show k = 1 by omega), if_pos (show k = 1 by omega)]; exact qE_c hEz) | (rw [if_neg (show ¬ k = 1 by omega), if_neg (show ¬ k = 1 by omega)]; exact qE_c hEz)), by omega, V⟩⟩⟩)
            · refine wl_s (pc' := 74) ji_208_73 rfl rfl rfl ?_
              refine rp_g10 V ji_208_74 jf_208_102 ?_
              refine wl_goto (t := 81) ji_208_77 rfl ?_
              obtain ⟨cs5, hcs5⟩ := rp_c V
              refine wl_vc (d := d + 5) (as := [.ref 138, wp_i 1, wp_i n]) (rest := []) ji_208_81 jc_208_153 rfl hcs5 jk_203.symm (Nat.le_of_ble_eq_true rfl) rfl (by rw [jn_203]; rfl) (wq_em V hx0 (by omega)) (fun v1 h1 R => ?_)
              obtain ⟨rfl, V⟩ := R
              show wl_R _ _ 208 84 [some (.ref 138), some (wp_i x)] [] h1 _
              refine wl_s (pc' := 85) ji_208_84 rfl rfl rfl ?_
              obtain ⟨cs, hcs⟩ := rp_c V
              refine wl_vc (d := d + 5) (as := [.ref 138]) (rest := []) ji_208_85 jc_208_171 rfl hcs jk_178.symm (Nat.le_of_ble_eq_true rfl) rfl (by rw [jn_178]; rfl) (wr_nt (d := d + 4) V D hL hp hw0) (fun v1 h1 R => ?_)
              obtain ⟨rfl, k2, v2, q', r', t', n', w', tk2, tr2, hb, hw1, V⟩ := R
              show wl_R _ _ 208 88 [some (.ref 138), some (wp_i x)] [] h1 _
              refine wl_s (pc' := 89) ji_208_88 rfl rfl rfl ?_
              refine wl_s (pc' := 90) ji_208_89 rfl rfl rfl ?_
              refine rp_p19 (y := 1) (by omega) V ji_208_90 jf_208_180 (fun h V => ?_)
              refine wl_s (pc' := 94) ji_208_93 rfl rfl rfl ?_
              refine wl_bp ji_208_94 rfl ?_
              obtain ⟨cshz, hcshz⟩ := rp_c V
              refine wl_vc (d := d + 4 + 1) (as := [.ref 138, wp_i 7]) (rest := []) ji_208_96 jc_208_183 rfl hcshz jk_202.symm (Nat.le_of_ble_eq_true rfl) rfl (by rw [jn_202]; rfl) (wq_st (d := d + 4) (r := 7) hx0 (by omega) nn u _ (wr + 1) _ _ e V (by omega)) (fun v1 hz R => ?_)
              obtain ⟨rfl, wrhz, tshz, hEz, hwrhz, V⟩ := R
              have hslhz := stl_len (r := 7) u
              have hsnhz := stn_r (r := 7) u
              show wl_R _ _ 208 99 [some (.ref 138), some (wp_i x)] [] hz _
              refine wl_s (pc' := 100) ji_208_99 rfl rfl rfl ?_
              exact wl_ri ji_208_100 jr_208 rfl (Or.inr ⟨by omega, Or.inr ⟨fun z => (by omega), Or.inl ⟨by omega, rfl, k2, v2, q', r', t', n', wrhz, w', tshz, ⟨tk2, tr2, hb, hw1⟩, (by first | (exfalso; omega) | (rw [if_pos (show k = 1 by omega), if_pos (show k = 1 by omega)]; exact qE_c hEz) | (rw [if_neg (show ¬ k = 1 by omega), if_neg (show ¬ k = 1 by omega)]; exact qE_c hEz)), by omega, V⟩⟩⟩)
          · refine wl_s (pc' := 61) ji_208_60 rfl rfl rfl ?_
            refine wl_goto (t := 65) ji_208_61 rfl ?_
            refine wl_s (pc' := 66) ji_208_65 rfl rfl rfl ?_
            refine rp_g9 V ji_208_66 jf_208_95 ?_
            refine wl_s (pc' := 70) ji_208_69 rfl rfl rfl ?_
            refine wl_icmp (t := 80) ji_208_70 rfl (by omega) (by omega) (fun (hb33 : ¬ (t : Int) = 1) => ?_) (fun (hb33 : ¬ (¬ (t : Int) = 1)) => ?_)
            · refine wl_s (pc' := 81) ji_208_80 rfl rfl rfl ?_
              obtain ⟨cs5, hcs5⟩ := rp_c V
              refine wl_vc (d := d + 5) (as := [.ref 138, wp_i 0, wp_i x]) (rest := []) ji_208_81 jc_208_153 rfl hcs5 jk_203.symm (Nat.le_of_ble_eq_true rfl) rfl (by rw [jn_203]; rfl) (wq_em V hx0 (by omega)) (fun v1 h1 R => ?_)
              obtain ⟨rfl, V⟩ := R
              show wl_R _ _ 208 84 [some (.ref 138), some (wp_i x)] [] h1 _
              refine wl_s (pc' := 85) ji_208_84 rfl rfl rfl ?_
              obtain ⟨cs, hcs⟩ := rp_c V
              refine wl_vc (d := d + 5) (as := [.ref 138]) (rest := []) ji_208_85 jc_208_171 rfl hcs jk_178.symm (Nat.le_of_ble_eq_true rfl) rfl (by rw [jn_178]; rfl) (wr_nt (d := d + 4) V D hL hp hw0) (fun v1 h1 R => ?_)
              obtain ⟨rfl, k2, v2, q', r', t', n', w', tk2, tr2, hb, hw1, V⟩ := R
              show wl_R _ _ 208 88 [some (.ref 138), some (wp_i x)] [] h1 _
              refine wl_s (pc' := 89) ji_208_88 rfl rfl rfl ?_
              refine wl_s (pc' := 90) ji_208_89 rfl rfl rfl ?_
              refine rp_p19 (y := 1) (by omega) V ji_208_90 jf_208_180 (fun h V => ?_)
              refine wl_s (pc' := 94) ji_208_93 rfl rfl rfl ?_
              refine wl_bp ji_208_94 rfl ?_
              obtain ⟨cshz, hcshz⟩ := rp_c V
              refine wl_vc (d := d + 4 + 1) (as := [.ref 138, wp_i 7]) (rest := []) ji_208_96 jc_208_183 rfl hcshz jk_202.symm (Nat.le_of_ble_eq_true rfl) rfl (by rw [jn_202]; rfl) (wq_st (d := d + 4) (r := 7) hx0 (by omega) nn u _ (wr + 1) _ _ e V (by omega)) (fun v1 hz R => ?_)
              obtain ⟨rfl, wrhz, tshz, hEz, hwrhz, V⟩ := R
              have hslhz := stl_len (r := 7) u
              have hsnhz := stn_r (r := 7) u
              show wl_R _ _ 208 99 [some (.ref 138), some (wp_i x)] [] hz _
              refine wl_s (pc' := 100) ji_208_99 rfl rfl rfl ?_
              exact wl_ri ji_208_100 jr_208 rfl (Or.inr ⟨by omega, Or.inr ⟨fun z => (by omega), Or.inl ⟨by omega, rfl, k2, v2, q', r', t', n', wrhz, w', tshz, ⟨tk2, tr2, hb, hw1⟩, (by first | (exfalso; omega) | (rw [if_pos (show k = 1 by omega), if_pos (show k = 1 by omega)]; exact qE_c hEz) | (rw [if_neg (show ¬ k = 1 by omega), if_neg (show ¬ k = 1 by omega)]; exact qE_c hEz)), by omega, V⟩⟩⟩)
            · refine wl_s (pc' := 74) ji_208_73 rfl rfl rfl ?_
              refine rp_g10 V ji_208_74 jf_208_102 ?_
              refine wl_goto (t := 81) ji_208_77 rfl ?_
              obtain ⟨cs5, hcs5⟩ := rp_c V
              refine wl_vc (d := d + 5) (as := [.ref 138, wp_i 0, wp_i n]) (rest := []) ji_208_81 jc_208_153 rfl hcs5 jk_203.symm (Nat.le_of_ble_eq_true rfl) rfl (by rw [jn_203]; rfl) (wq_em V hx0 (by omega)) (fun v1 h1 R => ?_)
              obtain ⟨rfl, V⟩ := R
              show wl_R _ _ 208 84 [some (.ref 138), some (wp_i x)] [] h1 _
              refine wl_s (pc' := 85) ji_208_84 rfl rfl rfl ?_
              obtain ⟨cs, hcs⟩ := rp_c V
              refine wl_vc (d := d + 5) (as := [.ref 138]) (rest := []) ji_208_85 jc_208_171 rfl hcs jk_178.symm (Nat.le_of_ble_eq_true rfl) rfl (by rw [jn_178]; rfl) (wr_nt (d := d + 4) V D hL hp hw0) (fun v1 h1 R => ?_)
              obtain ⟨rfl, k2, v2, q', r', t', n', w', tk2, tr2, hb, hw1, V⟩ := R
              show wl_R _ _ 208 88 [some (.ref 138), some (wp_i x)] [] h1 _
              refine wl_s (pc' := 89) ji_208_88 rfl rfl rfl ?_
              refine wl_s (pc' := 90) ji_208_89 rfl rfl rfl ?_
              refine rp_p19 (y := 1) (by omega) V ji_208_90 jf_208_180 (fun h V => ?_)
              refine wl_s (pc' := 94) ji_208_93 rfl rfl rfl ?_
              refine wl_bp ji_208_94 rfl ?_
              obtain ⟨cshz, hcshz⟩ := rp_c V
              refine wl_vc (d := d + 4 + 1) (as := [.ref 138, wp_i 7]) (rest := []) ji_208_96 jc_208_183 rfl hcshz jk_202.symm (Nat.le_of_ble_eq_true rfl) rfl (by rw [jn_202]; rfl) (wq_st (d := d + 4) (r := 7) hx0 (by omega) nn u _ (wr + 1) _ _ e V (by omega)) (fun v1 hz R => ?_)
              obtain ⟨rfl, wrhz, tshz, hEz, hwrhz, V⟩ := R
              have hslhz := stl_len (r := 7) u
              have hsnhz := stn_r (r := 7) u
              show wl_R _ _ 208 99 [some (.ref 138), some (wp_i x)] [] hz _
              refine wl_s (pc' := 100) ji_208_99 rfl rfl rfl ?_
              exact wl_ri ji_208_100 jr_208 rfl (Or.inr ⟨by omega, Or.inr ⟨fun z => (by omega), Or.inl ⟨by omega, rfl, k2, v2, q', r', t', n', wrhz, w', tshz, ⟨tk2, tr2, hb, hw1⟩, (by first | (exfalso; omega) | (rw [if_pos (show k = 1 by omega), if_pos (show k = 1 by omega)]; exact qE_c hEz) | (rw [if_neg (show ¬ k = 1 by omega), if_neg (show ¬ k = 1 by omega)]; exact qE_c hEz)), by omega, V⟩⟩⟩)
        · refine wl_s (pc' := 48) ji_208_47 rfl rfl rfl ?_
          refine wl_if (t := 101) ji_208_48 rfl (by omega) (fun (hb34 : (x : Int) < 0) => ?_) (fun (hb34 : ¬ ((x : Int) < 0)) => ?_)
          · refine wl_s (pc' := 102) ji_208_101 rfl rfl rfl ?_
            refine rp_g9 V ji_208_102 jf_208_95 ?_
            refine wl_bp ji_208_105 rfl ?_
            refine wl_icmp (t := 117) ji_208_107 rfl (by omega) (by omega) (fun (hb35 : ¬ (t : Int) = 40) => ?_) (fun (hb35 : ¬ (¬ (t : Int) = 40)) => ?_)
            · refine wl_s (pc' := 118) ji_208_117 rfl rfl rfl ?_
              refine rp_g9 V ji_208_118 jf_208_95 ?_
              refine wl_bp ji_208_121 rfl ?_
              refine wl_icmp (t := 132) ji_208_123 rfl (by omega) (by omega) (fun (hb36 : ¬ (t : Int) = 45) => ?_) (fun (hb36 : ¬ (¬ (t : Int) = 45)) => ?_)
              · refine wl_s (pc' := 133) ji_208_132 rfl rfl rfl ?_
                refine wl_bp ji_208_133 rfl ?_
                refine wl_bp ji_208_135 rfl ?_
                refine wl_bp ji_208_137 rfl ?_
                refine wl_sc (d := d + 5) (as := [wp_i 110, wp_i 111, wp_i 116]) (rest := [.ref 138]) ji_208_139 jc_208_122 (Nat.le_of_ble_eq_true rfl) rfl (Nat.le_of_ble_eq_true rfl) rfl (by rw [jn_188]; rfl) (wr_w3 (d := d + 4) (by decide) (by decide) (by decide)) (fun v1 h1 R => ?_)
                obtain ⟨ee, rfl⟩ := R
                subst ee
                show wl_R _ _ 208 142 [some (.ref 138), some (wp_i x)] [.long (Int64.ofNat (wd [110, 111, 116])), .ref 138] h1 _
                obtain ⟨cs8, hcs8⟩ := rp_c V
                refine wl_vc (d := d + 5) (as := [.ref 138, .long (Int64.ofNat (wd [110, 111, 116]))]) (rest := []) ji_208_142 jc_208_189 rfl hcs8 jk_190.symm (Nat.le_of_ble_eq_true rfl) rfl (by rw [jn_190]; rfl) (wr_iw (W := wd [110, 111, 116]) V hw0 (by decide +kernel) htr) (fun v1 h1 R => ?_)
                obtain ⟨ee, z, rfl, hza, hzb⟩ := R
                subst ee
                rw [kw T (j := 15) (K := [110, 111, 116]) rfl] at hzb
                show wl_R _ _ 208 145 [some (.ref 138), some (wp_i x)] [wp_i z] h1 _
                refine wl_if (t := 164) ji_208_145 rfl (by omega) (fun (hb37 : (z : Int) = 0) => ?_) (fun (hb37 : ¬ ((z : Int) = 0)) => ?_)
                · refine wl_s (pc' := 165) ji_208_164 rfl rfl rfl ?_
                  exact wl_ri ji_208_165 jr_208 rfl (Or.inr ⟨by omega, Or.inr ⟨fun z => (by omega), Or.inr ⟨by omega, Or.inr (Or.inr (Or.inr ⟨⟨by omega, by omega, fun z => by have := hzb.mpr z.1; omega⟩, rfl, rfl⟩))⟩⟩⟩)
                · refine wl_s (pc' := 149) ji_208_148 rfl rfl rfl ?_
                  obtain ⟨cs, hcs⟩ := rp_c V
                  refine wl_vc (d := d + 5) (as := [.ref 138]) (rest := []) ji_208_149 jc_208_193 rfl hcs jk_211.symm (Nat.le_of_ble_eq_true rfl) rfl (by rw [jn_211]; rfl) (wr_aa (d := d + 3) V e (by omega) rfl hei) (fun v1 h1 R => ?_)
                  obtain ⟨ee, a, rfl, haa, hab⟩ := R
                  subst ee
                  show wl_R _ _ 208 152 [some (.ref 138), some (wp_i x)] [wp_i a] h1 _
                  refine wl_if (t := 164) ji_208_152 rfl (by omega) (fun (hb38 : (a : Int) = 0) => ?_) (fun (hb38 : ¬ ((a : Int) = 0)) => ?_)
                  · refine wl_s (pc' := 165) ji_208_164 rfl rfl rfl ?_
                    exact wl_ri ji_208_165 jr_208 rfl (Or.inr ⟨by omega, Or.inr ⟨fun z => (by omega), Or.inr ⟨by omega, Or.inr (Or.inr (Or.inr ⟨⟨by omega, by omega, fun z => by have := hab.mpr z.2; omega⟩, rfl, rfl⟩))⟩⟩⟩)
                  · refine wl_s (pc' := 156) ji_208_155 rfl rfl rfl ?_
                    refine wl_bp ji_208_156 rfl ?_
                    obtain ⟨cs9, hcs9⟩ := rp_c V
                    have g1 : ¬ (k = 1 ∧ 9999 < v) := by omega
                    have g2 : ¬ (0 ≤ x ∧ ¬ ofc so x) := fun z => (by omega)
                    have g3 : ¬ (k = 1 ∨ 0 ≤ x) := by omega
                    have g4 := hzb.mp (by omega)
                    have g5 := hab.mp (by omega)
                    refine wl_vc (d := d + 5) (as := [.ref 138, wp_i 20]) (rest := []) ji_208_158 jc_208_186 rfl hcs9 jk_205.symm (Nat.le_of_ble_eq_true rfl) rfl (by rw [jn_205]; rfl) (wr_op (d := d + 3) (c := 20) V (u := u) e (by omega) rfl (by omega) D hL hp hw0 (by decide)) (fun v1 h9 R => ?_)
                    obtain ⟨y9, hy9⟩ : ∃ y9 : Int, v1 = some (wp_i y9) := by rcases R with ⟨-, -, x⟩ | ⟨-, x, -⟩ <;> exact ⟨_, x⟩
                    subst hy9
                    show wl_R _ _ 208 161 [some (.ref 138), some (wp_i x)] [wp_i y9] h9 _
                    refine wl_goto (t := 165) ji_208_161 rfl ?_
                    exact wl_ri ji_208_165 jr_208 rfl (Or.inr ⟨g1, Or.inr ⟨g2, Or.inr ⟨g3, Or.inr (Or.inr (Or.inl ⟨g4, g5, R⟩))⟩⟩⟩)
              · refine wl_s (pc' := 127) ji_208_126 rfl rfl rfl ?_
                refine wl_s (pc' := 128) ji_208_127 rfl rfl rfl ?_
                obtain ⟨cs9, hcs9⟩ := rp_c V
                have g1 : ¬ (k = 1 ∧ 9999 < v) := by omega
                have g2 : ¬ (0 ≤ x ∧ ¬ ofc so x) := fun z => (by omega)
                have g3 : ¬ (k = 1 ∨ 0 ≤ x) := by omega
                have g4 : k = 2 ∧ v = 45 := by omega
                refine wl_vc (d := d + 5) (as := [.ref 138, wp_i 3]) (rest := []) ji_208_128 jc_208_186 rfl hcs9 jk_205.symm (Nat.le_of_ble_eq_true rfl) rfl (by rw [jn_205]; rfl) (wr_op (d := d + 3) (c := 3) V (u := u) e (by omega) rfl (by omega) D hL hp hw0 (by decide)) (fun v1 h9 R => ?_)
                obtain ⟨y9, hy9⟩ : ∃ y9 : Int, v1 = some (wp_i y9) := by rcases R with ⟨-, -, x⟩ | ⟨-, x, -⟩ <;> exact ⟨_, x⟩
                subst hy9
                show wl_R _ _ 208 131 [some (.ref 138), some (wp_i x)] [wp_i y9] h9 _
                exact wl_ri ji_208_131 jr_208 rfl (Or.inr ⟨g1, Or.inr ⟨g2, Or.inr ⟨g3, Or.inr (Or.inl ⟨g4, R⟩)⟩⟩⟩)
            · refine wl_s (pc' := 111) ji_208_110 rfl rfl rfl ?_
              refine wl_bp ji_208_111 rfl ?_
              obtain ⟨cs9, hcs9⟩ := rp_c V
              have g1 : ¬ (k = 1 ∧ 9999 < v) := by omega
              have g2 : ¬ (0 ≤ x ∧ ¬ ofc so x) := fun z => (by omega)
              have g3 : ¬ (k = 1 ∨ 0 ≤ x) := by omega
              have g4 : k = 2 ∧ v = 40 := by omega
              refine wl_vc (d := d + 5) (as := [.ref 138, wp_i 40]) (rest := []) ji_208_113 jc_208_186 rfl hcs9 jk_205.symm (Nat.le_of_ble_eq_true rfl) rfl (by rw [jn_205]; rfl) (wr_op (d := d + 3) (c := 40) V (u := u) e (by omega) rfl (by omega) D hL hp hw0 (by decide)) (fun v1 h9 R => ?_)
              obtain ⟨y9, hy9⟩ : ∃ y9 : Int, v1 = some (wp_i y9) := by rcases R with ⟨-, -, x⟩ | ⟨-, x, -⟩ <;> exact ⟨_, x⟩
              subst hy9
              show wl_R _ _ 208 116 [some (.ref 138), some (wp_i x)] [wp_i y9] h9 _
              exact wl_ri ji_208_116 jr_208 rfl (Or.inr ⟨g1, Or.inr ⟨g2, Or.inr ⟨g3, Or.inl ⟨g4, R⟩⟩⟩⟩)
          · refine wl_s (pc' := 52) ji_208_51 rfl rfl rfl ?_
            refine wl_s (pc' := 53) ji_208_52 rfl rfl rfl ?_
            refine rp_g9 V ji_208_53 jf_208_95 ?_
            refine wl_s (pc' := 57) ji_208_56 rfl rfl rfl ?_
            refine wl_icmp (t := 64) ji_208_57 rfl (by omega) (by omega) (fun (hb39 : ¬ (t : Int) = 1) => ?_) (fun (hb39 : ¬ (¬ (t : Int) = 1)) => ?_)
            · refine wl_s (pc' := 65) ji_208_64 rfl rfl rfl ?_
              refine wl_s (pc' := 66) ji_208_65 rfl rfl rfl ?_
              refine rp_g9 V ji_208_66 jf_208_95 ?_
              refine wl_s (pc' := 70) ji_208_69 rfl rfl rfl ?_
              refine wl_icmp (t := 80) ji_208_70 rfl (by omega) (by omega) (fun (hb40 : ¬ (t : Int) = 1) => ?_) (fun (hb40 : ¬ (¬ (t : Int) = 1)) => ?_)
              · refine wl_s (pc' := 81) ji_208_80 rfl rfl rfl ?_
                obtain ⟨cs5, hcs5⟩ := rp_c V
                refine wl_vc (d := d + 5) (as := [.ref 138, wp_i 1, wp_i x]) (rest := []) ji_208_81 jc_208_153 rfl hcs5 jk_203.symm (Nat.le_of_ble_eq_true rfl) rfl (by rw [jn_203]; rfl) (wq_em V hx0 (by omega)) (fun v1 h1 R => ?_)
                obtain ⟨rfl, V⟩ := R
                show wl_R _ _ 208 84 [some (.ref 138), some (wp_i x)] [] h1 _
                refine wl_s (pc' := 85) ji_208_84 rfl rfl rfl ?_
                obtain ⟨cs, hcs⟩ := rp_c V
                refine wl_vc (d := d + 5) (as := [.ref 138]) (rest := []) ji_208_85 jc_208_171 rfl hcs jk_178.symm (Nat.le_of_ble_eq_true rfl) rfl (by rw [jn_178]; rfl) (wr_nt (d := d + 4) V D hL hp hw0) (fun v1 h1 R => ?_)
                obtain ⟨rfl, k2, v2, q', r', t', n', w', tk2, tr2, hb, hw1, V⟩ := R
                show wl_R _ _ 208 88 [some (.ref 138), some (wp_i x)] [] h1 _
                refine wl_s (pc' := 89) ji_208_88 rfl rfl rfl ?_
                refine wl_s (pc' := 90) ji_208_89 rfl rfl rfl ?_
                refine rp_p19 (y := 1) (by omega) V ji_208_90 jf_208_180 (fun h V => ?_)
                refine wl_s (pc' := 94) ji_208_93 rfl rfl rfl ?_
                refine wl_bp ji_208_94 rfl ?_
                obtain ⟨cshz, hcshz⟩ := rp_c V
                refine wl_vc (d := d + 4 + 1) (as := [.ref 138, wp_i 7]) (rest := []) ji_208_96 jc_208_183 rfl hcshz jk_202.symm (Nat.le_of_ble_eq_true rfl) rfl (by rw [jn_202]; rfl) (wq_st (d := d + 4) (r := 7) hx0 (by omega) nn u _ (wr + 1) _ _ e V (by omega)) (fun v1 hz R => ?_)
                obtain ⟨rfl, wrhz, tshz, hEz, hwrhz, V⟩ := R
                have hslhz := stl_len (r := 7) u
                have hsnhz := stn_r (r := 7) u
                show wl_R _ _ 208 99 [some (.ref 138), some (wp_i x)] [] hz _
                refine wl_s (pc' := 100) ji_208_99 rfl rfl rfl ?_
                exact wl_ri ji_208_100 jr_208 rfl (Or.inr ⟨by omega, Or.inr ⟨fun z => (by omega), Or.inl ⟨by omega, rfl, k2, v2, q', r', t', n', wrhz, w', tshz, ⟨tk2, tr2, hb, hw1⟩, (by first | (exfalso; omega) | (rw [if_pos (show k = 1 by omega), if_pos (show k = 1 by omega)]; exact qE_c hEz) | (rw [if_neg (show ¬ k = 1 by omega), if_neg (show ¬ k = 1 by omega)]; exact qE_c hEz)), by omega, V⟩⟩⟩)
              · refine wl_s (pc' := 74) ji_208_73 rfl rfl rfl ?_
                refine rp_g10 V ji_208_74 jf_208_102 ?_
                refine wl_goto (t := 81) ji_208_77 rfl ?_
                obtain ⟨cs5, hcs5⟩ := rp_c V
                refine wl_vc (d := d + 5) (as := [.ref 138, wp_i 1, wp_i n]) (rest := []) ji_208_81 jc_208_153 rfl hcs5 jk_203.symm (Nat.le_of_ble_eq_true rfl) rfl (by rw [jn_203]; rfl) (wq_em V hx0 (by omega)) (fun v1 h1 R => ?_)
                obtain ⟨rfl, V⟩ := R
                show wl_R _ _ 208 84 [some (.ref 138), some (wp_i x)] [] h1 _
                refine wl_s (pc' := 85) ji_208_84 rfl rfl rfl ?_
                obtain ⟨cs, hcs⟩ := rp_c V
                refine wl_vc (d := d + 5) (as := [.ref 138]) (rest := []) ji_208_85 jc_208_171 rfl hcs jk_178.symm (Nat.le_of_ble_eq_true rfl) rfl (by rw [jn_178]; rfl) (wr_nt (d := d + 4) V D hL hp hw0) (fun v1 h1 R => ?_)
                obtain ⟨rfl, k2, v2, q', r', t', n', w', tk2, tr2, hb, hw1, V⟩ := R
                show wl_R _ _ 208 88 [some (.ref 138), some (wp_i x)] [] h1 _
                refine wl_s (pc' := 89) ji_208_88 rfl rfl rfl ?_
                refine wl_s (pc' := 90) ji_208_89 rfl rfl rfl ?_
                refine rp_p19 (y := 1) (by omega) V ji_208_90 jf_208_180 (fun h V => ?_)
                refine wl_s (pc' := 94) ji_208_93 rfl rfl rfl ?_
                refine wl_bp ji_208_94 rfl ?_
                obtain ⟨cshz, hcshz⟩ := rp_c V
                refine wl_vc (d := d + 4 + 1) (as := [.ref 138, wp_i 7]) (rest := []) ji_208_96 jc_208_183 rfl hcshz jk_202.symm (Nat.le_of_ble_eq_true rfl) rfl (by rw [jn_202]; rfl) (wq_st (d := d + 4) (r := 7) hx0 (by omega) nn u _ (wr + 1) _ _ e V (by omega)) (fun v1 hz R => ?_)
                obtain ⟨rfl, wrhz, tshz, hEz, hwrhz, V⟩ := R
                have hslhz := stl_len (r := 7) u
                have hsnhz := stn_r (r := 7) u
                show wl_R _ _ 208 99 [some (.ref 138), some (wp_i x)] [] hz _
                refine wl_s (pc' := 100) ji_208_99 rfl rfl rfl ?_
                exact wl_ri ji_208_100 jr_208 rfl (Or.inr ⟨by omega, Or.inr ⟨fun z => (by omega), Or.inl ⟨by omega, rfl, k2, v2, q', r', t', n', wrhz, w', tshz, ⟨tk2, tr2, hb, hw1⟩, (by first | (exfalso; omega) | (rw [if_pos (show k = 1 by omega), if_pos (show k = 1 by omega)]; exact qE_c hEz) | (rw [if_neg (show ¬ k = 1 by omega), if_neg (show ¬ k = 1 by omega)]; exact qE_c hEz)), by omega, V⟩⟩⟩)
            · refine wl_s (pc' := 61) ji_208_60 rfl rfl rfl ?_
              refine wl_goto (t := 65) ji_208_61 rfl ?_
              refine wl_s (pc' := 66) ji_208_65 rfl rfl rfl ?_
              refine rp_g9 V ji_208_66 jf_208_95 ?_
              refine wl_s (pc' := 70) ji_208_69 rfl rfl rfl ?_
              refine wl_icmp (t := 80) ji_208_70 rfl (by omega) (by omega) (fun (hb41 : ¬ (t : Int) = 1) => ?_) (fun (hb41 : ¬ (¬ (t : Int) = 1)) => ?_)
              · refine wl_s (pc' := 81) ji_208_80 rfl rfl rfl ?_
                obtain ⟨cs5, hcs5⟩ := rp_c V
                refine wl_vc (d := d + 5) (as := [.ref 138, wp_i 0, wp_i x]) (rest := []) ji_208_81 jc_208_153 rfl hcs5 jk_203.symm (Nat.le_of_ble_eq_true rfl) rfl (by rw [jn_203]; rfl) (wq_em V hx0 (by omega)) (fun v1 h1 R => ?_)
                obtain ⟨rfl, V⟩ := R
                show wl_R _ _ 208 84 [some (.ref 138), some (wp_i x)] [] h1 _
                refine wl_s (pc' := 85) ji_208_84 rfl rfl rfl ?_
                obtain ⟨cs, hcs⟩ := rp_c V
                refine wl_vc (d := d + 5) (as := [.ref 138]) (rest := []) ji_208_85 jc_208_171 rfl hcs jk_178.symm (Nat.le_of_ble_eq_true rfl) rfl (by rw [jn_178]; rfl) (wr_nt (d := d + 4) V D hL hp hw0) (fun v1 h1 R => ?_)
                obtain ⟨rfl, k2, v2, q', r', t', n', w', tk2, tr2, hb, hw1, V⟩ := R
                show wl_R _ _ 208 88 [some (.ref 138), some (wp_i x)] [] h1 _
                refine wl_s (pc' := 89) ji_208_88 rfl rfl rfl ?_
                refine wl_s (pc' := 90) ji_208_89 rfl rfl rfl ?_
                refine rp_p19 (y := 1) (by omega) V ji_208_90 jf_208_180 (fun h V => ?_)
                refine wl_s (pc' := 94) ji_208_93 rfl rfl rfl ?_
                refine wl_bp ji_208_94 rfl ?_
                obtain ⟨cshz, hcshz⟩ := rp_c V
                refine wl_vc (d := d + 4 + 1) (as := [.ref 138, wp_i 7]) (rest := []) ji_208_96 jc_208_183 rfl hcshz jk_202.symm (Nat.le_of_ble_eq_true rfl) rfl (by rw [jn_202]; rfl) (wq_st (d := d + 4) (r := 7) hx0 (by omega) nn u _ (wr + 1) _ _ e V (by omega)) (fun v1 hz R => ?_)
                obtain ⟨rfl, wrhz, tshz, hEz, hwrhz, V⟩ := R
                have hslhz := stl_len (r := 7) u
                have hsnhz := stn_r (r := 7) u
                show wl_R _ _ 208 99 [some (.ref 138), some (wp_i x)] [] hz _
                refine wl_s (pc' := 100) ji_208_99 rfl rfl rfl ?_
                exact wl_ri ji_208_100 jr_208 rfl (Or.inr ⟨by omega, Or.inr ⟨fun z => (by omega), Or.inl ⟨by omega, rfl, k2, v2, q', r', t', n', wrhz, w', tshz, ⟨tk2, tr2, hb, hw1⟩, (by first | (exfalso; omega) | (rw [if_pos (show k = 1 by omega), if_pos (show k = 1 by omega)]; exact qE_c hEz) | (rw [if_neg (show ¬ k = 1 by omega), if_neg (show ¬ k = 1 by omega)]; exact qE_c hEz)), by omega, V⟩⟩⟩)
              · refine wl_s (pc' := 74) ji_208_73 rfl rfl rfl ?_
                refine rp_g10 V ji_208_74 jf_208_102 ?_
                refine wl_goto (t := 81) ji_208_77 rfl ?_
                obtain ⟨cs5, hcs5⟩ := rp_c V
                refine wl_vc (d := d + 5) (as := [.ref 138, wp_i 0, wp_i n]) (rest := []) ji_208_81 jc_208_153 rfl hcs5 jk_203.symm (Nat.le_of_ble_eq_true rfl) rfl (by rw [jn_203]; rfl) (wq_em V hx0 (by omega)) (fun v1 h1 R => ?_)
                obtain ⟨rfl, V⟩ := R
                show wl_R _ _ 208 84 [some (.ref 138), some (wp_i x)] [] h1 _
                refine wl_s (pc' := 85) ji_208_84 rfl rfl rfl ?_
                obtain ⟨cs, hcs⟩ := rp_c V
                refine wl_vc (d := d + 5) (as := [.ref 138]) (rest := []) ji_208_85 jc_208_171 rfl hcs jk_178.symm (Nat.le_of_ble_eq_true rfl) rfl (by rw [jn_178]; rfl) (wr_nt (d := d + 4) V D hL hp hw0) (fun v1 h1 R => ?_)
                obtain ⟨rfl, k2, v2, q', r', t', n', w', tk2, tr2, hb, hw1, V⟩ := R
                show wl_R _ _ 208 88 [some (.ref 138), some (wp_i x)] [] h1 _
                refine wl_s (pc' := 89) ji_208_88 rfl rfl rfl ?_
                refine wl_s (pc' := 90) ji_208_89 rfl rfl rfl ?_
                refine rp_p19 (y := 1) (by omega) V ji_208_90 jf_208_180 (fun h V => ?_)
                refine wl_s (pc' := 94) ji_208_93 rfl rfl rfl ?_
                refine wl_bp ji_208_94 rfl ?_
                obtain ⟨cshz, hcshz⟩ := rp_c V
                refine wl_vc (d := d + 4 + 1) (as := [.ref 138, wp_i 7]) (rest := []) ji_208_96 jc_208_183 rfl hcshz jk_202.symm (Nat.le_of_ble_eq_true rfl) rfl (by rw [jn_202]; rfl) (wq_st (d := d + 4) (r := 7) hx0 (by omega) nn u _ (wr + 1) _ _ e V (by omega)) (fun v1 hz R => ?_)
                obtain ⟨rfl, wrhz, tshz, hEz, hwrhz, V⟩ := R
                have hslhz := stl_len (r := 7) u
                have hsnhz := stn_r (r := 7) u
                show wl_R _ _ 208 99 [some (.ref 138), some (wp_i x)] [] hz _
                refine wl_s (pc' := 100) ji_208_99 rfl rfl rfl ?_
                exact wl_ri ji_208_100 jr_208 rfl (Or.inr ⟨by omega, Or.inr ⟨fun z => (by omega), Or.inl ⟨by omega, rfl, k2, v2, q', r', t', n', wrhz, w', tshz, ⟨tk2, tr2, hb, hw1⟩, (by first | (exfalso; omega) | (rw [if_pos (show k = 1 by omega), if_pos (show k = 1 by omega)]; exact qE_c hEz) | (rw [if_neg (show ¬ k = 1 by omega), if_neg (show ¬ k = 1 by omega)]; exact qE_c hEz)), by omega, V⟩⟩⟩)
      · refine wl_s (pc' := 30) ji_208_29 rfl rfl rfl ?_
        refine wl_s (pc' := 31) ji_208_30 rfl rfl rfl ?_
        obtain ⟨cs7, hcs7⟩ := rp_c V
        refine wl_vc (d := d + 5) (as := [.ref 138, wp_i x]) (rest := []) ji_208_31 jc_208_177 rfl hcs7 jk_210.symm (Nat.le_of_ble_eq_true rfl) rfl (by rw [jn_210]; rfl) (wr_of (x := x) V (by omega) hso) (fun v1 h1 R => ?_)
        obtain ⟨ee, y, rfl, hya, hyb⟩ := R
        subst ee
        have hyo : y = 1 ↔ ofc so x := hyb
        clear hyb
        show wl_R _ _ 208 34 [some (.ref 138), some (wp_i x)] [wp_i y] h1 _
        refine wl_if (t := 39) ji_208_34 rfl (by omega) (fun (hb42 : ¬ (y : Int) = 0) => ?_) (fun (hb42 : ¬ (¬ (y : Int) = 0)) => ?_)
        · refine wl_s (pc' := 40) ji_208_39 rfl rfl rfl ?_
          refine rp_g9 V ji_208_40 jf_208_95 ?_
          refine wl_s (pc' := 44) ji_208_43 rfl rfl rfl ?_
          refine wl_icmp (t := 51) ji_208_44 rfl (by omega) (by omega) (fun (hb43 : (t : Int) = 1) => ?_) (fun (hb43 : ¬ ((t : Int) = 1)) => ?_)
          · refine wl_s (pc' := 52) ji_208_51 rfl rfl rfl ?_
            refine wl_s (pc' := 53) ji_208_52 rfl rfl rfl ?_
            refine rp_g9 V ji_208_53 jf_208_95 ?_
            refine wl_s (pc' := 57) ji_208_56 rfl rfl rfl ?_
            refine wl_icmp (t := 64) ji_208_57 rfl (by omega) (by omega) (fun (hb44 : ¬ (t : Int) = 1) => ?_) (fun (hb44 : ¬ (¬ (t : Int) = 1)) => ?_)
            · refine wl_s (pc' := 65) ji_208_64 rfl rfl rfl ?_
              refine wl_s (pc' := 66) ji_208_65 rfl rfl rfl ?_
              refine rp_g9 V ji_208_66 jf_208_95 ?_
              refine wl_s (pc' := 70) ji_208_69 rfl rfl rfl ?_
              refine wl_icmp (t := 80) ji_208_70 rfl (by omega) (by omega) (fun (hb45 : ¬ (t : Int) = 1) => ?_) (fun (hb45 : ¬ (¬ (t : Int) = 1)) => ?_)
              · refine wl_s (pc' := 81) ji_208_80 rfl rfl rfl ?_
                obtain ⟨cs5, hcs5⟩ := rp_c V
                refine wl_vc (d := d + 5) (as := [.ref 138, wp_i 1, wp_i x]) (rest := []) ji_208_81 jc_208_153 rfl hcs5 jk_203.symm (Nat.le_of_ble_eq_true rfl) rfl (by rw [jn_203]; rfl) (wq_em V hx0 (by omega)) (fun v1 h1 R => ?_)
                obtain ⟨rfl, V⟩ := R
                show wl_R _ _ 208 84 [some (.ref 138), some (wp_i x)] [] h1 _
                refine wl_s (pc' := 85) ji_208_84 rfl rfl rfl ?_
                obtain ⟨cs, hcs⟩ := rp_c V
                refine wl_vc (d := d + 5) (as := [.ref 138]) (rest := []) ji_208_85 jc_208_171 rfl hcs jk_178.symm (Nat.le_of_ble_eq_true rfl) rfl (by rw [jn_178]; rfl) (wr_nt (d := d + 4) V D hL hp hw0) (fun v1 h1 R => ?_)
                obtain ⟨rfl, k2, v2, q', r', t', n', w', tk2, tr2, hb, hw1, V⟩ := R
                show wl_R _ _ 208 88 [some (.ref 138), some (wp_i x)] [] h1 _
                refine wl_s (pc' := 89) ji_208_88 rfl rfl rfl ?_
                refine wl_s (pc' := 90) ji_208_89 rfl rfl rfl ?_
                refine rp_p19 (y := 1) (by omega) V ji_208_90 jf_208_180 (fun h V => ?_)
                refine wl_s (pc' := 94) ji_208_93 rfl rfl rfl ?_
                refine wl_bp ji_208_94 rfl ?_
                obtain ⟨cshz, hcshz⟩ := rp_c V
                refine wl_vc (d := d + 4 + 1) (as := [.ref 138, wp_i 7]) (rest := []) ji_208_96 jc_208_183 rfl hcshz jk_202.symm (Nat.le_of_ble_eq_true rfl) rfl (by rw [jn_202]; rfl) (wq_st (d := d + 4) (r := 7) hx0 (by omega) nn u _ (wr + 1) _ _ e V (by omega)) (fun v1 hz R => ?_)
                obtain ⟨rfl, wrhz, tshz, hEz, hwrhz, V⟩ := R
                have hslhz := stl_len (r := 7) u
                have hsnhz := stn_r (r := 7) u
                show wl_R _ _ 208 99 [some (.ref 138), some (wp_i x)] [] hz _
                refine wl_s (pc' := 100) ji_208_99 rfl rfl rfl ?_
                exact wl_ri ji_208_100 jr_208 rfl (Or.inr ⟨by omega, Or.inr ⟨fun z => z.2 (hyo.mp (by omega)), Or.inl ⟨by omega, rfl, k2, v2, q', r', t', n', wrhz, w', tshz, ⟨tk2, tr2, hb, hw1⟩, (by first | (exfalso; omega) | (rw [if_pos (show k = 1 by omega), if_pos (show k = 1 by omega)]; exact qE_c hEz) | (rw [if_neg (show ¬ k = 1 by omega), if_neg (show ¬ k = 1 by omega)]; exact qE_c hEz)), by omega, V⟩⟩⟩)
              · refine wl_s (pc' := 74) ji_208_73 rfl rfl rfl ?_
                refine rp_g10 V ji_208_74 jf_208_102 ?_
                refine wl_goto (t := 81) ji_208_77 rfl ?_
                obtain ⟨cs5, hcs5⟩ := rp_c V
                refine wl_vc (d := d + 5) (as := [.ref 138, wp_i 1, wp_i n]) (rest := []) ji_208_81 jc_208_153 rfl hcs5 jk_203.symm (Nat.le_of_ble_eq_true rfl) rfl (by rw [jn_203]; rfl) (wq_em V hx0 (by omega)) (fun v1 h1 R => ?_)
                obtain ⟨rfl, V⟩ := R
                show wl_R _ _ 208 84 [some (.ref 138), some (wp_i x)] [] h1 _
                refine wl_s (pc' := 85) ji_208_84 rfl rfl rfl ?_
                obtain ⟨cs, hcs⟩ := rp_c V
                refine wl_vc (d := d + 5) (as := [.ref 138]) (rest := []) ji_208_85 jc_208_171 rfl hcs jk_178.symm (Nat.le_of_ble_eq_true rfl) rfl (by rw [jn_178]; rfl) (wr_nt (d := d + 4) V D hL hp hw0) (fun v1 h1 R => ?_)
                obtain ⟨rfl, k2, v2, q', r', t', n', w', tk2, tr2, hb, hw1, V⟩ := R
                show wl_R _ _ 208 88 [some (.ref 138), some (wp_i x)] [] h1 _
                refine wl_s (pc' := 89) ji_208_88 rfl rfl rfl ?_
                refine wl_s (pc' := 90) ji_208_89 rfl rfl rfl ?_
                refine rp_p19 (y := 1) (by omega) V ji_208_90 jf_208_180 (fun h V => ?_)
                refine wl_s (pc' := 94) ji_208_93 rfl rfl rfl ?_
                refine wl_bp ji_208_94 rfl ?_
                obtain ⟨cshz, hcshz⟩ := rp_c V
                refine wl_vc (d := d + 4 + 1) (as := [.ref 138, wp_i 7]) (rest := []) ji_208_96 jc_208_183 rfl hcshz jk_202.symm (Nat.le_of_ble_eq_true rfl) rfl (by rw [jn_202]; rfl) (wq_st (d := d + 4) (r := 7) hx0 (by omega) nn u _ (wr + 1) _ _ e V (by omega)) (fun v1 hz R => ?_)
                obtain ⟨rfl, wrhz, tshz, hEz, hwrhz, V⟩ := R
                have hslhz := stl_len (r := 7) u
                have hsnhz := stn_r (r := 7) u
                show wl_R _ _ 208 99 [some (.ref 138), some (wp_i x)] [] hz _
                refine wl_s (pc' := 100) ji_208_99 rfl rfl rfl ?_
                exact wl_ri ji_208_100 jr_208 rfl (Or.inr ⟨by omega, Or.inr ⟨fun z => z.2 (hyo.mp (by omega)), Or.inl ⟨by omega, rfl, k2, v2, q', r', t', n', wrhz, w', tshz, ⟨tk2, tr2, hb, hw1⟩, (by first | (exfalso; omega) | (rw [if_pos (show k = 1 by omega), if_pos (show k = 1 by omega)]; exact qE_c hEz) | (rw [if_neg (show ¬ k = 1 by omega), if_neg (show ¬ k = 1 by omega)]; exact qE_c hEz)), by omega, V⟩⟩⟩)
            · refine wl_s (pc' := 61) ji_208_60 rfl rfl rfl ?_
              refine wl_goto (t := 65) ji_208_61 rfl ?_
              refine wl_s (pc' := 66) ji_208_65 rfl rfl rfl ?_
              refine rp_g9 V ji_208_66 jf_208_95 ?_
              refine wl_s (pc' := 70) ji_208_69 rfl rfl rfl ?_
              refine wl_icmp (t := 80) ji_208_70 rfl (by omega) (by omega) (fun (hb46 : ¬ (t : Int) = 1) => ?_) (fun (hb46 : ¬ (¬ (t : Int) = 1)) => ?_)
              · refine wl_s (pc' := 81) ji_208_80 rfl rfl rfl ?_
                obtain ⟨cs5, hcs5⟩ := rp_c V
                refine wl_vc (d := d + 5) (as := [.ref 138, wp_i 0, wp_i x]) (rest := []) ji_208_81 jc_208_153 rfl hcs5 jk_203.symm (Nat.le_of_ble_eq_true rfl) rfl (by rw [jn_203]; rfl) (wq_em V hx0 (by omega)) (fun v1 h1 R => ?_)
                obtain ⟨rfl, V⟩ := R
                show wl_R _ _ 208 84 [some (.ref 138), some (wp_i x)] [] h1 _
                refine wl_s (pc' := 85) ji_208_84 rfl rfl rfl ?_
                obtain ⟨cs, hcs⟩ := rp_c V
                refine wl_vc (d := d + 5) (as := [.ref 138]) (rest := []) ji_208_85 jc_208_171 rfl hcs jk_178.symm (Nat.le_of_ble_eq_true rfl) rfl (by rw [jn_178]; rfl) (wr_nt (d := d + 4) V D hL hp hw0) (fun v1 h1 R => ?_)
                obtain ⟨rfl, k2, v2, q', r', t', n', w', tk2, tr2, hb, hw1, V⟩ := R
                show wl_R _ _ 208 88 [some (.ref 138), some (wp_i x)] [] h1 _
                refine wl_s (pc' := 89) ji_208_88 rfl rfl rfl ?_
                refine wl_s (pc' := 90) ji_208_89 rfl rfl rfl ?_
                refine rp_p19 (y := 1) (by omega) V ji_208_90 jf_208_180 (fun h V => ?_)
                refine wl_s (pc' := 94) ji_208_93 rfl rfl rfl ?_
                refine wl_bp ji_208_94 rfl ?_
                obtain ⟨cshz, hcshz⟩ := rp_c V
                refine wl_vc (d := d + 4 + 1) (as := [.ref 138, wp_i 7]) (rest := []) ji_208_96 jc_208_183 rfl hcshz jk_202.symm (Nat.le_of_ble_eq_true rfl) rfl (by rw [jn_202]; rfl) (wq_st (d := d + 4) (r := 7) hx0 (by omega) nn u _ (wr + 1) _ _ e V (by omega)) (fun v1 hz R => ?_)
                obtain ⟨rfl, wrhz, tshz, hEz, hwrhz, V⟩ := R
                have hslhz := stl_len (r := 7) u
                have hsnhz := stn_r (r := 7) u
                show wl_R _ _ 208 99 [some (.ref 138), some (wp_i x)] [] hz _
                refine wl_s (pc' := 100) ji_208_99 rfl rfl rfl ?_
                exact wl_ri ji_208_100 jr_208 rfl (Or.inr ⟨by omega, Or.inr ⟨fun z => z.2 (hyo.mp (by omega)), Or.inl ⟨by omega, rfl, k2, v2, q', r', t', n', wrhz, w', tshz, ⟨tk2, tr2, hb, hw1⟩, (by first | (exfalso; omega) | (rw [if_pos (show k = 1 by omega), if_pos (show k = 1 by omega)]; exact qE_c hEz) | (rw [if_neg (show ¬ k = 1 by omega), if_neg (show ¬ k = 1 by omega)]; exact qE_c hEz)), by omega, V⟩⟩⟩)
              · refine wl_s (pc' := 74) ji_208_73 rfl rfl rfl ?_
                refine rp_g10 V ji_208_74 jf_208_102 ?_
                refine wl_goto (t := 81) ji_208_77 rfl ?_
                obtain ⟨cs5, hcs5⟩ := rp_c V
                refine wl_vc (d := d + 5) (as := [.ref 138, wp_i 0, wp_i n]) (rest := []) ji_208_81 jc_208_153 rfl hcs5 jk_203.symm (Nat.le_of_ble_eq_true rfl) rfl (by rw [jn_203]; rfl) (wq_em V hx0 (by omega)) (fun v1 h1 R => ?_)
                obtain ⟨rfl, V⟩ := R
                show wl_R _ _ 208 84 [some (.ref 138), some (wp_i x)] [] h1 _
                refine wl_s (pc' := 85) ji_208_84 rfl rfl rfl ?_
                obtain ⟨cs, hcs⟩ := rp_c V
                refine wl_vc (d := d + 5) (as := [.ref 138]) (rest := []) ji_208_85 jc_208_171 rfl hcs jk_178.symm (Nat.le_of_ble_eq_true rfl) rfl (by rw [jn_178]; rfl) (wr_nt (d := d + 4) V D hL hp hw0) (fun v1 h1 R => ?_)
                obtain ⟨rfl, k2, v2, q', r', t', n', w', tk2, tr2, hb, hw1, V⟩ := R
                show wl_R _ _ 208 88 [some (.ref 138), some (wp_i x)] [] h1 _
                refine wl_s (pc' := 89) ji_208_88 rfl rfl rfl ?_
                refine wl_s (pc' := 90) ji_208_89 rfl rfl rfl ?_
                refine rp_p19 (y := 1) (by omega) V ji_208_90 jf_208_180 (fun h V => ?_)
                refine wl_s (pc' := 94) ji_208_93 rfl rfl rfl ?_
                refine wl_bp ji_208_94 rfl ?_
                obtain ⟨cshz, hcshz⟩ := rp_c V
                refine wl_vc (d := d + 4 + 1) (as := [.ref 138, wp_i 7]) (rest := []) ji_208_96 jc_208_183 rfl hcshz jk_202.symm (Nat.le_of_ble_eq_true rfl) rfl (by rw [jn_202]; rfl) (wq_st (d := d + 4) (r := 7) hx0 (by omega) nn u _ (wr + 1) _ _ e V (by omega)) (fun v1 hz R => ?_)
                obtain ⟨rfl, wrhz, tshz, hEz, hwrhz, V⟩ := R
                have hslhz := stl_len (r := 7) u
                have hsnhz := stn_r (r := 7) u
                show wl_R _ _ 208 99 [some (.ref 138), some (wp_i x)] [] hz _
                refine wl_s (pc' := 100) ji_208_99 rfl rfl rfl ?_
                exact wl_ri ji_208_100 jr_208 rfl (Or.inr ⟨by omega, Or.inr ⟨fun z => z.2 (hyo.mp (by omega)), Or.inl ⟨by omega, rfl, k2, v2, q', r', t', n', wrhz, w', tshz, ⟨tk2, tr2, hb, hw1⟩, (by first | (exfalso; omega) | (rw [if_pos (show k = 1 by omega), if_pos (show k = 1 by omega)]; exact qE_c hEz) | (rw [if_neg (show ¬ k = 1 by omega), if_neg (show ¬ k = 1 by omega)]; exact qE_c hEz)), by omega, V⟩⟩⟩)
          · refine wl_s (pc' := 48) ji_208_47 rfl rfl rfl ?_
            refine wl_if (t := 101) ji_208_48 rfl (by omega) (fun (hb47 : (x : Int) < 0) => ?_) (fun (hb47 : ¬ ((x : Int) < 0)) => ?_)
            · refine wl_s (pc' := 102) ji_208_101 rfl rfl rfl ?_
              refine rp_g9 V ji_208_102 jf_208_95 ?_
              refine wl_bp ji_208_105 rfl ?_
              refine wl_icmp (t := 117) ji_208_107 rfl (by omega) (by omega) (fun (hb48 : ¬ (t : Int) = 40) => ?_) (fun (hb48 : ¬ (¬ (t : Int) = 40)) => ?_)
              · refine wl_s (pc' := 118) ji_208_117 rfl rfl rfl ?_
                refine rp_g9 V ji_208_118 jf_208_95 ?_
                refine wl_bp ji_208_121 rfl ?_
                refine wl_icmp (t := 132) ji_208_123 rfl (by omega) (by omega) (fun (hb49 : ¬ (t : Int) = 45) => ?_) (fun (hb49 : ¬ (¬ (t : Int) = 45)) => ?_)
                · refine wl_s (pc' := 133) ji_208_132 rfl rfl rfl ?_
                  refine wl_bp ji_208_133 rfl ?_
                  refine wl_bp ji_208_135 rfl ?_
                  refine wl_bp ji_208_137 rfl ?_
                  refine wl_sc (d := d + 5) (as := [wp_i 110, wp_i 111, wp_i 116]) (rest := [.ref 138]) ji_208_139 jc_208_122 (Nat.le_of_ble_eq_true rfl) rfl (Nat.le_of_ble_eq_true rfl) rfl (by rw [jn_188]; rfl) (wr_w3 (d := d + 4) (by decide) (by decide) (by decide)) (fun v1 h1 R => ?_)
                  obtain ⟨ee, rfl⟩ := R
                  subst ee
                  show wl_R _ _ 208 142 [some (.ref 138), some (wp_i x)] [.long (Int64.ofNat (wd [110, 111, 116])), .ref 138] h1 _
                  obtain ⟨cs8, hcs8⟩ := rp_c V
                  refine wl_vc (d := d + 5) (as := [.ref 138, .long (Int64.ofNat (wd [110, 111, 116]))]) (rest := []) ji_208_142 jc_208_189 rfl hcs8 jk_190.symm (Nat.le_of_ble_eq_true rfl) rfl (by rw [jn_190]; rfl) (wr_iw (W := wd [110, 111, 116]) V hw0 (by decide +kernel) htr) (fun v1 h1 R => ?_)
                  obtain ⟨ee, z, rfl, hza, hzb⟩ := R
                  subst ee
                  rw [kw T (j := 15) (K := [110, 111, 116]) rfl] at hzb
                  show wl_R _ _ 208 145 [some (.ref 138), some (wp_i x)] [wp_i z] h1 _
                  refine wl_if (t := 164) ji_208_145 rfl (by omega) (fun (hb50 : (z : Int) = 0) => ?_) (fun (hb50 : ¬ ((z : Int) = 0)) => ?_)
                  · refine wl_s (pc' := 165) ji_208_164 rfl rfl rfl ?_
                    exact wl_ri ji_208_165 jr_208 rfl (Or.inr ⟨by omega, Or.inr ⟨fun z => z.2 (hyo.mp (by omega)), Or.inr ⟨by omega, Or.inr (Or.inr (Or.inr ⟨⟨by omega, by omega, fun z => by have := hzb.mpr z.1; omega⟩, rfl, rfl⟩))⟩⟩⟩)
                  · refine wl_s (pc' := 149) ji_208_148 rfl rfl rfl ?_
                    obtain ⟨cs, hcs⟩ := rp_c V
                    refine wl_vc (d := d + 5) (as := [.ref 138]) (rest := []) ji_208_149 jc_208_193 rfl hcs jk_211.symm (Nat.le_of_ble_eq_true rfl) rfl (by rw [jn_211]; rfl) (wr_aa (d := d + 3) V e (by omega) rfl hei) (fun v1 h1 R => ?_)
                    obtain ⟨ee, a, rfl, haa, hab⟩ := R
                    subst ee
                    show wl_R _ _ 208 152 [some (.ref 138), some (wp_i x)] [wp_i a] h1 _
                    refine wl_if (t := 164) ji_208_152 rfl (by omega) (fun (hb51 : (a : Int) = 0) => ?_) (fun (hb51 : ¬ ((a : Int) = 0)) => ?_)
                    · refine wl_s (pc' := 165) ji_208_164 rfl rfl rfl ?_
                      exact wl_ri ji_208_165 jr_208 rfl (Or.inr ⟨by omega, Or.inr ⟨fun z => z.2 (hyo.mp (by omega)), Or.inr ⟨by omega, Or.inr (Or.inr (Or.inr ⟨⟨by omega, by omega, fun z => by have := hab.mpr z.2; omega⟩, rfl, rfl⟩))⟩⟩⟩)
                    · refine wl_s (pc' := 156) ji_208_155 rfl rfl rfl ?_
                      refine wl_bp ji_208_156 rfl ?_
                      obtain ⟨cs9, hcs9⟩ := rp_c V
                      have g1 : ¬ (k = 1 ∧ 9999 < v) := by omega
                      have g2 : ¬ (0 ≤ x ∧ ¬ ofc so x) := fun z => z.2 (hyo.mp (by omega))
                      have g3 : ¬ (k = 1 ∨ 0 ≤ x) := by omega
                      have g4 := hzb.mp (by omega)
                      have g5 := hab.mp (by omega)
                      refine wl_vc (d := d + 5) (as := [.ref 138, wp_i 20]) (rest := []) ji_208_158 jc_208_186 rfl hcs9 jk_205.symm (Nat.le_of_ble_eq_true rfl) rfl (by rw [jn_205]; rfl) (wr_op (d := d + 3) (c := 20) V (u := u) e (by omega) rfl (by omega) D hL hp hw0 (by decide)) (fun v1 h9 R => ?_)
                      obtain ⟨y9, hy9⟩ : ∃ y9 : Int, v1 = some (wp_i y9) := by rcases R with ⟨-, -, x⟩ | ⟨-, x, -⟩ <;> exact ⟨_, x⟩
                      subst hy9
                      show wl_R _ _ 208 161 [some (.ref 138), some (wp_i x)] [wp_i y9] h9 _
                      refine wl_goto (t := 165) ji_208_161 rfl ?_
                      exact wl_ri ji_208_165 jr_208 rfl (Or.inr ⟨g1, Or.inr ⟨g2, Or.inr ⟨g3, Or.inr (Or.inr (Or.inl ⟨g4, g5, R⟩))⟩⟩⟩)
                · refine wl_s (pc' := 127) ji_208_126 rfl rfl rfl ?_
                  refine wl_s (pc' := 128) ji_208_127 rfl rfl rfl ?_
                  obtain ⟨cs9, hcs9⟩ := rp_c V
                  have g1 : ¬ (k = 1 ∧ 9999 < v) := by omega
                  have g2 : ¬ (0 ≤ x ∧ ¬ ofc so x) := fun z => z.2 (hyo.mp (by omega))
                  have g3 : ¬ (k = 1 ∨ 0 ≤ x) := by omega
                  have g4 : k = 2 ∧ v = 45 := by omega
                  refine wl_vc (d := d + 5) (as := [.ref 138, wp_i 3]) (rest := []) ji_208_128 jc_208_186 rfl hcs9 jk_205.symm (Nat.le_of_ble_eq_true rfl) rfl (by rw [jn_205]; rfl) (wr_op (d := d + 3) (c := 3) V (u := u) e (by omega) rfl (by omega) D hL hp hw0 (by decide)) (fun v1 h9 R => ?_)
                  obtain ⟨y9, hy9⟩ : ∃ y9 : Int, v1 = some (wp_i y9) := by rcases R with ⟨-, -, x⟩ | ⟨-, x, -⟩ <;> exact ⟨_, x⟩
                  subst hy9
                  show wl_R _ _ 208 131 [some (.ref 138), some (wp_i x)] [wp_i y9] h9 _
                  exact wl_ri ji_208_131 jr_208 rfl (Or.inr ⟨g1, Or.inr ⟨g2, Or.inr ⟨g3, Or.inr (Or.inl ⟨g4, R⟩)⟩⟩⟩)
              · refine wl_s (pc' := 111) ji_208_110 rfl rfl rfl ?_
                refine wl_bp ji_208_111 rfl ?_
                obtain ⟨cs9, hcs9⟩ := rp_c V
                have g1 : ¬ (k = 1 ∧ 9999 < v) := by omega
                have g2 : ¬ (0 ≤ x ∧ ¬ ofc so x) := fun z => z.2 (hyo.mp (by omega))
                have g3 : ¬ (k = 1 ∨ 0 ≤ x) := by omega
                have g4 : k = 2 ∧ v = 40 := by omega
                refine wl_vc (d := d + 5) (as := [.ref 138, wp_i 40]) (rest := []) ji_208_113 jc_208_186 rfl hcs9 jk_205.symm (Nat.le_of_ble_eq_true rfl) rfl (by rw [jn_205]; rfl) (wr_op (d := d + 3) (c := 40) V (u := u) e (by omega) rfl (by omega) D hL hp hw0 (by decide)) (fun v1 h9 R => ?_)
                obtain ⟨y9, hy9⟩ : ∃ y9 : Int, v1 = some (wp_i y9) := by rcases R with ⟨-, -, x⟩ | ⟨-, x, -⟩ <;> exact ⟨_, x⟩
                subst hy9
                show wl_R _ _ 208 116 [some (.ref 138), some (wp_i x)] [wp_i y9] h9 _
                exact wl_ri ji_208_116 jr_208 rfl (Or.inr ⟨g1, Or.inr ⟨g2, Or.inr ⟨g3, Or.inl ⟨g4, R⟩⟩⟩⟩)
            · refine wl_s (pc' := 52) ji_208_51 rfl rfl rfl ?_
              refine wl_s (pc' := 53) ji_208_52 rfl rfl rfl ?_
              refine rp_g9 V ji_208_53 jf_208_95 ?_
              refine wl_s (pc' := 57) ji_208_56 rfl rfl rfl ?_
              refine wl_icmp (t := 64) ji_208_57 rfl (by omega) (by omega) (fun (hb52 : ¬ (t : Int) = 1) => ?_) (fun (hb52 : ¬ (¬ (t : Int) = 1)) => ?_)
              · refine wl_s (pc' := 65) ji_208_64 rfl rfl rfl ?_
                refine wl_s (pc' := 66) ji_208_65 rfl rfl rfl ?_
                refine rp_g9 V ji_208_66 jf_208_95 ?_
                refine wl_s (pc' := 70) ji_208_69 rfl rfl rfl ?_
                refine wl_icmp (t := 80) ji_208_70 rfl (by omega) (by omega) (fun (hb53 : ¬ (t : Int) = 1) => ?_) (fun (hb53 : ¬ (¬ (t : Int) = 1)) => ?_)
                · refine wl_s (pc' := 81) ji_208_80 rfl rfl rfl ?_
                  obtain ⟨cs5, hcs5⟩ := rp_c V
                  refine wl_vc (d := d + 5) (as := [.ref 138, wp_i 1, wp_i x]) (rest := []) ji_208_81 jc_208_153 rfl hcs5 jk_203.symm (Nat.le_of_ble_eq_true rfl) rfl (by rw [jn_203]; rfl) (wq_em V hx0 (by omega)) (fun v1 h1 R => ?_)
                  obtain ⟨rfl, V⟩ := R
                  show wl_R _ _ 208 84 [some (.ref 138), some (wp_i x)] [] h1 _
                  refine wl_s (pc' := 85) ji_208_84 rfl rfl rfl ?_
                  obtain ⟨cs, hcs⟩ := rp_c V
                  refine wl_vc (d := d + 5) (as := [.ref 138]) (rest := []) ji_208_85 jc_208_171 rfl hcs jk_178.symm (Nat.le_of_ble_eq_true rfl) rfl (by rw [jn_178]; rfl) (wr_nt (d := d + 4) V D hL hp hw0) (fun v1 h1 R => ?_)
                  obtain ⟨rfl, k2, v2, q', r', t', n', w', tk2, tr2, hb, hw1, V⟩ := R
                  show wl_R _ _ 208 88 [some (.ref 138), some (wp_i x)] [] h1 _
                  refine wl_s (pc' := 89) ji_208_88 rfl rfl rfl ?_
                  refine wl_s (pc' := 90) ji_208_89 rfl rfl rfl ?_
                  refine rp_p19 (y := 1) (by omega) V ji_208_90 jf_208_180 (fun h V => ?_)
                  refine wl_s (pc' := 94) ji_208_93 rfl rfl rfl ?_
                  refine wl_bp ji_208_94 rfl ?_
                  obtain ⟨cshz, hcshz⟩ := rp_c V
                  refine wl_vc (d := d + 4 + 1) (as := [.ref 138, wp_i 7]) (rest := []) ji_208_96 jc_208_183 rfl hcshz jk_202.symm (Nat.le_of_ble_eq_true rfl) rfl (by rw [jn_202]; rfl) (wq_st (d := d + 4) (r := 7) hx0 (by omega) nn u _ (wr + 1) _ _ e V (by omega)) (fun v1 hz R => ?_)
                  obtain ⟨rfl, wrhz, tshz, hEz, hwrhz, V⟩ := R
                  have hslhz := stl_len (r := 7) u
                  have hsnhz := stn_r (r := 7) u
                  show wl_R _ _ 208 99 [some (.ref 138), some (wp_i x)] [] hz _
                  refine wl_s (pc' := 100) ji_208_99 rfl rfl rfl ?_
                  exact wl_ri ji_208_100 jr_208 rfl (Or.inr ⟨by omega, Or.inr ⟨fun z => z.2 (hyo.mp (by omega)), Or.inl ⟨by omega, rfl, k2, v2, q', r', t', n', wrhz, w', tshz, ⟨tk2, tr2, hb, hw1⟩, (by first | (exfalso; omega) | (rw [if_pos (show k = 1 by omega), if_pos (show k = 1 by omega)]; exact qE_c hEz) | (rw [if_neg (show ¬ k = 1 by omega), if_neg (show ¬ k = 1 by omega)]; exact qE_c hEz)), by omega, V⟩⟩⟩)
                · refine wl_s (pc' := 74) ji_208_73 rfl rfl rfl ?_
                  refine rp_g10 V ji_208_74 jf_208_102 ?_
                  refine wl_goto (t := 81) ji_208_77 rfl ?_
                  obtain ⟨cs5, hcs5⟩ := rp_c V
                  refine wl_vc (d := d + 5) (as := [.ref 138, wp_i 1, wp_i n]) (rest := []) ji_208_81 jc_208_153 rfl hcs5 jk_203.symm (Nat.le_of_ble_eq_true rfl) rfl (by rw [jn_203]; rfl) (wq_em V hx0 (by omega)) (fun v1 h1 R => ?_)
                  obtain ⟨rfl, V⟩ := R
                  show wl_R _ _ 208 84 [some (.ref 138), some (wp_i x)] [] h1 _
                  refine wl_s (pc' := 85) ji_208_84 rfl rfl rfl ?_
                  obtain ⟨cs, hcs⟩ := rp_c V
                  refine wl_vc (d := d + 5) (as := [.ref 138]) (rest := []) ji_208_85 jc_208_171 rfl hcs jk_178.symm (Nat.le_of_ble_eq_true rfl) rfl (by rw [jn_178]; rfl) (wr_nt (d := d + 4) V D hL hp hw0) (fun v1 h1 R => ?_)
                  obtain ⟨rfl, k2, v2, q', r', t', n', w', tk2, tr2, hb, hw1, V⟩ := R
                  show wl_R _ _ 208 88 [some (.ref 138), some (wp_i x)] [] h1 _
                  refine wl_s (pc' := 89) ji_208_88 rfl rfl rfl ?_
                  refine wl_s (pc' := 90) ji_208_89 rfl rfl rfl ?_
                  refine rp_p19 (y := 1) (by omega) V ji_208_90 jf_208_180 (fun h V => ?_)
                  refine wl_s (pc' := 94) ji_208_93 rfl rfl rfl ?_
                  refine wl_bp ji_208_94 rfl ?_
                  obtain ⟨cshz, hcshz⟩ := rp_c V
                  refine wl_vc (d := d + 4 + 1) (as := [.ref 138, wp_i 7]) (rest := []) ji_208_96 jc_208_183 rfl hcshz jk_202.symm (Nat.le_of_ble_eq_true rfl) rfl (by rw [jn_202]; rfl) (wq_st (d := d + 4) (r := 7) hx0 (by omega) nn u _ (wr + 1) _ _ e V (by omega)) (fun v1 hz R => ?_)
                  obtain ⟨rfl, wrhz, tshz, hEz, hwrhz, V⟩ := R
                  have hslhz := stl_len (r := 7) u
                  have hsnhz := stn_r (r := 7) u
                  show wl_R _ _ 208 99 [some (.ref 138), some (wp_i x)] [] hz _
                  refine wl_s (pc' := 100) ji_208_99 rfl rfl rfl ?_
                  exact wl_ri ji_208_100 jr_208 rfl (Or.inr ⟨by omega, Or.inr ⟨fun z => z.2 (hyo.mp (by omega)), Or.inl ⟨by omega, rfl, k2, v2, q', r', t', n', wrhz, w', tshz, ⟨tk2, tr2, hb, hw1⟩, (by first | (exfalso; omega) | (rw [if_pos (show k = 1 by omega), if_pos (show k = 1 by omega)]; exact qE_c hEz) | (rw [if_neg (show ¬ k = 1 by omega), if_neg (show ¬ k = 1 by omega)]; exact qE_c hEz)), by omega, V⟩⟩⟩)
              · refine wl_s (pc' := 61) ji_208_60 rfl rfl rfl ?_
                refine wl_goto (t := 65) ji_208_61 rfl ?_
                refine wl_s (pc' := 66) ji_208_65 rfl rfl rfl ?_
                refine rp_g9 V ji_208_66 jf_208_95 ?_
                refine wl_s (pc' := 70) ji_208_69 rfl rfl rfl ?_
                refine wl_icmp (t := 80) ji_208_70 rfl (by omega) (by omega) (fun (hb54 : ¬ (t : Int) = 1) => ?_) (fun (hb54 : ¬ (¬ (t : Int) = 1)) => ?_)
                · refine wl_s (pc' := 81) ji_208_80 rfl rfl rfl ?_
                  obtain ⟨cs5, hcs5⟩ := rp_c V
                  refine wl_vc (d := d + 5) (as := [.ref 138, wp_i 0, wp_i x]) (rest := []) ji_208_81 jc_208_153 rfl hcs5 jk_203.symm (Nat.le_of_ble_eq_true rfl) rfl (by rw [jn_203]; rfl) (wq_em V hx0 (by omega)) (fun v1 h1 R => ?_)
                  obtain ⟨rfl, V⟩ := R
                  show wl_R _ _ 208 84 [some (.ref 138), some (wp_i x)] [] h1 _
                  refine wl_s (pc' := 85) ji_208_84 rfl rfl rfl ?_
                  obtain ⟨cs, hcs⟩ := rp_c V
                  refine wl_vc (d := d + 5) (as := [.ref 138]) (rest := []) ji_208_85 jc_208_171 rfl hcs jk_178.symm (Nat.le_of_ble_eq_true rfl) rfl (by rw [jn_178]; rfl) (wr_nt (d := d + 4) V D hL hp hw0) (fun v1 h1 R => ?_)
                  obtain ⟨rfl, k2, v2, q', r', t', n', w', tk2, tr2, hb, hw1, V⟩ := R
                  show wl_R _ _ 208 88 [some (.ref 138), some (wp_i x)] [] h1 _
                  refine wl_s (pc' := 89) ji_208_88 rfl rfl rfl ?_
                  refine wl_s (pc' := 90) ji_208_89 rfl rfl rfl ?_
                  refine rp_p19 (y := 1) (by omega) V ji_208_90 jf_208_180 (fun h V => ?_)
                  refine wl_s (pc' := 94) ji_208_93 rfl rfl rfl ?_
                  refine wl_bp ji_208_94 rfl ?_
                  obtain ⟨cshz, hcshz⟩ := rp_c V
                  refine wl_vc (d := d + 4 + 1) (as := [.ref 138, wp_i 7]) (rest := []) ji_208_96 jc_208_183 rfl hcshz jk_202.symm (Nat.le_of_ble_eq_true rfl) rfl (by rw [jn_202]; rfl) (wq_st (d := d + 4) (r := 7) hx0 (by omega) nn u _ (wr + 1) _ _ e V (by omega)) (fun v1 hz R => ?_)
                  obtain ⟨rfl, wrhz, tshz, hEz, hwrhz, V⟩ := R
                  have hslhz := stl_len (r := 7) u
                  have hsnhz := stn_r (r := 7) u
                  show wl_R _ _ 208 99 [some (.ref 138), some (wp_i x)] [] hz _
                  refine wl_s (pc' := 100) ji_208_99 rfl rfl rfl ?_
                  exact wl_ri ji_208_100 jr_208 rfl (Or.inr ⟨by omega, Or.inr ⟨fun z => z.2 (hyo.mp (by omega)), Or.inl ⟨by omega, rfl, k2, v2, q', r', t', n', wrhz, w', tshz, ⟨tk2, tr2, hb, hw1⟩, (by first | (exfalso; omega) | (rw [if_pos (show k = 1 by omega), if_pos (show k = 1 by omega)]; exact qE_c hEz) | (rw [if_neg (show ¬ k = 1 by omega), if_neg (show ¬ k = 1 by omega)]; exact qE_c hEz)), by omega, V⟩⟩⟩)
                · refine wl_s (pc' := 74) ji_208_73 rfl rfl rfl ?_
                  refine rp_g10 V ji_208_74 jf_208_102 ?_
                  refine wl_goto (t := 81) ji_208_77 rfl ?_
                  obtain ⟨cs5, hcs5⟩ := rp_c V
                  refine wl_vc (d := d + 5) (as := [.ref 138, wp_i 0, wp_i n]) (rest := []) ji_208_81 jc_208_153 rfl hcs5 jk_203.symm (Nat.le_of_ble_eq_true rfl) rfl (by rw [jn_203]; rfl) (wq_em V hx0 (by omega)) (fun v1 h1 R => ?_)
                  obtain ⟨rfl, V⟩ := R
                  show wl_R _ _ 208 84 [some (.ref 138), some (wp_i x)] [] h1 _
                  refine wl_s (pc' := 85) ji_208_84 rfl rfl rfl ?_
                  obtain ⟨cs, hcs⟩ := rp_c V
                  refine wl_vc (d := d + 5) (as := [.ref 138]) (rest := []) ji_208_85 jc_208_171 rfl hcs jk_178.symm (Nat.le_of_ble_eq_true rfl) rfl (by rw [jn_178]; rfl) (wr_nt (d := d + 4) V D hL hp hw0) (fun v1 h1 R => ?_)
                  obtain ⟨rfl, k2, v2, q', r', t', n', w', tk2, tr2, hb, hw1, V⟩ := R
                  show wl_R _ _ 208 88 [some (.ref 138), some (wp_i x)] [] h1 _
                  refine wl_s (pc' := 89) ji_208_88 rfl rfl rfl ?_
                  refine wl_s (pc' := 90) ji_208_89 rfl rfl rfl ?_
                  refine rp_p19 (y := 1) (by omega) V ji_208_90 jf_208_180 (fun h V => ?_)
                  refine wl_s (pc' := 94) ji_208_93 rfl rfl rfl ?_
                  refine wl_bp ji_208_94 rfl ?_
                  obtain ⟨cshz, hcshz⟩ := rp_c V
                  refine wl_vc (d := d + 4 + 1) (as := [.ref 138, wp_i 7]) (rest := []) ji_208_96 jc_208_183 rfl hcshz jk_202.symm (Nat.le_of_ble_eq_true rfl) rfl (by rw [jn_202]; rfl) (wq_st (d := d + 4) (r := 7) hx0 (by omega) nn u _ (wr + 1) _ _ e V (by omega)) (fun v1 hz R => ?_)
                  obtain ⟨rfl, wrhz, tshz, hEz, hwrhz, V⟩ := R
                  have hslhz := stl_len (r := 7) u
                  have hsnhz := stn_r (r := 7) u
                  show wl_R _ _ 208 99 [some (.ref 138), some (wp_i x)] [] hz _
                  refine wl_s (pc' := 100) ji_208_99 rfl rfl rfl ?_
                  exact wl_ri ji_208_100 jr_208 rfl (Or.inr ⟨by omega, Or.inr ⟨fun z => z.2 (hyo.mp (by omega)), Or.inl ⟨by omega, rfl, k2, v2, q', r', t', n', wrhz, w', tshz, ⟨tk2, tr2, hb, hw1⟩, (by first | (exfalso; omega) | (rw [if_pos (show k = 1 by omega), if_pos (show k = 1 by omega)]; exact qE_c hEz) | (rw [if_neg (show ¬ k = 1 by omega), if_neg (show ¬ k = 1 by omega)]; exact qE_c hEz)), by omega, V⟩⟩⟩)
        · refine wl_s (pc' := 38) ji_208_37 rfl rfl rfl ?_
          exact wl_ri ji_208_38 jr_208 rfl (Or.inr ⟨by omega, Or.inl ⟨⟨by omega, fun z => by have := hyo.mpr z; omega⟩, rfl, rfl⟩⟩)
    · refine wl_s (pc' := 19) ji_208_18 rfl rfl rfl ?_
      exact wl_ri ji_208_19 jr_208 rfl (Or.inl ⟨by omega, rfl, rfl⟩)

theorem wq_b2 {nn d : Nat} {h0 h : mj_H} {fs0 bl pl ts : List Value} {L p q t n x0 wr so pd op am wi ei oc cn : Int} {w : Nat} (V : rP h0 h fs0 bl L p q t n x0 wr so pd op am wi ei oc cn w pl ts) {u : List Int} (e : pn pl u) (hl : (u.length : Int) ≤ 200) (hpd : pd = (u.length : Int)) (hop : 0 ≤ op ∧ op ≤ 1000) (ham : 0 ≤ am ∧ am ≤ 100) (D : tB bl) (hL : 0 ≤ L ∧ L ≤ 300) (hp : 0 ≤ p ∧ p ≤ L) (hw0 : w ≤ 2 ^ 60) (hx0 : 0 ≤ x0 ∧ x0 ≤ 3000) (hwr : 0 ≤ wr ∧ wr ≤ 900000) (hei : ei = 0 ∨ ei = 1) {k v : Int} (T : tkr k v t n w) (htr : wp_r t) : wl_R nn (d + 6) 195 0 [some (.ref 138), none, none] [] h (fun v9 h1 => (0 ≤ (bto k v t ei u) ∧ v9 = some (wp_i 0) ∧ ∃ (k2 v2 q' r' t' n' wr' : Int) (w' : Nat) (pl' ts' : List Value), (tok (bt bl L) p k2 v2 q' r' ∧ tkr k2 v2 t' n' w' ∧ (0 ≤ q' ∧ r' ≤ L) ∧ w' ≤ 2 ^ 60) ∧ qE x0 ts wr (stE (pr_rank (bto k v t ei u)) u) ts' wr' ∧ (wr ≤ wr' ∧ wr' ≤ wr + (u.length : Int)) ∧ pn pl' ((bto k v t ei u) :: stl (pr_rank (bto k v t ei u)) u) ∧ rP h0 h1 fs0 bl L r' q' t' n' x0 wr' so (((stl (pr_rank (bto k v t ei u)) u).length : Int) + 1) (op - stn (pr_rank (bto k v t ei u)) u) am 0 ei oc cn w' pl' ts') ∨ ((bto k v t ei u) < 0 ∧ ((((ei = 1 ∧ opw u = -1) ∧ cmd u = false ∧ (k = 0 ∧ v = 16)) ∧ (∃ k v q' r', tok (bt bl L) p k v q' r' ∧ ((¬ (k = 2 ∧ v = 40) ∧ v9 = some (wp_i 1) ∧ ∃ (t' n' wr' : Int) (w' : Nat) (pl' ts' : List Value), tkr k v t' n' w' ∧ w' ≤ 2 ^ 60 ∧ (wr ≤ wr' ∧ wr' ≤ wr + (u.length : Int)) ∧ rP h0 h1 fs0 bl L r' q' t' n' x0 wr' so ((stl 5 u).length : Int) (op - stn 5 u) am 0 ei oc cn w' pl' ts') ∨ ((k = 2 ∧ v = 40) ∧ ((op - stn 5 u = 8 ∧ v9 = some (wp_i 3) ∧ ∃ (t' n' wr' : Int) (w' : Nat) (pl' ts' : List Value), tkr k v t' n' w' ∧ w' ≤ 2 ^ 60 ∧ (wr ≤ wr' ∧ wr' ≤ wr + (u.length : Int)) ∧ rP h0 h1 fs0 bl L r' q' t' n' x0 wr' so ((stl 5 u).length : Int) (op - stn 5 u) 1 0 ei oc cn w' pl' ts') ∨ (¬ op - stn 5 u = 8 ∧ v9 = some (wp_i 0) ∧ ∃ (k2 v2 q2 r2 t2 n2 wr' : Int) (w2 : Nat) (pl' ts' : List Value), (tok (bt bl L) r' k2 v2 q2 r2 ∧ tkr k2 v2 t2 n2 w2 ∧ (0 ≤ q2 ∧ r2 ≤ L) ∧ w2 ≤ 2 ^ 60) ∧ qE x0 ts wr (stE 5 u) ts' wr' ∧ (wr ≤ wr' ∧ wr' ≤ wr + (u.length : Int)) ∧ pn pl' (41 :: stl 5 u) ∧ rP h0 h1 fs0 bl L r2 q2 t2 n2 x0 wr' so (((stl 5 u).length : Int) + 1) (op - stn 5 u + 1) 1 0 ei oc cn w2 pl' ts')))))) ∨ (¬ ((ei = 1 ∧ opw u = -1) ∧ cmd u = false ∧ (k = 0 ∧ v = 16)) ∧ (((opw u = 41 ∧ t = 44) ∧ ((am = 6 ∧ h1 = h ∧ v9 = some (wp_i 7)) ∨ (¬ am = 6 ∧ v9 = some (wp_i 0) ∧ ∃ (k2 v2 q' r' t' n' wr' : Int) (w' : Nat) (pl' ts' : List Value), (tok (bt bl L) p k2 v2 q' r' ∧ tkr k2 v2 t' n' w' ∧ (0 ≤ q' ∧ r' ≤ L) ∧ w' ≤ 2 ^ 60) ∧ qE x0 ts wr (stE 1 u) ts' wr' ∧ (wr ≤ wr' ∧ wr' ≤ wr + (u.length : Int)) ∧ pn pl' (stl 1 u) ∧ rP h0 h1 fs0 bl L r' q' t' n' x0 wr' so ((stl 1 u).length : Int) (op - stn 1 u) (am + 1) 0 ei oc cn w' pl' ts'))) ∨ (¬ (opw u = 41 ∧ t = 44) ∧ (((opw u = -1 ∨ ¬ t = 41) ∧ v9 = some (wp_i (-1)) ∧ h1 = h) ∨ ((¬ opw u = -1 ∧ t = 41) ∧ (v9 = some (wp_i 0) ∧ ∃ u2, stl 1 u = opw u :: u2 ∧ ∃ (k2 v2 q' r' t' n' : Int) (w' : Nat), tok (bt bl L) p k2 v2 q' r' ∧ tkr k2 v2 t' n' w' ∧ (0 ≤ q' ∧ r' ≤ L) ∧ w' ≤ 2 ^ 60 ∧ ((opw u = 41 ∧ ∃ (wr' : Int) (pl' ts' : List Value), qE x0 ts wr (stE 1 u ++ [(2, am)]) ts' wr' ∧ (wr ≤ wr' ∧ wr' ≤ wr + (u.length : Int) + 1) ∧ pn pl' (16 :: u2) ∧ rP h0 h1 fs0 bl L r' q' t' n' x0 wr' so ((u2.length : Int) + 1) (op - stn 1 u - 1) am wi ei oc cn w' pl' ts') ∨ (¬ opw u = 41 ∧ ∃ (wr' : Int) (pl' ts' : List Value), qE x0 ts wr (stE 1 u ++ stE 7 u2) ts' wr' ∧ (wr ≤ wr' ∧ wr' ≤ wr + 2 * (u.length : Int)) ∧ pn pl' (stl 7 u2) ∧ rP h0 h1 fs0 bl L r' q' t' n' x0 wr' so ((stl 7 u2).length : Int) (op - stn 1 u - 1 - stn 7 u2) am wi ei oc cn w' pl' ts'))))))))))) := by
  subst hpd
  refine wl_s (pc' := 1) ji_195_0 rfl rfl rfl ?_
  obtain ⟨cs, hcs⟩ := rp_c V
  refine wl_vc (d := d + 5) (as := [.ref 138]) (rest := []) ji_195_1 jc_195_205 rfl hcs jk_196.symm (Nat.le_of_ble_eq_true rfl) rfl (by rw [jn_196]; rfl) (wr_bt (d := d) V e (by omega) rfl hei T hw0 htr) (fun v1 h1 R => ?_)
  obtain ⟨ee, rfl⟩ := R
  subst ee
  have hxr := bto_r k v t ei u
  obtain ⟨x, hx⟩ : ∃ x, bto k v t ei u = x := ⟨_, rfl⟩
  rw [hx] at hxr ⊢
  show wl_R _ _ 195 4 [some (.ref 138), none, none] [wp_i x] h1 _
  refine wl_s (pc' := 5) (lv' := [some (.ref 138), some (wp_i x), none]) ji_195_4 rfl rfl rfl ?_
  refine wl_s (pc' := 6) ji_195_5 rfl rfl rfl ?_
  refine wl_if (t := 48) ji_195_6 rfl (by omega) (fun (hb1 : (x : Int) < 0) => ?_) (fun (hb1 : ¬ ((x : Int) < 0)) => ?_)
  · refine wl_s (pc' := 49) ji_195_48 rfl rfl rfl ?_
    obtain ⟨cs, hcs⟩ := rp_c V
    refine wl_vc (d := d + 5) (as := [.ref 138]) (rest := []) ji_195_49 jc_195_163 rfl hcs jk_198.symm (Nat.le_of_ble_eq_true rfl) rfl (by rw [jn_198]; rfl) (wr_on (d := d + 5) V e (by omega) rfl) (fun v1 h1 R => ?_)
    obtain ⟨ee, rfl⟩ := R
    subst ee
    have hor := opw_r e
    obtain ⟨o, ho⟩ : ∃ o, opw u = o := ⟨_, rfl⟩
    rw [ho] at hor ⊢
    show wl_R _ _ 195 52 [some (.ref 138), some (wp_i x), none] [wp_i o] h1 _
    refine wl_s (pc' := 53) (lv' := [some (.ref 138), some (wp_i x), some (wp_i o)]) ji_195_52 rfl rfl rfl ?_
    refine wl_s (pc' := 54) ji_195_53 rfl rfl rfl ?_
    obtain ⟨cs, hcs⟩ := rp_c V
    refine wl_vc (d := d + 5) (as := [.ref 138]) (rest := []) ji_195_54 jc_195_167 rfl hcs jk_197.symm (Nat.le_of_ble_eq_true rfl) rfl (by rw [jn_197]; rfl) (wr_ah (d := d + 4) V e (by omega) rfl hei) (fun v1 h1 R => ?_)
    obtain ⟨ee, a, rfl, haa, hab⟩ := R
    subst ee
    rw [ho] at hab
    show wl_R _ _ 195 57 [some (.ref 138), some (wp_i x), some (wp_i o)] [wp_i a] h1 _
    refine wl_if (t := 86) ji_195_57 rfl (by omega) (fun (hb2 : (a : Int) = 0) => ?_) (fun (hb2 : ¬ ((a : Int) = 0)) => ?_)
    · refine wl_s (pc' := 87) ji_195_86 rfl rfl rfl ?_
      refine wl_bp ji_195_87 rfl ?_
      refine wl_icmp (t := 106) ji_195_89 rfl (by omega) (by omega) (fun (hb3 : ¬ (o : Int) = 41) => ?_) (fun (hb3 : ¬ (¬ (o : Int) = 41)) => ?_)
      · refine wl_s (pc' := 107) ji_195_106 rfl rfl rfl ?_
        refine wl_s (pc' := 108) ji_195_107 rfl rfl rfl ?_
        refine wl_icmp (t := 120) ji_195_108 rfl (by omega) (by omega) (fun (hb4 : (o : Int) = (-1)) => ?_) (fun (hb4 : ¬ ((o : Int) = (-1))) => ?_)
        · refine wl_s (pc' := 121) ji_195_120 rfl rfl rfl ?_
          have gn : ¬ ((ei = 1 ∧ o = -1) ∧ cmd u = false ∧ (k = 0 ∧ v = 16)) := fun z => by have := hab.mpr z.1; omega
          exact wl_ri ji_195_121 jr_195 rfl (Or.inr ⟨by omega, Or.inr ⟨gn, Or.inr ⟨by omega, Or.inl ⟨by omega, rfl, rfl⟩⟩⟩⟩)
        · refine wl_s (pc' := 112) ji_195_111 rfl rfl rfl ?_
          refine rp_g9 V ji_195_112 jf_195_95 ?_
          refine wl_bp ji_195_115 rfl ?_
          refine wl_icmp (t := 122) ji_195_117 rfl (by omega) (by omega) (fun (hb5 : (t : Int) = 41) => ?_) (fun (hb5 : ¬ ((t : Int) = 41)) => ?_)
          · refine wl_s (pc' := 123) ji_195_122 rfl rfl rfl ?_
            refine wl_s (pc' := 124) ji_195_123 rfl rfl rfl ?_
            have gn : ¬ ((ei = 1 ∧ o = -1) ∧ cmd u = false ∧ (k = 0 ∧ v = 16)) := fun z => by have := hab.mpr z.1; omega
            have gc : ¬ (o = 41 ∧ t = 44) := by omega
            have gx : x < 0 := by omega
            have gd : ¬ o = -1 ∧ t = 41 := by omega
            obtain ⟨u2, hu2⟩ := stl_1 e (by rw [ho]; exact gd.1)
            rw [ho] at hu2
            obtain ⟨cs9, hcs9⟩ := rp_c V
            refine wl_vc (d := d + 5) (as := [.ref 138, wp_i o]) (rest := []) ji_195_124 jc_195_214 rfl hcs9 jk_207.symm (Nat.le_of_ble_eq_true rfl) rfl (by rw [jn_207]; rfl) (wq_sh (d := d + 3) (o := o) V e hl rfl hop ham D hL hp hw0 hx0 hwr hu2 (by omega)) (fun v1 h9 R => ?_)
            obtain ⟨rfl, R⟩ := R
            show wl_R _ _ 195 127 [some (.ref 138), some (wp_i x), some (wp_i o)] [] h9 _
            refine wl_s (pc' := 128) ji_195_127 rfl rfl rfl ?_
            exact wl_ri ji_195_128 jr_195 rfl (Or.inr ⟨gx, Or.inr ⟨gn, Or.inr ⟨gc, Or.inr ⟨gd, rfl, u2, hu2, R⟩⟩⟩⟩)
          · refine wl_s (pc' := 121) ji_195_120 rfl rfl rfl ?_
            have gn : ¬ ((ei = 1 ∧ o = -1) ∧ cmd u = false ∧ (k = 0 ∧ v = 16)) := fun z => by have := hab.mpr z.1; omega
            exact wl_ri ji_195_121 jr_195 rfl (Or.inr ⟨by omega, Or.inr ⟨gn, Or.inr ⟨by omega, Or.inl ⟨by omega, rfl, rfl⟩⟩⟩⟩)
      · refine wl_s (pc' := 93) ji_195_92 rfl rfl rfl ?_
        refine rp_g9 V ji_195_93 jf_195_95 ?_
        refine wl_bp ji_195_96 rfl ?_
        refine wl_icmp (t := 106) ji_195_98 rfl (by omega) (by omega) (fun (hb6 : ¬ (t : Int) = 44) => ?_) (fun (hb6 : ¬ (¬ (t : Int) = 44)) => ?_)
        · refine wl_s (pc' := 107) ji_195_106 rfl rfl rfl ?_
          refine wl_s (pc' := 108) ji_195_107 rfl rfl rfl ?_
          refine wl_icmp (t := 120) ji_195_108 rfl (by omega) (by omega) (fun (hb7 : (o : Int) = (-1)) => ?_) (fun (hb7 : ¬ ((o : Int) = (-1))) => ?_)
          · refine wl_s (pc' := 121) ji_195_120 rfl rfl rfl ?_
            have gn : ¬ ((ei = 1 ∧ o = -1) ∧ cmd u = false ∧ (k = 0 ∧ v = 16)) := fun z => by have := hab.mpr z.1; omega
            exact wl_ri ji_195_121 jr_195 rfl (Or.inr ⟨by omega, Or.inr ⟨gn, Or.inr ⟨by omega, Or.inl ⟨by omega, rfl, rfl⟩⟩⟩⟩)
          · refine wl_s (pc' := 112) ji_195_111 rfl rfl rfl ?_
            refine rp_g9 V ji_195_112 jf_195_95 ?_
            refine wl_bp ji_195_115 rfl ?_
            refine wl_icmp (t := 122) ji_195_117 rfl (by omega) (by omega) (fun (hb8 : (t : Int) = 41) => ?_) (fun (hb8 : ¬ ((t : Int) = 41)) => ?_)
            · refine wl_s (pc' := 123) ji_195_122 rfl rfl rfl ?_
              refine wl_s (pc' := 124) ji_195_123 rfl rfl rfl ?_
              have gn : ¬ ((ei = 1 ∧ o = -1) ∧ cmd u = false ∧ (k = 0 ∧ v = 16)) := fun z => by have := hab.mpr z.1; omega
              have gc : ¬ (o = 41 ∧ t = 44) := by omega
              have gx : x < 0 := by omega
              have gd : ¬ o = -1 ∧ t = 41 := by omega
              obtain ⟨u2, hu2⟩ := stl_1 e (by rw [ho]; exact gd.1)
              rw [ho] at hu2
              obtain ⟨cs9, hcs9⟩ := rp_c V
              refine wl_vc (d := d + 5) (as := [.ref 138, wp_i o]) (rest := []) ji_195_124 jc_195_214 rfl hcs9 jk_207.symm (Nat.le_of_ble_eq_true rfl) rfl (by rw [jn_207]; rfl) (wq_sh (d := d + 3) (o := o) V e hl rfl hop ham D hL hp hw0 hx0 hwr hu2 (by omega)) (fun v1 h9 R => ?_)
              obtain ⟨rfl, R⟩ := R
              show wl_R _ _ 195 127 [some (.ref 138), some (wp_i x), some (wp_i o)] [] h9 _
              refine wl_s (pc' := 128) ji_195_127 rfl rfl rfl ?_
              exact wl_ri ji_195_128 jr_195 rfl (Or.inr ⟨gx, Or.inr ⟨gn, Or.inr ⟨gc, Or.inr ⟨gd, rfl, u2, hu2, R⟩⟩⟩⟩)
            · refine wl_s (pc' := 121) ji_195_120 rfl rfl rfl ?_
              have gn : ¬ ((ei = 1 ∧ o = -1) ∧ cmd u = false ∧ (k = 0 ∧ v = 16)) := fun z => by have := hab.mpr z.1; omega
              exact wl_ri ji_195_121 jr_195 rfl (Or.inr ⟨by omega, Or.inr ⟨gn, Or.inr ⟨by omega, Or.inl ⟨by omega, rfl, rfl⟩⟩⟩⟩)
        · refine wl_s (pc' := 102) ji_195_101 rfl rfl rfl ?_
          have gn : ¬ ((ei = 1 ∧ o = -1) ∧ cmd u = false ∧ (k = 0 ∧ v = 16)) := fun z => by have := hab.mpr z.1; omega
          have gc : o = 41 ∧ t = 44 := by omega
          have gx : x < 0 := by omega
          obtain ⟨cs, hcs⟩ := rp_c V
          refine wl_vc (d := d + 5) (as := [.ref 138]) (rest := []) ji_195_102 jc_195_211 rfl hcs jk_206.symm (Nat.le_of_ble_eq_true rfl) rfl (by rw [jn_206]; rfl) (wq_na (d := d + 3) V e hl rfl hop ham D hL hp hw0 hx0 hwr) (fun v1 h9 R => ?_)
          obtain ⟨y9, hy9⟩ : ∃ y9 : Int, v1 = some (wp_i y9) := by rcases R with ⟨-, -, z⟩ | ⟨-, z, -⟩ <;> exact ⟨_, z⟩
          subst hy9
          show wl_R _ _ 195 105 [some (.ref 138), some (wp_i x), some (wp_i o)] [wp_i y9] h9 _
          exact wl_ri ji_195_105 jr_195 rfl (Or.inr ⟨gx, Or.inr ⟨gn, Or.inl ⟨gc, R⟩⟩⟩)
    · refine wl_s (pc' := 61) ji_195_60 rfl rfl rfl ?_
      obtain ⟨cs, hcs⟩ := rp_c V
      refine wl_vc (d := d + 5) (as := [.ref 138]) (rest := []) ji_195_61 jc_195_196 rfl hcs jk_199.symm (Nat.le_of_ble_eq_true rfl) rfl (by rw [jn_199]; rfl) (wr_cm (d := d + 4) V e (by omega) rfl) (fun v1 h1 R => ?_)
      obtain ⟨ee, rfl⟩ := R
      subst ee
      have hbb := bi_01 (cmd u)
      have hbt : bi (cmd u) = 0 → cmd u = false := by cases cmd u with | true => intro z; cases z | false => intro _; rfl
      have hbf : cmd u = false → bi (cmd u) = 0 := fun z => by rw [z]; rfl
      obtain ⟨b, hb⟩ : ∃ b, bi (cmd u) = b := ⟨_, rfl⟩
      rw [hb] at hbb hbt hbf ⊢
      show wl_R _ _ 195 64 [some (.ref 138), some (wp_i x), some (wp_i o)] [wp_i b] h1 _
      refine wl_if (t := 86) ji_195_64 rfl (by omega) (fun (hb9 : ¬ (b : Int) = 0) => ?_) (fun (hb9 : ¬ (¬ (b : Int) = 0)) => ?_)
      · refine wl_s (pc' := 87) ji_195_86 rfl rfl rfl ?_
        refine wl_bp ji_195_87 rfl ?_
        refine wl_icmp (t := 106) ji_195_89 rfl (by omega) (by omega) (fun (hb10 : ¬ (o : Int) = 41) => ?_) (fun (hb10 : ¬ (¬ (o : Int) = 41)) => ?_)
        · refine wl_s (pc' := 107) ji_195_106 rfl rfl rfl ?_
          refine wl_s (pc' := 108) ji_195_107 rfl rfl rfl ?_
          refine wl_icmp (t := 120) ji_195_108 rfl (by omega) (by omega) (fun (hb11 : (o : Int) = (-1)) => ?_) (fun (hb11 : ¬ ((o : Int) = (-1))) => ?_)
          · refine wl_s (pc' := 121) ji_195_120 rfl rfl rfl ?_
            have gn : ¬ ((ei = 1 ∧ o = -1) ∧ cmd u = false ∧ (k = 0 ∧ v = 16)) := fun z => by have := hbf z.2.1; omega
            exact wl_ri ji_195_121 jr_195 rfl (Or.inr ⟨by omega, Or.inr ⟨gn, Or.inr ⟨by omega, Or.inl ⟨by omega, rfl, rfl⟩⟩⟩⟩)
          · refine wl_s (pc' := 112) ji_195_111 rfl rfl rfl ?_
            refine rp_g9 V ji_195_112 jf_195_95 ?_
            refine wl_bp ji_195_115 rfl ?_
            refine wl_icmp (t := 122) ji_195_117 rfl (by omega) (by omega) (fun (hb12 : (t : Int) = 41) => ?_) (fun (hb12 : ¬ ((t : Int) = 41)) => ?_)
            · refine wl_s (pc' := 123) ji_195_122 rfl rfl rfl ?_
              refine wl_s (pc' := 124) ji_195_123 rfl rfl rfl ?_
              have gn : ¬ ((ei = 1 ∧ o = -1) ∧ cmd u = false ∧ (k = 0 ∧ v = 16)) := fun z => by have := hbf z.2.1; omega
              have gc : ¬ (o = 41 ∧ t = 44) := by omega
              have gx : x < 0 := by omega
              have gd : ¬ o = -1 ∧ t = 41 := by omega
              obtain ⟨u2, hu2⟩ := stl_1 e (by rw [ho]; exact gd.1)
              rw [ho] at hu2
              obtain ⟨cs9, hcs9⟩ := rp_c V
              refine wl_vc (d := d + 5) (as := [.ref 138, wp_i o]) (rest := []) ji_195_124 jc_195_214 rfl hcs9 jk_207.symm (Nat.le_of_ble_eq_true rfl) rfl (by rw [jn_207]; rfl) (wq_sh (d := d + 3) (o := o) V e hl rfl hop ham D hL hp hw0 hx0 hwr hu2 (by omega)) (fun v1 h9 R => ?_)
              obtain ⟨rfl, R⟩ := R
              show wl_R _ _ 195 127 [some (.ref 138), some (wp_i x), some (wp_i o)] [] h9 _
              refine wl_s (pc' := 128) ji_195_127 rfl rfl rfl ?_
              exact wl_ri ji_195_128 jr_195 rfl (Or.inr ⟨gx, Or.inr ⟨gn, Or.inr ⟨gc, Or.inr ⟨gd, rfl, u2, hu2, R⟩⟩⟩⟩)
            · refine wl_s (pc' := 121) ji_195_120 rfl rfl rfl ?_
              have gn : ¬ ((ei = 1 ∧ o = -1) ∧ cmd u = false ∧ (k = 0 ∧ v = 16)) := fun z => by have := hbf z.2.1; omega
              exact wl_ri ji_195_121 jr_195 rfl (Or.inr ⟨by omega, Or.inr ⟨gn, Or.inr ⟨by omega, Or.inl ⟨by omega, rfl, rfl⟩⟩⟩⟩)
        · refine wl_s (pc' := 93) ji_195_92 rfl rfl rfl ?_
          refine rp_g9 V ji_195_93 jf_195_95 ?_
          refine wl_bp ji_195_96 rfl ?_
          refine wl_icmp (t := 106) ji_195_98 rfl (by omega) (by omega) (fun (hb13 : ¬ (t : Int) = 44) => ?_) (fun (hb13 : ¬ (¬ (t : Int) = 44)) => ?_)
          · refine wl_s (pc' := 107) ji_195_106 rfl rfl rfl ?_
            refine wl_s (pc' := 108) ji_195_107 rfl rfl rfl ?_
            refine wl_icmp (t := 120) ji_195_108 rfl (by omega) (by omega) (fun (hb14 : (o : Int) = (-1)) => ?_) (fun (hb14 : ¬ ((o : Int) = (-1))) => ?_)
            · refine wl_s (pc' := 121) ji_195_120 rfl rfl rfl ?_
              have gn : ¬ ((ei = 1 ∧ o = -1) ∧ cmd u = false ∧ (k = 0 ∧ v = 16)) := fun z => by have := hbf z.2.1; omega
              exact wl_ri ji_195_121 jr_195 rfl (Or.inr ⟨by omega, Or.inr ⟨gn, Or.inr ⟨by omega, Or.inl ⟨by omega, rfl, rfl⟩⟩⟩⟩)
            · refine wl_s (pc' := 112) ji_195_111 rfl rfl rfl ?_
              refine rp_g9 V ji_195_112 jf_195_95 ?_
              refine wl_bp ji_195_115 rfl ?_
              refine wl_icmp (t := 122) ji_195_117 rfl (by omega) (by omega) (fun (hb15 : (t : Int) = 41) => ?_) (fun (hb15 : ¬ ((t : Int) = 41)) => ?_)
              · refine wl_s (pc' := 123) ji_195_122 rfl rfl rfl ?_
                refine wl_s (pc' := 124) ji_195_123 rfl rfl rfl ?_
                have gn : ¬ ((ei = 1 ∧ o = -1) ∧ cmd u = false ∧ (k = 0 ∧ v = 16)) := fun z => by have := hbf z.2.1; omega
                have gc : ¬ (o = 41 ∧ t = 44) := by omega
                have gx : x < 0 := by omega
                have gd : ¬ o = -1 ∧ t = 41 := by omega
                obtain ⟨u2, hu2⟩ := stl_1 e (by rw [ho]; exact gd.1)
                rw [ho] at hu2
                obtain ⟨cs9, hcs9⟩ := rp_c V
                refine wl_vc (d := d + 5) (as := [.ref 138, wp_i o]) (rest := []) ji_195_124 jc_195_214 rfl hcs9 jk_207.symm (Nat.le_of_ble_eq_true rfl) rfl (by rw [jn_207]; rfl) (wq_sh (d := d + 3) (o := o) V e hl rfl hop ham D hL hp hw0 hx0 hwr hu2 (by omega)) (fun v1 h9 R => ?_)
                obtain ⟨rfl, R⟩ := R
                show wl_R _ _ 195 127 [some (.ref 138), some (wp_i x), some (wp_i o)] [] h9 _
                refine wl_s (pc' := 128) ji_195_127 rfl rfl rfl ?_
                exact wl_ri ji_195_128 jr_195 rfl (Or.inr ⟨gx, Or.inr ⟨gn, Or.inr ⟨gc, Or.inr ⟨gd, rfl, u2, hu2, R⟩⟩⟩⟩)
              · refine wl_s (pc' := 121) ji_195_120 rfl rfl rfl ?_
                have gn : ¬ ((ei = 1 ∧ o = -1) ∧ cmd u = false ∧ (k = 0 ∧ v = 16)) := fun z => by have := hbf z.2.1; omega
                exact wl_ri ji_195_121 jr_195 rfl (Or.inr ⟨by omega, Or.inr ⟨gn, Or.inr ⟨by omega, Or.inl ⟨by omega, rfl, rfl⟩⟩⟩⟩)
          · refine wl_s (pc' := 102) ji_195_101 rfl rfl rfl ?_
            have gn : ¬ ((ei = 1 ∧ o = -1) ∧ cmd u = false ∧ (k = 0 ∧ v = 16)) := fun z => by have := hbf z.2.1; omega
            have gc : o = 41 ∧ t = 44 := by omega
            have gx : x < 0 := by omega
            obtain ⟨cs, hcs⟩ := rp_c V
            refine wl_vc (d := d + 5) (as := [.ref 138]) (rest := []) ji_195_102 jc_195_211 rfl hcs jk_206.symm (Nat.le_of_ble_eq_true rfl) rfl (by rw [jn_206]; rfl) (wq_na (d := d + 3) V e hl rfl hop ham D hL hp hw0 hx0 hwr) (fun v1 h9 R => ?_)
            obtain ⟨y9, hy9⟩ : ∃ y9 : Int, v1 = some (wp_i y9) := by rcases R with ⟨-, -, z⟩ | ⟨-, z, -⟩ <;> exact ⟨_, z⟩
            subst hy9
            show wl_R _ _ 195 105 [some (.ref 138), some (wp_i x), some (wp_i o)] [wp_i y9] h9 _
            exact wl_ri ji_195_105 jr_195 rfl (Or.inr ⟨gx, Or.inr ⟨gn, Or.inl ⟨gc, R⟩⟩⟩)
      · refine wl_s (pc' := 68) ji_195_67 rfl rfl rfl ?_
        refine wl_bp ji_195_68 rfl ?_
        refine wl_bp ji_195_70 rfl ?_
        refine wl_sc (d := d + 5) (as := [wp_i 105, wp_i 110]) (rest := [.ref 138]) ji_195_72 jc_195_118 (Nat.le_of_ble_eq_true rfl) rfl (Nat.le_of_ble_eq_true rfl) rfl (by rw [jn_189]; rfl) (wr_w2 (by decide) (by decide)) (fun v1 h1 R => ?_)
        obtain ⟨ee, rfl⟩ := R
        subst ee
        obtain ⟨cs8, hcs8⟩ := rp_c V
        refine wl_vc (d := d + 5) (as := [.ref 138, .long (Int64.ofNat (wd [105, 110]))]) (rest := []) ji_195_75 jc_195_189 rfl hcs8 jk_190.symm (Nat.le_of_ble_eq_true rfl) rfl (by rw [jn_190]; rfl) (wr_iw (W := wd [105, 110]) V hw0 (by decide +kernel) htr) (fun v1 h1 R => ?_)
        obtain ⟨ee, z, rfl, hza, hzb⟩ := R
        subst ee
        rw [kw T (j := 16) (K := [105, 110]) rfl] at hzb
        show wl_R _ _ 195 78 [some (.ref 138), some (wp_i x), some (wp_i o)] [wp_i z] h1 _
        refine wl_if (t := 86) ji_195_78 rfl (by omega) (fun (hb16 : (z : Int) = 0) => ?_) (fun (hb16 : ¬ ((z : Int) = 0)) => ?_)
        · refine wl_s (pc' := 87) ji_195_86 rfl rfl rfl ?_
          refine wl_bp ji_195_87 rfl ?_
          refine wl_icmp (t := 106) ji_195_89 rfl (by omega) (by omega) (fun (hb17 : ¬ (o : Int) = 41) => ?_) (fun (hb17 : ¬ (¬ (o : Int) = 41)) => ?_)
          · refine wl_s (pc' := 107) ji_195_106 rfl rfl rfl ?_
            refine wl_s (pc' := 108) ji_195_107 rfl rfl rfl ?_
            refine wl_icmp (t := 120) ji_195_108 rfl (by omega) (by omega) (fun (hb18 : (o : Int) = (-1)) => ?_) (fun (hb18 : ¬ ((o : Int) = (-1))) => ?_)
            · refine wl_s (pc' := 121) ji_195_120 rfl rfl rfl ?_
              have gn : ¬ ((ei = 1 ∧ o = -1) ∧ cmd u = false ∧ (k = 0 ∧ v = 16)) := fun z => by have := hzb.mpr z.2.2; omega
              exact wl_ri ji_195_121 jr_195 rfl (Or.inr ⟨by omega, Or.inr ⟨gn, Or.inr ⟨by omega, Or.inl ⟨by omega, rfl, rfl⟩⟩⟩⟩)
            · refine wl_s (pc' := 112) ji_195_111 rfl rfl rfl ?_
              refine rp_g9 V ji_195_112 jf_195_95 ?_
              refine wl_bp ji_195_115 rfl ?_
              refine wl_icmp (t := 122) ji_195_117 rfl (by omega) (by omega) (fun (hb19 : (t : Int) = 41) => ?_) (fun (hb19 : ¬ ((t : Int) = 41)) => ?_)
              · refine wl_s (pc' := 123) ji_195_122 rfl rfl rfl ?_
                refine wl_s (pc' := 124) ji_195_123 rfl rfl rfl ?_
                have gn : ¬ ((ei = 1 ∧ o = -1) ∧ cmd u = false ∧ (k = 0 ∧ v = 16)) := fun z => by have := hzb.mpr z.2.2; omega
                have gc : ¬ (o = 41 ∧ t = 44) := by omega
                have gx : x < 0 := by omega
                have gd : ¬ o = -1 ∧ t = 41 := by omega
                obtain ⟨u2, hu2⟩ := stl_1 e (by rw [ho]; exact gd.1)
                rw [ho] at hu2
                obtain ⟨cs9, hcs9⟩ := rp_c V
                refine wl_vc (d := d + 5) (as := [.ref 138, wp_i o]) (rest := []) ji_195_124 jc_195_214 rfl hcs9 jk_207.symm (Nat.le_of_ble_eq_true rfl) rfl (by rw [jn_207]; rfl) (wq_sh (d := d + 3) (o := o) V e hl rfl hop ham D hL hp hw0 hx0 hwr hu2 (by omega)) (fun v1 h9 R => ?_)
                obtain ⟨rfl, R⟩ := R
                show wl_R _ _ 195 127 [some (.ref 138), some (wp_i x), some (wp_i o)] [] h9 _
                refine wl_s (pc' := 128) ji_195_127 rfl rfl rfl ?_
                exact wl_ri ji_195_128 jr_195 rfl (Or.inr ⟨gx, Or.inr ⟨gn, Or.inr ⟨gc, Or.inr ⟨gd, rfl, u2, hu2, R⟩⟩⟩⟩)
              · refine wl_s (pc' := 121) ji_195_120 rfl rfl rfl ?_
                have gn : ¬ ((ei = 1 ∧ o = -1) ∧ cmd u = false ∧ (k = 0 ∧ v = 16)) := fun z => by have := hzb.mpr z.2.2; omega
                exact wl_ri ji_195_121 jr_195 rfl (Or.inr ⟨by omega, Or.inr ⟨gn, Or.inr ⟨by omega, Or.inl ⟨by omega, rfl, rfl⟩⟩⟩⟩)
          · refine wl_s (pc' := 93) ji_195_92 rfl rfl rfl ?_
            refine rp_g9 V ji_195_93 jf_195_95 ?_
            refine wl_bp ji_195_96 rfl ?_
            refine wl_icmp (t := 106) ji_195_98 rfl (by omega) (by omega) (fun (hb20 : ¬ (t : Int) = 44) => ?_) (fun (hb20 : ¬ (¬ (t : Int) = 44)) => ?_)
            · refine wl_s (pc' := 107) ji_195_106 rfl rfl rfl ?_
              refine wl_s (pc' := 108) ji_195_107 rfl rfl rfl ?_
              refine wl_icmp (t := 120) ji_195_108 rfl (by omega) (by omega) (fun (hb21 : (o : Int) = (-1)) => ?_) (fun (hb21 : ¬ ((o : Int) = (-1))) => ?_)
              · refine wl_s (pc' := 121) ji_195_120 rfl rfl rfl ?_
                have gn : ¬ ((ei = 1 ∧ o = -1) ∧ cmd u = false ∧ (k = 0 ∧ v = 16)) := fun z => by have := hzb.mpr z.2.2; omega
                exact wl_ri ji_195_121 jr_195 rfl (Or.inr ⟨by omega, Or.inr ⟨gn, Or.inr ⟨by omega, Or.inl ⟨by omega, rfl, rfl⟩⟩⟩⟩)
              · refine wl_s (pc' := 112) ji_195_111 rfl rfl rfl ?_
                refine rp_g9 V ji_195_112 jf_195_95 ?_
                refine wl_bp ji_195_115 rfl ?_
                refine wl_icmp (t := 122) ji_195_117 rfl (by omega) (by omega) (fun (hb22 : (t : Int) = 41) => ?_) (fun (hb22 : ¬ ((t : Int) = 41)) => ?_)
                · refine wl_s (pc' := 123) ji_195_122 rfl rfl rfl ?_
                  refine wl_s (pc' := 124) ji_195_123 rfl rfl rfl ?_
                  have gn : ¬ ((ei = 1 ∧ o = -1) ∧ cmd u = false ∧ (k = 0 ∧ v = 16)) := fun z => by have := hzb.mpr z.2.2; omega
                  have gc : ¬ (o = 41 ∧ t = 44) := by omega
                  have gx : x < 0 := by omega
                  have gd : ¬ o = -1 ∧ t = 41 := by omega
                  obtain ⟨u2, hu2⟩ := stl_1 e (by rw [ho]; exact gd.1)
                  rw [ho] at hu2
                  obtain ⟨cs9, hcs9⟩ := rp_c V
                  refine wl_vc (d := d + 5) (as := [.ref 138, wp_i o]) (rest := []) ji_195_124 jc_195_214 rfl hcs9 jk_207.symm (Nat.le_of_ble_eq_true rfl) rfl (by rw [jn_207]; rfl) (wq_sh (d := d + 3) (o := o) V e hl rfl hop ham D hL hp hw0 hx0 hwr hu2 (by omega)) (fun v1 h9 R => ?_)
                  obtain ⟨rfl, R⟩ := R
                  show wl_R _ _ 195 127 [some (.ref 138), some (wp_i x), some (wp_i o)] [] h9 _
                  refine wl_s (pc' := 128) ji_195_127 rfl rfl rfl ?_
                  exact wl_ri ji_195_128 jr_195 rfl (Or.inr ⟨gx, Or.inr ⟨gn, Or.inr ⟨gc, Or.inr ⟨gd, rfl, u2, hu2, R⟩⟩⟩⟩)
                · refine wl_s (pc' := 121) ji_195_120 rfl rfl rfl ?_
                  have gn : ¬ ((ei = 1 ∧ o = -1) ∧ cmd u = false ∧ (k = 0 ∧ v = 16)) := fun z => by have := hzb.mpr z.2.2; omega
                  exact wl_ri ji_195_121 jr_195 rfl (Or.inr ⟨by omega, Or.inr ⟨gn, Or.inr ⟨by omega, Or.inl ⟨by omega, rfl, rfl⟩⟩⟩⟩)
            · refine wl_s (pc' := 102) ji_195_101 rfl rfl rfl ?_
              have gn : ¬ ((ei = 1 ∧ o = -1) ∧ cmd u = false ∧ (k = 0 ∧ v = 16)) := fun z => by have := hzb.mpr z.2.2; omega
              have gc : o = 41 ∧ t = 44 := by omega
              have gx : x < 0 := by omega
              obtain ⟨cs, hcs⟩ := rp_c V
              refine wl_vc (d := d + 5) (as := [.ref 138]) (rest := []) ji_195_102 jc_195_211 rfl hcs jk_206.symm (Nat.le_of_ble_eq_true rfl) rfl (by rw [jn_206]; rfl) (wq_na (d := d + 3) V e hl rfl hop ham D hL hp hw0 hx0 hwr) (fun v1 h9 R => ?_)
              obtain ⟨y9, hy9⟩ : ∃ y9 : Int, v1 = some (wp_i y9) := by rcases R with ⟨-, -, z⟩ | ⟨-, z, -⟩ <;> exact ⟨_, z⟩
              subst hy9
              show wl_R _ _ 195 105 [some (.ref 138), some (wp_i x), some (wp_i o)] [wp_i y9] h9 _
              exact wl_ri ji_195_105 jr_195 rfl (Or.inr ⟨gx, Or.inr ⟨gn, Or.inl ⟨gc, R⟩⟩⟩)
        · refine wl_s (pc' := 82) ji_195_81 rfl rfl rfl ?_
          have gin : ((ei = 1 ∧ o = -1) ∧ cmd u = false ∧ (k = 0 ∧ v = 16)) := ⟨hab.mp (by omega), hbt (by omega), hzb.mp (by omega)⟩
          have gx : x < 0 := by omega
          obtain ⟨cs, hcs⟩ := rp_c V
          refine wl_vc (d := d + 5) (as := [.ref 138]) (rest := []) ji_195_82 jc_195_208 rfl hcs jk_204.symm (Nat.le_of_ble_eq_true rfl) rfl (by rw [jn_204]; rfl) (wq_ba (d := d + 2) V e hl rfl hop ham D hL hp hw0 hx0 hwr) (fun v1 h9 R => ?_)
          obtain ⟨y9, hy9⟩ : ∃ y9 : Int, v1 = some (wp_i y9) := by obtain ⟨_, _, _, _, _, z⟩ := R; rcases z with ⟨_, z, _⟩ | ⟨_, ⟨_, z, _⟩ | ⟨_, z, _⟩⟩ <;> exact ⟨_, z⟩
          subst hy9
          show wl_R _ _ 195 85 [some (.ref 138), some (wp_i x), some (wp_i o)] [wp_i y9] h9 _
          exact wl_ri ji_195_85 jr_195 rfl (Or.inr ⟨gx, Or.inl ⟨gin, R⟩⟩)
  · refine wl_s (pc' := 10) ji_195_9 rfl rfl rfl ?_
    refine wl_s (pc' := 11) ji_195_10 rfl rfl rfl ?_
    refine wl_sc (d := d + 5) (as := [wp_i x]) (rest := [.ref 138]) ji_195_11 jc_195_150 (Nat.le_of_ble_eq_true rfl) rfl (Nat.le_of_ble_eq_true rfl) rfl (by rw [jn_200]; rfl) (wp_wl (ws_rank (o := x) (by omega))) (fun v1 h1 R => ?_)
    obtain ⟨ee, rfl⟩ := R
    subst ee
    have hk1 := pr_r x
    have hk2 := hxr.2.2 (by omega)
    obtain ⟨r, hr⟩ : ∃ r, pr_rank x = r := ⟨_, rfl⟩
    rw [hr] at hk1 hk2 ⊢
    show wl_R _ _ 195 14 [some (.ref 138), some (wp_i x), none] [wp_i r, .ref 138] h1 _
    obtain ⟨csha, hcsha⟩ := rp_c V
    refine wl_vc (d := d + 4 + 1) (as := [.ref 138, wp_i r]) (rest := []) ji_195_14 jc_195_183 rfl hcsha jk_202.symm (Nat.le_of_ble_eq_true rfl) rfl (by rw [jn_202]; rfl) (wq_st (d := d + 4) (r := r) hx0 (by omega) nn u _ wr _ _ e V (by omega)) (fun v1 ha R => ?_)
    obtain ⟨rfl, wrha, tsha, hEa, hwrha, V⟩ := R
    have hslha := stl_len (r := r) u
    have hsnha := stn_r (r := r) u
    show wl_R _ _ 195 17 [some (.ref 138), some (wp_i x), none] [] ha _
    refine wl_s (pc' := 18) ji_195_17 rfl rfl rfl ?_
    refine rp_g15 V ji_195_18 jf_195_29 ?_
    refine wl_s (pc' := 22) ji_195_21 rfl rfl rfl ?_
    refine rp_g16 V ji_195_22 jf_195_147 ?_
    refine wl_s (pc' := 26) ji_195_25 rfl rfl rfl ?_
    refine rp_s (x := ((stl r u).length : Int)) (y := x) V (by omega) ji_195_26 (fun h x1 x2 V => ?_)
    rw [show (((stl r u).length : Int)).toNat = (stl r u).length by omega] at V
    refine wl_s (pc' := 28) ji_195_27 rfl rfl rfl ?_
    refine wl_s (pc' := 29) ji_195_28 rfl rfl rfl ?_
    refine rp_g16 V ji_195_29 jf_195_147 ?_
    refine wl_s (pc' := 33) ji_195_32 rfl rfl rfl ?_
    refine wl_iadd (x := ((stl r u).length : Int)) (y := 1) (z := ((stl r u).length : Int) + 1) ji_195_33 (by omega) ?_
    refine rp_p16 (y := ((stl r u).length : Int) + 1) V ji_195_34 jf_195_147 (fun h V => ?_)
    refine wl_s (pc' := 38) ji_195_37 rfl rfl rfl ?_
    refine wl_s (pc' := 39) ji_195_38 rfl rfl rfl ?_
    refine rp_p19 (y := 0) (by omega) V ji_195_39 jf_195_180 (fun h V => ?_)
    refine wl_s (pc' := 43) ji_195_42 rfl rfl rfl ?_
    obtain ⟨cs, hcs⟩ := rp_c V
    refine wl_vc (d := d + 5) (as := [.ref 138]) (rest := []) ji_195_43 jc_195_171 rfl hcs jk_178.symm (Nat.le_of_ble_eq_true rfl) rfl (by rw [jn_178]; rfl) (wr_nt (d := d + 4) V D hL hp hw0) (fun v1 hb_ R => ?_)
    obtain ⟨rfl, k2, v2, q', r', t', n', w', tk2, tr2, hb, hw1, V⟩ := R
    show wl_R _ _ 195 46 [some (.ref 138), some (wp_i x), none] [] hb_ _
    refine wl_s (pc' := 47) ji_195_46 rfl rfl rfl ?_
    subst hr
    exact wl_ri ji_195_47 jr_195 rfl (Or.inl ⟨by omega, rfl, k2, v2, q', r', t', n', wrha, w', _, tsha, ⟨tk2, tr2, hb, hw1⟩, hEa, by omega, ⟨⟨List.getElem?_set_self (by omega), by omega⟩, pn_set (Nat.le_refl _) (stl_pn e)⟩, V⟩)

/-- what both say of a law from p on: its fault at that token; 0: no fault and E is written, if that token is the ; -/
def qz (B : Int → Int) (law p st : Int) (w : List Int) (ls as_ : Int) (E : List Int) (f k1 v1 q1 r1 : Int) : Prop := (1 ≤ f ∧ f ≤ 7 ∧ ∃ m, lr B law m p st w ls as_ f q1 r1) ∨ (f = 0 ∧ (¬ (k1 = 2 ∧ v1 = 59) → ∃ m, lr B law m p st w ls as_ 1 q1 r1) ∧ ((k1 = 2 ∧ v1 = 59) → ∃ m, lre B law m p st w ls as_ E 0 q1 r1))
section QZS
variable {B : Int → Int} {law p k v q r st : Int} {w : List Int} {ls as_ f k1 v1 q1 r1 : Int} {E : List Int}
theorem qz_s {st2 : Int} {w2 : List Int} {l2 a2 : Int} (tk : tok B p k v q r) (c : cstep law k v st w ls as_ = .inr (st2, w2, l2, a2)) (h5 : ¬ st2 = 5) (h : qz B law r st2 w2 l2 a2 E f k1 v1 q1 r1) : qz B law p st w ls as_ (estep law k v st w ls as_ ++ E) f k1 v1 q1 r1 := by
  have up : ∀ {m : Nat} {f : Int}, lr B law m r st2 w2 l2 a2 f q1 r1 → lr B law (m + 1) p st w ls as_ f q1 r1 := fun x => ⟨k, v, q, r, tk, by rw [c]; exact Or.inr ⟨h5, x⟩⟩
  rcases h with ⟨a, a7, m, b⟩ | ⟨a, b, d⟩
  · exact Or.inl ⟨a, a7, m + 1, up b⟩
  · refine Or.inr ⟨a, fun x => ?_, fun x => ?_⟩
    · obtain ⟨m, y⟩ := b x
      exact ⟨m + 1, up y⟩
    · obtain ⟨m, y⟩ := d x
      exact ⟨m + 1, k, v, q, r, tk, by rw [c]; exact Or.inr ⟨h5, E, rfl, y⟩⟩
theorem qz_f {n : Int} (tk : tok B p k v q r) (c : cstep law k v st w ls as_ = .inl n) : qz B law p st w ls as_ E n k v q r := by
  have h7 := cstep_f c
  exact Or.inl ⟨h7.1, h7.2, 1, k, v, q, r, tk, by rw [c]; exact ⟨rfl, rfl, rfl⟩⟩
theorem qz_e {w2 : List Int} {l2 a2 : Int} (tk : tok B p k v q r) (c1 : ¬ (k = 2 ∧ v = 59) → cstep law k v st w ls as_ = .inl 1) (c2 : (k = 2 ∧ v = 59) → cstep law k v st w ls as_ = .inr (5, w2, l2, a2)) (c3 : (k = 2 ∧ v = 59) → estep law k v st w ls as_ = E) : qz B law p st w ls as_ E 0 k v q r := by
  refine Or.inr ⟨rfl, fun x => ⟨1, k, v, q, r, tk, ?_⟩, fun x => ⟨1, k, v, q, r, tk, ?_⟩⟩
  · rw [c1 x]
    exact ⟨rfl, rfl, rfl⟩
  · rw [c2 x]
    exact Or.inl ⟨rfl, rfl, rfl, rfl, (c3 x).symm⟩
end QZS
/-- the reference in a law, at a token from p on: E0 of the law is written (from wr0 on) -/
def qZz (h0 h : mj_H) (fs0 bl : List Value) (L x0 oc cn law : Int) (ts0 : List Value) (wr0 : Int) (E0 : List Int) (p k v q r st : Int) (w : List Int) (ls as_ ei : Int) : Prop := ∃ (t n wr op am wi : Int) (w9 : Nat) (u : List Int) (pl ts : List Value), tok (bt bl L) p k v q r ∧ tkr k v t n w9 ∧ (0 ≤ p ∧ 0 ≤ q ∧ r ≤ L) ∧ w9 ≤ 2 ^ 60 ∧ RL law st w ls as_ u op am wi ei ∧ pn pl u ∧ qE x0 ts0 wr0 ((E0 ++ lag st w).map cvt) ts wr ∧ (0 ≤ wr ∧ wr ≤ 1000 * (p + 1)) ∧ (0 ≤ am ∧ am ≤ 100) ∧ rP h0 h fs0 bl L r q t n x0 wr law (u.length : Int) op am wi ei oc cn w9 pl ts
/-- the reference where it stops in a law: what it answers (f), at which token -/
def qF (h0 h : mj_H) (fs0 bl : List Value) (L x0 oc cn law : Int) (ts0 : List Value) (wr0 : Int) (E0 : List Int) (p st : Int) (w : List Int) (ls as_ ei f : Int) : Prop := ∃ (p1 k1 v1 q1 r1 t1 n1 wr pd op am wi : Int) (w9 : Nat) (pl ts : List Value) (E : List Int), qz (bt bl L) law p st w ls as_ E f k1 v1 q1 r1 ∧ tok (bt bl L) p1 k1 v1 q1 r1 ∧ tkr k1 v1 t1 n1 w9 ∧ (p ≤ p1 ∧ 0 ≤ q1 ∧ r1 ≤ L) ∧ w9 ≤ 2 ^ 60 ∧ (f = 0 → qE x0 ts0 wr0 ((E0 ++ E).map cvt) ts wr) ∧ (0 ≤ wr ∧ wr ≤ 1000 * (p1 + 2)) ∧ (0 ≤ am ∧ am ≤ 100) ∧ rP h0 h fs0 bl L r1 q1 t1 n1 x0 wr law pd op am wi ei oc cn w9 pl ts
theorem qF_s {h0 h : mj_H} {fs0 bl : List Value} {L x0 oc cn law p k v q r st : Int} {ts0 : List Value} {wr0 : Int} {E0 : List Int} {w : List Int} {ls as_ ei f : Int} {st2 : Int} {w2 : List Int} {l2 a2 : Int} (tk : tok (bt bl L) p k v q r) (c : cstep law k v st w ls as_ = .inr (st2, w2, l2, a2)) (h5 : ¬ st2 = 5) (hF : qF h0 h fs0 bl L x0 oc cn law ts0 wr0 (E0 ++ estep law k v st w ls as_) r st2 w2 l2 a2 ei f) : qF h0 h fs0 bl L x0 oc cn law ts0 wr0 E0 p st w ls as_ ei f := by
  have ha := tok_adv tk
  obtain ⟨p1, k1, v1, q1, r1, t1, n1, wr, pd, op, am, wi, w9, pl, ts, E, z, a1, a2, a3, a4, a5, a6⟩ := hF
  exact ⟨p1, k1, v1, q1, r1, t1, n1, wr, pd, op, am, wi, w9, pl, ts, estep law k v st w ls as_ ++ E, qz_s tk c h5 z, a1, a2, by omega, a4, fun x => by rw [← List.append_assoc]; exact a5 x, a6⟩
section QFS
variable {h0 h h1 : mj_H} {fs0 bl pl pl' ts ts' : List Value} {L x0 oc cn law p k v q r st : Int} {w : List Int} {ls as_ ei : Int} {t n wr op am wi : Int} {w9 w' : Nat} {u : List Int} {k2 v2 q' r' t' n' wr' : Int}
variable {ts0 : List Value} {wr0 : Int} {E0 : List Int}
theorem qF_f {f : Int} {pd : Int} {E : List Int} (tk : tok (bt bl L) p k v q r) (T : tkr k v t n w9) (hb : 0 ≤ p ∧ 0 ≤ q ∧ r ≤ L) (hw9 : w9 ≤ 2 ^ 60) (hwr : 0 ≤ wr ∧ wr ≤ 1000 * (p + 2)) (ham : 0 ≤ am ∧ am ≤ 100) (V : rP h0 h fs0 bl L r q t n x0 wr law pd op am wi ei oc cn w9 pl ts) (c : qz (bt bl L) law p st w ls as_ E f k v q r) (hE : f = 0 → qE x0 ts0 wr0 ((E0 ++ E).map cvt) ts wr) : qF h0 h fs0 bl L x0 oc cn law ts0 wr0 E0 p st w ls as_ ei f := ⟨p, k, v, q, r, t, n, wr, pd, op, am, wi, w9, pl, ts, E, c, tk, T, by omega, hw9, hE, hwr, ham, V⟩
theorem qZ_A (tk : tok (bt bl L) p k v q r) (T : tkr k v t n w9) (hb : 0 ≤ p ∧ 0 ≤ q ∧ r ≤ L) (R : RL law st w ls as_ u op am wi ei) (hs : st = 2 ∨ st = 4) (hwr : 0 ≤ wr ∧ wr ≤ 1000 * (p + 1)) (ham : 0 ≤ am ∧ am ≤ 100) (hx : 0 ≤ bto k v t ei u) (hT : tok (bt bl L) r k2 v2 q' r' ∧ tkr k2 v2 t' n' w' ∧ (0 ≤ q' ∧ r' ≤ L) ∧ w' ≤ 2 ^ 60) (hE0 : qE x0 ts0 wr0 ((E0 ++ lag st w).map cvt) ts wr) (hE : qE x0 ts wr (stE (pr_rank (bto k v t ei u)) u) ts' wr') (hwr' : wr ≤ wr' ∧ wr' ≤ wr + (u.length : Int)) (e : pn pl' ((bto k v t ei u) :: stl (pr_rank (bto k v t ei u)) u)) (V : rP h0 h1 fs0 bl L r' q' t' n' x0 wr' law (((stl (pr_rank (bto k v t ei u)) u).length : Int) + 1) (op - stn (pr_rank (bto k v t ei u)) u) am 0 ei oc cn w' pl' ts') : ∃ st2 w2 l2 a2, cstep law k v st w ls as_ = .inr (st2, w2, l2, a2) ∧ ¬ st2 = 5 ∧ qZz h0 h1 fs0 bl L x0 oc cn law ts0 wr0 (E0 ++ estep law k v st w ls as_) r k2 v2 q' r' st2 w2 l2 a2 ei := by
  have c1 := RL_24 R hs
  have hRb := RL_b R
  have hta := tok_adv tk
  have hg := cs_g (law := law) (k := k) (v := v) (w := w) (ls := ls) (as_ := as_) hs
  have hz := ez_g (law := law) (k := k) (v := v) (w := w) (ls := ls) (as_ := as_) hs
  have hbt := btg_e (ei := ei) (u := u) tk T
  obtain ⟨g, hgd⟩ : ∃ g, sh k v = g := ⟨_, rfl⟩
  rw [hgd] at hg hbt hz
  obtain ⟨x, hxd⟩ : ∃ x, bto k v t ei u = x := ⟨_, rfl⟩
  rw [hxd] at hbt hx e V hE
  unfold btg at hbt
  have fin : ∀ {r0 st2 as2 : Int} {w2 : List Int}, x = mo g → ck g = r0 → cstep law k v st w ls as_ = .inr (st2, g :: w2, ls, as2) → ¬ st2 = 5 → e_sg law g st w ls as_ = jE r0 w → w2 = jwt r0 w → (r0 ≤ 4 ∨ st = 2) → (1 ≤ r0 ∧ r0 ≤ 6 ∧ ¬ r0 = 3) → ((st2 = 0 ∧ ck g ≤ 2) ∨ (st2 = 1 ∧ 4 ≤ ck g)) → (as2 = 1 ↔ asr (g :: w2) = true) → ∃ st2 w2 l2 a2, cstep law k v st w ls as_ = .inr (st2, w2, l2, a2) ∧ ¬ st2 = 5 ∧ qZz h0 h1 fs0 bl L x0 oc cn law ts0 wr0 (E0 ++ estep law k v st w ls as_) r k2 v2 q' r' st2 w2 l2 a2 ei := by
    intro r0 st2 as2 w2 hxm hck cs h5 hes hw2 h4 h6 h2 ha
    have hk3 := k3_r cs
    have hr : pr_rank x = r0 := by rw [hxm, (mo_f (c := g) (fun z => by omega)).1]; exact hck
    rw [hr, hxm] at e
    rw [hr] at V hE
    have h3 := hta.2.2 hk3
    exact ⟨st2, g :: w2, ls, as2, cs, h5, t', n', wr', _, am, 0, w', _, pl', ts', hT.1, hT.2.1, by omega, hT.2.2.2, RL_s R hs h6.1 h4 (by omega) hw2 (by omega) (cI_step R.1 cs) h2 ha, e, (by rw [lag_n (by omega), List.append_nil, hz, hes, List.map_append, ← RL_E R hs h6.1 h4 (by omega), ← List.append_assoc, ← List.map_append]; exact qE_t hE0 hE), by omega, ham, V⟩
  by_cases c5 : iso u = 0 ∧ (ck g = 5 ∨ ck g = 6)
  · rw [if_pos c5] at hbt
    have s2 : st = 2 := c1.2.2.2.2.2.mp c5.1
    refine fin hbt rfl (hg.trans (cg_1 c5.2 (by omega))) (by decide) (ey_1 c5.2 (by omega)) rfl (Or.inr s2) (by omega) (Or.inr ⟨rfl, by omega⟩) ?_
    rw [asr_56 c5.2, asr_jw (by omega), R.2.2.2.2.2.2.2.1]
    exact ⟨fun z => z.elim id (fun y => by omega), Or.inl⟩
  · rw [if_neg c5] at hbt
    by_cases c4 : ei = 1 ∧ opw u = -1
    · rw [if_neg (fun z => z c4)] at hbt
      have law2 := (ei_2 R).mp c4.1
      have hb0 := c1.2.2.1.mp c4.2
      have has := c1.2.2.2.2.1 hb0
      cases hc : cmd u with
      | false =>
        rw [hc, if_pos rfl] at hbt
        by_cases h4 : ck g = 4
        · rw [if_pos h4] at hbt
          have ha0 : as_ = 0 := by
            rcases as_01 R with z | z
            · exact z
            · rw [has.mpr z] at hc
              cases hc
          refine fin hbt h4 (hg.trans (cg_2 h4 ⟨law2, hb0⟩ ha0)) (by decide) ((ey_2 h4 ⟨law2, hb0⟩ ha0).trans (jE_45 (R.1.2.2.2.1 ha0)).symm) (jwt_45 (R.1.2.2.2.1 ha0)).symm (Or.inl (by decide)) (by decide) (Or.inr ⟨rfl, by omega⟩) ?_
          rw [asr_4 h4]
          exact ⟨fun _ => rfl, fun _ => rfl⟩
        · rw [if_neg h4] at hbt
          omega
      | true =>
        rw [hc, if_neg (by decide)] at hbt
        by_cases h4 : ck g = 1 ∨ ck g = 2
        · rw [if_pos h4] at hbt
          refine fin hbt rfl (hg.trans (cg_3 h4 ⟨law2, hb0⟩ (has.mp hc))) (by decide) (ey_3 h4 ⟨law2, hb0⟩ (has.mp hc)) rfl (Or.inl (by omega)) (by omega) (Or.inl ⟨rfl, by omega⟩) ?_
          rw [asr_12 h4]
          exact ⟨fun z => by omega, fun z => by cases z⟩
        · rw [if_neg h4] at hbt
          omega
    · rw [if_pos c4] at hbt
      omega
end QFS
section QLS
variable {d : Nat} {h0 : mj_H} {fs0 bl : List Value} {L x0 oc cn law ei : Int}
def qQ (h0 : mj_H) (fs0 bl : List Value) (L x0 oc cn law : Int) (ts0 : List Value) (wr0 : Int) (E0 : List Int) (p st : Int) (w : List Int) (ls as_ ei : Int) : Option Value → mj_H → Prop := fun v9 h1 => ∃ f, v9 = some (wp_i f) ∧ (0 ≤ f ∧ f ≤ 7) ∧ qF h0 h1 fs0 bl L x0 oc cn law ts0 wr0 E0 p st w ls as_ ei f
theorem qQ_p {nn : Nat} {ts0 : List Value} {wr0 : Int} {E0 : List Int} {l2 : Option Value} {h1 : mj_H} {p st : Int} {w : List Int} {ls as_ y : Int} (hy : 1 ≤ y ∧ y ≤ 7) (F : qF h0 h1 fs0 bl L x0 oc cn law ts0 wr0 E0 p st w ls as_ ei y) : wl_R nn (d + 7) 194 38 [some (.ref 138), some (wp_i ei), l2] [wp_i y] h1 (qQ h0 fs0 bl L x0 oc cn law ts0 wr0 E0 p st w ls as_ ei) := by
  refine wl_s (pc' := 39) (lv' := [some (.ref 138), some (wp_i ei), some (wp_i y)]) ji_194_38 rfl rfl rfl ?_
  refine wl_s (pc' := 40) ji_194_39 rfl rfl rfl ?_
  refine wl_if (t := 45) ji_194_40 rfl (x := y) (by omega) (fun (c : y ≤ 0) => (by exfalso; omega)) (fun _ => ?_)
  refine wl_s (pc' := 44) ji_194_43 rfl rfl rfl ?_
  exact wl_ri ji_194_44 jr_194 rfl ⟨y, rfl, by omega, F⟩
theorem qQ_z {nn : Nat} {l2 : Option Value} {h1 : mj_H} {Q : Option Value → mj_H → Prop} (hl : wl_R nn (d + 7) 194 20 [some (.ref 138), some (wp_i ei), some (wp_i 0)] [] h1 Q) : wl_R nn (d + 7) 194 38 [some (.ref 138), some (wp_i ei), l2] [wp_i 0] h1 Q := by
  refine wl_s (pc' := 39) (lv' := [some (.ref 138), some (wp_i ei), some (wp_i 0)]) ji_194_38 rfl rfl rfl ?_
  refine wl_s (pc' := 40) ji_194_39 rfl rfl rfl ?_
  refine wl_if (t := 45) ji_194_40 rfl (x := 0) (by omega) (fun _ => ?_) (fun (c : ¬ ((0 : Int) ≤ 0)) => (by exfalso; omega))
  refine wl_s (pc' := 46) ji_194_45 rfl rfl rfl ?_
  refine wl_if (t := 52) ji_194_46 rfl (x := 0) (by omega) (fun (c : ¬ ((0 : Int) = 0)) => (by exfalso; omega)) (fun _ => ?_)
  exact wl_goto (t := 20) ji_194_49 rfl hl
theorem qQ_n {nn : Nat} {ts0 : List Value} {wr0 : Int} {E0 : List Int} {l2 : Option Value} {h : mj_H} {p k v q r st : Int} {w : List Int} {ls as_ : Int} {t n wr op am : Int} {w9 : Nat} {u : List Int} {pl ts : List Value} (hx0 : 0 ≤ x0 ∧ x0 ≤ 3000) (hL : 0 ≤ L ∧ L ≤ 300) (tk : tok (bt bl L) p k v q r) (T : tkr k v t n w9) (hb : 0 ≤ p ∧ 0 ≤ q ∧ r ≤ L) (hw9 : w9 ≤ 2 ^ 60) (R : RL law st w ls as_ u op am 1 ei) (hs : st = 2 ∨ st = 4) (e : pn pl u) (hE0 : qE x0 ts0 wr0 ((E0 ++ lag st w).map cvt) ts wr) (hwr : 0 ≤ wr ∧ wr ≤ 1000 * (p + 1)) (ham : 0 ≤ am ∧ am ≤ 100) (V : rP h0 h fs0 bl L r q t n x0 wr law (u.length : Int) op am 1 ei oc cn w9 pl ts) (hx : bto k v t ei u < 0) (hI : ¬ ((ei = 1 ∧ opw u = -1) ∧ cmd u = false ∧ (k = 0 ∧ v = 16))) (hc4 : ¬ (opw u = 41 ∧ t = 44)) (hc1 : opw u = -1 ∨ ¬ t = 41) : wl_R nn (d + 7) 194 38 [some (.ref 138), some (wp_i ei), l2] [wp_i (-1)] h (qQ h0 fs0 bl L x0 oc cn law ts0 wr0 E0 p st w ls as_ ei) := by
  have c1 := RL_24 R hs
  have hRb := RL_b R
  have hta := tok_adv tk
  have hei2 := ei_2 R
  have has := as_01 R
  have cs2 : cstep law k v st w ls as_ = c6 law (sh k v) w ls as_ ∧ estep law k v st w ls as_ = eg6 law (sh k v) w ls as_ := by
    rw [cs_g hs, ez_g hs]
    have hbt := btg_e (ei := ei) (u := u) tk T
    have hv2 := tok_2 tk
    have hgs := tk_gs tk T
    have hg16 : sh k v = 91 ↔ (k = 0 ∧ v = 16) := by
      unfold sh
      constructor
      · intro z
        repeat' split at z
        all_goals omega
      · rintro ⟨rfl, rfl⟩
        rfl
    have hg41 : sh k v = 41 → t = 41 := by
      intro z
      rcases hgs with ⟨ek, h⟩ | ⟨ek, et, h⟩ | ⟨h, -⟩
      · have : sh k v = v := by unfold sh; rw [if_pos ek]
        omega
      · subst ek
        rcases h with e | e | e <;> (subst e; exact absurd z (by decide))
      · omega
    have hg44 : sh k v = 44 → t = 44 := by
      intro z
      rcases hgs with ⟨ek, h⟩ | ⟨ek, et, h⟩ | ⟨h, -⟩
      · have : sh k v = v := by unfold sh; rw [if_pos ek]
        omega
      · subst ek
        rcases h with e | e | e <;> (subst e; exact absurd z (by decide))
      · omega
    clear hgs hv2
    obtain ⟨g, hgd⟩ : ∃ g, sh k v = g := ⟨_, rfl⟩
    rw [hgd] at hbt hg16 hg41 hg44 ⊢
    have hmo : ∀ z : ¬ ck g = 0, 0 ≤ mo g := fun z => (mo_f (c := g) (fun y => absurd y z)).2.1.1
    rw [hbt] at hx
    unfold btg at hx
    have n0 : as_ = 0 → ¬ as_ = 1 := fun e => by rw [e]; decide
    have n1 : ¬ as_ = 0 → as_ = 1 := fun e => has.resolve_left e
    have hcm0 : brn w = 0 → as_ = 0 → cmd u = false := fun b e => by
      cases hc : cmd u with
      | false => rfl
      | true => exact absurd ((c1.2.2.2.2.1 b).mp hc) (n0 e)
    have six : ¬ ((ck g = 5 ∨ ck g = 6) ∧ ¬ st = 4) ∧ ¬ (ck g = 4 ∧ (law = 2 ∧ brn w = 0) ∧ as_ = 0) ∧ ¬ (g = 91 ∧ (law = 2 ∧ brn w = 0) ∧ as_ = 0) ∧ ¬ ((ck g = 1 ∨ ck g = 2) ∧ (law = 2 ∧ brn w = 0) ∧ ¬ as_ = 0) ∧ ¬ (g = 41 ∧ 0 < brn w) ∧ ¬ (g = 44 ∧ brn w = 1 ∧ ¬ as_ = 0 ∧ (jwt 5 w).head? = some 91) := by
      refine ⟨?_, ?_, ?_, ?_, ?_, ?_⟩
      · rintro ⟨a, b⟩
        rw [if_pos ⟨c1.2.2.2.2.2.mpr (hs.resolve_right b), a⟩] at hx
        exact absurd (hmo (k_56 a)) (Int.not_le.mpr hx)
      · rintro ⟨a, ⟨b1, b2⟩, b3⟩
        rw [if_neg (fun z => k_45 a z.2), if_neg (fun z => z ⟨hei2.mpr b1, c1.2.2.1.mpr b2⟩), if_pos (hcm0 b2 b3), if_pos a] at hx
        exact absurd (hmo (k_4 a)) (Int.not_le.mpr hx)
      · rintro ⟨a, ⟨b1, b2⟩, b3⟩
        exact hI ⟨⟨hei2.mpr b1, c1.2.2.1.mpr b2⟩, hcm0 b2 b3, hg16.mp a⟩
      · rintro ⟨a, ⟨b1, b2⟩, b3⟩
        have hcm := (c1.2.2.2.2.1 b2).mpr (n1 b3)
        rw [if_neg (fun z => k_125 a z.2), if_neg (fun z => z ⟨hei2.mpr b1, c1.2.2.1.mpr b2⟩), hcm, if_neg (by decide), if_pos a] at hx
        exact absurd (hmo (k_12 a)) (Int.not_le.mpr hx)
      · rintro ⟨a, b⟩
        rcases hc1 with z | z
        · exact absurd (c1.2.2.1.mp z) (fun e => by rw [e] at b; exact absurd b (by decide))
        · exact z (hg41 a)
      · rintro ⟨a, b1, b2, b3⟩
        exact hc4 ⟨c1.2.2.2.1.mpr b3, hg44 a⟩
    obtain ⟨s1, s2, s3, s4, s5, s6⟩ := six
    exact ⟨cg_7 s1 s2 s3 s4 s5 s6, ey_7 s1 s2 s3 s4 s5 s6⟩
  obtain ⟨cs, es⟩ := cs2
  refine wl_s (pc' := 39) (lv' := [some (.ref 138), some (wp_i ei), some (wp_i (-1))]) ji_194_38 rfl rfl rfl ?_
  refine wl_s (pc' := 40) ji_194_39 rfl rfl rfl ?_
  refine wl_if (t := 45) ji_194_40 rfl (x := -1) (by omega) (fun _ => ?_) (fun (c : ¬ ((-1 : Int) ≤ 0)) => (by exfalso; omega))
  refine wl_s (pc' := 46) ji_194_45 rfl rfl rfl ?_
  refine wl_if (t := 52) ji_194_46 rfl (x := -1) (by omega) (fun _ => ?_) (fun (c : ¬ ¬ ((-1 : Int) = 0)) => (by exfalso; omega))
  refine wl_s (pc' := 53) ji_194_52 rfl rfl rfl ?_
  obtain ⟨cs5, hcs5⟩ := rp_c V
  refine wl_vc (d := d + 6) (as := [.ref 138]) (rest := []) ji_194_53 jc_194_163 rfl hcs5 jk_198.symm (Nat.le_of_ble_eq_true rfl) rfl (by rw [jn_198]; rfl) (wr_on (d := d + 6) V e (by omega) rfl) (fun v1 h1 R1 => ?_)
  obtain ⟨ee1, rfl⟩ := R1
  rw [ee1]
  clear ee1
  have hor := opw_r e
  have cI1 := c1.2.2.1
  have cI2 := c1.2.2.2.2.1
  clear c1 hI hc4 hc1 hx
  have bad : (0 ≤ opw u ∨ (ei = 1 ∧ cmd u = false)) → qF h0 h fs0 bl L x0 oc cn law ts0 wr0 E0 p st w ls as_ ei 1 := by
    intro z
    refine qF_f (E := []) tk T hb hw9 (by omega) ham V (qz_f tk (cs.trans (if_neg ?_))) (fun z => absurd z (by decide))
    rintro ⟨-, y1, y2⟩
    rcases z with z | z
    · have := cI1.mpr y1
      omega
    · have h3 := hei2.mp z.1
      have h4 := cI2 y1
      have h5 : as_ = 1 := by omega
      rw [h4.mpr h5] at z
      exact absurd z.2 (by decide)
  have bd : (0 ≤ opw u ∨ (ei = 1 ∧ cmd u = false)) → wl_R nn (d + 7) 194 70 [some (.ref 138), some (wp_i ei), some (wp_i (-1))] [] h (qQ h0 fs0 bl L x0 oc cn law ts0 wr0 E0 p st w ls as_ ei) := by
    intro z
    refine wl_s (pc' := 71) ji_194_70 rfl rfl rfl ?_
    exact wl_ri ji_194_71 jr_194 rfl ⟨1, rfl, by omega, bad z⟩
  have gd : opw u = -1 → ¬ (ei = 1 ∧ cmd u = false) → wl_R nn (d + 7) 194 72 [some (.ref 138), some (wp_i ei), some (wp_i (-1))] [] h (qQ h0 fs0 bl L x0 oc cn law ts0 wr0 E0 p st w ls as_ ei) := by
    intro y1 y2
    refine wl_s (pc' := 73) ji_194_72 rfl rfl rfl ?_
    refine wl_s (pc' := 74) ji_194_73 rfl rfl rfl ?_
    refine wl_vc (d := d + 6) (as := [.ref 138, wp_i 1]) (rest := []) ji_194_74 jc_194_183 rfl hcs5 jk_202.symm (Nat.le_of_ble_eq_true rfl) rfl (by rw [jn_202]; rfl) (wq_st (d := d + 5) (r := 1) hx0 (by omega) nn u _ wr _ _ e V (by omega)) (fun v1 h1 R1 => ?_)
    obtain ⟨rfl, wr', ts', hE', hwr', V'⟩ := R1
    refine wl_s (pc' := 78) ji_194_77 rfl rfl rfl ?_
    have hb0 := cI1.mp y1
    have hc6 : ¬ law = 2 ∨ ¬ as_ = 0 := by
      by_cases l2 : law = 2
      · have h3 := hei2.mpr l2
        have h4 := cI2 hb0
        cases hc : cmd u with
        | false => exact absurd ⟨h3, hc⟩ y2
        | true => have := h4.mp hc; exact Or.inr (by omega)
      · exact Or.inl l2
    refine wl_ri ji_194_78 jr_194 rfl ⟨0, rfl, by omega, qF_f (E := jE 1 w) tk T hb hw9 (by omega) ham V' (qz_e (w2 := jwt 1 w) (l2 := ls) (a2 := as_) tk (fun y => ?_) (fun y => ?_) (fun y => ?_)) (fun _ => ?_)⟩
    · rw [cs]
      exact if_neg (fun z => y (sh_59.mp z.1))
    · rw [cs]
      exact if_pos ⟨sh_59.mpr y, hb0, hc6⟩
    · rw [es]
      exact if_pos ⟨sh_59.mpr y, hb0, hc6⟩
    · rw [List.map_append, ← RL_E R hs (r := 1) (by decide) (Or.inl (by decide)) (by decide), ← List.append_assoc, ← List.map_append]
      exact qE_t hE0 hE'
  refine wl_if (t := 70) ji_194_56 rfl (x := opw u) (by omega) (fun (c : 0 ≤ opw u) => bd (Or.inl c)) (fun (c : ¬ (0 ≤ opw u)) => ?_)
  refine wl_s (pc' := 60) ji_194_59 rfl rfl rfl ?_
  refine wl_if (t := 72) ji_194_60 rfl (x := ei) (by omega) (fun (c2 : ei = 0) => gd (by omega) (by omega)) (fun (c2 : ¬ ei = 0) => ?_)
  refine wl_s (pc' := 64) ji_194_63 rfl rfl rfl ?_
  refine wl_vc (d := d + 6) (as := [.ref 138]) (rest := []) ji_194_64 jc_194_196 rfl hcs5 jk_199.symm (Nat.le_of_ble_eq_true rfl) rfl (by rw [jn_199]; rfl) (wr_cm (d := d + 5) V e (by omega) rfl) (fun v1 h1 R1 => ?_)
  obtain ⟨ee1, rfl⟩ := R1
  rw [ee1]
  clear ee1
  have hbi := bi_01 (cmd u)
  refine wl_if (t := 72) ji_194_67 rfl (x := bi (cmd u)) (by omega) (fun (c3 : ¬ bi (cmd u) = 0) => gd (by omega) (fun z => by rw [z.2] at c3; exact c3 rfl)) (fun (c3 : ¬ ¬ bi (cmd u) = 0) => ?_)
  refine bd (Or.inr ⟨by omega, ?_⟩)
  cases hc : cmd u with
  | false => rfl
  | true => rw [hc] at c3; exact absurd (fun z => by cases z) c3
end QLS
section QLL
variable {d : Nat} {h0 : mj_H} {fs0 bl : List Value} {L x0 oc cn law ei : Int}
theorem qQ_m {nn d m pc : Nat} {ts0 : List Value} {wr0 : Int} {E0 : List Int} {lv : mj_L} {st9 : List Value} {h1 : mj_H} {p k v q r st st2 : Int} {w w2 : List Int} {ls as_ l2 a2 : Int} (tk : tok (bt bl L) p k v q r) (c : cstep law k v st w ls as_ = .inr (st2, w2, l2, a2)) (h5 : ¬ st2 = 5) (hr : wl_R nn d m pc lv st9 h1 (qQ h0 fs0 bl L x0 oc cn law ts0 wr0 (E0 ++ estep law k v st w ls as_) r st2 w2 l2 a2 ei)) : wl_R nn d m pc lv st9 h1 (qQ h0 fs0 bl L x0 oc cn law ts0 wr0 E0 p st w ls as_ ei) := wl_mono hr (fun v9 h2 ⟨f, e1, e2, e3⟩ => ⟨f, e1, e2, qF_s tk c h5 e3⟩)
theorem cvt_l {ls : Int} (h : 0 ≤ ls ∧ ls ≤ 6) : cvt (30000 + ls) = (2, ls) := by
  unfold cvt
  rw [if_neg (by omega), if_neg (by omega), if_neg (by omega), show 30000 + ls - 30000 = ls by omega]
theorem RL_u {law st : Int} {w : List Int} {ls as_ : Int} {u : List Int} {op am wi ei : Int} (R : RL law st w ls as_ u op am wi ei) (hs : st = 2) (hb : 0 < brn w) {c : Int} {w1 : List Int} (hj : jwt 5 w = c :: w1) {u2 : List Int} (hu2 : stl 1 u = opw u :: u2) : u2 = w1.map mo := by
  have h1 := RL_24 R (Or.inl hs)
  obtain ⟨k1, k2⟩ := h1.2.1 1 (by decide) (Or.inr hs) (by decide)
  have hj1 := jwt_15 R.1.1 hb
  rw [hj1, hj] at k1
  rw [k1] at hu2
  have hu2 : mo c :: w1.map mo = opw u :: u2 := hu2
  exact (List.cons.inj hu2).2.symm
theorem wq_pl {ts0 : List Value} {wr0 : Int} (D : tB bl) (hL : 0 ≤ L ∧ L ≤ 300) (hx0 : 0 ≤ x0 ∧ x0 ≤ 3000) (hlaw : 0 ≤ law ∧ law ≤ 2) : ∀ (nn : Nat) (h : mj_H) (l2 : Option Value) (E0 : List Int) (p k v q r st : Int) (w : List Int) (ls as_ : Int), qZz h0 h fs0 bl L x0 oc cn law ts0 wr0 E0 p k v q r st w ls as_ ei → wl_R nn (d + 7) 194 20 [some (.ref 138), some (wp_i ei), l2] [] h (qQ h0 fs0 bl L x0 oc cn law ts0 wr0 E0 p st w ls as_ ei) := by
  intro nn
  induction nn with
  | zero => intros; exact wl_0
  | succ nn ih =>
    intro h l2 E0 p k v q r st w ls as_ Z
    obtain ⟨t, n, wr, op, am, wi, w9, u, pl, ts, tk, T, hb, hw9, R, e, hE0, hwr, ham, V⟩ := Z
    have htr := tk_tr tk T
    have hRb := RL_b R
    have hta := tok_adv tk
    have hei2 := ei_2 R
    have has := as_01 R
    have hv24 := tk_24 T
    obtain ⟨cs5, hcs5⟩ := rp_c V
    have loop : ∀ {h1 : mj_H} {st2 : Int} {w2 : List Int} {l3 a2 k2 v2 q2 r2 : Int} {v1 : Option Value}, v1 = some (wp_i 0) → cstep law k v st w ls as_ = .inr (st2, w2, l3, a2) → ¬ st2 = 5 → qZz h0 h1 fs0 bl L x0 oc cn law ts0 wr0 (E0 ++ estep law k v st w ls as_) r k2 v2 q2 r2 st2 w2 l3 a2 ei → wl_R nn (d + 7) 194 38 [some (.ref 138), some (wp_i ei), l2] (v1.toList ++ []) h1 (qQ h0 fs0 bl L x0 oc cn law ts0 wr0 E0 p st w ls as_ ei) := by
      intro h1 st2 w2 l3 a2 k2 v2 q2 r2 v1 e1 c h5 Z2
      subst e1
      exact qQ_z (qQ_m tk c h5 (ih h1 _ _ r k2 v2 q2 r2 st2 w2 l3 a2 Z2))
    have flt : ∀ {y : Int} {v1 : Option Value}, v1 = some (wp_i y) → cstep law k v st w ls as_ = .inl y → wl_R nn (d + 7) 194 38 [some (.ref 138), some (wp_i ei), l2] (v1.toList ++ []) h (qQ h0 fs0 bl L x0 oc cn law ts0 wr0 E0 p st w ls as_ ei) := by
      intro y v1 e1 c
      subst e1
      exact qQ_p (cstep_f c) (qF_f (E := []) tk T hb hw9 (by omega) ham V (qz_f tk c) (fun z => by have := cstep_f c; omega))
    refine wl_s1 (pc' := 21) ji_194_20 rfl rfl rfl ?_
    refine rp_g19 V ji_194_21 jf_194_180 ?_
    rcases RL_st R with hs | hs
    · have h01 := RL_01 R hs
      have hah := RL_ah R hs
      obtain ⟨hu, hop, hwi, hasr⟩ := h01
      subst hwi
      refine wl_if (t := 34) ji_194_24 rfl (x := 0) (by omega) (fun _ => ?_) (fun (c : ¬ ((0 : Int) = 0)) => (by exfalso; omega))
      refine wl_s (pc' := 35) ji_194_34 rfl rfl rfl ?_
      refine wl_vc (d := d + 6) (as := [.ref 138]) (rest := []) ji_194_35 jc_194_220 rfl hcs5 jk_208.symm (Nat.le_of_ble_eq_true rfl) rfl (by rw [jn_208]; rfl) (wq_b1 (d := d) V e (by omega) rfl (by omega) ham D hL (by omega) hw9 hx0 (by omega) hRb.2.2.1 (by omega) T (by omega)) (fun v1 h1 P => ?_)
      have opn9 : ∀ (c : Int) (P : Prop), (c = 40 ∨ c = 110 ∨ (c = 33 ∧ st = 0)) → (k = 2 ∨ (k = 0 ∧ v = 15 ∧ st = 0)) → cstep law k v st w ls as_ = c_op c w ls as_ → ((op = 8 ∧ h1 = h ∧ v1 = some (wp_i 3)) ∨ (¬ op = 8 ∧ v1 = some (wp_i 0) ∧ ∃ (k2 v2 q' r' t' n' : Int) (w' : Nat) (pl' : List Value), tok (bt bl L) r k2 v2 q' r' ∧ tkr k2 v2 t' n' w' ∧ (0 ≤ q' ∧ r' ≤ L) ∧ w' ≤ 2 ^ 60 ∧ pn pl' (mo c :: u) ∧ rP h0 h1 fs0 bl L r' q' t' n' x0 wr law ((u.length : Int) + 1) (op + 1) am 0 ei oc cn w' pl' ts)) → wl_R nn (d + 7) 194 38 [some (.ref 138), some (wp_i ei), l2] (v1.toList ++ []) h1 (qQ h0 fs0 bl L x0 oc cn law ts0 wr0 E0 p st w ls as_ ei) := by
        intro c P hc hes cs P2
        rcases P2 with ⟨h8, rfl, ev⟩ | ⟨h8, ev, k2, v2, q', r', t', n', w', pl', tk2, T2, hb2, hw2, e2, V2⟩
        · exact flt ev (cs.trans (if_pos (by omega)))
        · have cs2 : cstep law k v st w ls as_ = .inr (if c = 33 then 0 else 1, c :: w, ls, as_) := cs.trans (if_neg (by omega))
          have hk3 := k3_r cs2
          have h3 := hta.2.2 hk3
          have I2 := cI_step R.1 cs2
          refine loop ev cs2 (by split <;> omega) (k2 := k2) (v2 := v2) (q2 := q') (r2 := r') ⟨t', n', wr, op + 1, am, 0, w', mo c :: u, pl', ts, tk2, T2, by omega, hw2, ?_, e2, (by rw [ez_o hs hes, List.append_nil, lag_n (show ¬ (if c = 33 then (0 : Int) else 1) = 2 by split <;> decide)]; rw [lag_n (show ¬ st = 2 from fun z => by rw [z] at hs; exact absurd hs (by decide))] at hE0; exact hE0), by omega, ham, V2⟩
          by_cases h33 : c = 33
          · have hs0 : st = 0 := by omega
            rw [if_pos h33] at I2 ⊢
            subst h33
            exact RL_n R hs0 I2
          · rw [if_neg h33] at I2 ⊢
            exact RL_o R hs (by omega) I2
      rcases P with ⟨a, ev, rfl⟩ | ⟨g1, ⟨a, ev, rfl⟩ | ⟨g2, ⟨a, ev, k2, v2, q', r', t', n', wr', w', ts', hT, hE', hwr', V2⟩ | ⟨g3, ⟨a, P⟩ | ⟨a, P⟩ | ⟨a, b, P⟩ | ⟨a, ev, rfl⟩⟩⟩⟩
      · exact flt ev (cs_1 hs a)
      · exact flt ev (cs_2 hs a)
      · have cs2 := cs_3 (law := law) (w := w) (ls := ls) (as_ := as_) hs g1 g2 a
        have hk3 := k3_r cs2
        have h3 := hta.2.2 hk3
        have R2 := RL_2 R hs (cI_step R.1 cs2)
        exact loop ev cs2 (by decide) (k2 := k2) (v2 := v2) (q2 := q') (r2 := r') ⟨t', n', wr', _, am, 1, w', _, pl, ts', hT.1, hT.2.1, by omega, hT.2.2.2, R2, stl_pn e, (by rw [lag_n (show ¬ st = 2 from fun z => by rw [z] at hs; exact absurd hs (by decide)), List.append_nil] at hE0; rw [List.append_assoc, List.map_append, List.map_append, ez_1 T hs g1 a, show lag 2 w = jE 7 w from if_pos rfl, ← stE_m (r := 7) (by decide) R.1.1, ← hu]; exact qE_t hE0 hE'), by omega, ham, V2⟩
      · exact opn9 40 True (Or.inl rfl) (Or.inl a.1) (cs_4 hs a) P
      · exact opn9 110 True (Or.inr (Or.inl rfl)) (Or.inl a.1) (cs_5 hs a) P
      · have hs0 := hah.mp b
        exact opn9 33 True (Or.inr (Or.inr ⟨rfl, hs0⟩)) (Or.inr ⟨a.1, a.2, hs0⟩) (cs_6 hs0 a) P
      · exact flt ev (cs_7 hs hv24 g3 a.1 a.2.1 (fun z => a.2.2 ⟨z.1, hah.mpr z.2⟩))
    · have c1 := RL_24 R hs
      have hwi := c1.1
      subst hwi
      have hg := cs_g (law := law) (k := k) (v := v) (w := w) (ls := ls) (as_ := as_) hs
      refine wl_if (t := 34) ji_194_24 rfl (x := 1) (by omega) (fun (c : (1 : Int) = 0) => (by exfalso; omega)) (fun _ => ?_)
      refine wl_s (pc' := 28) ji_194_27 rfl rfl rfl ?_
      refine wl_vc (d := d + 6) (as := [.ref 138]) (rest := []) ji_194_28 jc_194_217 rfl hcs5 jk_195.symm (Nat.le_of_ble_eq_true rfl) rfl (by rw [jn_195]; rfl) (wq_b2 (d := d) V e (by omega) rfl (by omega) ham D hL (by omega) hw9 hx0 (by omega) hRb.2.2.1 T (by omega)) (fun v1 h1 P => ?_)
      refine wl_goto (t := 38) ji_194_31 rfl ?_
      rcases P with ⟨hx, ev, k2, v2, q', r', t', n', wr', w', pl', ts', hT, hE', hwr', e', V'⟩ | ⟨hx, ⟨hI, k', v', q', r', tk2, P⟩ | ⟨hI, ⟨hcm, P⟩ | ⟨hcm, ⟨hc1, ev, rfl⟩ | ⟨hc1, ev, u2, hu2, k2, v2, q', r', t', n', w', tk2, T2, hb2, hw2, P⟩⟩⟩⟩
      · obtain ⟨st2, w2, l3, a2, cs, h5, Z2⟩ := qZ_A tk T hb R hs hwr ham hx hT hE0 hE' hwr' e' V'
        exact loop ev cs h5 Z2
      · have law2 := hei2.mp hI.1.1
        have hb0 := c1.2.2.1.mp hI.1.2
        have ha0 : as_ = 0 := by
          rcases has with z | z
          · exact z
          · have h9 := (c1.2.2.2.2.1 hb0).mpr z
            rw [hI.2.1] at h9
            cases h9
        have hs2 : st = 2 := by
          rcases hs with z | z
          · exact z
          · have h9 := R.2.2.2.2.2.2.2.1.mpr (Or.inr z)
            omega
        have hsh : sh k v = 91 := by
          rw [hI.2.2.1, hI.2.2.2]
          rfl
        have cs2 : cstep law k v st w ls as_ = .inr (3, jwt 5 w, ls, 1) := hg.trans (cg_4 hsh ⟨law2, hb0⟩ ha0)
        have hk3 := k3_r cs2
        have h3 := hta.2.2 hk3
        have I2 := cI_step R.1 cs2
        have h7 := c1.2.1 5 (by decide) (Or.inr hs2) (by decide)
        have htk2 := tok_adv tk2
        have hrL := tok_L (by omega) tk2
        rcases P with ⟨ng, ev, t', n', wr', w', pl', ts', T2, hw2, hwr', V2⟩ | ⟨g40, ⟨h8, ev, t', n', wr', w', pl', ts', T2, hw2, hwr', V2⟩ | ⟨h8, ev, k2, v2, q2, r2, t2, n2, wr', w2, pl', ts', hT, hE', hwr', e2, V2⟩⟩
        · subst ev
          refine qQ_p (by omega) (qF_s tk cs2 (by decide) ?_)
          have cs3 : cstep law k' v' 3 (jwt 5 w) ls 1 = .inl 1 := by
            unfold cstep
            rw [if_neg (by decide), if_pos rfl]
            exact if_neg ng
          exact qF_f (E := []) tk2 T2 ⟨by omega, by omega, hrL⟩ hw2 (by omega) ham V2 (qz_f tk2 cs3) (fun z => absurd z (by decide))
        · subst ev
          refine qQ_p (by omega) (qF_s tk cs2 (by decide) ?_)
          have cs3 : cstep law k' v' 3 (jwt 5 w) ls 1 = .inl 3 := by
            unfold cstep
            rw [if_neg (by decide), if_pos rfl]
            exact (if_pos g40).trans (if_pos (by omega))
          exact qF_f (E := []) tk2 T2 ⟨by omega, by omega, hrL⟩ hw2 (by omega) ⟨by decide, by decide⟩ V2 (qz_f tk2 cs3) (fun z => absurd z (by decide))
        · subst ev
          have cs3 : cstep law k' v' 3 (jwt 5 w) ls 1 = .inr (1, 91 :: jwt 5 w, 1, 1) := by
            unfold cstep
            rw [if_neg (by decide), if_pos rfl]
            exact (if_pos g40).trans (if_neg (by omega))
          have I3 := cI_step I2 cs3
          exact qQ_z (qQ_m tk cs2 (by decide) (qQ_m tk2 cs3 (by decide) (ih h1 _ _ r' k2 v2 q2 r2 1 _ 1 1 ⟨t2, n2, wr', _, 1, 0, w2, _, pl', ts', hT.1, hT.2.1, by omega, hT.2.2.2, RL_l R hs2 hb0 I3, e2, (by rw [lag_n (by decide), List.append_nil, ez_b, List.append_nil, ez_g hs, ey_4 hsh ⟨law2, hb0⟩ ha0, List.map_append, ← RL_E R hs (r := 5) (by decide) (Or.inr hs2) (by decide), ← List.append_assoc, ← List.map_append]; exact qE_t hE0 hE'), by omega, ⟨by decide, by decide⟩, V2⟩)))
      · have h91 := c1.2.2.2.1.mp hcm.1
        have hbn := brn_0 w
        have hbq : ¬ brn w = 0 := fun z => by
          have h7 := c1.2.2.1.mpr z
          rw [h7] at hcm
          exact absurd hcm.1 (by decide)
        have hbp : 0 < brn w := by omega
        have hs2 : st = 2 := hs.resolve_right (fun z => by have := RL_4 R z; omega)
        obtain ⟨w1, hj⟩ : ∃ w1, jwt 5 w = 91 :: w1 := by
          cases hq : jwt 5 w with
          | nil => rw [hq] at h91; cases h91
          | cons x y => rw [hq] at h91; cases h91; exact ⟨y, rfl⟩
        have hb1 : brn w = 1 := by
          have h5 := brn_jw (r := 5) (by decide) w
          have h6 := o91_jw (r := 5) R.2.1
          rw [hj] at h5 h6
          have h5 : brn w1 + 1 = brn w := h5
          have := h6.2 rfl
          omega
        have ha1 : as_ = 1 := by
          refine R.2.2.2.2.2.2.2.1.mpr (Or.inl ?_)
          rw [← asr_jw (r := 5) (by decide), hj]
          rfl
        have hsh : sh k v = 44 := by
          rcases tk_gs tk T with ⟨ek, h⟩ | ⟨ek, et, h⟩ | ⟨-, -, -, h⟩
          · have : sh k v = v := by unfold sh; rw [if_pos ek]
            omega
          · omega
          · omega
        have hme : am = ls := R.2.2.2.2.2.2.1 (jwt_mem (r := 5) (by rw [hj]; exact List.mem_cons_self))
        have cs := hg.trans (cg_5 (law := law) (ls := ls) (st := st) hsh hb1 ha1 h91)
        rcases P with ⟨h6, rfl, ev⟩ | ⟨h6, ev, k2, v2, q', r', t', n', wr', w', pl', ts', hT, hE', hwr', e2, V2⟩
        · exact flt ev (cs.trans (if_pos (by omega)))
        · have cs2 := cs.trans (if_neg (by omega))
          have hk3 := k3_r cs2
          have h3 := hta.2.2 hk3
          have R2 := RL_c R hs2 hbp h91 (cI_step R.1 cs2)
          exact loop ev cs2 (by decide) (k2 := k2) (v2 := v2) (q2 := q') (r2 := r') ⟨t', n', wr', _, am + 1, 0, w', _, pl', ts', hT.1, hT.2.1, by omega, hT.2.2.2, R2.2, e2, (by rw [lag_n (by decide), List.append_nil, ez_g hs, ey_5 hsh hb1 ha1 h91, ← jE_15 R.1.1 hbp, List.map_append, ← RL_E R hs (r := 1) (by decide) (Or.inr hs2) (by decide), ← List.append_assoc, ← List.map_append]; exact qE_t hE0 hE'), by omega, by have := R.1.2.2.2.2.1; omega, V2⟩
      · subst ev
        exact qQ_n hx0 hL tk T hb hw9 R hs e hE0 hwr ham V hx hI hcm hc1
      · have hbn := brn_0 w
        have hbq : ¬ brn w = 0 := fun z => by
          have h7 := c1.2.2.1.mpr z
          exact hc1.1 h7
        have hbp : 0 < brn w := by omega
        have hs2 : st = 2 := hs.resolve_right (fun z => by have := RL_4 R z; omega)
        have hsh : sh k v = 41 := by
          rcases tk_gs tk T with ⟨ek, h⟩ | ⟨ek, et, h⟩ | ⟨-, -, -, h⟩
          · have : sh k v = v := by unfold sh; rw [if_pos ek]
            omega
          · omega
          · omega
        obtain ⟨c, w1, hj, hc⟩ := shp_cok R.1.1 hbp
        have cs := hg.trans (cg_6 (law := law) (ls := ls) (as_ := as_) (st := st) hsh hbp hj)
        have hk3 := k3_r cs
        have h3 := hta.2.2 hk3
        obtain ⟨x1, x2, x3⟩ := RL_x R hs2 hbp hj hu2 (cI_step R.1 cs)
        rcases P with ⟨h41, wr', pl', ts', hE', hwr', e2, V2⟩ | ⟨h41, wr', pl', ts', hE', hwr', e2, V2⟩
        · have c91 := x1.mp h41
          rw [if_pos c91] at cs
          exact loop ev cs (by decide) (k2 := k2) (v2 := v2) (q2 := q') (r2 := r') ⟨t', n', wr', _, am, 1, w', _, pl', ts', tk2, T2, by omega, hw2, x2 c91, e2, (by have ham2 : am = ls := R.2.2.2.2.2.2.1 (jwt_mem (r := 5) (by rw [hj, c91]; exact List.mem_cons_self)); rw [lag_n (by decide), List.append_nil, ez_g hs, ey_6 hsh hbp hj, if_pos c91, ← jE_15 R.1.1 hbp, List.map_append, List.map_append, ← RL_E R hs (r := 1) (by decide) (Or.inr hs2) (by decide), show List.map cvt [30000 + ls] = [(2, am)] by rw [ham2]; exact congrArg (fun z => [z]) (cvt_l R.1.2.2.2.2.1), List.append_assoc, ← List.append_assoc, ← List.map_append]; exact qE_t hE0 hE'), by omega, ham, V2⟩
        · have c91 : ¬ c = 91 := fun z => h41 (x1.mpr z)
          rw [if_neg c91] at cs
          exact loop ev cs (by decide) (k2 := k2) (v2 := v2) (q2 := q') (r2 := r') ⟨t', n', wr', _, am, 1, w', _, pl', ts', tk2, T2, by omega, hw2, x3 c91, e2, (by have hw1 : u2 = w1.map mo := (RL_u R hs2 hbp hj hu2); have hs1 : shp w1 := (by have h9 := shp_jw (r := 5) R.1.1; rw [hj] at h9; exact h9.1); rw [ez_g hs, ey_6 hsh hbp hj, if_neg c91, List.append_nil, ← jE_15 R.1.1 hbp, show lag 2 w1 = jE 7 w1 from if_pos rfl, List.map_append, List.map_append, ← RL_E R hs (r := 1) (by decide) (Or.inr hs2) (by decide), ← stE_m (r := 7) (by decide) hs1, ← hw1, List.append_assoc, List.append_assoc, ← List.append_assoc, ← List.map_append]; exact qE_t hE0 hE'), by omega, ham, V2⟩
end QLL
