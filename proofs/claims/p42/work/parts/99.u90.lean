/-! -/
/-! the class's reader with what it writes: a token in a law; laid by program (wp_u90.py) -/
/-- what a text has: (size, code), (from, upTo), (kind, first, second) -/
abbrev TD : Type := (Int × List Value) × (List Value × List Value) × (List Value × List Value × List Value)
def wr1 (F : TD) (y : Int) : TD := if F.1.1 < 300 then ((F.1.1 + 1, F.1.2.set F.1.1.toNat (wp_i y)), F.2) else F
def wrs : TD → List Int → TD
  | F, [] => F
  | F, y :: l => wrs (wr1 F y) l
theorem wrs_c (F : TD) (y : Int) (l : List Int) : wrs F (y :: l) = wrs (wr1 F y) l := rfl
theorem wrs_app : ∀ (a b : List Int) (F : TD), wrs F (a ++ b) = wrs (wrs F a) b
  | [], _, _ => rfl
  | _ :: a, b, F => wrs_app a b _
theorem wr1_2 (F : TD) (y : Int) : (wr1 F y).2 = F.2 := by
  unfold wr1
  split <;> rfl
theorem wrs_2 : ∀ (l : List Int) (F : TD), (wrs F l).2 = F.2
  | [], _ => rfl
  | y :: l, F => (wrs_2 l (wr1 F y)).trans (wr1_2 F y)
/-- what is joined, of what waits -/
def jE (r : Int) : List Int → List Int
  | [] => []
  | c :: w => if r ≤ ck c then (20000 + c) :: jE r w else []
def e_wd (v st : Int) : List Int := if v = 15 ∧ st = 0 then [] else [10000 + v]
def e_one (k v st : Int) : List Int := if k = 1 then [v] else if k = 0 then e_wd v st else []
def e_cl (w : List Int) (ls : Int) : List Int := match jwt 5 w with
  | [] => []
  | c :: _ => jE 5 w ++ (if c = 91 then [30000 + ls] else [])
def eg6 (law g : Int) (w : List Int) (ls as_ : Int) : List Int := if g = 59 ∧ brn w = 0 ∧ (¬ law = 2 ∨ ¬ as_ = 0) then jE 1 w else []
def eg5 (law g : Int) (w : List Int) (ls as_ : Int) : List Int := if g = 44 ∧ brn w = 1 ∧ ¬ as_ = 0 ∧ (jwt 5 w).head? = some 91 then jE 5 w else eg6 law g w ls as_
def eg4 (law g : Int) (w : List Int) (ls as_ : Int) : List Int := if g = 41 ∧ 0 < brn w then e_cl w ls else eg5 law g w ls as_
def eg3 (law g : Int) (w : List Int) (ls as_ : Int) : List Int := if (ck g = 1 ∨ ck g = 2) ∧ (law = 2 ∧ brn w = 0) ∧ ¬ as_ = 0 then jE (ck g) w else eg4 law g w ls as_
def eg2 (law g : Int) (w : List Int) (ls as_ : Int) : List Int := if g = 91 ∧ (law = 2 ∧ brn w = 0) ∧ as_ = 0 then jE 5 w else eg3 law g w ls as_
def eg1 (law g : Int) (w : List Int) (ls as_ : Int) : List Int := if ck g = 4 ∧ (law = 2 ∧ brn w = 0) ∧ as_ = 0 then jE 5 w else eg2 law g w ls as_
def e_sg (law g st : Int) (w : List Int) (ls as_ : Int) : List Int := if (ck g = 5 ∨ ck g = 6) ∧ ¬ st = 4 then jE (ck g) w else eg1 law g w ls as_
/-- what a token in a law has written -/
def estep (law k v st : Int) (w : List Int) (ls as_ : Int) : List Int := if st = 0 ∨ st = 1 then e_one k v st else if st = 3 then [] else e_sg law (sh k v) st w ls as_
def tX (h : mj_H) (t : Nat) (cl : Int) (F : TD) : Prop := h[t]? = some (1, [Value.ref (t + 1), wp_i F.1.1, Value.ref (t + 2), Value.ref (t + 3), Value.ref (t + 4), Value.ref (t + 5), Value.ref (t + 6), wp_i cl, Value.ref 10]) ∧ (0 ≤ F.1.1 ∧ F.1.1 ≤ 300) ∧ h[t + 1]? = some (1000, F.1.2) ∧ h[t + 2]? = some (1000, F.2.1.1) ∧ h[t + 3]? = some (1000, F.2.1.2) ∧ h[t + 4]? = some (1000, F.2.2.1) ∧ h[t + 5]? = some (1000, F.2.2.2.1) ∧ h[t + 6]? = some (1000, F.2.2.2.2)
theorem tX_fr {h h1 : mj_H} {t : Nat} {cl : Int} {fr : TD} (X : tX h t cl fr) (e : ∀ a, t ≤ a → a ≤ t + 6 → h1[a]? = h[a]?) : tX h1 t cl fr := by
  obtain ⟨x0, x, x1, x2, x3, x4, x5, x6⟩ := X
  exact ⟨(e t (by omega) (by omega)).trans x0, x, (e _ (by omega) (by omega)).trans x1, (e _ (by omega) (by omega)).trans x2, (e _ (by omega) (by omega)).trans x3, (e _ (by omega) (by omega)).trans x4, (e _ (by omega) (by omega)).trans x5, (e _ (by omega) (by omega)).trans x6⟩
def kL (h0 h : mj_H) (bl : List Value) (t : Nat) (L k v s p f q law st wn op br ls as_ cl : Int) (ws : List Value) (fr : TD) : Prop := h[91]? = some (8, [Value.ref 92, wp_i L, wp_i k, wp_i v, wp_i s, wp_i p]) ∧ h[92]? = some (1000, bl) ∧ h[93]? = some (9, [Value.ref 91, Value.ref t, wp_i 1, wp_i f, wp_i q, wp_i law, wp_i st, Value.ref 94, wp_i wn, wp_i op, wp_i br, wp_i ls, wp_i as_]) ∧ (h[94]? = some (1000, ws) ∧ ws.length = 40) ∧ tX h t cl fr ∧ ∀ a, ¬ (t ≤ a ∧ a ≤ t + 6) → a ≠ 91 → a ≠ 93 → a ≠ 94 → h[a]? = h0[a]?
section WKL
variable {nn d m pc : Nat} {lv : mj_L} {st0 : List Value} {h h0 : mj_H} {Q : Option Value → mj_H → Prop} {bl ws : List Value} {fr : TD} {t : Nat} {L k v s p f q law st wn op br ls as_ cl : Int}
theorem kl_t {x kk : Nat} {ty : FieldType} {w : Bool} {y : Value} (V : kL h0 h bl t L k v s p f q law st wn op br ls as_ cl ws fr) (hi : mj_ins m pc = some (.getfield x)) (hf : mj_fld m x = some (8, kk, ty, w)) (hy : [Value.ref 92, wp_i L, wp_i k, wp_i v, wp_i s, wp_i p][kk]? = some y) (hr : wl_R nn d m (pc + 3) lv (y :: st0) h Q) : wl_R nn d m pc lv (.ref 91 :: st0) h Q := wl_gf hi hf V.1 hy hr
theorem kl_g {x kk : Nat} {ty : FieldType} {w : Bool} {y : Value} (V : kL h0 h bl t L k v s p f q law st wn op br ls as_ cl ws fr) (hi : mj_ins m pc = some (.getfield x)) (hf : mj_fld m x = some (9, kk, ty, w)) (hy : [Value.ref 91, Value.ref t, wp_i 1, wp_i f, wp_i q, wp_i law, wp_i st, Value.ref 94, wp_i wn, wp_i op, wp_i br, wp_i ls, wp_i as_][kk]? = some y) (hr : wl_R nn d m (pc + 3) lv (y :: st0) h Q) : wl_R nn d m pc lv (.ref 93 :: st0) h Q := wl_gf hi hf V.2.2.1 hy hr
theorem kl_p {x kk : Nat} {ty : FieldType} {y f' q' law' st' wn' op' br' ls' as_' : Int} (ht : 12 ≤ t ∧ t ≤ 33) (V : kL h0 h bl t L k v s p f q law st wn op br ls as_ cl ws fr) (hi : mj_ins m pc = some (.putfield x)) (hf : mj_fld m x = some (9, kk, ty, true)) (hkk : kk < 13) (hn : narrow ty (wp_i y) = wp_i y) (hfi : fits ty (wp_i y) = true) (hs : [Value.ref 91, Value.ref t, wp_i 1, wp_i f, wp_i q, wp_i law, wp_i st, Value.ref 94, wp_i wn, wp_i op, wp_i br, wp_i ls, wp_i as_].set kk (wp_i y) = [Value.ref 91, Value.ref t, wp_i 1, wp_i f', wp_i q', wp_i law', wp_i st', Value.ref 94, wp_i wn', wp_i op', wp_i br', wp_i ls', wp_i as_']) (hr : ∀ h, kL h0 h bl t L k v s p f' q' law' st' wn' op' br' ls' as_' cl ws fr → wl_R nn d m (pc + 3) lv st0 h Q) : wl_R nn d m pc lv (wp_i y :: .ref 93 :: st0) h Q := by
  obtain ⟨e1, e2, e3, ⟨e4, e5⟩, e6, e7⟩ := V
  refine wl_pf hi hf e3 (by decide) hkk hn hfi (hr _ ⟨?_, ?_, ?_, ⟨?_, e5⟩, tX_fr e6 (fun a a1 a2 => List.getElem?_set_ne (by omega)), fun a a1 a2 a3 a4 => ?_⟩)
  · rw [List.getElem?_set_ne (by decide)]; exact e1
  · rw [List.getElem?_set_ne (by decide)]; exact e2
  · rw [hs]; exact List.getElem?_set_self (fd_lt e3)
  · rw [List.getElem?_set_ne (by decide)]; exact e4
  · rw [List.getElem?_set_ne (Ne.symm a3)]; exact e7 a a1 a2 a3 a4
theorem kl_l {x : Int} (V : kL h0 h bl t L k v s p f q law st wn op br ls as_ cl ws fr) (hx : wp_r x) (hi : mj_ins m pc = some .iaload) (hr : ∀ y, 0 ≤ x → x < 40 → ws[x.toNat]? = some y → wl_R nn d m (pc + 1) lv (y :: st0) h Q) : wl_R nn d m pc lv (wp_i x :: .ref 94 :: st0) h Q := by
  obtain ⟨e1, e2, e3, ⟨e4, e5⟩, e6, e7⟩ := V
  exact wl_al hi e4 hx (fun y y1 y2 y3 => hr y y1 (by omega) y3)
theorem kl_s {x y : Int} (ht : 12 ≤ t ∧ t ≤ 33) (V : kL h0 h bl t L k v s p f q law st wn op br ls as_ cl ws fr) (hx : wp_r x) (hi : mj_ins m pc = some .iastore) (hr : ∀ h, 0 ≤ x → x < 40 → kL h0 h bl t L k v s p f q law st wn op br ls as_ cl (ws.set x.toNat (wp_i y)) fr → wl_R nn d m (pc + 1) lv st0 h Q) : wl_R nn d m pc lv (wp_i y :: wp_i x :: .ref 94 :: st0) h Q := by
  obtain ⟨e1, e2, e3, ⟨e4, e5⟩, e6, e7⟩ := V
  refine wl_as hi e4 hx (fun x1 x2 => hr _ x1 (by omega) ⟨?_, ?_, ?_, ⟨List.getElem?_set_self (fd_lt e4), by rw [List.length_set]; exact e5⟩, tX_fr e6 (fun a a1 a2 => List.getElem?_set_ne (by omega)), fun a a1 a2 a3 a4 => ?_⟩)
  · rw [List.getElem?_set_ne (by decide)]; exact e1
  · rw [List.getElem?_set_ne (by decide)]; exact e2
  · rw [List.getElem?_set_ne (by decide)]; exact e3
  · rw [List.getElem?_set_ne (Ne.symm a4)]; exact e7 a a1 a2 a3 a4
theorem kl_93 (V : kL h0 h bl t L k v s p f q law st wn op br ls as_ cl ws fr) : h[93]? = some (9, [Value.ref 91, Value.ref t, wp_i 1, wp_i f, wp_i q, wp_i law, wp_i st, Value.ref 94, wp_i wn, wp_i op, wp_i br, wp_i ls, wp_i as_]) := V.2.2.1
theorem kl_tc (V : kL h0 h bl t L k v s p f q law st wn op br ls as_ cl ws fr) : ∃ fs, h[t]? = some (1, fs) := ⟨_, V.2.2.2.2.1.1⟩
theorem kl_tx {b : Nat} {c : mj_C} {cl2 : Int} {fr2 : TD} (ht : 12 ≤ t ∧ t ≤ 33) (hb : t ≤ b ∧ b ≤ t + 6) (V : kL h0 h bl t L k v s p f q law st wn op br ls as_ cl ws fr) (X : tX (h.set b c) t cl2 fr2) : kL h0 (h.set b c) bl t L k v s p f q law st wn op br ls as_ cl2 ws fr2 := by
  obtain ⟨e1, e2, e3, ⟨e4, e5⟩, e6, e7⟩ := V
  refine ⟨?_, ?_, ?_, ⟨?_, e5⟩, X, fun a a1 a2 a3 a4 => ?_⟩
  · rw [List.getElem?_set_ne (by omega)]; exact e1
  · rw [List.getElem?_set_ne (by omega)]; exact e2
  · rw [List.getElem?_set_ne (by omega)]; exact e3
  · rw [List.getElem?_set_ne (by omega)]; exact e4
  · rw [List.getElem?_set_ne (by omega)]; exact e7 a a1 a2 a3 a4
end WKL
theorem wk_fail {nn d : Nat} {n : Int} {h0 h : mj_H} {bl ws : List Value} {fr : TD} {t : Nat} {L k v s p f q law st wn op br ls as_ cl : Int} (ht : 12 ≤ t ∧ t ≤ 33) (V : kL h0 h bl t L k v s p f q law st wn op br ls as_ cl ws fr) : wl_R nn d 31 0 [some (.ref 93), some (wp_i n)] [] h (fun w h1 => w = none ∧ kL h0 h1 bl t L k v s p n s law st wn op br ls as_ cl ws fr) := by
  refine wl_s (pc' := 1) ji_31_0 rfl rfl rfl ?_
  refine wl_s (pc' := 2) ji_31_1 rfl rfl rfl ?_
  refine kl_p (y := n) (f' := n) (q' := q) (law' := law) (st' := st) (wn' := wn) (op' := op) (br' := br) (ls' := ls) (as_' := as_) ht V ji_31_2 jf_31_15 (by decide) rfl rfl rfl (fun h V => ?_)
  refine wl_s (pc' := 6) ji_31_5 rfl rfl rfl ?_
  refine wl_s (pc' := 7) ji_31_6 rfl rfl rfl ?_
  refine kl_g V ji_31_7 jf_31_47 rfl ?_
  refine kl_t V ji_31_10 jf_31_74 rfl ?_
  refine kl_p (y := s) (f' := n) (q' := s) (law' := law) (st' := st) (wn' := wn) (op' := op) (br' := br) (ls' := ls) (as_' := as_) ht V ji_31_13 jf_31_19 (by decide) rfl rfl rfl (fun h V => ?_)
  exact wl_rv ji_31_16 jr_31 ⟨rfl, V⟩
theorem wk_write {nn d : Nat} {y : Int} {h0 h : mj_H} {bl ws : List Value} {fr : TD} {t : Nat} {L k v s p f q law st wn op br ls as_ cl : Int} (ht : 12 ≤ t ∧ t ≤ 33) (V : kL h0 h bl t L k v s p f q law st wn op br ls as_ cl ws fr) : wl_R nn d 36 0 [some (.ref t), some (wp_i y)] [] h (fun w h1 => w = none ∧ kL h0 h1 bl t L k v s p f q law st wn op br ls as_ cl ws (wr1 fr y)) := by
  obtain ⟨⟨sz, c1⟩, ⟨f1, c3⟩, c4, c5, c6⟩ := fr
  have X := V.2.2.2.2.1
  have x0 : h[t]? = some (1, [Value.ref (t + 1), wp_i sz, Value.ref (t + 2), Value.ref (t + 3), Value.ref (t + 4), Value.ref (t + 5), Value.ref (t + 6), wp_i cl, Value.ref 10]) := X.1
  have x : 0 ≤ sz ∧ sz ≤ 300 := X.2.1
  have x1 : h[t + 1]? = some (1000, c1) := X.2.2.1
  have x2 : h[t + 2]? = some (1000, f1) := X.2.2.2.1
  have x3 : h[t + 3]? = some (1000, c3) := X.2.2.2.2.1
  have x4 : h[t + 4]? = some (1000, c4) := X.2.2.2.2.2.1
  have x5 : h[t + 5]? = some (1000, c5) := X.2.2.2.2.2.2.1
  have x6 : h[t + 6]? = some (1000, c6) := X.2.2.2.2.2.2.2
  refine wl_s (pc' := 1) ji_36_0 rfl rfl rfl ?_
  refine wl_gf ji_36_1 jf_36_17 x0 rfl ?_
  refine wl_sp ji_36_4 rfl ?_
  refine wl_icmp (t := 30) ji_36_7 rfl (by omega) (by omega) (fun (hlt : (300 : Int) ≤ sz) => wl_rv ji_36_30 jr_36 ⟨rfl, by rw [show wr1 ((sz, c1), (f1, c3), c4, c5, c6) y = ((sz, c1), (f1, c3), c4, c5, c6) from if_neg (by show ¬ sz < 300; omega)]; exact V⟩) (fun (hlt : ¬ ((300 : Int) ≤ sz)) => ?_)
  refine wl_s (pc' := 11) ji_36_10 rfl rfl rfl ?_
  refine wl_gf ji_36_11 jf_36_11 x0 rfl ?_
  refine wl_s (pc' := 15) ji_36_14 rfl rfl rfl ?_
  refine wl_gf ji_36_15 jf_36_17 x0 rfl ?_
  refine wl_s (pc' := 19) ji_36_18 rfl rfl rfl ?_
  refine wl_as ji_36_19 x1 (by omega) (fun y1 y2 => ?_)
  have V := kl_tx (b := t + 1) (c := (1000, c1.set sz.toNat (wp_i y))) ht (by omega) V (cl2 := cl) (fr2 := ((sz, c1.set sz.toNat (wp_i y)), (f1, c3), c4, c5, c6)) ⟨by rw [List.getElem?_set_ne (by omega)]; exact x0, x, List.getElem?_set_self (fd_lt x1), by rw [List.getElem?_set_ne (by omega)]; exact x2, by rw [List.getElem?_set_ne (by omega)]; exact x3, by rw [List.getElem?_set_ne (by omega)]; exact x4, by rw [List.getElem?_set_ne (by omega)]; exact x5, by rw [List.getElem?_set_ne (by omega)]; exact x6⟩
  have z0 : (h.set (t + 1) (1000, c1.set sz.toNat (wp_i y)))[t]? = some (1, [Value.ref (t + 1), wp_i sz, Value.ref (t + 2), Value.ref (t + 3), Value.ref (t + 4), Value.ref (t + 5), Value.ref (t + 6), wp_i cl, Value.ref 10]) := by rw [List.getElem?_set_ne (by omega)]; exact x0
  refine wl_s (pc' := 21) ji_36_20 rfl rfl rfl ?_
  refine wl_s (pc' := 22) ji_36_21 rfl rfl rfl ?_
  refine wl_gf ji_36_22 jf_36_17 z0 rfl ?_
  refine wl_s (pc' := 26) ji_36_25 rfl rfl rfl ?_
  refine wl_iadd (x := sz) (y := 1) (z := sz + 1) ji_36_26 rfl ?_
  refine wl_pf ji_36_27 jf_36_17 z0 (Nat.le_trans (by decide) ht.1) (Nat.le_of_ble_eq_true rfl) rfl rfl ?_
  exact wl_rv ji_36_30 jr_36 ⟨rfl, by rw [show wr1 ((sz, c1), (f1, c3), c4, c5, c6) y = ((sz + 1, c1.set sz.toNat (wp_i y)), (f1, c3), c4, c5, c6) from if_pos (by show sz < 300; omega)]; exact kl_tx (b := t) ht (by omega) V ⟨List.getElem?_set_self (fd_lt z0), by show 0 ≤ sz + 1 ∧ sz + 1 ≤ 300; omega, by rw [List.getElem?_set_ne (by omega)]; exact List.getElem?_set_self (fd_lt x1), by rw [List.getElem?_set_ne (by omega), List.getElem?_set_ne (by omega)]; exact x2, by rw [List.getElem?_set_ne (by omega), List.getElem?_set_ne (by omega)]; exact x3, by rw [List.getElem?_set_ne (by omega), List.getElem?_set_ne (by omega)]; exact x4, by rw [List.getElem?_set_ne (by omega), List.getElem?_set_ne (by omega)]; exact x5, by rw [List.getElem?_set_ne (by omega), List.getElem?_set_ne (by omega)]; exact x6⟩⟩
def kH (h0 h : mj_H) (bl : List Value) (t : Nat) (L k v s p f q law st : Int) (w : List Int) (ls as_ cl : Int) (fr : TD) : Prop := ∃ ws, en ws w ∧ w.length ≤ 40 ∧ kL h0 h bl t L k v s p f q law st (w.length : Int) (opn w) (brn w) ls as_ cl ws fr
theorem wk_aw {nn d : Nat} {c : Int} {w : List Int} {h0 h : mj_H} {bl ws : List Value} {fr : TD} {t : Nat} {L k v s p f q law st op br ls as_ cl : Int} (ht : 12 ≤ t ∧ t ≤ 33) (V : kL h0 h bl t L k v s p f q law st (w.length : Int) op br ls as_ cl ws fr) (hen : en ws w) (hw : w.length ≤ 39) (hc : 0 ≤ c ∧ c ≤ 200) : wl_R nn d 39 0 [some (.ref 93), some (wp_i c)] [] h (fun v1 h1 => v1 = none ∧ ∃ ws', en ws' (c :: w) ∧ kL h0 h1 bl t L k v s p f q law st ((w.length : Int) + 1) op br ls as_ cl ws' fr) := by
  have hwl := V.2.2.2.1.2
  refine wl_s (pc' := 1) ji_39_0 rfl rfl rfl ?_
  refine kl_g V ji_39_1 jf_39_32 rfl ?_
  refine wl_bp ji_39_4 rfl ?_
  refine wl_icmp (t := 29) ji_39_6 rfl (by omega) (by omega) (fun (hb1 : (40 : Int) ≤ ((w.length : Int))) => (by exfalso; omega)) (fun (hb1 : ¬ ((40 : Int) ≤ ((w.length : Int)))) => ?_)
  refine wl_s (pc' := 10) ji_39_9 rfl rfl rfl ?_
  refine kl_g V ji_39_10 jf_39_28 rfl ?_
  refine wl_s (pc' := 14) ji_39_13 rfl rfl rfl ?_
  refine kl_g V ji_39_14 jf_39_32 rfl ?_
  refine wl_s (pc' := 18) ji_39_17 rfl rfl rfl ?_
  refine kl_s (x := (w.length : Int)) (y := c) ht V (by omega) ji_39_18 (fun h x1 x2 V => ?_)
  refine wl_s (pc' := 20) ji_39_19 rfl rfl rfl ?_
  refine wl_s (pc' := 21) ji_39_20 rfl rfl rfl ?_
  refine kl_g V ji_39_21 jf_39_32 rfl ?_
  refine wl_s (pc' := 25) ji_39_24 rfl rfl rfl ?_
  refine wl_iadd (x := (w.length : Int)) (y := 1) (z := (w.length : Int) + 1) ji_39_25 (by omega) ?_
  refine kl_p (y := (w.length : Int) + 1) (f' := f) (q' := q) (law' := law) (st' := st) (wn' := (w.length : Int) + 1) (op' := op) (br' := br) (ls' := ls) (as_' := as_) ht V ji_39_26 jf_39_32 (by decide) rfl rfl rfl (fun h V => ?_)
  exact wl_rv ji_39_29 jr_39 ⟨rfl, ws.set ((w.length : Int)).toNat (wp_i c), ⟨⟨by rw [show ((w.length : Int)).toNat = w.length by omega]; exact List.getElem?_set_self (by rw [hwl]; omega), hc⟩, en_set (by omega) hen⟩, V⟩
theorem wk_jw {d : Nat} {h0 : mj_H} {bl : List Value} {t : Nat} {L k v s p f q law st ls as_ cl r : Int} (ht : 12 ≤ t ∧ t ≤ 33) (hr : 1 ≤ r ∧ r ≤ 7) : ∀ (n : Nat) (fr : TD) (w : List Int) (h : mj_H) (o : Option Value), kH h0 h bl t L k v s p f q law st w ls as_ cl fr → wl_R n (d + 1) 45 0 [some (.ref 93), some (wp_i r), o] [] h (fun v1 h1 => v1 = none ∧ kH h0 h1 bl t L k v s p f q law st (jwt r w) ls as_ cl (wrs fr (jE r w))) := by
  intro n
  induction n with
  | zero => intro fr w h o V; exact wl_0
  | succ n ih =>
    intro fr w h o V
    obtain ⟨ws, e, hlen, V⟩ := V
    cases w with
    | nil =>
      refine wl_s (pc' := 1) ji_45_0 rfl rfl rfl ?_
      refine kl_g V ji_45_1 jf_45_32 rfl ?_
      refine wl_if (t := 82) ji_45_4 rfl (x := 0) (by omega) (fun _ => wl_rv ji_45_82 jr_45 ⟨rfl, ws, e, hlen, V⟩) (fun (q : ¬ ((0 : Int) ≤ 0)) => absurd (Int.le_refl _) q)
    | cons c w =>
      obtain ⟨⟨e1, e1b⟩, e2⟩ := e
      have hck := ck_r c
      have hop := opn_0 w
      have hbr0 := brn_0 w
      have hb_ck : r ≤ ck c → ¬ (c = 40 ∨ c = 91) := fun x y => by rcases y with y | y <;> (subst y; unfold ck at x; simp at x; omega)
      have hw40 : w.length + 1 ≤ 40 := hlen
      have hoc : 0 ≤ opc c ∧ opc c ≤ 1 := by unfold opc; split <;> omega
      have hbc : 0 ≤ brc c ∧ brc c ≤ 1 := by unfold brc; split <;> omega
      have hbr1 : r ≤ ck c → brc c = 0 := fun x => if_neg (hb_ck x)
      have V : kL h0 h bl t L k v s p f q law st ((w.length : Int) + 1) (opn w + opc c) (brn w + brc c) ls as_ cl ws fr := V
      refine wl_s1 (pc' := 1) ji_45_0 rfl rfl rfl ?_
      refine kl_g V ji_45_1 jf_45_32 rfl ?_
      refine wl_if (t := 82) ji_45_4 rfl (by omega) (fun (hb1 : ((w.length : Int) + 1 : Int) ≤ 0) => (by exfalso; omega)) (fun (hb1 : ¬ (((w.length : Int) + 1 : Int) ≤ 0)) => ?_)
      refine wl_s (pc' := 8) ji_45_7 rfl rfl rfl ?_
      refine kl_g V ji_45_8 jf_45_28 rfl ?_
      refine wl_s (pc' := 12) ji_45_11 rfl rfl rfl ?_
      refine kl_g V ji_45_12 jf_45_32 rfl ?_
      refine wl_s (pc' := 16) ji_45_15 rfl rfl rfl ?_
      refine wl_isub (x := (w.length : Int) + 1) (y := 1) (z := (w.length : Int) + 1 - 1) ji_45_16 (by omega) ?_
      refine kl_l (x := (w.length : Int) + 1 - 1) V (by omega) ji_45_17 (fun y y1 y2 y3 => ?_)
      rw [show ((w.length : Int) + 1 - 1).toNat = w.length by omega, e1] at y3
      cases y3
      refine wl_sc (d := d) (as := [wp_i c]) (rest := []) ji_45_18 jc_45_155 (Nat.le_of_ble_eq_true rfl) rfl (Nat.le_of_ble_eq_true rfl) rfl (by rw [jn_43]; rfl) (wc_rank (c := c) (by omega)) (fun v1 h1 R => ?_)
      obtain ⟨ee, rfl⟩ := R
      subst ee
      show wl_R _ (d + 1) 45 21 [some (.ref 93), some (wp_i r), o] [wp_i (ck c)] h1 _
      refine wl_s (pc' := 22) ji_45_21 rfl rfl rfl ?_
      refine wl_icmp (t := 82) ji_45_22 rfl (by omega) (by omega) (fun (hb2 : (ck c : Int) < r) => ?_) (fun (hb2 : ¬ ((ck c : Int) < r)) => ?_)
      · rw [show jwt r (c :: w) = c :: w from if_neg (by omega), show jE r (c :: w) = [] from if_neg (by omega)]
        exact wl_rv ji_45_82 jr_45 ⟨rfl, ws, ⟨⟨e1, e1b⟩, e2⟩, hlen, V⟩
      · refine wl_s (pc' := 26) ji_45_25 rfl rfl rfl ?_
        refine wl_s (pc' := 27) ji_45_26 rfl rfl rfl ?_
        refine kl_g V ji_45_27 jf_45_32 rfl ?_
        refine wl_s (pc' := 31) ji_45_30 rfl rfl rfl ?_
        refine wl_isub (x := (w.length : Int) + 1) (y := 1) (z := (w.length : Int) + 1 - 1) ji_45_31 (by omega) ?_
        refine kl_p (y := (w.length : Int) + 1 - 1) (f' := f) (q' := q) (law' := law) (st' := st) (wn' := (w.length : Int) + 1 - 1) (op' := opn w + opc c) (br' := brn w + brc c) (ls' := ls) (as_' := as_) ht V ji_45_32 jf_45_32 (by decide) rfl rfl rfl (fun h V => ?_)
        refine wl_s (pc' := 36) ji_45_35 rfl rfl rfl ?_
        refine kl_g V ji_45_36 jf_45_28 rfl ?_
        refine wl_s (pc' := 40) ji_45_39 rfl rfl rfl ?_
        refine kl_g V ji_45_40 jf_45_32 rfl ?_
        refine kl_l (x := (w.length : Int) + 1 - 1) V (by omega) ji_45_43 (fun y y1 y2 y3 => ?_)
        rw [show ((w.length : Int) + 1 - 1).toNat = w.length by omega, e1] at y3
        cases y3
        refine wl_s (pc' := 45) (lv' := [some (.ref 93), some (wp_i r), some (wp_i c)]) ji_45_44 rfl rfl rfl ?_
        refine wl_s (pc' := 46) ji_45_45 rfl rfl rfl ?_
        refine wl_bp ji_45_46 rfl ?_
        refine wl_icmp (t := 57) ji_45_48 rfl (by omega) (by omega) (fun (hb3 : (c : Int) = 110) => ?_) (fun (hb3 : ¬ ((c : Int) = 110)) => ?_)
        · refine wl_s (pc' := 58) ji_45_57 rfl rfl rfl ?_
          refine wl_s (pc' := 59) ji_45_58 rfl rfl rfl ?_
          refine kl_g V ji_45_59 jf_45_35 rfl ?_
          refine wl_s (pc' := 63) ji_45_62 rfl rfl rfl ?_
          refine wl_isub (x := opn w + opc c) (y := 1) (z := opn w + opc c - 1) ji_45_63 (by omega) ?_
          refine kl_p (y := opn w + opc c - 1) (f' := f) (q' := q) (law' := law) (st' := st) (wn' := (w.length : Int) + 1 - 1) (op' := opn w + opc c - 1) (br' := brn w + brc c) (ls' := ls) (as_' := as_) ht V ji_45_64 jf_45_35 (by decide) rfl rfl rfl (fun h V => ?_)
          refine wl_s (pc' := 68) ji_45_67 rfl rfl rfl ?_
          refine kl_g V ji_45_68 jf_45_51 rfl ?_
          refine wl_sp ji_45_71 rfl ?_
          refine wl_s (pc' := 75) ji_45_74 rfl rfl rfl ?_
          refine wl_iadd (x := 20000) (y := c) (z := 20000 + c) ji_45_75 (by omega) ?_
          obtain ⟨tfs, htc⟩ := kl_tc V
          refine wl_vc (d := d) (as := [.ref t, wp_i (20000 + c)]) (rest := []) ji_45_76 jc_45_139 rfl htc jk_36.symm (Nat.le_of_ble_eq_true rfl) rfl (by rw [jn_36]; rfl) (wk_write ht V) (fun v1 h2 R => ?_)
          obtain ⟨rfl, V⟩ := R
          show wl_R _ (d + 1) 45 79 [some (.ref 93), some (wp_i r), some (wp_i c)] [] h2 _
          refine wl_goto (t := 0) ji_45_79 rfl ?_
          rw [show jwt r (c :: w) = jwt r w from if_pos (by omega), show jE r (c :: w) = (20000 + c) :: jE r w from if_pos (by omega), wrs_c]
          rw [show opn w + opc c - 1 = opn w by unfold opc; rw [if_pos (by omega)]; omega] at V
          rw [show brc c = 0 from hbr1 (by omega), Int.add_zero, show (w.length : Int) + 1 - 1 = (w.length : Int) by omega] at V
          exact ih _ w _ (some (wp_i c)) ⟨ws, e2, by have : w.length + 1 ≤ 40 := hlen; omega, V⟩
        · refine wl_s (pc' := 52) ji_45_51 rfl rfl rfl ?_
          refine wl_bp ji_45_52 rfl ?_
          refine wl_icmp (t := 67) ji_45_54 rfl (by omega) (by omega) (fun (hb4 : ¬ (c : Int) = 33) => ?_) (fun (hb4 : ¬ (¬ (c : Int) = 33)) => ?_)
          · refine wl_s (pc' := 68) ji_45_67 rfl rfl rfl ?_
            refine kl_g V ji_45_68 jf_45_51 rfl ?_
            refine wl_sp ji_45_71 rfl ?_
            refine wl_s (pc' := 75) ji_45_74 rfl rfl rfl ?_
            refine wl_iadd (x := 20000) (y := c) (z := 20000 + c) ji_45_75 (by omega) ?_
            obtain ⟨tfs, htc⟩ := kl_tc V
            refine wl_vc (d := d) (as := [.ref t, wp_i (20000 + c)]) (rest := []) ji_45_76 jc_45_139 rfl htc jk_36.symm (Nat.le_of_ble_eq_true rfl) rfl (by rw [jn_36]; rfl) (wk_write ht V) (fun v1 h2 R => ?_)
            obtain ⟨rfl, V⟩ := R
            show wl_R _ (d + 1) 45 79 [some (.ref 93), some (wp_i r), some (wp_i c)] [] h2 _
            refine wl_goto (t := 0) ji_45_79 rfl ?_
            rw [show jwt r (c :: w) = jwt r w from if_pos (by omega), show jE r (c :: w) = (20000 + c) :: jE r w from if_pos (by omega), wrs_c]
            rw [show opc c = 0 from if_neg (by have := hb_ck (by omega); omega), Int.add_zero] at V
            rw [show brc c = 0 from hbr1 (by omega), Int.add_zero, show (w.length : Int) + 1 - 1 = (w.length : Int) by omega] at V
            exact ih _ w _ (some (wp_i c)) ⟨ws, e2, by have : w.length + 1 ≤ 40 := hlen; omega, V⟩
          · refine wl_s (pc' := 58) ji_45_57 rfl rfl rfl ?_
            refine wl_s (pc' := 59) ji_45_58 rfl rfl rfl ?_
            refine kl_g V ji_45_59 jf_45_35 rfl ?_
            refine wl_s (pc' := 63) ji_45_62 rfl rfl rfl ?_
            refine wl_isub (x := opn w + opc c) (y := 1) (z := opn w + opc c - 1) ji_45_63 (by omega) ?_
            refine kl_p (y := opn w + opc c - 1) (f' := f) (q' := q) (law' := law) (st' := st) (wn' := (w.length : Int) + 1 - 1) (op' := opn w + opc c - 1) (br' := brn w + brc c) (ls' := ls) (as_' := as_) ht V ji_45_64 jf_45_35 (by decide) rfl rfl rfl (fun h V => ?_)
            refine wl_s (pc' := 68) ji_45_67 rfl rfl rfl ?_
            refine kl_g V ji_45_68 jf_45_51 rfl ?_
            refine wl_sp ji_45_71 rfl ?_
            refine wl_s (pc' := 75) ji_45_74 rfl rfl rfl ?_
            refine wl_iadd (x := 20000) (y := c) (z := 20000 + c) ji_45_75 (by omega) ?_
            obtain ⟨tfs, htc⟩ := kl_tc V
            refine wl_vc (d := d) (as := [.ref t, wp_i (20000 + c)]) (rest := []) ji_45_76 jc_45_139 rfl htc jk_36.symm (Nat.le_of_ble_eq_true rfl) rfl (by rw [jn_36]; rfl) (wk_write ht V) (fun v1 h2 R => ?_)
            obtain ⟨rfl, V⟩ := R
            show wl_R _ (d + 1) 45 79 [some (.ref 93), some (wp_i r), some (wp_i c)] [] h2 _
            refine wl_goto (t := 0) ji_45_79 rfl ?_
            rw [show jwt r (c :: w) = jwt r w from if_pos (by omega), show jE r (c :: w) = (20000 + c) :: jE r w from if_pos (by omega), wrs_c]
            rw [show opn w + opc c - 1 = opn w by unfold opc; rw [if_pos (by omega)]; omega] at V
            rw [show brc c = 0 from hbr1 (by omega), Int.add_zero, show (w.length : Int) + 1 - 1 = (w.length : Int) by omega] at V
            exact ih _ w _ (some (wp_i c)) ⟨ws, e2, by have : w.length + 1 ≤ 40 := hlen; omega, V⟩

theorem wk_open {nn d : Nat} {c : Int} {h0 h : mj_H} {bl : List Value} {fr : TD} {t : Nat} {w : List Int} {L k v s p f q law st ls as_ cl : Int} (ht : 12 ≤ t ∧ t ≤ 33) (V : kH h0 h bl t L k v s p f q law st w ls as_ cl fr) (hw : w.length ≤ 39) (hc : c = 40 ∨ c = 91 ∨ c = 110 ∨ c = 33) : wl_R nn (d + 1) 38 0 [some (.ref 93), some (wp_i c)] [] h (fun v1 h1 => v1 = none ∧ ((opn w = 8 ∧ kH h0 h1 bl t L k v s p 3 s law st w ls as_ cl fr) ∨ (¬ opn w = 8 ∧ kH h0 h1 bl t L k v s p f q law (if c = 33 then 0 else 1) (c :: w) ls as_ cl fr))) := by
  obtain ⟨ws, e, hlen, V⟩ := V
  have hop := opn_0 w
  have hbr := brn_0 w
  refine wl_s (pc' := 1) ji_38_0 rfl rfl rfl ?_
  refine kl_g V ji_38_1 jf_38_35 rfl ?_
  refine wl_bp ji_38_4 rfl ?_
  refine wl_icmp (t := 15) ji_38_6 rfl (by omega) (by omega) (fun (hb1 : ¬ (opn w : Int) = 8) => ?_) (fun (hb1 : ¬ (¬ (opn w : Int) = 8)) => ?_)
  · refine wl_s (pc' := 16) ji_38_15 rfl rfl rfl ?_
    refine wl_s (pc' := 17) ji_38_16 rfl rfl rfl ?_
    refine kl_g V ji_38_17 jf_38_35 rfl ?_
    refine wl_s (pc' := 21) ji_38_20 rfl rfl rfl ?_
    refine wl_iadd (x := opn w) (y := 1) (z := opn w + 1) ji_38_21 (by omega) ?_
    refine kl_p (y := opn w + 1) (f' := f) (q' := q) (law' := law) (st' := st) (wn' := (w.length : Int)) (op' := opn w + 1) (br' := brn w) (ls' := ls) (as_' := as_) ht V ji_38_22 jf_38_35 (by decide) rfl rfl rfl (fun h V => ?_)
    refine wl_s (pc' := 26) ji_38_25 rfl rfl rfl ?_
    refine wl_bp ji_38_26 rfl ?_
    refine wl_icmp (t := 37) ji_38_28 rfl (by omega) (by omega) (fun (hb2 : (c : Int) = 40) => ?_) (fun (hb2 : ¬ ((c : Int) = 40)) => ?_)
    · refine wl_s (pc' := 38) ji_38_37 rfl rfl rfl ?_
      refine wl_s (pc' := 39) ji_38_38 rfl rfl rfl ?_
      refine kl_g V ji_38_39 jf_38_38 rfl ?_
      refine wl_s (pc' := 43) ji_38_42 rfl rfl rfl ?_
      refine wl_iadd (x := brn w) (y := 1) (z := brn w + 1) ji_38_43 (by omega) ?_
      refine kl_p (y := brn w + 1) (f' := f) (q' := q) (law' := law) (st' := st) (wn' := (w.length : Int)) (op' := opn w + 1) (br' := brn w + 1) (ls' := ls) (as_' := as_) ht V ji_38_44 jf_38_38 (by decide) rfl rfl rfl (fun h V => ?_)
      refine wl_s (pc' := 48) ji_38_47 rfl rfl rfl ?_
      refine wl_s (pc' := 49) ji_38_48 rfl rfl rfl ?_
      refine wl_vc (d := d) (as := [.ref 93, wp_i c]) (rest := []) ji_38_49 jc_38_148 rfl (kl_93 V) jk_39.symm (Nat.le_of_ble_eq_true rfl) rfl (by rw [jn_39]; rfl) (wk_aw (c := c) ht V e (by omega) (by omega)) (fun v1 h1 R => ?_)
      obtain ⟨rfl, ws', e', V⟩ := R
      show wl_R _ _ 38 52 [some (.ref 93), some (wp_i c)] [] h1 _
      refine wl_s (pc' := 53) ji_38_52 rfl rfl rfl ?_
      refine wl_s (pc' := 54) ji_38_53 rfl rfl rfl ?_
      refine wl_bp ji_38_54 rfl ?_
      refine wl_icmp (t := 63) ji_38_56 rfl (by omega) (by omega) (fun (hb3 : ¬ (c : Int) = 33) => ?_) (fun (hb3 : ¬ (¬ (c : Int) = 33)) => ?_)
      · refine wl_s (pc' := 64) ji_38_63 rfl rfl rfl ?_
        refine kl_p (y := 1) (f' := f) (q' := q) (law' := law) (st' := 1) (wn' := (w.length : Int) + 1) (op' := opn w + 1) (br' := brn w + 1) (ls' := ls) (as_' := as_) ht V ji_38_64 jf_38_25 (by decide) rfl rfl rfl (fun h V => ?_)
        rw [show opn w + 1 = opn (c :: w) by show _ = opn w + opc c; unfold opc; rw [if_pos (by omega)], show brn w + 1 = brn (c :: w) by show _ = brn w + brc c; unfold brc; rw [if_pos (by omega)]] at V
        exact wl_rv ji_38_67 jr_38 ⟨rfl, Or.inr ⟨by omega, ws', e', by show w.length + 1 ≤ 40; omega, by rw [show (if c = 33 then (0 : Int) else 1) = 1 from if_neg (by omega)]; exact V⟩⟩
      · refine wl_s (pc' := 60) ji_38_59 rfl rfl rfl ?_
        refine wl_goto (t := 64) ji_38_60 rfl ?_
        refine kl_p (y := 0) (f' := f) (q' := q) (law' := law) (st' := 0) (wn' := (w.length : Int) + 1) (op' := opn w + 1) (br' := brn w + 1) (ls' := ls) (as_' := as_) ht V ji_38_64 jf_38_25 (by decide) rfl rfl rfl (fun h V => ?_)
        rw [show opn w + 1 = opn (c :: w) by show _ = opn w + opc c; unfold opc; rw [if_pos (by omega)], show brn w + 1 = brn (c :: w) by show _ = brn w + brc c; unfold brc; rw [if_pos (by omega)]] at V
        exact wl_rv ji_38_67 jr_38 ⟨rfl, Or.inr ⟨by omega, ws', e', by show w.length + 1 ≤ 40; omega, by rw [show (if c = 33 then (0 : Int) else 1) = 0 from if_pos (by omega)]; exact V⟩⟩
    · refine wl_s (pc' := 32) ji_38_31 rfl rfl rfl ?_
      refine wl_bp ji_38_32 rfl ?_
      refine wl_icmp (t := 47) ji_38_34 rfl (by omega) (by omega) (fun (hb4 : ¬ (c : Int) = 91) => ?_) (fun (hb4 : ¬ (¬ (c : Int) = 91)) => ?_)
      · refine wl_s (pc' := 48) ji_38_47 rfl rfl rfl ?_
        refine wl_s (pc' := 49) ji_38_48 rfl rfl rfl ?_
        refine wl_vc (d := d) (as := [.ref 93, wp_i c]) (rest := []) ji_38_49 jc_38_148 rfl (kl_93 V) jk_39.symm (Nat.le_of_ble_eq_true rfl) rfl (by rw [jn_39]; rfl) (wk_aw (c := c) ht V e (by omega) (by omega)) (fun v1 h1 R => ?_)
        obtain ⟨rfl, ws', e', V⟩ := R
        show wl_R _ _ 38 52 [some (.ref 93), some (wp_i c)] [] h1 _
        refine wl_s (pc' := 53) ji_38_52 rfl rfl rfl ?_
        refine wl_s (pc' := 54) ji_38_53 rfl rfl rfl ?_
        refine wl_bp ji_38_54 rfl ?_
        refine wl_icmp (t := 63) ji_38_56 rfl (by omega) (by omega) (fun (hb5 : ¬ (c : Int) = 33) => ?_) (fun (hb5 : ¬ (¬ (c : Int) = 33)) => ?_)
        · refine wl_s (pc' := 64) ji_38_63 rfl rfl rfl ?_
          refine kl_p (y := 1) (f' := f) (q' := q) (law' := law) (st' := 1) (wn' := (w.length : Int) + 1) (op' := opn w + 1) (br' := brn w) (ls' := ls) (as_' := as_) ht V ji_38_64 jf_38_25 (by decide) rfl rfl rfl (fun h V => ?_)
          rw [show opn w + 1 = opn (c :: w) by show _ = opn w + opc c; unfold opc; rw [if_pos (by omega)], show brn w = brn (c :: w) by show _ = brn w + brc c; unfold brc; rw [if_neg (by omega)]; omega] at V
          exact wl_rv ji_38_67 jr_38 ⟨rfl, Or.inr ⟨by omega, ws', e', by show w.length + 1 ≤ 40; omega, by rw [show (if c = 33 then (0 : Int) else 1) = 1 from if_neg (by omega)]; exact V⟩⟩
        · refine wl_s (pc' := 60) ji_38_59 rfl rfl rfl ?_
          refine wl_goto (t := 64) ji_38_60 rfl ?_
          refine kl_p (y := 0) (f' := f) (q' := q) (law' := law) (st' := 0) (wn' := (w.length : Int) + 1) (op' := opn w + 1) (br' := brn w) (ls' := ls) (as_' := as_) ht V ji_38_64 jf_38_25 (by decide) rfl rfl rfl (fun h V => ?_)
          rw [show opn w + 1 = opn (c :: w) by show _ = opn w + opc c; unfold opc; rw [if_pos (by omega)], show brn w = brn (c :: w) by show _ = brn w + brc c; unfold brc; rw [if_neg (by omega)]; omega] at V
          exact wl_rv ji_38_67 jr_38 ⟨rfl, Or.inr ⟨by omega, ws', e', by show w.length + 1 ≤ 40; omega, by rw [show (if c = 33 then (0 : Int) else 1) = 0 from if_pos (by omega)]; exact V⟩⟩
      · refine wl_s (pc' := 38) ji_38_37 rfl rfl rfl ?_
        refine wl_s (pc' := 39) ji_38_38 rfl rfl rfl ?_
        refine kl_g V ji_38_39 jf_38_38 rfl ?_
        refine wl_s (pc' := 43) ji_38_42 rfl rfl rfl ?_
        refine wl_iadd (x := brn w) (y := 1) (z := brn w + 1) ji_38_43 (by omega) ?_
        refine kl_p (y := brn w + 1) (f' := f) (q' := q) (law' := law) (st' := st) (wn' := (w.length : Int)) (op' := opn w + 1) (br' := brn w + 1) (ls' := ls) (as_' := as_) ht V ji_38_44 jf_38_38 (by decide) rfl rfl rfl (fun h V => ?_)
        refine wl_s (pc' := 48) ji_38_47 rfl rfl rfl ?_
        refine wl_s (pc' := 49) ji_38_48 rfl rfl rfl ?_
        refine wl_vc (d := d) (as := [.ref 93, wp_i c]) (rest := []) ji_38_49 jc_38_148 rfl (kl_93 V) jk_39.symm (Nat.le_of_ble_eq_true rfl) rfl (by rw [jn_39]; rfl) (wk_aw (c := c) ht V e (by omega) (by omega)) (fun v1 h1 R => ?_)
        obtain ⟨rfl, ws', e', V⟩ := R
        show wl_R _ _ 38 52 [some (.ref 93), some (wp_i c)] [] h1 _
        refine wl_s (pc' := 53) ji_38_52 rfl rfl rfl ?_
        refine wl_s (pc' := 54) ji_38_53 rfl rfl rfl ?_
        refine wl_bp ji_38_54 rfl ?_
        refine wl_icmp (t := 63) ji_38_56 rfl (by omega) (by omega) (fun (hb6 : ¬ (c : Int) = 33) => ?_) (fun (hb6 : ¬ (¬ (c : Int) = 33)) => ?_)
        · refine wl_s (pc' := 64) ji_38_63 rfl rfl rfl ?_
          refine kl_p (y := 1) (f' := f) (q' := q) (law' := law) (st' := 1) (wn' := (w.length : Int) + 1) (op' := opn w + 1) (br' := brn w + 1) (ls' := ls) (as_' := as_) ht V ji_38_64 jf_38_25 (by decide) rfl rfl rfl (fun h V => ?_)
          rw [show opn w + 1 = opn (c :: w) by show _ = opn w + opc c; unfold opc; rw [if_pos (by omega)], show brn w + 1 = brn (c :: w) by show _ = brn w + brc c; unfold brc; rw [if_pos (by omega)]] at V
          exact wl_rv ji_38_67 jr_38 ⟨rfl, Or.inr ⟨by omega, ws', e', by show w.length + 1 ≤ 40; omega, by rw [show (if c = 33 then (0 : Int) else 1) = 1 from if_neg (by omega)]; exact V⟩⟩
        · refine wl_s (pc' := 60) ji_38_59 rfl rfl rfl ?_
          refine wl_goto (t := 64) ji_38_60 rfl ?_
          refine kl_p (y := 0) (f' := f) (q' := q) (law' := law) (st' := 0) (wn' := (w.length : Int) + 1) (op' := opn w + 1) (br' := brn w + 1) (ls' := ls) (as_' := as_) ht V ji_38_64 jf_38_25 (by decide) rfl rfl rfl (fun h V => ?_)
          rw [show opn w + 1 = opn (c :: w) by show _ = opn w + opc c; unfold opc; rw [if_pos (by omega)], show brn w + 1 = brn (c :: w) by show _ = brn w + brc c; unfold brc; rw [if_pos (by omega)]] at V
          exact wl_rv ji_38_67 jr_38 ⟨rfl, Or.inr ⟨by omega, ws', e', by show w.length + 1 ≤ 40; omega, by rw [show (if c = 33 then (0 : Int) else 1) = 0 from if_pos (by omega)]; exact V⟩⟩
  · refine wl_s (pc' := 10) ji_38_9 rfl rfl rfl ?_
    refine wl_s (pc' := 11) ji_38_10 rfl rfl rfl ?_
    refine wl_vc (d := d) (as := [.ref 93, wp_i 3]) (rest := []) ji_38_11 jc_38_80 rfl (kl_93 V) jk_31.symm (Nat.le_of_ble_eq_true rfl) rfl (by rw [jn_31]; rfl) (wk_fail ht V) (fun v1 h1 R => ?_)
    obtain ⟨rfl, V⟩ := R
    show wl_R _ _ 38 14 [some (.ref 93), some (wp_i c)] [] h1 _
    exact wl_rv ji_38_14 jr_38 ⟨rfl, Or.inl ⟨by omega, ws, e, hlen, V⟩⟩
theorem wk_com {nn d : Nat} {h0 h : mj_H} {bl : List Value} {fr : TD} {t : Nat} {w : List Int} {L k v s p f q law st ls as_ cl : Int} (ht : 12 ≤ t ∧ t ≤ 33) (V : kH h0 h bl t L k v s p f q law st w ls as_ cl fr) (hls : 0 ≤ ls ∧ ls ≤ 100) : wl_R nn (d + 1) 48 0 [some (.ref 93)] [] h (fun v1 h1 => v1 = none ∧ ((ls = 6 ∧ kH h0 h1 bl t L k v s p 7 s law st w ls as_ cl fr) ∨ (¬ ls = 6 ∧ kH h0 h1 bl t L k v s p f q law 1 w (ls + 1) as_ cl fr))) := by
  obtain ⟨ws, e, hlen, V⟩ := V
  have hop := opn_0 w
  have hbr := brn_0 w
  refine wl_s (pc' := 1) ji_48_0 rfl rfl rfl ?_
  refine kl_g V ji_48_1 jf_48_41 rfl ?_
  refine wl_bp ji_48_4 rfl ?_
  refine wl_icmp (t := 18) ji_48_6 rfl (by omega) (by omega) (fun (hb1 : ¬ (ls : Int) = 6) => ?_) (fun (hb1 : ¬ (¬ (ls : Int) = 6)) => ?_)
  · refine wl_s (pc' := 19) ji_48_18 rfl rfl rfl ?_
    refine wl_s (pc' := 20) ji_48_19 rfl rfl rfl ?_
    refine kl_g V ji_48_20 jf_48_41 rfl ?_
    refine wl_s (pc' := 24) ji_48_23 rfl rfl rfl ?_
    refine wl_iadd (x := ls) (y := 1) (z := ls + 1) ji_48_24 (by omega) ?_
    refine kl_p (y := ls + 1) (f' := f) (q' := q) (law' := law) (st' := st) (wn' := (w.length : Int)) (op' := opn w) (br' := brn w) (ls' := ls + 1) (as_' := as_) ht V ji_48_25 jf_48_41 (by decide) rfl rfl rfl (fun h V => ?_)
    refine wl_s (pc' := 29) ji_48_28 rfl rfl rfl ?_
    refine wl_s (pc' := 30) ji_48_29 rfl rfl rfl ?_
    refine kl_p (y := 1) (f' := f) (q' := q) (law' := law) (st' := 1) (wn' := (w.length : Int)) (op' := opn w) (br' := brn w) (ls' := ls + 1) (as_' := as_) ht V ji_48_30 jf_48_25 (by decide) rfl rfl rfl (fun h V => ?_)
    exact wl_rv ji_48_33 jr_48 ⟨rfl, Or.inr ⟨by omega, ws, e, hlen, V⟩⟩
  · refine wl_s (pc' := 10) ji_48_9 rfl rfl rfl ?_
    refine wl_bp ji_48_10 rfl ?_
    refine wl_vc (d := d) (as := [.ref 93, wp_i 7]) (rest := []) ji_48_12 jc_48_80 rfl (kl_93 V) jk_31.symm (Nat.le_of_ble_eq_true rfl) rfl (by rw [jn_31]; rfl) (wk_fail ht V) (fun v1 h1 R => ?_)
    obtain ⟨rfl, V⟩ := R
    show wl_R _ _ 48 15 [some (.ref 93)] [] h1 _
    refine wl_goto (t := 33) ji_48_15 rfl ?_
    exact wl_rv ji_48_33 jr_48 ⟨rfl, Or.inl ⟨by omega, ws, e, hlen, V⟩⟩
theorem wk_jb {nn d : Nat} {c r x : Int} {h0 h : mj_H} {bl : List Value} {fr : TD} {t : Nat} {w : List Int} {L k v s p f q law st ls as_ cl : Int} (ht : 12 ≤ t ∧ t ≤ 33) (V : kH h0 h bl t L k v s p f q law st w ls as_ cl fr) (hr : 1 ≤ r ∧ r ≤ 7) (hw : (jwt r w).length ≤ 39) (hc : (0 ≤ c ∧ c ≤ 200) ∧ opc c = 0 ∧ brc c = 0) : wl_R nn (d + 2) 44 0 [some (.ref 93), some (wp_i c), some (wp_i r), some (wp_i x)] [] h (fun v1 h1 => v1 = none ∧ kH h0 h1 bl t L k v s p f q law x (c :: jwt r w) ls as_ cl (wrs fr (jE r w))) := by
  obtain ⟨ws, e, hlen, V⟩ := V
  refine wl_s (pc' := 1) ji_44_0 rfl rfl rfl ?_
  refine wl_s (pc' := 2) ji_44_1 rfl rfl rfl ?_
  refine wl_vc (d := d + 1) (as := [.ref 93, wp_i r]) (rest := []) ji_44_2 jc_44_162 rfl (kl_93 V) jk_45.symm (Nat.le_of_ble_eq_true rfl) rfl (by rw [jn_45]; rfl) (wk_jw ht hr nn _ w _ none ⟨ws, e, hlen, V⟩) (fun v1 h1 R => ?_)
  obtain ⟨rfl, V⟩ := R
  obtain ⟨ws1, e, hlen, V⟩ := V
  show wl_R _ _ 44 5 [some (.ref 93), some (wp_i c), some (wp_i r), some (wp_i x)] [] h1 _
  refine wl_s (pc' := 6) ji_44_5 rfl rfl rfl ?_
  refine wl_s (pc' := 7) ji_44_6 rfl rfl rfl ?_
  refine wl_vc (d := d + 1) (as := [.ref 93, wp_i c]) (rest := []) ji_44_7 jc_44_148 rfl (kl_93 V) jk_39.symm (Nat.le_of_ble_eq_true rfl) rfl (by rw [jn_39]; rfl) (wk_aw (c := c) ht V e hw (by omega)) (fun v1 h2 R => ?_)
  obtain ⟨rfl, ws', e', V⟩ := R
  show wl_R _ _ 44 10 [some (.ref 93), some (wp_i c), some (wp_i r), some (wp_i x)] [] h2 _
  refine wl_s (pc' := 11) ji_44_10 rfl rfl rfl ?_
  refine wl_s (pc' := 12) ji_44_11 rfl rfl rfl ?_
  refine kl_p (y := x) (f' := f) (q' := q) (law' := law) (st' := x) (wn' := ((jwt r w).length : Int) + 1) (op' := opn (jwt r w)) (br' := brn (jwt r w)) (ls' := ls) (as_' := as_) ht V ji_44_12 jf_44_25 (by decide) rfl rfl rfl (fun h V => ?_)
  rw [show opn (jwt r w) = opn (c :: jwt r w) by show _ = opn (jwt r w) + opc c; rw [hc.2.1, Int.add_zero], show brn (jwt r w) = brn (c :: jwt r w) by show _ = brn (jwt r w) + brc c; rw [hc.2.2, Int.add_zero]] at V
  exact wl_rv ji_44_15 jr_44 ⟨rfl, ws', e', by show (jwt r w).length + 1 ≤ 40; omega, V⟩
theorem wk_inl {nn d : Nat} {h0 h : mj_H} {bl : List Value} {fr : TD} {t : Nat} {w : List Int} {L k v s p f q law st ls as_ cl : Int} (ht : 12 ≤ t ∧ t ≤ 33) (V : kH h0 h bl t L k v s p f q law st w ls as_ cl fr) : wl_R nn (d + 2) 47 0 [some (.ref 93)] [] h (fun v1 h1 => kH h0 h1 bl t L k v s p f q law st (jwt 5 w) ls as_ cl (wrs fr (jE 5 w)) ∧ ∃ y : Int, v1 = some (wp_i y) ∧ (y = 0 ∨ y = 1) ∧ (y = 1 ↔ ∃ w1, jwt 5 w = 91 :: w1)) := by
  obtain ⟨ws, e, hlen, V⟩ := V
  refine wl_s (pc' := 1) ji_47_0 rfl rfl rfl ?_
  refine wl_s (pc' := 2) ji_47_1 rfl rfl rfl ?_
  refine wl_vc (d := d + 1) (as := [.ref 93, wp_i 5]) (rest := []) ji_47_2 jc_47_162 rfl (kl_93 V) jk_45.symm (Nat.le_of_ble_eq_true rfl) rfl (by rw [jn_45]; rfl) (wk_jw ht (by omega) nn _ w _ none ⟨ws, e, hlen, V⟩) (fun v1 h1 R => ?_)
  obtain ⟨rfl, V⟩ := R
  show wl_R _ _ 47 5 [some (.ref 93)] [] h1 _
  obtain ⟨w0, hw0⟩ : ∃ w0, jwt 5 w = w0 := ⟨_, rfl⟩
  rw [hw0] at V
  rw [hw0]
  obtain ⟨ws, e, hlen, V⟩ := V
  cases w0 with
  | nil =>
    have V : kL h0 h1 bl t L k v s p f q law st 0 0 0 ls as_ cl ws (wrs fr (jE 5 w)) := V
    refine wl_s (pc' := 6) ji_47_5 rfl rfl rfl ?_
    refine kl_g V ji_47_6 jf_47_32 rfl ?_
    refine wl_if (t := 32) ji_47_9 rfl (by omega) (fun (hb1 : (0 : Int) ≤ 0) => ?_) (fun (hb1 : ¬ ((0 : Int) ≤ 0)) => (by exfalso; omega))
    refine wl_s (pc' := 33) ji_47_32 rfl rfl rfl ?_
    exact wl_ri ji_47_33 jr_47 rfl ⟨⟨ws, e, hlen, V⟩, 0, rfl, by omega, ⟨fun x => by omega, fun x => by obtain ⟨w1, x⟩ := x; cases x⟩⟩
  | cons c w1 =>
    obtain ⟨⟨e1, e1b⟩, e2⟩ := e
    have hop := opn_0 w1
    have hbr := brn_0 w1
    have hlen1 : w1.length + 1 ≤ 40 := hlen
    have hoc : 0 ≤ opc c ∧ opc c ≤ 1 := by unfold opc; split <;> omega
    have hbc : 0 ≤ brc c ∧ brc c ≤ 1 := by unfold brc; split <;> omega
    have V : kL h0 h1 bl t L k v s p f q law st ((w1.length : Int) + 1) (opn w1 + opc c) (brn w1 + brc c) ls as_ cl ws (wrs fr (jE 5 w)) := V
    refine wl_s (pc' := 6) ji_47_5 rfl rfl rfl ?_
    refine kl_g V ji_47_6 jf_47_32 rfl ?_
    refine wl_if (t := 32) ji_47_9 rfl (by omega) (fun (hb1 : ((w1.length : Int) + 1 : Int) ≤ 0) => (by exfalso; omega)) (fun (hb1 : ¬ (((w1.length : Int) + 1 : Int) ≤ 0)) => ?_)
    refine wl_s (pc' := 13) ji_47_12 rfl rfl rfl ?_
    refine kl_g V ji_47_13 jf_47_28 rfl ?_
    refine wl_s (pc' := 17) ji_47_16 rfl rfl rfl ?_
    refine kl_g V ji_47_17 jf_47_32 rfl ?_
    refine wl_s (pc' := 21) ji_47_20 rfl rfl rfl ?_
    refine wl_isub (x := (w1.length : Int) + 1) (y := 1) (z := (w1.length : Int) + 1 - 1) ji_47_21 (by omega) ?_
    refine kl_l (x := (w1.length : Int) + 1 - 1) V (by omega) ji_47_22 (fun y y1 y2 y3 => ?_)
    rw [show ((w1.length : Int) + 1 - 1).toNat = w1.length by omega, e1] at y3
    cases y3
    refine wl_bp ji_47_23 rfl ?_
    refine wl_icmp (t := 32) ji_47_25 rfl (by omega) (by omega) (fun (hb2 : ¬ (c : Int) = 91) => ?_) (fun (hb2 : ¬ (¬ (c : Int) = 91)) => ?_)
    · refine wl_s (pc' := 33) ji_47_32 rfl rfl rfl ?_
      exact wl_ri ji_47_33 jr_47 rfl ⟨⟨ws, ⟨⟨e1, e1b⟩, e2⟩, hlen, V⟩, 0, rfl, by omega, ⟨fun x => ⟨w1, by rw [show c = 91 by omega]⟩, fun x => by obtain ⟨w2, x⟩ := x; injection x with x1 x2; omega⟩⟩
    · refine wl_s (pc' := 29) ji_47_28 rfl rfl rfl ?_
      refine wl_goto (t := 33) ji_47_29 rfl ?_
      exact wl_ri ji_47_33 jr_47 rfl ⟨⟨ws, ⟨⟨e1, e1b⟩, e2⟩, hlen, V⟩, 1, rfl, by omega, ⟨fun x => ⟨w1, by rw [show c = 91 by omega]⟩, fun x => by obtain ⟨w2, x⟩ := x; injection x with x1 x2; omega⟩⟩
theorem wk_cls {nn d : Nat} {h0 h : mj_H} {bl : List Value} {fr : TD} {t : Nat} {w : List Int} {L k v s p f q law st ls as_ cl : Int} (ht : 12 ≤ t ∧ t ≤ 33) (V : kH h0 h bl t L k v s p f q law st w ls as_ cl fr) (hls : 0 ≤ ls ∧ ls ≤ 100) (hbk : ∀ c w1, jwt 5 w = c :: w1 → c = 40 ∨ c = 91) (hne : ¬ jwt 5 w = []) : wl_R nn (d + 2) 46 0 [some (.ref 93)] [] h (fun v1 h1 => v1 = none ∧ ∃ c w1, jwt 5 w = c :: w1 ∧ kH h0 h1 bl t L k v s p f q law (if c = 91 then 4 else 2) w1 ls as_ cl (wrs fr (jE 5 w ++ (if c = 91 then [30000 + ls] else [])))) := by
  obtain ⟨ws, e, hlen, V⟩ := V
  refine wl_s (pc' := 1) ji_46_0 rfl rfl rfl ?_
  refine wl_s (pc' := 2) ji_46_1 rfl rfl rfl ?_
  refine wl_vc (d := d + 1) (as := [.ref 93, wp_i 5]) (rest := []) ji_46_2 jc_46_162 rfl (kl_93 V) jk_45.symm (Nat.le_of_ble_eq_true rfl) rfl (by rw [jn_45]; rfl) (wk_jw ht (by omega) nn _ w _ none ⟨ws, e, hlen, V⟩) (fun v1 h1 R => ?_)
  obtain ⟨rfl, V⟩ := R
  show wl_R _ _ 46 5 [some (.ref 93)] [] h1 _
  obtain ⟨w0, hw0⟩ : ∃ w0, jwt 5 w = w0 := ⟨_, rfl⟩
  rw [hw0] at V
  rw [hw0] at hbk hne ⊢
  obtain ⟨ws, e, hlen, V⟩ := V
  cases w0 with
  | nil =>
    have V : kL h0 h1 bl t L k v s p f q law st 0 0 0 ls as_ cl ws (wrs fr (jE 5 w)) := V
    exact absurd rfl hne
  | cons c w1 =>
    obtain ⟨⟨e1, e1b⟩, e2⟩ := e
    have hop := opn_0 w1
    have hbr := brn_0 w1
    have hlen1 : w1.length + 1 ≤ 40 := hlen
    have hoc : 0 ≤ opc c ∧ opc c ≤ 1 := by unfold opc; split <;> omega
    have hbc : 0 ≤ brc c ∧ brc c ≤ 1 := by unfold brc; split <;> omega
    have V : kL h0 h1 bl t L k v s p f q law st ((w1.length : Int) + 1) (opn w1 + opc c) (brn w1 + brc c) ls as_ cl ws (wrs fr (jE 5 w)) := V
    refine wl_s (pc' := 6) ji_46_5 rfl rfl rfl ?_
    refine kl_g V ji_46_6 jf_46_32 rfl ?_
    refine wl_if (t := 18) ji_46_9 rfl (by omega) (fun (hb1 : ¬ ((w1.length : Int) + 1 : Int) = 0) => ?_) (fun (hb1 : ¬ (¬ ((w1.length : Int) + 1 : Int) = 0)) => (by exfalso; omega))
    refine wl_s (pc' := 19) ji_46_18 rfl rfl rfl ?_
    refine wl_s (pc' := 20) ji_46_19 rfl rfl rfl ?_
    refine kl_g V ji_46_20 jf_46_32 rfl ?_
    refine wl_s (pc' := 24) ji_46_23 rfl rfl rfl ?_
    refine wl_isub (x := (w1.length : Int) + 1) (y := 1) (z := (w1.length : Int) + 1 - 1) ji_46_24 (by omega) ?_
    refine kl_p (y := (w1.length : Int) + 1 - 1) (f' := f) (q' := q) (law' := law) (st' := st) (wn' := (w1.length : Int) + 1 - 1) (op' := opn w1 + opc c) (br' := brn w1 + brc c) (ls' := ls) (as_' := as_) ht V ji_46_25 jf_46_32 (by decide) rfl rfl rfl (fun h V => ?_)
    refine wl_s (pc' := 29) ji_46_28 rfl rfl rfl ?_
    refine wl_s (pc' := 30) ji_46_29 rfl rfl rfl ?_
    refine kl_g V ji_46_30 jf_46_35 rfl ?_
    refine wl_s (pc' := 34) ji_46_33 rfl rfl rfl ?_
    refine wl_isub (x := opn w1 + opc c) (y := 1) (z := opn w1 + opc c - 1) ji_46_34 (by omega) ?_
    refine kl_p (y := opn w1 + opc c - 1) (f' := f) (q' := q) (law' := law) (st' := st) (wn' := (w1.length : Int) + 1 - 1) (op' := opn w1 + opc c - 1) (br' := brn w1 + brc c) (ls' := ls) (as_' := as_) ht V ji_46_35 jf_46_35 (by decide) rfl rfl rfl (fun h V => ?_)
    refine wl_s (pc' := 39) ji_46_38 rfl rfl rfl ?_
    refine wl_s (pc' := 40) ji_46_39 rfl rfl rfl ?_
    refine kl_g V ji_46_40 jf_46_38 rfl ?_
    refine wl_s (pc' := 44) ji_46_43 rfl rfl rfl ?_
    refine wl_isub (x := brn w1 + brc c) (y := 1) (z := brn w1 + brc c - 1) ji_46_44 (by omega) ?_
    refine kl_p (y := brn w1 + brc c - 1) (f' := f) (q' := q) (law' := law) (st' := st) (wn' := (w1.length : Int) + 1 - 1) (op' := opn w1 + opc c - 1) (br' := brn w1 + brc c - 1) (ls' := ls) (as_' := as_) ht V ji_46_45 jf_46_38 (by decide) rfl rfl rfl (fun h V => ?_)
    refine wl_s (pc' := 49) ji_46_48 rfl rfl rfl ?_
    refine wl_s (pc' := 50) ji_46_49 rfl rfl rfl ?_
    refine kl_p (y := 2) (f' := f) (q' := q) (law' := law) (st' := 2) (wn' := (w1.length : Int) + 1 - 1) (op' := opn w1 + opc c - 1) (br' := brn w1 + brc c - 1) (ls' := ls) (as_' := as_) ht V ji_46_50 jf_46_25 (by decide) rfl rfl rfl (fun h V => ?_)
    refine wl_s (pc' := 54) ji_46_53 rfl rfl rfl ?_
    refine kl_g V ji_46_54 jf_46_28 rfl ?_
    refine wl_s (pc' := 58) ji_46_57 rfl rfl rfl ?_
    refine kl_g V ji_46_58 jf_46_32 rfl ?_
    refine kl_l (x := (w1.length : Int) + 1 - 1) V (by omega) ji_46_61 (fun y y1 y2 y3 => ?_)
    rw [show ((w1.length : Int) + 1 - 1).toNat = w1.length by omega, e1] at y3
    cases y3
    refine wl_bp ji_46_62 rfl ?_
    refine wl_icmp (t := 87) ji_46_64 rfl (by omega) (by omega) (fun (hb2 : ¬ (c : Int) = 91) => ?_) (fun (hb2 : ¬ (¬ (c : Int) = 91)) => ?_)
    · have hb := hbk c w1 rfl
      rw [show opn w1 + opc c - 1 = opn w1 by unfold opc; rw [if_pos (by omega)]; omega, show brn w1 + brc c - 1 = brn w1 by unfold brc; rw [if_pos (by omega)]; omega, show (w1.length : Int) + 1 - 1 = (w1.length : Int) by omega] at V
      exact wl_rv ji_46_87 jr_46 ⟨rfl, c, w1, rfl, ws, e2, by omega, by rw [show (if c = 91 then (4 : Int) else 2) = 2 from if_neg (by omega), show (if c = 91 then [30000 + ls] else []) = ([] : List Int) from if_neg (by omega), List.append_nil]; exact V⟩
    · refine wl_s (pc' := 68) ji_46_67 rfl rfl rfl ?_
      refine kl_g V ji_46_68 jf_46_51 rfl ?_
      refine wl_sp ji_46_71 rfl ?_
      refine wl_s (pc' := 75) ji_46_74 rfl rfl rfl ?_
      refine kl_g V ji_46_75 jf_46_41 rfl ?_
      refine wl_iadd (x := 30000) (y := ls) (z := 30000 + ls) ji_46_78 (by omega) ?_
      obtain ⟨tfs, htc⟩ := kl_tc V
      refine wl_vc (d := d + 1) (as := [.ref t, wp_i (30000 + ls)]) (rest := []) ji_46_79 jc_46_139 rfl htc jk_36.symm (Nat.le_of_ble_eq_true rfl) rfl (by rw [jn_36]; rfl) (wk_write ht V) (fun v1 h2 R => ?_)
      obtain ⟨rfl, V⟩ := R
      show wl_R _ _ 46 82 [some (.ref 93)] [] h2 _
      refine wl_s (pc' := 83) ji_46_82 rfl rfl rfl ?_
      refine wl_s (pc' := 84) ji_46_83 rfl rfl rfl ?_
      refine kl_p (y := 4) (f' := f) (q' := q) (law' := law) (st' := 4) (wn' := (w1.length : Int) + 1 - 1) (op' := opn w1 + opc c - 1) (br' := brn w1 + brc c - 1) (ls' := ls) (as_' := as_) ht V ji_46_84 jf_46_25 (by decide) rfl rfl rfl (fun h V => ?_)
      have hb := hbk c w1 rfl
      rw [show opn w1 + opc c - 1 = opn w1 by unfold opc; rw [if_pos (by omega)]; omega, show brn w1 + brc c - 1 = brn w1 by unfold brc; rw [if_pos (by omega)]; omega, show (w1.length : Int) + 1 - 1 = (w1.length : Int) by omega] at V
      exact wl_rv ji_46_87 jr_46 ⟨rfl, c, w1, rfl, ws, e2, by omega, by rw [show (if c = 91 then (4 : Int) else 2) = 4 from if_pos (by omega), show (if c = 91 then [30000 + ls] else []) = [30000 + ls] from if_pos (by omega), wrs_app]; exact V⟩
theorem wk_sh {nn d : Nat} {h0 h : mj_H} {bl : List Value} {fr : TD} {t : Nat} {w : List Int} {L k v s p f q law st ls as_ cl : Int} (ht : 12 ≤ t ∧ t ≤ 33) (V : kH h0 h bl t L k v s p f q law st w ls as_ cl fr) (hkv : wp_r k ∧ wp_r v) : wl_R nn d 42 0 [some (.ref 93)] [] h (fun v1 h1 => h1 = h ∧ v1 = some (wp_i (sh k v))) := by
  obtain ⟨ws, e, hlen, V⟩ := V
  have hop := opn_0 w
  have hbr := brn_0 w
  refine wl_s (pc' := 1) ji_42_0 rfl rfl rfl ?_
  refine kl_g V ji_42_1 jf_42_47 rfl ?_
  refine kl_t V ji_42_4 jf_42_68 rfl ?_
  refine wl_s (pc' := 8) ji_42_7 rfl rfl rfl ?_
  refine wl_icmp (t := 19) ji_42_8 rfl (by omega) (by omega) (fun (hb1 : ¬ (k : Int) = 2) => ?_) (fun (hb1 : ¬ (¬ (k : Int) = 2)) => ?_)
  · refine wl_s (pc' := 20) ji_42_19 rfl rfl rfl ?_
    refine kl_g V ji_42_20 jf_42_47 rfl ?_
    refine kl_t V ji_42_23 jf_42_68 rfl ?_
    refine wl_if (t := 31) ji_42_26 rfl (by omega) (fun (hb2 : (k : Int) = 0) => ?_) (fun (hb2 : ¬ ((k : Int) = 0)) => ?_)
    · refine wl_s (pc' := 32) ji_42_31 rfl rfl rfl ?_
      refine kl_g V ji_42_32 jf_42_47 rfl ?_
      refine kl_t V ji_42_35 jf_42_77 rfl ?_
      have hk0 : k = 0 := by omega
      by_cases ev13 : v = 13
      · refine wl_s (pc' := 68) (lv' := [some (.ref 93)]) (st' := []) (h' := h) ji_42_38 rfl rfl (by rw [ev13]; simp only [mj_st, wp_ti (show wp_r 13 by omega)]; rfl) ?_
        refine wl_bp ji_42_68 rfl ?_
        rw [show sh k v = 124 by unfold sh; repeat' split; all_goals omega]
        exact wl_ri ji_42_70 jr_42 rfl ⟨rfl, rfl⟩
      by_cases ev14 : v = 14
      · refine wl_s (pc' := 71) (lv' := [some (.ref 93)]) (st' := []) (h' := h) ji_42_38 rfl rfl (by rw [ev14]; simp only [mj_st, wp_ti (show wp_r 14 by omega)]; rfl) ?_
        refine wl_bp ji_42_71 rfl ?_
        rw [show sh k v = 38 by unfold sh; repeat' split; all_goals omega]
        exact wl_ri ji_42_73 jr_42 rfl ⟨rfl, rfl⟩
      by_cases ev15 : v = 15
      · refine wl_s (pc' := 77) (lv' := [some (.ref 93)]) (st' := []) (h' := h) ji_42_38 rfl rfl (by rw [ev15]; simp only [mj_st, wp_ti (show wp_r 15 by omega)]; rfl) ?_
        refine wl_s (pc' := 78) ji_42_77 rfl rfl rfl ?_
        rw [show sh k v = -1 by unfold sh; repeat' split; all_goals omega]
        exact wl_ri ji_42_78 jr_42 rfl ⟨rfl, rfl⟩
      by_cases ev16 : v = 16
      · refine wl_s (pc' := 74) (lv' := [some (.ref 93)]) (st' := []) (h' := h) ji_42_38 rfl rfl (by rw [ev16]; simp only [mj_st, wp_ti (show wp_r 16 by omega)]; rfl) ?_
        refine wl_bp ji_42_74 rfl ?_
        rw [show sh k v = 91 by unfold sh; repeat' split; all_goals omega]
        exact wl_ri ji_42_76 jr_42 rfl ⟨rfl, rfl⟩
      refine wl_s (pc' := 77) (lv' := [some (.ref 93)]) (st' := []) (h' := h) ji_42_38 rfl rfl ?_ ?_
      · simp only [mj_st, wp_ti (show wp_r v by omega)]
        by_cases hr : v < 13 ∨ 16 < v
        · rw [if_pos hr]; rfl
        · have hc2 : v = 13 ∨ v = 14 ∨ v = 15 ∨ v = 16 := by omega
          rcases hc2 with e3 | e3 | e3 | e3 <;> (subst e3; first | (exfalso; omega) | rfl)
      refine wl_s (pc' := 78) ji_42_77 rfl rfl rfl ?_
      rw [show sh k v = -1 by unfold sh; repeat' split; all_goals omega]
      exact wl_ri ji_42_78 jr_42 rfl ⟨rfl, rfl⟩
    · refine wl_s (pc' := 30) ji_42_29 rfl rfl rfl ?_
      rw [show sh k v = -1 by unfold sh; repeat' split; all_goals omega]
      exact wl_ri ji_42_30 jr_42 rfl ⟨rfl, rfl⟩
  · refine wl_s (pc' := 12) ji_42_11 rfl rfl rfl ?_
    refine kl_g V ji_42_12 jf_42_47 rfl ?_
    refine kl_t V ji_42_15 jf_42_77 rfl ?_
    rw [show sh k v = v by unfold sh; repeat' split; all_goals omega]
    exact wl_ri ji_42_18 jr_42 rfl ⟨rfl, rfl⟩

def kWQ (h0 h : mj_H) (bl : List Value) (t : Nat) (L k v s p f q law : Int) (cl : Int) (fr : TD) (E : List Int) : cR → Prop
  | .inl n => ∃ (st : Int) (w : List Int) (ls as_ : Int) (fr2 : TD), kH h0 h bl t L k v s p n s law st w ls as_ cl fr2
  | .inr (st, w, ls, as_) => kH h0 h bl t L k v s p f q law st w ls as_ cl (wrs fr E)
theorem wk_wd {nn d : Nat} {x : Int} {h0 h : mj_H} {bl : List Value} {fr : TD} {t : Nat} {w : List Int} {L k v s p f q law st ls as_ cl : Int} (ht : 12 ≤ t ∧ t ≤ 33) (V : kH h0 h bl t L k v s p f q law st w ls as_ cl fr) (hw : w.length ≤ 39) (hst : 0 ≤ st ∧ st ≤ 5) (hlaw : 0 ≤ law ∧ law ≤ 2) (hx : -1 ≤ x ∧ x ≤ 30) : wl_R nn (d + 2) 37 0 [some (.ref 93), some (wp_i x)] [] h (fun v1 h1 => v1 = none ∧ kWQ h0 h1 bl t L k v s p f q law cl fr (e_wd x st) (c_wd law x st w ls as_)) := by
  obtain ⟨ws, e, hlen, V⟩ := V
  have hop := opn_0 w
  have hbr := brn_0 w
  refine wl_s (pc' := 1) ji_37_0 rfl rfl rfl ?_
  refine wl_bp ji_37_1 rfl ?_
  refine wl_icmp (t := 22) ji_37_3 rfl (by omega) (by omega) (fun (hb1 : ¬ (x : Int) = 15) => ?_) (fun (hb1 : ¬ (¬ (x : Int) = 15)) => ?_)
  · refine wl_s (pc' := 23) ji_37_22 rfl rfl rfl ?_
    refine wl_s (pc' := 24) ji_37_23 rfl rfl rfl ?_
    refine wl_icmp (t := 47) ji_37_24 rfl (by omega) (by omega) (fun (hb2 : (x : Int) = 4) => ?_) (fun (hb2 : ¬ ((x : Int) = 4)) => ?_)
    · refine wl_s (pc' := 48) ji_37_47 rfl rfl rfl ?_
      refine wl_bp ji_37_48 rfl ?_
      refine wl_icmp (t := 60) ji_37_50 rfl (by omega) (by omega) (fun (hb3 : ¬ (x : Int) = 23) => ?_) (fun (hb3 : ¬ (¬ (x : Int) = 23)) => ?_)
      · refine wl_s (pc' := 61) ji_37_60 rfl rfl rfl ?_
        refine wl_bp ji_37_61 rfl ?_
        refine wl_icmp (t := 82) ji_37_63 rfl (by omega) (by omega) (fun (hb4 : ¬ (x : Int) = 24) => ?_) (fun (hb4 : ¬ (¬ (x : Int) = 24)) => ?_)
        · refine wl_s (pc' := 83) ji_37_82 rfl rfl rfl ?_
          refine kl_g V ji_37_83 jf_37_51 rfl ?_
          refine wl_sp ji_37_86 rfl ?_
          refine wl_s (pc' := 90) ji_37_89 rfl rfl rfl ?_
          refine wl_iadd (x := 10000) (y := x) (z := 10000 + x) ji_37_90 (by omega) ?_
          obtain ⟨tfs, htc⟩ := kl_tc V
          refine wl_vc (d := d + 1) (as := [.ref t, wp_i (10000 + x)]) (rest := []) ji_37_91 jc_37_139 rfl htc jk_36.symm (Nat.le_of_ble_eq_true rfl) rfl (by rw [jn_36]; rfl) (wk_write ht V) (fun v1 h1 R => ?_)
          obtain ⟨rfl, V⟩ := R
          show wl_R _ _ 37 94 [some (.ref 93), some (wp_i x)] [] h1 _
          refine wl_s (pc' := 95) ji_37_94 rfl rfl rfl ?_
          refine wl_s (pc' := 96) ji_37_95 rfl rfl rfl ?_
          refine kl_p (y := 2) (f' := f) (q' := q) (law' := law) (st' := 2) (wn' := (w.length : Int)) (op' := opn w) (br' := brn w) (ls' := ls) (as_' := as_) ht V ji_37_96 jf_37_25 (by decide) rfl rfl rfl (fun h V => ?_)
          refine wl_rv ji_37_99 jr_37 ⟨rfl, ?_⟩
          rw [show c_wd law x st w ls as_ = .inr (2, w, ls, as_) by unfold c_wd; rw [if_neg (by omega), if_neg (by omega), if_neg (by omega)]]
          rw [show e_wd x st = [10000 + x] from if_neg (by omega)]
          exact ⟨ws, e, hlen, V⟩
        · refine wl_s (pc' := 67) ji_37_66 rfl rfl rfl ?_
          refine kl_g V ji_37_67 jf_37_22 rfl ?_
          refine wl_s (pc' := 71) ji_37_70 rfl rfl rfl ?_
          refine wl_icmp (t := 82) ji_37_71 rfl (by omega) (by omega) (fun (hb5 : ¬ (law : Int) = 1) => ?_) (fun (hb5 : ¬ (¬ (law : Int) = 1)) => ?_)
          · refine wl_s (pc' := 83) ji_37_82 rfl rfl rfl ?_
            refine kl_g V ji_37_83 jf_37_51 rfl ?_
            refine wl_sp ji_37_86 rfl ?_
            refine wl_s (pc' := 90) ji_37_89 rfl rfl rfl ?_
            refine wl_iadd (x := 10000) (y := x) (z := 10000 + x) ji_37_90 (by omega) ?_
            obtain ⟨tfs, htc⟩ := kl_tc V
            refine wl_vc (d := d + 1) (as := [.ref t, wp_i (10000 + x)]) (rest := []) ji_37_91 jc_37_139 rfl htc jk_36.symm (Nat.le_of_ble_eq_true rfl) rfl (by rw [jn_36]; rfl) (wk_write ht V) (fun v1 h1 R => ?_)
            obtain ⟨rfl, V⟩ := R
            show wl_R _ _ 37 94 [some (.ref 93), some (wp_i x)] [] h1 _
            refine wl_s (pc' := 95) ji_37_94 rfl rfl rfl ?_
            refine wl_s (pc' := 96) ji_37_95 rfl rfl rfl ?_
            refine kl_p (y := 2) (f' := f) (q' := q) (law' := law) (st' := 2) (wn' := (w.length : Int)) (op' := opn w) (br' := brn w) (ls' := ls) (as_' := as_) ht V ji_37_96 jf_37_25 (by decide) rfl rfl rfl (fun h V => ?_)
            refine wl_rv ji_37_99 jr_37 ⟨rfl, ?_⟩
            rw [show c_wd law x st w ls as_ = .inr (2, w, ls, as_) by unfold c_wd; rw [if_neg (by omega), if_neg (by omega), if_neg (by omega)]]
            rw [show e_wd x st = [10000 + x] from if_neg (by omega)]
            exact ⟨ws, e, hlen, V⟩
          · refine wl_s (pc' := 75) ji_37_74 rfl rfl rfl ?_
            refine wl_s (pc' := 76) ji_37_75 rfl rfl rfl ?_
            refine wl_vc (d := d + 1) (as := [.ref 93, wp_i 5]) (rest := []) ji_37_76 jc_37_80 rfl (kl_93 V) jk_31.symm (Nat.le_of_ble_eq_true rfl) rfl (by rw [jn_31]; rfl) (wk_fail ht V) (fun v1 h1 R => ?_)
            obtain ⟨rfl, V⟩ := R
            show wl_R _ _ 37 79 [some (.ref 93), some (wp_i x)] [] h1 _
            refine wl_goto (t := 99) ji_37_79 rfl ?_
            refine wl_rv ji_37_99 jr_37 ⟨rfl, ?_⟩
            rw [show c_wd law x st w ls as_ = .inl 5 by unfold c_wd; rw [if_neg (by omega), if_neg (by omega), if_pos (by omega)]]
            exact ⟨_, _, _, _, _, ws, e, hlen, V⟩
      · refine wl_s (pc' := 54) ji_37_53 rfl rfl rfl ?_
        refine kl_g V ji_37_54 jf_37_22 rfl ?_
        refine wl_if (t := 74) ji_37_57 rfl (by omega) (fun (hb6 : (law : Int) = 0) => ?_) (fun (hb6 : ¬ ((law : Int) = 0)) => ?_)
        · refine wl_s (pc' := 75) ji_37_74 rfl rfl rfl ?_
          refine wl_s (pc' := 76) ji_37_75 rfl rfl rfl ?_
          refine wl_vc (d := d + 1) (as := [.ref 93, wp_i 5]) (rest := []) ji_37_76 jc_37_80 rfl (kl_93 V) jk_31.symm (Nat.le_of_ble_eq_true rfl) rfl (by rw [jn_31]; rfl) (wk_fail ht V) (fun v1 h1 R => ?_)
          obtain ⟨rfl, V⟩ := R
          show wl_R _ _ 37 79 [some (.ref 93), some (wp_i x)] [] h1 _
          refine wl_goto (t := 99) ji_37_79 rfl ?_
          refine wl_rv ji_37_99 jr_37 ⟨rfl, ?_⟩
          rw [show c_wd law x st w ls as_ = .inl 5 by unfold c_wd; rw [if_neg (by omega), if_neg (by omega), if_pos (by omega)]]
          exact ⟨_, _, _, _, _, ws, e, hlen, V⟩
        · refine wl_s (pc' := 61) ji_37_60 rfl rfl rfl ?_
          refine wl_bp ji_37_61 rfl ?_
          refine wl_icmp (t := 82) ji_37_63 rfl (by omega) (by omega) (fun (hb7 : ¬ (x : Int) = 24) => ?_) (fun (hb7 : ¬ (¬ (x : Int) = 24)) => ?_)
          · refine wl_s (pc' := 83) ji_37_82 rfl rfl rfl ?_
            refine kl_g V ji_37_83 jf_37_51 rfl ?_
            refine wl_sp ji_37_86 rfl ?_
            refine wl_s (pc' := 90) ji_37_89 rfl rfl rfl ?_
            refine wl_iadd (x := 10000) (y := x) (z := 10000 + x) ji_37_90 (by omega) ?_
            obtain ⟨tfs, htc⟩ := kl_tc V
            refine wl_vc (d := d + 1) (as := [.ref t, wp_i (10000 + x)]) (rest := []) ji_37_91 jc_37_139 rfl htc jk_36.symm (Nat.le_of_ble_eq_true rfl) rfl (by rw [jn_36]; rfl) (wk_write ht V) (fun v1 h1 R => ?_)
            obtain ⟨rfl, V⟩ := R
            show wl_R _ _ 37 94 [some (.ref 93), some (wp_i x)] [] h1 _
            refine wl_s (pc' := 95) ji_37_94 rfl rfl rfl ?_
            refine wl_s (pc' := 96) ji_37_95 rfl rfl rfl ?_
            refine kl_p (y := 2) (f' := f) (q' := q) (law' := law) (st' := 2) (wn' := (w.length : Int)) (op' := opn w) (br' := brn w) (ls' := ls) (as_' := as_) ht V ji_37_96 jf_37_25 (by decide) rfl rfl rfl (fun h V => ?_)
            refine wl_rv ji_37_99 jr_37 ⟨rfl, ?_⟩
            rw [show c_wd law x st w ls as_ = .inr (2, w, ls, as_) by unfold c_wd; rw [if_neg (by omega), if_neg (by omega), if_neg (by omega)]]
            rw [show e_wd x st = [10000 + x] from if_neg (by omega)]
            exact ⟨ws, e, hlen, V⟩
          · refine wl_s (pc' := 67) ji_37_66 rfl rfl rfl ?_
            refine kl_g V ji_37_67 jf_37_22 rfl ?_
            refine wl_s (pc' := 71) ji_37_70 rfl rfl rfl ?_
            refine wl_icmp (t := 82) ji_37_71 rfl (by omega) (by omega) (fun (hb8 : ¬ (law : Int) = 1) => ?_) (fun (hb8 : ¬ (¬ (law : Int) = 1)) => ?_)
            · refine wl_s (pc' := 83) ji_37_82 rfl rfl rfl ?_
              refine kl_g V ji_37_83 jf_37_51 rfl ?_
              refine wl_sp ji_37_86 rfl ?_
              refine wl_s (pc' := 90) ji_37_89 rfl rfl rfl ?_
              refine wl_iadd (x := 10000) (y := x) (z := 10000 + x) ji_37_90 (by omega) ?_
              obtain ⟨tfs, htc⟩ := kl_tc V
              refine wl_vc (d := d + 1) (as := [.ref t, wp_i (10000 + x)]) (rest := []) ji_37_91 jc_37_139 rfl htc jk_36.symm (Nat.le_of_ble_eq_true rfl) rfl (by rw [jn_36]; rfl) (wk_write ht V) (fun v1 h1 R => ?_)
              obtain ⟨rfl, V⟩ := R
              show wl_R _ _ 37 94 [some (.ref 93), some (wp_i x)] [] h1 _
              refine wl_s (pc' := 95) ji_37_94 rfl rfl rfl ?_
              refine wl_s (pc' := 96) ji_37_95 rfl rfl rfl ?_
              refine kl_p (y := 2) (f' := f) (q' := q) (law' := law) (st' := 2) (wn' := (w.length : Int)) (op' := opn w) (br' := brn w) (ls' := ls) (as_' := as_) ht V ji_37_96 jf_37_25 (by decide) rfl rfl rfl (fun h V => ?_)
              refine wl_rv ji_37_99 jr_37 ⟨rfl, ?_⟩
              rw [show c_wd law x st w ls as_ = .inr (2, w, ls, as_) by unfold c_wd; rw [if_neg (by omega), if_neg (by omega), if_neg (by omega)]]
              rw [show e_wd x st = [10000 + x] from if_neg (by omega)]
              exact ⟨ws, e, hlen, V⟩
            · refine wl_s (pc' := 75) ji_37_74 rfl rfl rfl ?_
              refine wl_s (pc' := 76) ji_37_75 rfl rfl rfl ?_
              refine wl_vc (d := d + 1) (as := [.ref 93, wp_i 5]) (rest := []) ji_37_76 jc_37_80 rfl (kl_93 V) jk_31.symm (Nat.le_of_ble_eq_true rfl) rfl (by rw [jn_31]; rfl) (wk_fail ht V) (fun v1 h1 R => ?_)
              obtain ⟨rfl, V⟩ := R
              show wl_R _ _ 37 79 [some (.ref 93), some (wp_i x)] [] h1 _
              refine wl_goto (t := 99) ji_37_79 rfl ?_
              refine wl_rv ji_37_99 jr_37 ⟨rfl, ?_⟩
              rw [show c_wd law x st w ls as_ = .inl 5 by unfold c_wd; rw [if_neg (by omega), if_neg (by omega), if_pos (by omega)]]
              exact ⟨_, _, _, _, _, ws, e, hlen, V⟩
    · refine wl_s (pc' := 28) ji_37_27 rfl rfl rfl ?_
      refine wl_bp ji_37_28 rfl ?_
      refine wl_icmp (t := 47) ji_37_30 rfl (by omega) (by omega) (fun (hb9 : (x : Int) = 9) => ?_) (fun (hb9 : ¬ ((x : Int) = 9)) => ?_)
      · refine wl_s (pc' := 48) ji_37_47 rfl rfl rfl ?_
        refine wl_bp ji_37_48 rfl ?_
        refine wl_icmp (t := 60) ji_37_50 rfl (by omega) (by omega) (fun (hb10 : ¬ (x : Int) = 23) => ?_) (fun (hb10 : ¬ (¬ (x : Int) = 23)) => ?_)
        · refine wl_s (pc' := 61) ji_37_60 rfl rfl rfl ?_
          refine wl_bp ji_37_61 rfl ?_
          refine wl_icmp (t := 82) ji_37_63 rfl (by omega) (by omega) (fun (hb11 : ¬ (x : Int) = 24) => ?_) (fun (hb11 : ¬ (¬ (x : Int) = 24)) => ?_)
          · refine wl_s (pc' := 83) ji_37_82 rfl rfl rfl ?_
            refine kl_g V ji_37_83 jf_37_51 rfl ?_
            refine wl_sp ji_37_86 rfl ?_
            refine wl_s (pc' := 90) ji_37_89 rfl rfl rfl ?_
            refine wl_iadd (x := 10000) (y := x) (z := 10000 + x) ji_37_90 (by omega) ?_
            obtain ⟨tfs, htc⟩ := kl_tc V
            refine wl_vc (d := d + 1) (as := [.ref t, wp_i (10000 + x)]) (rest := []) ji_37_91 jc_37_139 rfl htc jk_36.symm (Nat.le_of_ble_eq_true rfl) rfl (by rw [jn_36]; rfl) (wk_write ht V) (fun v1 h1 R => ?_)
            obtain ⟨rfl, V⟩ := R
            show wl_R _ _ 37 94 [some (.ref 93), some (wp_i x)] [] h1 _
            refine wl_s (pc' := 95) ji_37_94 rfl rfl rfl ?_
            refine wl_s (pc' := 96) ji_37_95 rfl rfl rfl ?_
            refine kl_p (y := 2) (f' := f) (q' := q) (law' := law) (st' := 2) (wn' := (w.length : Int)) (op' := opn w) (br' := brn w) (ls' := ls) (as_' := as_) ht V ji_37_96 jf_37_25 (by decide) rfl rfl rfl (fun h V => ?_)
            refine wl_rv ji_37_99 jr_37 ⟨rfl, ?_⟩
            rw [show c_wd law x st w ls as_ = .inr (2, w, ls, as_) by unfold c_wd; rw [if_neg (by omega), if_neg (by omega), if_neg (by omega)]]
            rw [show e_wd x st = [10000 + x] from if_neg (by omega)]
            exact ⟨ws, e, hlen, V⟩
          · refine wl_s (pc' := 67) ji_37_66 rfl rfl rfl ?_
            refine kl_g V ji_37_67 jf_37_22 rfl ?_
            refine wl_s (pc' := 71) ji_37_70 rfl rfl rfl ?_
            refine wl_icmp (t := 82) ji_37_71 rfl (by omega) (by omega) (fun (hb12 : ¬ (law : Int) = 1) => ?_) (fun (hb12 : ¬ (¬ (law : Int) = 1)) => ?_)
            · refine wl_s (pc' := 83) ji_37_82 rfl rfl rfl ?_
              refine kl_g V ji_37_83 jf_37_51 rfl ?_
              refine wl_sp ji_37_86 rfl ?_
              refine wl_s (pc' := 90) ji_37_89 rfl rfl rfl ?_
              refine wl_iadd (x := 10000) (y := x) (z := 10000 + x) ji_37_90 (by omega) ?_
              obtain ⟨tfs, htc⟩ := kl_tc V
              refine wl_vc (d := d + 1) (as := [.ref t, wp_i (10000 + x)]) (rest := []) ji_37_91 jc_37_139 rfl htc jk_36.symm (Nat.le_of_ble_eq_true rfl) rfl (by rw [jn_36]; rfl) (wk_write ht V) (fun v1 h1 R => ?_)
              obtain ⟨rfl, V⟩ := R
              show wl_R _ _ 37 94 [some (.ref 93), some (wp_i x)] [] h1 _
              refine wl_s (pc' := 95) ji_37_94 rfl rfl rfl ?_
              refine wl_s (pc' := 96) ji_37_95 rfl rfl rfl ?_
              refine kl_p (y := 2) (f' := f) (q' := q) (law' := law) (st' := 2) (wn' := (w.length : Int)) (op' := opn w) (br' := brn w) (ls' := ls) (as_' := as_) ht V ji_37_96 jf_37_25 (by decide) rfl rfl rfl (fun h V => ?_)
              refine wl_rv ji_37_99 jr_37 ⟨rfl, ?_⟩
              rw [show c_wd law x st w ls as_ = .inr (2, w, ls, as_) by unfold c_wd; rw [if_neg (by omega), if_neg (by omega), if_neg (by omega)]]
              rw [show e_wd x st = [10000 + x] from if_neg (by omega)]
              exact ⟨ws, e, hlen, V⟩
            · refine wl_s (pc' := 75) ji_37_74 rfl rfl rfl ?_
              refine wl_s (pc' := 76) ji_37_75 rfl rfl rfl ?_
              refine wl_vc (d := d + 1) (as := [.ref 93, wp_i 5]) (rest := []) ji_37_76 jc_37_80 rfl (kl_93 V) jk_31.symm (Nat.le_of_ble_eq_true rfl) rfl (by rw [jn_31]; rfl) (wk_fail ht V) (fun v1 h1 R => ?_)
              obtain ⟨rfl, V⟩ := R
              show wl_R _ _ 37 79 [some (.ref 93), some (wp_i x)] [] h1 _
              refine wl_goto (t := 99) ji_37_79 rfl ?_
              refine wl_rv ji_37_99 jr_37 ⟨rfl, ?_⟩
              rw [show c_wd law x st w ls as_ = .inl 5 by unfold c_wd; rw [if_neg (by omega), if_neg (by omega), if_pos (by omega)]]
              exact ⟨_, _, _, _, _, ws, e, hlen, V⟩
        · refine wl_s (pc' := 54) ji_37_53 rfl rfl rfl ?_
          refine kl_g V ji_37_54 jf_37_22 rfl ?_
          refine wl_if (t := 74) ji_37_57 rfl (by omega) (fun (hb13 : (law : Int) = 0) => ?_) (fun (hb13 : ¬ ((law : Int) = 0)) => ?_)
          · refine wl_s (pc' := 75) ji_37_74 rfl rfl rfl ?_
            refine wl_s (pc' := 76) ji_37_75 rfl rfl rfl ?_
            refine wl_vc (d := d + 1) (as := [.ref 93, wp_i 5]) (rest := []) ji_37_76 jc_37_80 rfl (kl_93 V) jk_31.symm (Nat.le_of_ble_eq_true rfl) rfl (by rw [jn_31]; rfl) (wk_fail ht V) (fun v1 h1 R => ?_)
            obtain ⟨rfl, V⟩ := R
            show wl_R _ _ 37 79 [some (.ref 93), some (wp_i x)] [] h1 _
            refine wl_goto (t := 99) ji_37_79 rfl ?_
            refine wl_rv ji_37_99 jr_37 ⟨rfl, ?_⟩
            rw [show c_wd law x st w ls as_ = .inl 5 by unfold c_wd; rw [if_neg (by omega), if_neg (by omega), if_pos (by omega)]]
            exact ⟨_, _, _, _, _, ws, e, hlen, V⟩
          · refine wl_s (pc' := 61) ji_37_60 rfl rfl rfl ?_
            refine wl_bp ji_37_61 rfl ?_
            refine wl_icmp (t := 82) ji_37_63 rfl (by omega) (by omega) (fun (hb14 : ¬ (x : Int) = 24) => ?_) (fun (hb14 : ¬ (¬ (x : Int) = 24)) => ?_)
            · refine wl_s (pc' := 83) ji_37_82 rfl rfl rfl ?_
              refine kl_g V ji_37_83 jf_37_51 rfl ?_
              refine wl_sp ji_37_86 rfl ?_
              refine wl_s (pc' := 90) ji_37_89 rfl rfl rfl ?_
              refine wl_iadd (x := 10000) (y := x) (z := 10000 + x) ji_37_90 (by omega) ?_
              obtain ⟨tfs, htc⟩ := kl_tc V
              refine wl_vc (d := d + 1) (as := [.ref t, wp_i (10000 + x)]) (rest := []) ji_37_91 jc_37_139 rfl htc jk_36.symm (Nat.le_of_ble_eq_true rfl) rfl (by rw [jn_36]; rfl) (wk_write ht V) (fun v1 h1 R => ?_)
              obtain ⟨rfl, V⟩ := R
              show wl_R _ _ 37 94 [some (.ref 93), some (wp_i x)] [] h1 _
              refine wl_s (pc' := 95) ji_37_94 rfl rfl rfl ?_
              refine wl_s (pc' := 96) ji_37_95 rfl rfl rfl ?_
              refine kl_p (y := 2) (f' := f) (q' := q) (law' := law) (st' := 2) (wn' := (w.length : Int)) (op' := opn w) (br' := brn w) (ls' := ls) (as_' := as_) ht V ji_37_96 jf_37_25 (by decide) rfl rfl rfl (fun h V => ?_)
              refine wl_rv ji_37_99 jr_37 ⟨rfl, ?_⟩
              rw [show c_wd law x st w ls as_ = .inr (2, w, ls, as_) by unfold c_wd; rw [if_neg (by omega), if_neg (by omega), if_neg (by omega)]]
              rw [show e_wd x st = [10000 + x] from if_neg (by omega)]
              exact ⟨ws, e, hlen, V⟩
            · refine wl_s (pc' := 67) ji_37_66 rfl rfl rfl ?_
              refine kl_g V ji_37_67 jf_37_22 rfl ?_
              refine wl_s (pc' := 71) ji_37_70 rfl rfl rfl ?_
              refine wl_icmp (t := 82) ji_37_71 rfl (by omega) (by omega) (fun (hb15 : ¬ (law : Int) = 1) => ?_) (fun (hb15 : ¬ (¬ (law : Int) = 1)) => ?_)
              · refine wl_s (pc' := 83) ji_37_82 rfl rfl rfl ?_
                refine kl_g V ji_37_83 jf_37_51 rfl ?_
                refine wl_sp ji_37_86 rfl ?_
                refine wl_s (pc' := 90) ji_37_89 rfl rfl rfl ?_
                refine wl_iadd (x := 10000) (y := x) (z := 10000 + x) ji_37_90 (by omega) ?_
                obtain ⟨tfs, htc⟩ := kl_tc V
                refine wl_vc (d := d + 1) (as := [.ref t, wp_i (10000 + x)]) (rest := []) ji_37_91 jc_37_139 rfl htc jk_36.symm (Nat.le_of_ble_eq_true rfl) rfl (by rw [jn_36]; rfl) (wk_write ht V) (fun v1 h1 R => ?_)
                obtain ⟨rfl, V⟩ := R
                show wl_R _ _ 37 94 [some (.ref 93), some (wp_i x)] [] h1 _
                refine wl_s (pc' := 95) ji_37_94 rfl rfl rfl ?_
                refine wl_s (pc' := 96) ji_37_95 rfl rfl rfl ?_
                refine kl_p (y := 2) (f' := f) (q' := q) (law' := law) (st' := 2) (wn' := (w.length : Int)) (op' := opn w) (br' := brn w) (ls' := ls) (as_' := as_) ht V ji_37_96 jf_37_25 (by decide) rfl rfl rfl (fun h V => ?_)
                refine wl_rv ji_37_99 jr_37 ⟨rfl, ?_⟩
                rw [show c_wd law x st w ls as_ = .inr (2, w, ls, as_) by unfold c_wd; rw [if_neg (by omega), if_neg (by omega), if_neg (by omega)]]
                rw [show e_wd x st = [10000 + x] from if_neg (by omega)]
                exact ⟨ws, e, hlen, V⟩
              · refine wl_s (pc' := 75) ji_37_74 rfl rfl rfl ?_
                refine wl_s (pc' := 76) ji_37_75 rfl rfl rfl ?_
                refine wl_vc (d := d + 1) (as := [.ref 93, wp_i 5]) (rest := []) ji_37_76 jc_37_80 rfl (kl_93 V) jk_31.symm (Nat.le_of_ble_eq_true rfl) rfl (by rw [jn_31]; rfl) (wk_fail ht V) (fun v1 h1 R => ?_)
                obtain ⟨rfl, V⟩ := R
                show wl_R _ _ 37 79 [some (.ref 93), some (wp_i x)] [] h1 _
                refine wl_goto (t := 99) ji_37_79 rfl ?_
                refine wl_rv ji_37_99 jr_37 ⟨rfl, ?_⟩
                rw [show c_wd law x st w ls as_ = .inl 5 by unfold c_wd; rw [if_neg (by omega), if_neg (by omega), if_pos (by omega)]]
                exact ⟨_, _, _, _, _, ws, e, hlen, V⟩
      · refine wl_s (pc' := 34) ji_37_33 rfl rfl rfl ?_
        refine wl_bp ji_37_34 rfl ?_
        refine wl_icmp (t := 47) ji_37_36 rfl (by omega) (by omega) (fun (hb16 : (17 : Int) ≤ x) => ?_) (fun (hb16 : ¬ ((17 : Int) ≤ x)) => ?_)
        · refine wl_s (pc' := 48) ji_37_47 rfl rfl rfl ?_
          refine wl_bp ji_37_48 rfl ?_
          refine wl_icmp (t := 60) ji_37_50 rfl (by omega) (by omega) (fun (hb17 : ¬ (x : Int) = 23) => ?_) (fun (hb17 : ¬ (¬ (x : Int) = 23)) => ?_)
          · refine wl_s (pc' := 61) ji_37_60 rfl rfl rfl ?_
            refine wl_bp ji_37_61 rfl ?_
            refine wl_icmp (t := 82) ji_37_63 rfl (by omega) (by omega) (fun (hb18 : ¬ (x : Int) = 24) => ?_) (fun (hb18 : ¬ (¬ (x : Int) = 24)) => ?_)
            · refine wl_s (pc' := 83) ji_37_82 rfl rfl rfl ?_
              refine kl_g V ji_37_83 jf_37_51 rfl ?_
              refine wl_sp ji_37_86 rfl ?_
              refine wl_s (pc' := 90) ji_37_89 rfl rfl rfl ?_
              refine wl_iadd (x := 10000) (y := x) (z := 10000 + x) ji_37_90 (by omega) ?_
              obtain ⟨tfs, htc⟩ := kl_tc V
              refine wl_vc (d := d + 1) (as := [.ref t, wp_i (10000 + x)]) (rest := []) ji_37_91 jc_37_139 rfl htc jk_36.symm (Nat.le_of_ble_eq_true rfl) rfl (by rw [jn_36]; rfl) (wk_write ht V) (fun v1 h1 R => ?_)
              obtain ⟨rfl, V⟩ := R
              show wl_R _ _ 37 94 [some (.ref 93), some (wp_i x)] [] h1 _
              refine wl_s (pc' := 95) ji_37_94 rfl rfl rfl ?_
              refine wl_s (pc' := 96) ji_37_95 rfl rfl rfl ?_
              refine kl_p (y := 2) (f' := f) (q' := q) (law' := law) (st' := 2) (wn' := (w.length : Int)) (op' := opn w) (br' := brn w) (ls' := ls) (as_' := as_) ht V ji_37_96 jf_37_25 (by decide) rfl rfl rfl (fun h V => ?_)
              refine wl_rv ji_37_99 jr_37 ⟨rfl, ?_⟩
              rw [show c_wd law x st w ls as_ = .inr (2, w, ls, as_) by unfold c_wd; rw [if_neg (by omega), if_neg (by omega), if_neg (by omega)]]
              rw [show e_wd x st = [10000 + x] from if_neg (by omega)]
              exact ⟨ws, e, hlen, V⟩
            · refine wl_s (pc' := 67) ji_37_66 rfl rfl rfl ?_
              refine kl_g V ji_37_67 jf_37_22 rfl ?_
              refine wl_s (pc' := 71) ji_37_70 rfl rfl rfl ?_
              refine wl_icmp (t := 82) ji_37_71 rfl (by omega) (by omega) (fun (hb19 : ¬ (law : Int) = 1) => ?_) (fun (hb19 : ¬ (¬ (law : Int) = 1)) => ?_)
              · refine wl_s (pc' := 83) ji_37_82 rfl rfl rfl ?_
                refine kl_g V ji_37_83 jf_37_51 rfl ?_
                refine wl_sp ji_37_86 rfl ?_
                refine wl_s (pc' := 90) ji_37_89 rfl rfl rfl ?_
                refine wl_iadd (x := 10000) (y := x) (z := 10000 + x) ji_37_90 (by omega) ?_
                obtain ⟨tfs, htc⟩ := kl_tc V
                refine wl_vc (d := d + 1) (as := [.ref t, wp_i (10000 + x)]) (rest := []) ji_37_91 jc_37_139 rfl htc jk_36.symm (Nat.le_of_ble_eq_true rfl) rfl (by rw [jn_36]; rfl) (wk_write ht V) (fun v1 h1 R => ?_)
                obtain ⟨rfl, V⟩ := R
                show wl_R _ _ 37 94 [some (.ref 93), some (wp_i x)] [] h1 _
                refine wl_s (pc' := 95) ji_37_94 rfl rfl rfl ?_
                refine wl_s (pc' := 96) ji_37_95 rfl rfl rfl ?_
                refine kl_p (y := 2) (f' := f) (q' := q) (law' := law) (st' := 2) (wn' := (w.length : Int)) (op' := opn w) (br' := brn w) (ls' := ls) (as_' := as_) ht V ji_37_96 jf_37_25 (by decide) rfl rfl rfl (fun h V => ?_)
                refine wl_rv ji_37_99 jr_37 ⟨rfl, ?_⟩
                rw [show c_wd law x st w ls as_ = .inr (2, w, ls, as_) by unfold c_wd; rw [if_neg (by omega), if_neg (by omega), if_neg (by omega)]]
                rw [show e_wd x st = [10000 + x] from if_neg (by omega)]
                exact ⟨ws, e, hlen, V⟩
              · refine wl_s (pc' := 75) ji_37_74 rfl rfl rfl ?_
                refine wl_s (pc' := 76) ji_37_75 rfl rfl rfl ?_
                refine wl_vc (d := d + 1) (as := [.ref 93, wp_i 5]) (rest := []) ji_37_76 jc_37_80 rfl (kl_93 V) jk_31.symm (Nat.le_of_ble_eq_true rfl) rfl (by rw [jn_31]; rfl) (wk_fail ht V) (fun v1 h1 R => ?_)
                obtain ⟨rfl, V⟩ := R
                show wl_R _ _ 37 79 [some (.ref 93), some (wp_i x)] [] h1 _
                refine wl_goto (t := 99) ji_37_79 rfl ?_
                refine wl_rv ji_37_99 jr_37 ⟨rfl, ?_⟩
                rw [show c_wd law x st w ls as_ = .inl 5 by unfold c_wd; rw [if_neg (by omega), if_neg (by omega), if_pos (by omega)]]
                exact ⟨_, _, _, _, _, ws, e, hlen, V⟩
          · refine wl_s (pc' := 54) ji_37_53 rfl rfl rfl ?_
            refine kl_g V ji_37_54 jf_37_22 rfl ?_
            refine wl_if (t := 74) ji_37_57 rfl (by omega) (fun (hb20 : (law : Int) = 0) => ?_) (fun (hb20 : ¬ ((law : Int) = 0)) => ?_)
            · refine wl_s (pc' := 75) ji_37_74 rfl rfl rfl ?_
              refine wl_s (pc' := 76) ji_37_75 rfl rfl rfl ?_
              refine wl_vc (d := d + 1) (as := [.ref 93, wp_i 5]) (rest := []) ji_37_76 jc_37_80 rfl (kl_93 V) jk_31.symm (Nat.le_of_ble_eq_true rfl) rfl (by rw [jn_31]; rfl) (wk_fail ht V) (fun v1 h1 R => ?_)
              obtain ⟨rfl, V⟩ := R
              show wl_R _ _ 37 79 [some (.ref 93), some (wp_i x)] [] h1 _
              refine wl_goto (t := 99) ji_37_79 rfl ?_
              refine wl_rv ji_37_99 jr_37 ⟨rfl, ?_⟩
              rw [show c_wd law x st w ls as_ = .inl 5 by unfold c_wd; rw [if_neg (by omega), if_neg (by omega), if_pos (by omega)]]
              exact ⟨_, _, _, _, _, ws, e, hlen, V⟩
            · refine wl_s (pc' := 61) ji_37_60 rfl rfl rfl ?_
              refine wl_bp ji_37_61 rfl ?_
              refine wl_icmp (t := 82) ji_37_63 rfl (by omega) (by omega) (fun (hb21 : ¬ (x : Int) = 24) => ?_) (fun (hb21 : ¬ (¬ (x : Int) = 24)) => ?_)
              · refine wl_s (pc' := 83) ji_37_82 rfl rfl rfl ?_
                refine kl_g V ji_37_83 jf_37_51 rfl ?_
                refine wl_sp ji_37_86 rfl ?_
                refine wl_s (pc' := 90) ji_37_89 rfl rfl rfl ?_
                refine wl_iadd (x := 10000) (y := x) (z := 10000 + x) ji_37_90 (by omega) ?_
                obtain ⟨tfs, htc⟩ := kl_tc V
                refine wl_vc (d := d + 1) (as := [.ref t, wp_i (10000 + x)]) (rest := []) ji_37_91 jc_37_139 rfl htc jk_36.symm (Nat.le_of_ble_eq_true rfl) rfl (by rw [jn_36]; rfl) (wk_write ht V) (fun v1 h1 R => ?_)
                obtain ⟨rfl, V⟩ := R
                show wl_R _ _ 37 94 [some (.ref 93), some (wp_i x)] [] h1 _
                refine wl_s (pc' := 95) ji_37_94 rfl rfl rfl ?_
                refine wl_s (pc' := 96) ji_37_95 rfl rfl rfl ?_
                refine kl_p (y := 2) (f' := f) (q' := q) (law' := law) (st' := 2) (wn' := (w.length : Int)) (op' := opn w) (br' := brn w) (ls' := ls) (as_' := as_) ht V ji_37_96 jf_37_25 (by decide) rfl rfl rfl (fun h V => ?_)
                refine wl_rv ji_37_99 jr_37 ⟨rfl, ?_⟩
                rw [show c_wd law x st w ls as_ = .inr (2, w, ls, as_) by unfold c_wd; rw [if_neg (by omega), if_neg (by omega), if_neg (by omega)]]
                rw [show e_wd x st = [10000 + x] from if_neg (by omega)]
                exact ⟨ws, e, hlen, V⟩
              · refine wl_s (pc' := 67) ji_37_66 rfl rfl rfl ?_
                refine kl_g V ji_37_67 jf_37_22 rfl ?_
                refine wl_s (pc' := 71) ji_37_70 rfl rfl rfl ?_
                refine wl_icmp (t := 82) ji_37_71 rfl (by omega) (by omega) (fun (hb22 : ¬ (law : Int) = 1) => ?_) (fun (hb22 : ¬ (¬ (law : Int) = 1)) => ?_)
                · refine wl_s (pc' := 83) ji_37_82 rfl rfl rfl ?_
                  refine kl_g V ji_37_83 jf_37_51 rfl ?_
                  refine wl_sp ji_37_86 rfl ?_
                  refine wl_s (pc' := 90) ji_37_89 rfl rfl rfl ?_
                  refine wl_iadd (x := 10000) (y := x) (z := 10000 + x) ji_37_90 (by omega) ?_
                  obtain ⟨tfs, htc⟩ := kl_tc V
                  refine wl_vc (d := d + 1) (as := [.ref t, wp_i (10000 + x)]) (rest := []) ji_37_91 jc_37_139 rfl htc jk_36.symm (Nat.le_of_ble_eq_true rfl) rfl (by rw [jn_36]; rfl) (wk_write ht V) (fun v1 h1 R => ?_)
                  obtain ⟨rfl, V⟩ := R
                  show wl_R _ _ 37 94 [some (.ref 93), some (wp_i x)] [] h1 _
                  refine wl_s (pc' := 95) ji_37_94 rfl rfl rfl ?_
                  refine wl_s (pc' := 96) ji_37_95 rfl rfl rfl ?_
                  refine kl_p (y := 2) (f' := f) (q' := q) (law' := law) (st' := 2) (wn' := (w.length : Int)) (op' := opn w) (br' := brn w) (ls' := ls) (as_' := as_) ht V ji_37_96 jf_37_25 (by decide) rfl rfl rfl (fun h V => ?_)
                  refine wl_rv ji_37_99 jr_37 ⟨rfl, ?_⟩
                  rw [show c_wd law x st w ls as_ = .inr (2, w, ls, as_) by unfold c_wd; rw [if_neg (by omega), if_neg (by omega), if_neg (by omega)]]
                  rw [show e_wd x st = [10000 + x] from if_neg (by omega)]
                  exact ⟨ws, e, hlen, V⟩
                · refine wl_s (pc' := 75) ji_37_74 rfl rfl rfl ?_
                  refine wl_s (pc' := 76) ji_37_75 rfl rfl rfl ?_
                  refine wl_vc (d := d + 1) (as := [.ref 93, wp_i 5]) (rest := []) ji_37_76 jc_37_80 rfl (kl_93 V) jk_31.symm (Nat.le_of_ble_eq_true rfl) rfl (by rw [jn_31]; rfl) (wk_fail ht V) (fun v1 h1 R => ?_)
                  obtain ⟨rfl, V⟩ := R
                  show wl_R _ _ 37 79 [some (.ref 93), some (wp_i x)] [] h1 _
                  refine wl_goto (t := 99) ji_37_79 rfl ?_
                  refine wl_rv ji_37_99 jr_37 ⟨rfl, ?_⟩
                  rw [show c_wd law x st w ls as_ = .inl 5 by unfold c_wd; rw [if_neg (by omega), if_neg (by omega), if_pos (by omega)]]
                  exact ⟨_, _, _, _, _, ws, e, hlen, V⟩
        · refine wl_s (pc' := 40) ji_37_39 rfl rfl rfl ?_
          refine wl_s (pc' := 41) ji_37_40 rfl rfl rfl ?_
          refine wl_vc (d := d + 1) (as := [.ref 93, wp_i 1]) (rest := []) ji_37_41 jc_37_80 rfl (kl_93 V) jk_31.symm (Nat.le_of_ble_eq_true rfl) rfl (by rw [jn_31]; rfl) (wk_fail ht V) (fun v1 h1 R => ?_)
          obtain ⟨rfl, V⟩ := R
          show wl_R _ _ 37 44 [some (.ref 93), some (wp_i x)] [] h1 _
          refine wl_goto (t := 99) ji_37_44 rfl ?_
          refine wl_rv ji_37_99 jr_37 ⟨rfl, ?_⟩
          rw [show c_wd law x st w ls as_ = .inl 1 by unfold c_wd; rw [if_neg (by omega), if_pos (by omega)]]
          exact ⟨_, _, _, _, _, ws, e, hlen, V⟩
  · refine wl_s (pc' := 7) ji_37_6 rfl rfl rfl ?_
    refine kl_g V ji_37_7 jf_37_25 rfl ?_
    refine wl_if (t := 22) ji_37_10 rfl (by omega) (fun (hb23 : ¬ (st : Int) = 0) => ?_) (fun (hb23 : ¬ (¬ (st : Int) = 0)) => ?_)
    · refine wl_s (pc' := 23) ji_37_22 rfl rfl rfl ?_
      refine wl_s (pc' := 24) ji_37_23 rfl rfl rfl ?_
      refine wl_icmp (t := 47) ji_37_24 rfl (by omega) (by omega) (fun (hb24 : (x : Int) = 4) => ?_) (fun (hb24 : ¬ ((x : Int) = 4)) => ?_)
      · refine wl_s (pc' := 48) ji_37_47 rfl rfl rfl ?_
        refine wl_bp ji_37_48 rfl ?_
        refine wl_icmp (t := 60) ji_37_50 rfl (by omega) (by omega) (fun (hb25 : ¬ (x : Int) = 23) => ?_) (fun (hb25 : ¬ (¬ (x : Int) = 23)) => ?_)
        · refine wl_s (pc' := 61) ji_37_60 rfl rfl rfl ?_
          refine wl_bp ji_37_61 rfl ?_
          refine wl_icmp (t := 82) ji_37_63 rfl (by omega) (by omega) (fun (hb26 : ¬ (x : Int) = 24) => ?_) (fun (hb26 : ¬ (¬ (x : Int) = 24)) => ?_)
          · refine wl_s (pc' := 83) ji_37_82 rfl rfl rfl ?_
            refine kl_g V ji_37_83 jf_37_51 rfl ?_
            refine wl_sp ji_37_86 rfl ?_
            refine wl_s (pc' := 90) ji_37_89 rfl rfl rfl ?_
            refine wl_iadd (x := 10000) (y := x) (z := 10000 + x) ji_37_90 (by omega) ?_
            obtain ⟨tfs, htc⟩ := kl_tc V
            refine wl_vc (d := d + 1) (as := [.ref t, wp_i (10000 + x)]) (rest := []) ji_37_91 jc_37_139 rfl htc jk_36.symm (Nat.le_of_ble_eq_true rfl) rfl (by rw [jn_36]; rfl) (wk_write ht V) (fun v1 h1 R => ?_)
            obtain ⟨rfl, V⟩ := R
            show wl_R _ _ 37 94 [some (.ref 93), some (wp_i x)] [] h1 _
            refine wl_s (pc' := 95) ji_37_94 rfl rfl rfl ?_
            refine wl_s (pc' := 96) ji_37_95 rfl rfl rfl ?_
            refine kl_p (y := 2) (f' := f) (q' := q) (law' := law) (st' := 2) (wn' := (w.length : Int)) (op' := opn w) (br' := brn w) (ls' := ls) (as_' := as_) ht V ji_37_96 jf_37_25 (by decide) rfl rfl rfl (fun h V => ?_)
            refine wl_rv ji_37_99 jr_37 ⟨rfl, ?_⟩
            rw [show c_wd law x st w ls as_ = .inr (2, w, ls, as_) by unfold c_wd; rw [if_neg (by omega), if_neg (by omega), if_neg (by omega)]]
            rw [show e_wd x st = [10000 + x] from if_neg (by omega)]
            exact ⟨ws, e, hlen, V⟩
          · refine wl_s (pc' := 67) ji_37_66 rfl rfl rfl ?_
            refine kl_g V ji_37_67 jf_37_22 rfl ?_
            refine wl_s (pc' := 71) ji_37_70 rfl rfl rfl ?_
            refine wl_icmp (t := 82) ji_37_71 rfl (by omega) (by omega) (fun (hb27 : ¬ (law : Int) = 1) => ?_) (fun (hb27 : ¬ (¬ (law : Int) = 1)) => ?_)
            · refine wl_s (pc' := 83) ji_37_82 rfl rfl rfl ?_
              refine kl_g V ji_37_83 jf_37_51 rfl ?_
              refine wl_sp ji_37_86 rfl ?_
              refine wl_s (pc' := 90) ji_37_89 rfl rfl rfl ?_
              refine wl_iadd (x := 10000) (y := x) (z := 10000 + x) ji_37_90 (by omega) ?_
              obtain ⟨tfs, htc⟩ := kl_tc V
              refine wl_vc (d := d + 1) (as := [.ref t, wp_i (10000 + x)]) (rest := []) ji_37_91 jc_37_139 rfl htc jk_36.symm (Nat.le_of_ble_eq_true rfl) rfl (by rw [jn_36]; rfl) (wk_write ht V) (fun v1 h1 R => ?_)
              obtain ⟨rfl, V⟩ := R
              show wl_R _ _ 37 94 [some (.ref 93), some (wp_i x)] [] h1 _
              refine wl_s (pc' := 95) ji_37_94 rfl rfl rfl ?_
              refine wl_s (pc' := 96) ji_37_95 rfl rfl rfl ?_
              refine kl_p (y := 2) (f' := f) (q' := q) (law' := law) (st' := 2) (wn' := (w.length : Int)) (op' := opn w) (br' := brn w) (ls' := ls) (as_' := as_) ht V ji_37_96 jf_37_25 (by decide) rfl rfl rfl (fun h V => ?_)
              refine wl_rv ji_37_99 jr_37 ⟨rfl, ?_⟩
              rw [show c_wd law x st w ls as_ = .inr (2, w, ls, as_) by unfold c_wd; rw [if_neg (by omega), if_neg (by omega), if_neg (by omega)]]
              rw [show e_wd x st = [10000 + x] from if_neg (by omega)]
              exact ⟨ws, e, hlen, V⟩
            · refine wl_s (pc' := 75) ji_37_74 rfl rfl rfl ?_
              refine wl_s (pc' := 76) ji_37_75 rfl rfl rfl ?_
              refine wl_vc (d := d + 1) (as := [.ref 93, wp_i 5]) (rest := []) ji_37_76 jc_37_80 rfl (kl_93 V) jk_31.symm (Nat.le_of_ble_eq_true rfl) rfl (by rw [jn_31]; rfl) (wk_fail ht V) (fun v1 h1 R => ?_)
              obtain ⟨rfl, V⟩ := R
              show wl_R _ _ 37 79 [some (.ref 93), some (wp_i x)] [] h1 _
              refine wl_goto (t := 99) ji_37_79 rfl ?_
              refine wl_rv ji_37_99 jr_37 ⟨rfl, ?_⟩
              rw [show c_wd law x st w ls as_ = .inl 5 by unfold c_wd; rw [if_neg (by omega), if_neg (by omega), if_pos (by omega)]]
              exact ⟨_, _, _, _, _, ws, e, hlen, V⟩
        · refine wl_s (pc' := 54) ji_37_53 rfl rfl rfl ?_
          refine kl_g V ji_37_54 jf_37_22 rfl ?_
          refine wl_if (t := 74) ji_37_57 rfl (by omega) (fun (hb28 : (law : Int) = 0) => ?_) (fun (hb28 : ¬ ((law : Int) = 0)) => ?_)
          · refine wl_s (pc' := 75) ji_37_74 rfl rfl rfl ?_
            refine wl_s (pc' := 76) ji_37_75 rfl rfl rfl ?_
            refine wl_vc (d := d + 1) (as := [.ref 93, wp_i 5]) (rest := []) ji_37_76 jc_37_80 rfl (kl_93 V) jk_31.symm (Nat.le_of_ble_eq_true rfl) rfl (by rw [jn_31]; rfl) (wk_fail ht V) (fun v1 h1 R => ?_)
            obtain ⟨rfl, V⟩ := R
            show wl_R _ _ 37 79 [some (.ref 93), some (wp_i x)] [] h1 _
            refine wl_goto (t := 99) ji_37_79 rfl ?_
            refine wl_rv ji_37_99 jr_37 ⟨rfl, ?_⟩
            rw [show c_wd law x st w ls as_ = .inl 5 by unfold c_wd; rw [if_neg (by omega), if_neg (by omega), if_pos (by omega)]]
            exact ⟨_, _, _, _, _, ws, e, hlen, V⟩
          · refine wl_s (pc' := 61) ji_37_60 rfl rfl rfl ?_
            refine wl_bp ji_37_61 rfl ?_
            refine wl_icmp (t := 82) ji_37_63 rfl (by omega) (by omega) (fun (hb29 : ¬ (x : Int) = 24) => ?_) (fun (hb29 : ¬ (¬ (x : Int) = 24)) => ?_)
            · refine wl_s (pc' := 83) ji_37_82 rfl rfl rfl ?_
              refine kl_g V ji_37_83 jf_37_51 rfl ?_
              refine wl_sp ji_37_86 rfl ?_
              refine wl_s (pc' := 90) ji_37_89 rfl rfl rfl ?_
              refine wl_iadd (x := 10000) (y := x) (z := 10000 + x) ji_37_90 (by omega) ?_
              obtain ⟨tfs, htc⟩ := kl_tc V
              refine wl_vc (d := d + 1) (as := [.ref t, wp_i (10000 + x)]) (rest := []) ji_37_91 jc_37_139 rfl htc jk_36.symm (Nat.le_of_ble_eq_true rfl) rfl (by rw [jn_36]; rfl) (wk_write ht V) (fun v1 h1 R => ?_)
              obtain ⟨rfl, V⟩ := R
              show wl_R _ _ 37 94 [some (.ref 93), some (wp_i x)] [] h1 _
              refine wl_s (pc' := 95) ji_37_94 rfl rfl rfl ?_
              refine wl_s (pc' := 96) ji_37_95 rfl rfl rfl ?_
              refine kl_p (y := 2) (f' := f) (q' := q) (law' := law) (st' := 2) (wn' := (w.length : Int)) (op' := opn w) (br' := brn w) (ls' := ls) (as_' := as_) ht V ji_37_96 jf_37_25 (by decide) rfl rfl rfl (fun h V => ?_)
              refine wl_rv ji_37_99 jr_37 ⟨rfl, ?_⟩
              rw [show c_wd law x st w ls as_ = .inr (2, w, ls, as_) by unfold c_wd; rw [if_neg (by omega), if_neg (by omega), if_neg (by omega)]]
              rw [show e_wd x st = [10000 + x] from if_neg (by omega)]
              exact ⟨ws, e, hlen, V⟩
            · refine wl_s (pc' := 67) ji_37_66 rfl rfl rfl ?_
              refine kl_g V ji_37_67 jf_37_22 rfl ?_
              refine wl_s (pc' := 71) ji_37_70 rfl rfl rfl ?_
              refine wl_icmp (t := 82) ji_37_71 rfl (by omega) (by omega) (fun (hb30 : ¬ (law : Int) = 1) => ?_) (fun (hb30 : ¬ (¬ (law : Int) = 1)) => ?_)
              · refine wl_s (pc' := 83) ji_37_82 rfl rfl rfl ?_
                refine kl_g V ji_37_83 jf_37_51 rfl ?_
                refine wl_sp ji_37_86 rfl ?_
                refine wl_s (pc' := 90) ji_37_89 rfl rfl rfl ?_
                refine wl_iadd (x := 10000) (y := x) (z := 10000 + x) ji_37_90 (by omega) ?_
                obtain ⟨tfs, htc⟩ := kl_tc V
                refine wl_vc (d := d + 1) (as := [.ref t, wp_i (10000 + x)]) (rest := []) ji_37_91 jc_37_139 rfl htc jk_36.symm (Nat.le_of_ble_eq_true rfl) rfl (by rw [jn_36]; rfl) (wk_write ht V) (fun v1 h1 R => ?_)
                obtain ⟨rfl, V⟩ := R
                show wl_R _ _ 37 94 [some (.ref 93), some (wp_i x)] [] h1 _
                refine wl_s (pc' := 95) ji_37_94 rfl rfl rfl ?_
                refine wl_s (pc' := 96) ji_37_95 rfl rfl rfl ?_
                refine kl_p (y := 2) (f' := f) (q' := q) (law' := law) (st' := 2) (wn' := (w.length : Int)) (op' := opn w) (br' := brn w) (ls' := ls) (as_' := as_) ht V ji_37_96 jf_37_25 (by decide) rfl rfl rfl (fun h V => ?_)
                refine wl_rv ji_37_99 jr_37 ⟨rfl, ?_⟩
                rw [show c_wd law x st w ls as_ = .inr (2, w, ls, as_) by unfold c_wd; rw [if_neg (by omega), if_neg (by omega), if_neg (by omega)]]
                rw [show e_wd x st = [10000 + x] from if_neg (by omega)]
                exact ⟨ws, e, hlen, V⟩
              · refine wl_s (pc' := 75) ji_37_74 rfl rfl rfl ?_
                refine wl_s (pc' := 76) ji_37_75 rfl rfl rfl ?_
                refine wl_vc (d := d + 1) (as := [.ref 93, wp_i 5]) (rest := []) ji_37_76 jc_37_80 rfl (kl_93 V) jk_31.symm (Nat.le_of_ble_eq_true rfl) rfl (by rw [jn_31]; rfl) (wk_fail ht V) (fun v1 h1 R => ?_)
                obtain ⟨rfl, V⟩ := R
                show wl_R _ _ 37 79 [some (.ref 93), some (wp_i x)] [] h1 _
                refine wl_goto (t := 99) ji_37_79 rfl ?_
                refine wl_rv ji_37_99 jr_37 ⟨rfl, ?_⟩
                rw [show c_wd law x st w ls as_ = .inl 5 by unfold c_wd; rw [if_neg (by omega), if_neg (by omega), if_pos (by omega)]]
                exact ⟨_, _, _, _, _, ws, e, hlen, V⟩
      · refine wl_s (pc' := 28) ji_37_27 rfl rfl rfl ?_
        refine wl_bp ji_37_28 rfl ?_
        refine wl_icmp (t := 47) ji_37_30 rfl (by omega) (by omega) (fun (hb31 : (x : Int) = 9) => ?_) (fun (hb31 : ¬ ((x : Int) = 9)) => ?_)
        · refine wl_s (pc' := 48) ji_37_47 rfl rfl rfl ?_
          refine wl_bp ji_37_48 rfl ?_
          refine wl_icmp (t := 60) ji_37_50 rfl (by omega) (by omega) (fun (hb32 : ¬ (x : Int) = 23) => ?_) (fun (hb32 : ¬ (¬ (x : Int) = 23)) => ?_)
          · refine wl_s (pc' := 61) ji_37_60 rfl rfl rfl ?_
            refine wl_bp ji_37_61 rfl ?_
            refine wl_icmp (t := 82) ji_37_63 rfl (by omega) (by omega) (fun (hb33 : ¬ (x : Int) = 24) => ?_) (fun (hb33 : ¬ (¬ (x : Int) = 24)) => ?_)
            · refine wl_s (pc' := 83) ji_37_82 rfl rfl rfl ?_
              refine kl_g V ji_37_83 jf_37_51 rfl ?_
              refine wl_sp ji_37_86 rfl ?_
              refine wl_s (pc' := 90) ji_37_89 rfl rfl rfl ?_
              refine wl_iadd (x := 10000) (y := x) (z := 10000 + x) ji_37_90 (by omega) ?_
              obtain ⟨tfs, htc⟩ := kl_tc V
              refine wl_vc (d := d + 1) (as := [.ref t, wp_i (10000 + x)]) (rest := []) ji_37_91 jc_37_139 rfl htc jk_36.symm (Nat.le_of_ble_eq_true rfl) rfl (by rw [jn_36]; rfl) (wk_write ht V) (fun v1 h1 R => ?_)
              obtain ⟨rfl, V⟩ := R
              show wl_R _ _ 37 94 [some (.ref 93), some (wp_i x)] [] h1 _
              refine wl_s (pc' := 95) ji_37_94 rfl rfl rfl ?_
              refine wl_s (pc' := 96) ji_37_95 rfl rfl rfl ?_
              refine kl_p (y := 2) (f' := f) (q' := q) (law' := law) (st' := 2) (wn' := (w.length : Int)) (op' := opn w) (br' := brn w) (ls' := ls) (as_' := as_) ht V ji_37_96 jf_37_25 (by decide) rfl rfl rfl (fun h V => ?_)
              refine wl_rv ji_37_99 jr_37 ⟨rfl, ?_⟩
              rw [show c_wd law x st w ls as_ = .inr (2, w, ls, as_) by unfold c_wd; rw [if_neg (by omega), if_neg (by omega), if_neg (by omega)]]
              rw [show e_wd x st = [10000 + x] from if_neg (by omega)]
              exact ⟨ws, e, hlen, V⟩
            · refine wl_s (pc' := 67) ji_37_66 rfl rfl rfl ?_
              refine kl_g V ji_37_67 jf_37_22 rfl ?_
              refine wl_s (pc' := 71) ji_37_70 rfl rfl rfl ?_
              refine wl_icmp (t := 82) ji_37_71 rfl (by omega) (by omega) (fun (hb34 : ¬ (law : Int) = 1) => ?_) (fun (hb34 : ¬ (¬ (law : Int) = 1)) => ?_)
              · refine wl_s (pc' := 83) ji_37_82 rfl rfl rfl ?_
                refine kl_g V ji_37_83 jf_37_51 rfl ?_
                refine wl_sp ji_37_86 rfl ?_
                refine wl_s (pc' := 90) ji_37_89 rfl rfl rfl ?_
                refine wl_iadd (x := 10000) (y := x) (z := 10000 + x) ji_37_90 (by omega) ?_
                obtain ⟨tfs, htc⟩ := kl_tc V
                refine wl_vc (d := d + 1) (as := [.ref t, wp_i (10000 + x)]) (rest := []) ji_37_91 jc_37_139 rfl htc jk_36.symm (Nat.le_of_ble_eq_true rfl) rfl (by rw [jn_36]; rfl) (wk_write ht V) (fun v1 h1 R => ?_)
                obtain ⟨rfl, V⟩ := R
                show wl_R _ _ 37 94 [some (.ref 93), some (wp_i x)] [] h1 _
                refine wl_s (pc' := 95) ji_37_94 rfl rfl rfl ?_
                refine wl_s (pc' := 96) ji_37_95 rfl rfl rfl ?_
                refine kl_p (y := 2) (f' := f) (q' := q) (law' := law) (st' := 2) (wn' := (w.length : Int)) (op' := opn w) (br' := brn w) (ls' := ls) (as_' := as_) ht V ji_37_96 jf_37_25 (by decide) rfl rfl rfl (fun h V => ?_)
                refine wl_rv ji_37_99 jr_37 ⟨rfl, ?_⟩
                rw [show c_wd law x st w ls as_ = .inr (2, w, ls, as_) by unfold c_wd; rw [if_neg (by omega), if_neg (by omega), if_neg (by omega)]]
                rw [show e_wd x st = [10000 + x] from if_neg (by omega)]
                exact ⟨ws, e, hlen, V⟩
              · refine wl_s (pc' := 75) ji_37_74 rfl rfl rfl ?_
                refine wl_s (pc' := 76) ji_37_75 rfl rfl rfl ?_
                refine wl_vc (d := d + 1) (as := [.ref 93, wp_i 5]) (rest := []) ji_37_76 jc_37_80 rfl (kl_93 V) jk_31.symm (Nat.le_of_ble_eq_true rfl) rfl (by rw [jn_31]; rfl) (wk_fail ht V) (fun v1 h1 R => ?_)
                obtain ⟨rfl, V⟩ := R
                show wl_R _ _ 37 79 [some (.ref 93), some (wp_i x)] [] h1 _
                refine wl_goto (t := 99) ji_37_79 rfl ?_
                refine wl_rv ji_37_99 jr_37 ⟨rfl, ?_⟩
                rw [show c_wd law x st w ls as_ = .inl 5 by unfold c_wd; rw [if_neg (by omega), if_neg (by omega), if_pos (by omega)]]
                exact ⟨_, _, _, _, _, ws, e, hlen, V⟩
          · refine wl_s (pc' := 54) ji_37_53 rfl rfl rfl ?_
            refine kl_g V ji_37_54 jf_37_22 rfl ?_
            refine wl_if (t := 74) ji_37_57 rfl (by omega) (fun (hb35 : (law : Int) = 0) => ?_) (fun (hb35 : ¬ ((law : Int) = 0)) => ?_)
            · refine wl_s (pc' := 75) ji_37_74 rfl rfl rfl ?_
              refine wl_s (pc' := 76) ji_37_75 rfl rfl rfl ?_
              refine wl_vc (d := d + 1) (as := [.ref 93, wp_i 5]) (rest := []) ji_37_76 jc_37_80 rfl (kl_93 V) jk_31.symm (Nat.le_of_ble_eq_true rfl) rfl (by rw [jn_31]; rfl) (wk_fail ht V) (fun v1 h1 R => ?_)
              obtain ⟨rfl, V⟩ := R
              show wl_R _ _ 37 79 [some (.ref 93), some (wp_i x)] [] h1 _
              refine wl_goto (t := 99) ji_37_79 rfl ?_
              refine wl_rv ji_37_99 jr_37 ⟨rfl, ?_⟩
              rw [show c_wd law x st w ls as_ = .inl 5 by unfold c_wd; rw [if_neg (by omega), if_neg (by omega), if_pos (by omega)]]
              exact ⟨_, _, _, _, _, ws, e, hlen, V⟩
            · refine wl_s (pc' := 61) ji_37_60 rfl rfl rfl ?_
              refine wl_bp ji_37_61 rfl ?_
              refine wl_icmp (t := 82) ji_37_63 rfl (by omega) (by omega) (fun (hb36 : ¬ (x : Int) = 24) => ?_) (fun (hb36 : ¬ (¬ (x : Int) = 24)) => ?_)
              · refine wl_s (pc' := 83) ji_37_82 rfl rfl rfl ?_
                refine kl_g V ji_37_83 jf_37_51 rfl ?_
                refine wl_sp ji_37_86 rfl ?_
                refine wl_s (pc' := 90) ji_37_89 rfl rfl rfl ?_
                refine wl_iadd (x := 10000) (y := x) (z := 10000 + x) ji_37_90 (by omega) ?_
                obtain ⟨tfs, htc⟩ := kl_tc V
                refine wl_vc (d := d + 1) (as := [.ref t, wp_i (10000 + x)]) (rest := []) ji_37_91 jc_37_139 rfl htc jk_36.symm (Nat.le_of_ble_eq_true rfl) rfl (by rw [jn_36]; rfl) (wk_write ht V) (fun v1 h1 R => ?_)
                obtain ⟨rfl, V⟩ := R
                show wl_R _ _ 37 94 [some (.ref 93), some (wp_i x)] [] h1 _
                refine wl_s (pc' := 95) ji_37_94 rfl rfl rfl ?_
                refine wl_s (pc' := 96) ji_37_95 rfl rfl rfl ?_
                refine kl_p (y := 2) (f' := f) (q' := q) (law' := law) (st' := 2) (wn' := (w.length : Int)) (op' := opn w) (br' := brn w) (ls' := ls) (as_' := as_) ht V ji_37_96 jf_37_25 (by decide) rfl rfl rfl (fun h V => ?_)
                refine wl_rv ji_37_99 jr_37 ⟨rfl, ?_⟩
                rw [show c_wd law x st w ls as_ = .inr (2, w, ls, as_) by unfold c_wd; rw [if_neg (by omega), if_neg (by omega), if_neg (by omega)]]
                rw [show e_wd x st = [10000 + x] from if_neg (by omega)]
                exact ⟨ws, e, hlen, V⟩
              · refine wl_s (pc' := 67) ji_37_66 rfl rfl rfl ?_
                refine kl_g V ji_37_67 jf_37_22 rfl ?_
                refine wl_s (pc' := 71) ji_37_70 rfl rfl rfl ?_
                refine wl_icmp (t := 82) ji_37_71 rfl (by omega) (by omega) (fun (hb37 : ¬ (law : Int) = 1) => ?_) (fun (hb37 : ¬ (¬ (law : Int) = 1)) => ?_)
                · refine wl_s (pc' := 83) ji_37_82 rfl rfl rfl ?_
                  refine kl_g V ji_37_83 jf_37_51 rfl ?_
                  refine wl_sp ji_37_86 rfl ?_
                  refine wl_s (pc' := 90) ji_37_89 rfl rfl rfl ?_
                  refine wl_iadd (x := 10000) (y := x) (z := 10000 + x) ji_37_90 (by omega) ?_
                  obtain ⟨tfs, htc⟩ := kl_tc V
                  refine wl_vc (d := d + 1) (as := [.ref t, wp_i (10000 + x)]) (rest := []) ji_37_91 jc_37_139 rfl htc jk_36.symm (Nat.le_of_ble_eq_true rfl) rfl (by rw [jn_36]; rfl) (wk_write ht V) (fun v1 h1 R => ?_)
                  obtain ⟨rfl, V⟩ := R
                  show wl_R _ _ 37 94 [some (.ref 93), some (wp_i x)] [] h1 _
                  refine wl_s (pc' := 95) ji_37_94 rfl rfl rfl ?_
                  refine wl_s (pc' := 96) ji_37_95 rfl rfl rfl ?_
                  refine kl_p (y := 2) (f' := f) (q' := q) (law' := law) (st' := 2) (wn' := (w.length : Int)) (op' := opn w) (br' := brn w) (ls' := ls) (as_' := as_) ht V ji_37_96 jf_37_25 (by decide) rfl rfl rfl (fun h V => ?_)
                  refine wl_rv ji_37_99 jr_37 ⟨rfl, ?_⟩
                  rw [show c_wd law x st w ls as_ = .inr (2, w, ls, as_) by unfold c_wd; rw [if_neg (by omega), if_neg (by omega), if_neg (by omega)]]
                  rw [show e_wd x st = [10000 + x] from if_neg (by omega)]
                  exact ⟨ws, e, hlen, V⟩
                · refine wl_s (pc' := 75) ji_37_74 rfl rfl rfl ?_
                  refine wl_s (pc' := 76) ji_37_75 rfl rfl rfl ?_
                  refine wl_vc (d := d + 1) (as := [.ref 93, wp_i 5]) (rest := []) ji_37_76 jc_37_80 rfl (kl_93 V) jk_31.symm (Nat.le_of_ble_eq_true rfl) rfl (by rw [jn_31]; rfl) (wk_fail ht V) (fun v1 h1 R => ?_)
                  obtain ⟨rfl, V⟩ := R
                  show wl_R _ _ 37 79 [some (.ref 93), some (wp_i x)] [] h1 _
                  refine wl_goto (t := 99) ji_37_79 rfl ?_
                  refine wl_rv ji_37_99 jr_37 ⟨rfl, ?_⟩
                  rw [show c_wd law x st w ls as_ = .inl 5 by unfold c_wd; rw [if_neg (by omega), if_neg (by omega), if_pos (by omega)]]
                  exact ⟨_, _, _, _, _, ws, e, hlen, V⟩
        · refine wl_s (pc' := 34) ji_37_33 rfl rfl rfl ?_
          refine wl_bp ji_37_34 rfl ?_
          refine wl_icmp (t := 47) ji_37_36 rfl (by omega) (by omega) (fun (hb38 : (17 : Int) ≤ x) => ?_) (fun (hb38 : ¬ ((17 : Int) ≤ x)) => ?_)
          · refine wl_s (pc' := 48) ji_37_47 rfl rfl rfl ?_
            refine wl_bp ji_37_48 rfl ?_
            refine wl_icmp (t := 60) ji_37_50 rfl (by omega) (by omega) (fun (hb39 : ¬ (x : Int) = 23) => ?_) (fun (hb39 : ¬ (¬ (x : Int) = 23)) => ?_)
            · refine wl_s (pc' := 61) ji_37_60 rfl rfl rfl ?_
              refine wl_bp ji_37_61 rfl ?_
              refine wl_icmp (t := 82) ji_37_63 rfl (by omega) (by omega) (fun (hb40 : ¬ (x : Int) = 24) => ?_) (fun (hb40 : ¬ (¬ (x : Int) = 24)) => ?_)
              · refine wl_s (pc' := 83) ji_37_82 rfl rfl rfl ?_
                refine kl_g V ji_37_83 jf_37_51 rfl ?_
                refine wl_sp ji_37_86 rfl ?_
                refine wl_s (pc' := 90) ji_37_89 rfl rfl rfl ?_
                refine wl_iadd (x := 10000) (y := x) (z := 10000 + x) ji_37_90 (by omega) ?_
                obtain ⟨tfs, htc⟩ := kl_tc V
                refine wl_vc (d := d + 1) (as := [.ref t, wp_i (10000 + x)]) (rest := []) ji_37_91 jc_37_139 rfl htc jk_36.symm (Nat.le_of_ble_eq_true rfl) rfl (by rw [jn_36]; rfl) (wk_write ht V) (fun v1 h1 R => ?_)
                obtain ⟨rfl, V⟩ := R
                show wl_R _ _ 37 94 [some (.ref 93), some (wp_i x)] [] h1 _
                refine wl_s (pc' := 95) ji_37_94 rfl rfl rfl ?_
                refine wl_s (pc' := 96) ji_37_95 rfl rfl rfl ?_
                refine kl_p (y := 2) (f' := f) (q' := q) (law' := law) (st' := 2) (wn' := (w.length : Int)) (op' := opn w) (br' := brn w) (ls' := ls) (as_' := as_) ht V ji_37_96 jf_37_25 (by decide) rfl rfl rfl (fun h V => ?_)
                refine wl_rv ji_37_99 jr_37 ⟨rfl, ?_⟩
                rw [show c_wd law x st w ls as_ = .inr (2, w, ls, as_) by unfold c_wd; rw [if_neg (by omega), if_neg (by omega), if_neg (by omega)]]
                rw [show e_wd x st = [10000 + x] from if_neg (by omega)]
                exact ⟨ws, e, hlen, V⟩
              · refine wl_s (pc' := 67) ji_37_66 rfl rfl rfl ?_
                refine kl_g V ji_37_67 jf_37_22 rfl ?_
                refine wl_s (pc' := 71) ji_37_70 rfl rfl rfl ?_
                refine wl_icmp (t := 82) ji_37_71 rfl (by omega) (by omega) (fun (hb41 : ¬ (law : Int) = 1) => ?_) (fun (hb41 : ¬ (¬ (law : Int) = 1)) => ?_)
                · refine wl_s (pc' := 83) ji_37_82 rfl rfl rfl ?_
                  refine kl_g V ji_37_83 jf_37_51 rfl ?_
                  refine wl_sp ji_37_86 rfl ?_
                  refine wl_s (pc' := 90) ji_37_89 rfl rfl rfl ?_
                  refine wl_iadd (x := 10000) (y := x) (z := 10000 + x) ji_37_90 (by omega) ?_
                  obtain ⟨tfs, htc⟩ := kl_tc V
                  refine wl_vc (d := d + 1) (as := [.ref t, wp_i (10000 + x)]) (rest := []) ji_37_91 jc_37_139 rfl htc jk_36.symm (Nat.le_of_ble_eq_true rfl) rfl (by rw [jn_36]; rfl) (wk_write ht V) (fun v1 h1 R => ?_)
                  obtain ⟨rfl, V⟩ := R
                  show wl_R _ _ 37 94 [some (.ref 93), some (wp_i x)] [] h1 _
                  refine wl_s (pc' := 95) ji_37_94 rfl rfl rfl ?_
                  refine wl_s (pc' := 96) ji_37_95 rfl rfl rfl ?_
                  refine kl_p (y := 2) (f' := f) (q' := q) (law' := law) (st' := 2) (wn' := (w.length : Int)) (op' := opn w) (br' := brn w) (ls' := ls) (as_' := as_) ht V ji_37_96 jf_37_25 (by decide) rfl rfl rfl (fun h V => ?_)
                  refine wl_rv ji_37_99 jr_37 ⟨rfl, ?_⟩
                  rw [show c_wd law x st w ls as_ = .inr (2, w, ls, as_) by unfold c_wd; rw [if_neg (by omega), if_neg (by omega), if_neg (by omega)]]
                  rw [show e_wd x st = [10000 + x] from if_neg (by omega)]
                  exact ⟨ws, e, hlen, V⟩
                · refine wl_s (pc' := 75) ji_37_74 rfl rfl rfl ?_
                  refine wl_s (pc' := 76) ji_37_75 rfl rfl rfl ?_
                  refine wl_vc (d := d + 1) (as := [.ref 93, wp_i 5]) (rest := []) ji_37_76 jc_37_80 rfl (kl_93 V) jk_31.symm (Nat.le_of_ble_eq_true rfl) rfl (by rw [jn_31]; rfl) (wk_fail ht V) (fun v1 h1 R => ?_)
                  obtain ⟨rfl, V⟩ := R
                  show wl_R _ _ 37 79 [some (.ref 93), some (wp_i x)] [] h1 _
                  refine wl_goto (t := 99) ji_37_79 rfl ?_
                  refine wl_rv ji_37_99 jr_37 ⟨rfl, ?_⟩
                  rw [show c_wd law x st w ls as_ = .inl 5 by unfold c_wd; rw [if_neg (by omega), if_neg (by omega), if_pos (by omega)]]
                  exact ⟨_, _, _, _, _, ws, e, hlen, V⟩
            · refine wl_s (pc' := 54) ji_37_53 rfl rfl rfl ?_
              refine kl_g V ji_37_54 jf_37_22 rfl ?_
              refine wl_if (t := 74) ji_37_57 rfl (by omega) (fun (hb42 : (law : Int) = 0) => ?_) (fun (hb42 : ¬ ((law : Int) = 0)) => ?_)
              · refine wl_s (pc' := 75) ji_37_74 rfl rfl rfl ?_
                refine wl_s (pc' := 76) ji_37_75 rfl rfl rfl ?_
                refine wl_vc (d := d + 1) (as := [.ref 93, wp_i 5]) (rest := []) ji_37_76 jc_37_80 rfl (kl_93 V) jk_31.symm (Nat.le_of_ble_eq_true rfl) rfl (by rw [jn_31]; rfl) (wk_fail ht V) (fun v1 h1 R => ?_)
                obtain ⟨rfl, V⟩ := R
                show wl_R _ _ 37 79 [some (.ref 93), some (wp_i x)] [] h1 _
                refine wl_goto (t := 99) ji_37_79 rfl ?_
                refine wl_rv ji_37_99 jr_37 ⟨rfl, ?_⟩
                rw [show c_wd law x st w ls as_ = .inl 5 by unfold c_wd; rw [if_neg (by omega), if_neg (by omega), if_pos (by omega)]]
                exact ⟨_, _, _, _, _, ws, e, hlen, V⟩
              · refine wl_s (pc' := 61) ji_37_60 rfl rfl rfl ?_
                refine wl_bp ji_37_61 rfl ?_
                refine wl_icmp (t := 82) ji_37_63 rfl (by omega) (by omega) (fun (hb43 : ¬ (x : Int) = 24) => ?_) (fun (hb43 : ¬ (¬ (x : Int) = 24)) => ?_)
                · refine wl_s (pc' := 83) ji_37_82 rfl rfl rfl ?_
                  refine kl_g V ji_37_83 jf_37_51 rfl ?_
                  refine wl_sp ji_37_86 rfl ?_
                  refine wl_s (pc' := 90) ji_37_89 rfl rfl rfl ?_
                  refine wl_iadd (x := 10000) (y := x) (z := 10000 + x) ji_37_90 (by omega) ?_
                  obtain ⟨tfs, htc⟩ := kl_tc V
                  refine wl_vc (d := d + 1) (as := [.ref t, wp_i (10000 + x)]) (rest := []) ji_37_91 jc_37_139 rfl htc jk_36.symm (Nat.le_of_ble_eq_true rfl) rfl (by rw [jn_36]; rfl) (wk_write ht V) (fun v1 h1 R => ?_)
                  obtain ⟨rfl, V⟩ := R
                  show wl_R _ _ 37 94 [some (.ref 93), some (wp_i x)] [] h1 _
                  refine wl_s (pc' := 95) ji_37_94 rfl rfl rfl ?_
                  refine wl_s (pc' := 96) ji_37_95 rfl rfl rfl ?_
                  refine kl_p (y := 2) (f' := f) (q' := q) (law' := law) (st' := 2) (wn' := (w.length : Int)) (op' := opn w) (br' := brn w) (ls' := ls) (as_' := as_) ht V ji_37_96 jf_37_25 (by decide) rfl rfl rfl (fun h V => ?_)
                  refine wl_rv ji_37_99 jr_37 ⟨rfl, ?_⟩
                  rw [show c_wd law x st w ls as_ = .inr (2, w, ls, as_) by unfold c_wd; rw [if_neg (by omega), if_neg (by omega), if_neg (by omega)]]
                  rw [show e_wd x st = [10000 + x] from if_neg (by omega)]
                  exact ⟨ws, e, hlen, V⟩
                · refine wl_s (pc' := 67) ji_37_66 rfl rfl rfl ?_
                  refine kl_g V ji_37_67 jf_37_22 rfl ?_
                  refine wl_s (pc' := 71) ji_37_70 rfl rfl rfl ?_
                  refine wl_icmp (t := 82) ji_37_71 rfl (by omega) (by omega) (fun (hb44 : ¬ (law : Int) = 1) => ?_) (fun (hb44 : ¬ (¬ (law : Int) = 1)) => ?_)
                  · refine wl_s (pc' := 83) ji_37_82 rfl rfl rfl ?_
                    refine kl_g V ji_37_83 jf_37_51 rfl ?_
                    refine wl_sp ji_37_86 rfl ?_
                    refine wl_s (pc' := 90) ji_37_89 rfl rfl rfl ?_
                    refine wl_iadd (x := 10000) (y := x) (z := 10000 + x) ji_37_90 (by omega) ?_
                    obtain ⟨tfs, htc⟩ := kl_tc V
                    refine wl_vc (d := d + 1) (as := [.ref t, wp_i (10000 + x)]) (rest := []) ji_37_91 jc_37_139 rfl htc jk_36.symm (Nat.le_of_ble_eq_true rfl) rfl (by rw [jn_36]; rfl) (wk_write ht V) (fun v1 h1 R => ?_)
                    obtain ⟨rfl, V⟩ := R
                    show wl_R _ _ 37 94 [some (.ref 93), some (wp_i x)] [] h1 _
                    refine wl_s (pc' := 95) ji_37_94 rfl rfl rfl ?_
                    refine wl_s (pc' := 96) ji_37_95 rfl rfl rfl ?_
                    refine kl_p (y := 2) (f' := f) (q' := q) (law' := law) (st' := 2) (wn' := (w.length : Int)) (op' := opn w) (br' := brn w) (ls' := ls) (as_' := as_) ht V ji_37_96 jf_37_25 (by decide) rfl rfl rfl (fun h V => ?_)
                    refine wl_rv ji_37_99 jr_37 ⟨rfl, ?_⟩
                    rw [show c_wd law x st w ls as_ = .inr (2, w, ls, as_) by unfold c_wd; rw [if_neg (by omega), if_neg (by omega), if_neg (by omega)]]
                    rw [show e_wd x st = [10000 + x] from if_neg (by omega)]
                    exact ⟨ws, e, hlen, V⟩
                  · refine wl_s (pc' := 75) ji_37_74 rfl rfl rfl ?_
                    refine wl_s (pc' := 76) ji_37_75 rfl rfl rfl ?_
                    refine wl_vc (d := d + 1) (as := [.ref 93, wp_i 5]) (rest := []) ji_37_76 jc_37_80 rfl (kl_93 V) jk_31.symm (Nat.le_of_ble_eq_true rfl) rfl (by rw [jn_31]; rfl) (wk_fail ht V) (fun v1 h1 R => ?_)
                    obtain ⟨rfl, V⟩ := R
                    show wl_R _ _ 37 79 [some (.ref 93), some (wp_i x)] [] h1 _
                    refine wl_goto (t := 99) ji_37_79 rfl ?_
                    refine wl_rv ji_37_99 jr_37 ⟨rfl, ?_⟩
                    rw [show c_wd law x st w ls as_ = .inl 5 by unfold c_wd; rw [if_neg (by omega), if_neg (by omega), if_pos (by omega)]]
                    exact ⟨_, _, _, _, _, ws, e, hlen, V⟩
          · refine wl_s (pc' := 40) ji_37_39 rfl rfl rfl ?_
            refine wl_s (pc' := 41) ji_37_40 rfl rfl rfl ?_
            refine wl_vc (d := d + 1) (as := [.ref 93, wp_i 1]) (rest := []) ji_37_41 jc_37_80 rfl (kl_93 V) jk_31.symm (Nat.le_of_ble_eq_true rfl) rfl (by rw [jn_31]; rfl) (wk_fail ht V) (fun v1 h1 R => ?_)
            obtain ⟨rfl, V⟩ := R
            show wl_R _ _ 37 44 [some (.ref 93), some (wp_i x)] [] h1 _
            refine wl_goto (t := 99) ji_37_44 rfl ?_
            refine wl_rv ji_37_99 jr_37 ⟨rfl, ?_⟩
            rw [show c_wd law x st w ls as_ = .inl 1 by unfold c_wd; rw [if_neg (by omega), if_pos (by omega)]]
            exact ⟨_, _, _, _, _, ws, e, hlen, V⟩
    · refine wl_s (pc' := 14) ji_37_13 rfl rfl rfl ?_
      refine wl_bp ji_37_14 rfl ?_
      refine wl_vc (d := d + 1) (as := [.ref 93, wp_i 33]) (rest := []) ji_37_16 jc_37_145 rfl (kl_93 V) jk_38.symm (Nat.le_of_ble_eq_true rfl) rfl (by rw [jn_38]; rfl) (wk_open (c := 33) ht ⟨ws, e, hlen, V⟩ hw (by omega)) (fun v1 h1 R => ?_)
      obtain ⟨rfl, V⟩ := R
      show wl_R _ _ 37 19 [some (.ref 93), some (wp_i x)] [] h1 _
      refine wl_goto (t := 99) ji_37_19 rfl ?_
      refine wl_rv ji_37_99 jr_37 ⟨rfl, ?_⟩
      rw [show c_wd law x st w ls as_ = c_op 33 w ls as_ by unfold c_wd; rw [if_pos (by omega)]]
      rw [show e_wd x st = [] from if_pos (by omega)]
      show kWQ _ _ _ _ _ _ _ _ _ _ _ _ _ _ _ (c_op 33 w ls as_)
      rcases V with ⟨o1, V⟩ | ⟨o1, V⟩
      · rw [show c_op 33 w ls as_ = .inl 3 from if_pos o1]
        exact ⟨_, _, _, _, _, V⟩
      · rw [show c_op 33 w ls as_ = .inr (if (33 : Int) = 33 then 0 else 1, 33 :: w, ls, as_) from if_neg o1]
        exact V
theorem wk_one {nn d : Nat} {h0 h : mj_H} {bl : List Value} {fr : TD} {t : Nat} {w : List Int} {L k v s p f q law st ls as_ cl : Int} (ht : 12 ≤ t ∧ t ≤ 33) (V : kH h0 h bl t L k v s p f q law st w ls as_ cl fr) (hw : w.length ≤ 39) (hst : 0 ≤ st ∧ st ≤ 5) (hlaw : 0 ≤ law ∧ law ≤ 2) (hkv : wp_r k ∧ wp_r v ∧ (k = 0 → -1 ≤ v ∧ v ≤ 30)) : wl_R nn (d + 3) 35 0 [some (.ref 93)] [] h (fun v1 h1 => v1 = none ∧ kWQ h0 h1 bl t L k v s p f q law cl fr (e_one k v st) (c_one law k v st w ls as_)) := by
  obtain ⟨ws, e, hlen, V⟩ := V
  have hop := opn_0 w
  have hbr := brn_0 w
  refine wl_s (pc' := 1) ji_35_0 rfl rfl rfl ?_
  refine kl_g V ji_35_1 jf_35_47 rfl ?_
  refine kl_t V ji_35_4 jf_35_68 rfl ?_
  refine wl_s (pc' := 8) ji_35_7 rfl rfl rfl ?_
  refine wl_icmp (t := 32) ji_35_8 rfl (by omega) (by omega) (fun (hb1 : ¬ (k : Int) = 1) => ?_) (fun (hb1 : ¬ (¬ (k : Int) = 1)) => ?_)
  · refine wl_s (pc' := 33) ji_35_32 rfl rfl rfl ?_
    refine kl_g V ji_35_33 jf_35_47 rfl ?_
    refine kl_t V ji_35_36 jf_35_68 rfl ?_
    refine wl_s (pc' := 40) ji_35_39 rfl rfl rfl ?_
    refine wl_icmp (t := 65) ji_35_40 rfl (by omega) (by omega) (fun (hb2 : ¬ (k : Int) = 1) => ?_) (fun (hb2 : ¬ (¬ (k : Int) = 1)) => ?_)
    · refine wl_s (pc' := 66) ji_35_65 rfl rfl rfl ?_
      refine kl_g V ji_35_66 jf_35_47 rfl ?_
      refine kl_t V ji_35_69 jf_35_68 rfl ?_
      refine wl_if (t := 89) ji_35_72 rfl (by omega) (fun (hb3 : ¬ (k : Int) = 0) => ?_) (fun (hb3 : ¬ (¬ (k : Int) = 0)) => ?_)
      · refine wl_s (pc' := 90) ji_35_89 rfl rfl rfl ?_
        refine kl_g V ji_35_90 jf_35_47 rfl ?_
        refine kl_t V ji_35_93 jf_35_68 rfl ?_
        refine wl_s (pc' := 97) ji_35_96 rfl rfl rfl ?_
        refine wl_icmp (t := 121) ji_35_97 rfl (by omega) (by omega) (fun (hb4 : ¬ (k : Int) = 2) => ?_) (fun (hb4 : ¬ (¬ (k : Int) = 2)) => ?_)
        · refine wl_s (pc' := 122) ji_35_121 rfl rfl rfl ?_
          refine kl_g V ji_35_122 jf_35_47 rfl ?_
          refine kl_t V ji_35_125 jf_35_68 rfl ?_
          refine wl_s (pc' := 129) ji_35_128 rfl rfl rfl ?_
          refine wl_icmp (t := 153) ji_35_129 rfl (by omega) (by omega) (fun (hb5 : ¬ (k : Int) = 2) => ?_) (fun (hb5 : ¬ (¬ (k : Int) = 2)) => ?_)
          · refine wl_s (pc' := 154) ji_35_153 rfl rfl rfl ?_
            refine wl_s (pc' := 155) ji_35_154 rfl rfl rfl ?_
            refine wl_vc (d := d + 2) (as := [.ref 93, wp_i 1]) (rest := []) ji_35_155 jc_35_80 rfl (kl_93 V) jk_31.symm (Nat.le_of_ble_eq_true rfl) rfl (by rw [jn_31]; rfl) (wk_fail ht V) (fun v1 h1 R => ?_)
            obtain ⟨rfl, V⟩ := R
            show wl_R _ _ 35 158 [some (.ref 93)] [] h1 _
            refine wl_rv ji_35_158 jr_35 ⟨rfl, ?_⟩
            rw [show c_one law k v st w ls as_ = .inl 1 by unfold c_one; rw [if_neg (by omega), if_neg (by omega), if_neg (by omega), if_neg (by omega), if_neg (by omega)]]
            exact ⟨_, _, _, _, _, ws, e, hlen, V⟩
          · refine wl_s (pc' := 133) ji_35_132 rfl rfl rfl ?_
            refine kl_g V ji_35_133 jf_35_47 rfl ?_
            refine kl_t V ji_35_136 jf_35_77 rfl ?_
            refine wl_bp ji_35_139 rfl ?_
            refine wl_icmp (t := 153) ji_35_141 rfl (by omega) (by omega) (fun (hb6 : ¬ (v : Int) = 45) => ?_) (fun (hb6 : ¬ (¬ (v : Int) = 45)) => ?_)
            · refine wl_s (pc' := 154) ji_35_153 rfl rfl rfl ?_
              refine wl_s (pc' := 155) ji_35_154 rfl rfl rfl ?_
              refine wl_vc (d := d + 2) (as := [.ref 93, wp_i 1]) (rest := []) ji_35_155 jc_35_80 rfl (kl_93 V) jk_31.symm (Nat.le_of_ble_eq_true rfl) rfl (by rw [jn_31]; rfl) (wk_fail ht V) (fun v1 h1 R => ?_)
              obtain ⟨rfl, V⟩ := R
              show wl_R _ _ 35 158 [some (.ref 93)] [] h1 _
              refine wl_rv ji_35_158 jr_35 ⟨rfl, ?_⟩
              rw [show c_one law k v st w ls as_ = .inl 1 by unfold c_one; rw [if_neg (by omega), if_neg (by omega), if_neg (by omega), if_neg (by omega), if_neg (by omega)]]
              exact ⟨_, _, _, _, _, ws, e, hlen, V⟩
            · refine wl_s (pc' := 145) ji_35_144 rfl rfl rfl ?_
              refine wl_bp ji_35_145 rfl ?_
              refine wl_vc (d := d + 2) (as := [.ref 93, wp_i 110]) (rest := []) ji_35_147 jc_35_145 rfl (kl_93 V) jk_38.symm (Nat.le_of_ble_eq_true rfl) rfl (by rw [jn_38]; rfl) (wk_open (d := d + 1) (c := 110) ht ⟨ws, e, hlen, V⟩ hw (by omega)) (fun v1 h1 R => ?_)
              obtain ⟨rfl, V⟩ := R
              show wl_R _ _ 35 150 [some (.ref 93)] [] h1 _
              refine wl_goto (t := 158) ji_35_150 rfl ?_
              refine wl_rv ji_35_158 jr_35 ⟨rfl, ?_⟩
              rw [show c_one law k v st w ls as_ = c_op 110 w ls as_ by unfold c_one; rw [if_neg (by omega), if_neg (by omega), if_neg (by omega), if_neg (by omega), if_pos (by omega)]]
              rw [show e_one k v st = [] from (if_neg (by omega)).trans (if_neg (by omega))]
              show kWQ _ _ _ _ _ _ _ _ _ _ _ _ _ _ _ (c_op 110 w ls as_)
              rcases V with ⟨o1, V⟩ | ⟨o1, V⟩
              · rw [show c_op 110 w ls as_ = .inl 3 from if_pos o1]
                exact ⟨_, _, _, _, _, V⟩
              · rw [show c_op 110 w ls as_ = .inr (if (110 : Int) = 33 then 0 else 1, 110 :: w, ls, as_) from if_neg o1]
                exact V
        · refine wl_s (pc' := 101) ji_35_100 rfl rfl rfl ?_
          refine kl_g V ji_35_101 jf_35_47 rfl ?_
          refine kl_t V ji_35_104 jf_35_77 rfl ?_
          refine wl_bp ji_35_107 rfl ?_
          refine wl_icmp (t := 121) ji_35_109 rfl (by omega) (by omega) (fun (hb7 : ¬ (v : Int) = 40) => ?_) (fun (hb7 : ¬ (¬ (v : Int) = 40)) => ?_)
          · refine wl_s (pc' := 122) ji_35_121 rfl rfl rfl ?_
            refine kl_g V ji_35_122 jf_35_47 rfl ?_
            refine kl_t V ji_35_125 jf_35_68 rfl ?_
            refine wl_s (pc' := 129) ji_35_128 rfl rfl rfl ?_
            refine wl_icmp (t := 153) ji_35_129 rfl (by omega) (by omega) (fun (hb8 : ¬ (k : Int) = 2) => ?_) (fun (hb8 : ¬ (¬ (k : Int) = 2)) => ?_)
            · refine wl_s (pc' := 154) ji_35_153 rfl rfl rfl ?_
              refine wl_s (pc' := 155) ji_35_154 rfl rfl rfl ?_
              refine wl_vc (d := d + 2) (as := [.ref 93, wp_i 1]) (rest := []) ji_35_155 jc_35_80 rfl (kl_93 V) jk_31.symm (Nat.le_of_ble_eq_true rfl) rfl (by rw [jn_31]; rfl) (wk_fail ht V) (fun v1 h1 R => ?_)
              obtain ⟨rfl, V⟩ := R
              show wl_R _ _ 35 158 [some (.ref 93)] [] h1 _
              refine wl_rv ji_35_158 jr_35 ⟨rfl, ?_⟩
              rw [show c_one law k v st w ls as_ = .inl 1 by unfold c_one; rw [if_neg (by omega), if_neg (by omega), if_neg (by omega), if_neg (by omega), if_neg (by omega)]]
              exact ⟨_, _, _, _, _, ws, e, hlen, V⟩
            · refine wl_s (pc' := 133) ji_35_132 rfl rfl rfl ?_
              refine kl_g V ji_35_133 jf_35_47 rfl ?_
              refine kl_t V ji_35_136 jf_35_77 rfl ?_
              refine wl_bp ji_35_139 rfl ?_
              refine wl_icmp (t := 153) ji_35_141 rfl (by omega) (by omega) (fun (hb9 : ¬ (v : Int) = 45) => ?_) (fun (hb9 : ¬ (¬ (v : Int) = 45)) => ?_)
              · refine wl_s (pc' := 154) ji_35_153 rfl rfl rfl ?_
                refine wl_s (pc' := 155) ji_35_154 rfl rfl rfl ?_
                refine wl_vc (d := d + 2) (as := [.ref 93, wp_i 1]) (rest := []) ji_35_155 jc_35_80 rfl (kl_93 V) jk_31.symm (Nat.le_of_ble_eq_true rfl) rfl (by rw [jn_31]; rfl) (wk_fail ht V) (fun v1 h1 R => ?_)
                obtain ⟨rfl, V⟩ := R
                show wl_R _ _ 35 158 [some (.ref 93)] [] h1 _
                refine wl_rv ji_35_158 jr_35 ⟨rfl, ?_⟩
                rw [show c_one law k v st w ls as_ = .inl 1 by unfold c_one; rw [if_neg (by omega), if_neg (by omega), if_neg (by omega), if_neg (by omega), if_neg (by omega)]]
                exact ⟨_, _, _, _, _, ws, e, hlen, V⟩
              · refine wl_s (pc' := 145) ji_35_144 rfl rfl rfl ?_
                refine wl_bp ji_35_145 rfl ?_
                refine wl_vc (d := d + 2) (as := [.ref 93, wp_i 110]) (rest := []) ji_35_147 jc_35_145 rfl (kl_93 V) jk_38.symm (Nat.le_of_ble_eq_true rfl) rfl (by rw [jn_38]; rfl) (wk_open (d := d + 1) (c := 110) ht ⟨ws, e, hlen, V⟩ hw (by omega)) (fun v1 h1 R => ?_)
                obtain ⟨rfl, V⟩ := R
                show wl_R _ _ 35 150 [some (.ref 93)] [] h1 _
                refine wl_goto (t := 158) ji_35_150 rfl ?_
                refine wl_rv ji_35_158 jr_35 ⟨rfl, ?_⟩
                rw [show c_one law k v st w ls as_ = c_op 110 w ls as_ by unfold c_one; rw [if_neg (by omega), if_neg (by omega), if_neg (by omega), if_neg (by omega), if_pos (by omega)]]
                rw [show e_one k v st = [] from (if_neg (by omega)).trans (if_neg (by omega))]
                show kWQ _ _ _ _ _ _ _ _ _ _ _ _ _ _ _ (c_op 110 w ls as_)
                rcases V with ⟨o1, V⟩ | ⟨o1, V⟩
                · rw [show c_op 110 w ls as_ = .inl 3 from if_pos o1]
                  exact ⟨_, _, _, _, _, V⟩
                · rw [show c_op 110 w ls as_ = .inr (if (110 : Int) = 33 then 0 else 1, 110 :: w, ls, as_) from if_neg o1]
                  exact V
          · refine wl_s (pc' := 113) ji_35_112 rfl rfl rfl ?_
            refine wl_bp ji_35_113 rfl ?_
            refine wl_vc (d := d + 2) (as := [.ref 93, wp_i 40]) (rest := []) ji_35_115 jc_35_145 rfl (kl_93 V) jk_38.symm (Nat.le_of_ble_eq_true rfl) rfl (by rw [jn_38]; rfl) (wk_open (d := d + 1) (c := 40) ht ⟨ws, e, hlen, V⟩ hw (by omega)) (fun v1 h1 R => ?_)
            obtain ⟨rfl, V⟩ := R
            show wl_R _ _ 35 118 [some (.ref 93)] [] h1 _
            refine wl_goto (t := 158) ji_35_118 rfl ?_
            refine wl_rv ji_35_158 jr_35 ⟨rfl, ?_⟩
            rw [show c_one law k v st w ls as_ = c_op 40 w ls as_ by unfold c_one; rw [if_neg (by omega), if_neg (by omega), if_neg (by omega), if_pos (by omega)]]
            rw [show e_one k v st = [] from (if_neg (by omega)).trans (if_neg (by omega))]
            show kWQ _ _ _ _ _ _ _ _ _ _ _ _ _ _ _ (c_op 40 w ls as_)
            rcases V with ⟨o1, V⟩ | ⟨o1, V⟩
            · rw [show c_op 40 w ls as_ = .inl 3 from if_pos o1]
              exact ⟨_, _, _, _, _, V⟩
            · rw [show c_op 40 w ls as_ = .inr (if (40 : Int) = 33 then 0 else 1, 40 :: w, ls, as_) from if_neg o1]
              exact V
      · refine wl_s (pc' := 76) ji_35_75 rfl rfl rfl ?_
        refine wl_s (pc' := 77) ji_35_76 rfl rfl rfl ?_
        refine kl_g V ji_35_77 jf_35_47 rfl ?_
        refine kl_t V ji_35_80 jf_35_77 rfl ?_
        refine wl_vc (d := d + 2) (as := [.ref 93, wp_i v]) (rest := []) ji_35_83 jc_35_142 rfl (kl_93 V) jk_37.symm (Nat.le_of_ble_eq_true rfl) rfl (by rw [jn_37]; rfl) (wk_wd (d := d) (x := v) ht ⟨ws, e, hlen, V⟩ hw hst hlaw (hkv.2.2 (by omega))) (fun v1 h1 R => ?_)
        obtain ⟨rfl, V⟩ := R
        show wl_R _ _ 35 86 [some (.ref 93)] [] h1 _
        refine wl_goto (t := 158) ji_35_86 rfl ?_
        refine wl_rv ji_35_158 jr_35 ⟨rfl, ?_⟩
        rw [show c_one law k v st w ls as_ = c_wd law v st w ls as_ by unfold c_one; rw [if_neg (by omega), if_neg (by omega), if_pos (by omega)]]
        rw [show e_one k v st = e_wd v st from (if_neg (by omega)).trans (if_pos (by omega))]
        exact V
    · refine wl_s (pc' := 44) ji_35_43 rfl rfl rfl ?_
      refine kl_g V ji_35_44 jf_35_51 rfl ?_
      refine wl_s (pc' := 48) ji_35_47 rfl rfl rfl ?_
      refine kl_g V ji_35_48 jf_35_47 rfl ?_
      refine kl_t V ji_35_51 jf_35_77 rfl ?_
      obtain ⟨tfs, htc⟩ := kl_tc V
      refine wl_vc (d := d + 2) (as := [.ref t, wp_i v]) (rest := []) ji_35_54 jc_35_139 rfl htc jk_36.symm (Nat.le_of_ble_eq_true rfl) rfl (by rw [jn_36]; rfl) (wk_write ht V) (fun v1 h1 R => ?_)
      obtain ⟨rfl, V⟩ := R
      show wl_R _ _ 35 57 [some (.ref 93)] [] h1 _
      refine wl_s (pc' := 58) ji_35_57 rfl rfl rfl ?_
      refine wl_s (pc' := 59) ji_35_58 rfl rfl rfl ?_
      refine kl_p (y := 2) (f' := f) (q' := q) (law' := law) (st' := 2) (wn' := (w.length : Int)) (op' := opn w) (br' := brn w) (ls' := ls) (as_' := as_) ht V ji_35_59 jf_35_25 (by decide) rfl rfl rfl (fun h V => ?_)
      refine wl_goto (t := 158) ji_35_62 rfl ?_
      refine wl_rv ji_35_158 jr_35 ⟨rfl, ?_⟩
      rw [show c_one law k v st w ls as_ = .inr (2, w, ls, as_) by unfold c_one; rw [if_neg (by omega), if_pos (by omega)]]
      rw [show e_one k v st = [v] from if_pos (by omega)]
      exact ⟨ws, e, hlen, V⟩
  · refine wl_s (pc' := 12) ji_35_11 rfl rfl rfl ?_
    refine kl_g V ji_35_12 jf_35_47 rfl ?_
    refine kl_t V ji_35_15 jf_35_77 rfl ?_
    refine wl_sp ji_35_18 rfl ?_
    refine wl_icmp (t := 32) ji_35_21 rfl (by omega) (by omega) (fun (hb10 : (v : Int) ≤ 9999) => ?_) (fun (hb10 : ¬ ((v : Int) ≤ 9999)) => ?_)
    · refine wl_s (pc' := 33) ji_35_32 rfl rfl rfl ?_
      refine kl_g V ji_35_33 jf_35_47 rfl ?_
      refine kl_t V ji_35_36 jf_35_68 rfl ?_
      refine wl_s (pc' := 40) ji_35_39 rfl rfl rfl ?_
      refine wl_icmp (t := 65) ji_35_40 rfl (by omega) (by omega) (fun (hb11 : ¬ (k : Int) = 1) => ?_) (fun (hb11 : ¬ (¬ (k : Int) = 1)) => ?_)
      · refine wl_s (pc' := 66) ji_35_65 rfl rfl rfl ?_
        refine kl_g V ji_35_66 jf_35_47 rfl ?_
        refine kl_t V ji_35_69 jf_35_68 rfl ?_
        refine wl_if (t := 89) ji_35_72 rfl (by omega) (fun (hb12 : ¬ (k : Int) = 0) => ?_) (fun (hb12 : ¬ (¬ (k : Int) = 0)) => ?_)
        · refine wl_s (pc' := 90) ji_35_89 rfl rfl rfl ?_
          refine kl_g V ji_35_90 jf_35_47 rfl ?_
          refine kl_t V ji_35_93 jf_35_68 rfl ?_
          refine wl_s (pc' := 97) ji_35_96 rfl rfl rfl ?_
          refine wl_icmp (t := 121) ji_35_97 rfl (by omega) (by omega) (fun (hb13 : ¬ (k : Int) = 2) => ?_) (fun (hb13 : ¬ (¬ (k : Int) = 2)) => ?_)
          · refine wl_s (pc' := 122) ji_35_121 rfl rfl rfl ?_
            refine kl_g V ji_35_122 jf_35_47 rfl ?_
            refine kl_t V ji_35_125 jf_35_68 rfl ?_
            refine wl_s (pc' := 129) ji_35_128 rfl rfl rfl ?_
            refine wl_icmp (t := 153) ji_35_129 rfl (by omega) (by omega) (fun (hb14 : ¬ (k : Int) = 2) => ?_) (fun (hb14 : ¬ (¬ (k : Int) = 2)) => ?_)
            · refine wl_s (pc' := 154) ji_35_153 rfl rfl rfl ?_
              refine wl_s (pc' := 155) ji_35_154 rfl rfl rfl ?_
              refine wl_vc (d := d + 2) (as := [.ref 93, wp_i 1]) (rest := []) ji_35_155 jc_35_80 rfl (kl_93 V) jk_31.symm (Nat.le_of_ble_eq_true rfl) rfl (by rw [jn_31]; rfl) (wk_fail ht V) (fun v1 h1 R => ?_)
              obtain ⟨rfl, V⟩ := R
              show wl_R _ _ 35 158 [some (.ref 93)] [] h1 _
              refine wl_rv ji_35_158 jr_35 ⟨rfl, ?_⟩
              rw [show c_one law k v st w ls as_ = .inl 1 by unfold c_one; rw [if_neg (by omega), if_neg (by omega), if_neg (by omega), if_neg (by omega), if_neg (by omega)]]
              exact ⟨_, _, _, _, _, ws, e, hlen, V⟩
            · refine wl_s (pc' := 133) ji_35_132 rfl rfl rfl ?_
              refine kl_g V ji_35_133 jf_35_47 rfl ?_
              refine kl_t V ji_35_136 jf_35_77 rfl ?_
              refine wl_bp ji_35_139 rfl ?_
              refine wl_icmp (t := 153) ji_35_141 rfl (by omega) (by omega) (fun (hb15 : ¬ (v : Int) = 45) => ?_) (fun (hb15 : ¬ (¬ (v : Int) = 45)) => ?_)
              · refine wl_s (pc' := 154) ji_35_153 rfl rfl rfl ?_
                refine wl_s (pc' := 155) ji_35_154 rfl rfl rfl ?_
                refine wl_vc (d := d + 2) (as := [.ref 93, wp_i 1]) (rest := []) ji_35_155 jc_35_80 rfl (kl_93 V) jk_31.symm (Nat.le_of_ble_eq_true rfl) rfl (by rw [jn_31]; rfl) (wk_fail ht V) (fun v1 h1 R => ?_)
                obtain ⟨rfl, V⟩ := R
                show wl_R _ _ 35 158 [some (.ref 93)] [] h1 _
                refine wl_rv ji_35_158 jr_35 ⟨rfl, ?_⟩
                rw [show c_one law k v st w ls as_ = .inl 1 by unfold c_one; rw [if_neg (by omega), if_neg (by omega), if_neg (by omega), if_neg (by omega), if_neg (by omega)]]
                exact ⟨_, _, _, _, _, ws, e, hlen, V⟩
              · refine wl_s (pc' := 145) ji_35_144 rfl rfl rfl ?_
                refine wl_bp ji_35_145 rfl ?_
                refine wl_vc (d := d + 2) (as := [.ref 93, wp_i 110]) (rest := []) ji_35_147 jc_35_145 rfl (kl_93 V) jk_38.symm (Nat.le_of_ble_eq_true rfl) rfl (by rw [jn_38]; rfl) (wk_open (d := d + 1) (c := 110) ht ⟨ws, e, hlen, V⟩ hw (by omega)) (fun v1 h1 R => ?_)
                obtain ⟨rfl, V⟩ := R
                show wl_R _ _ 35 150 [some (.ref 93)] [] h1 _
                refine wl_goto (t := 158) ji_35_150 rfl ?_
                refine wl_rv ji_35_158 jr_35 ⟨rfl, ?_⟩
                rw [show c_one law k v st w ls as_ = c_op 110 w ls as_ by unfold c_one; rw [if_neg (by omega), if_neg (by omega), if_neg (by omega), if_neg (by omega), if_pos (by omega)]]
                rw [show e_one k v st = [] from (if_neg (by omega)).trans (if_neg (by omega))]
                show kWQ _ _ _ _ _ _ _ _ _ _ _ _ _ _ _ (c_op 110 w ls as_)
                rcases V with ⟨o1, V⟩ | ⟨o1, V⟩
                · rw [show c_op 110 w ls as_ = .inl 3 from if_pos o1]
                  exact ⟨_, _, _, _, _, V⟩
                · rw [show c_op 110 w ls as_ = .inr (if (110 : Int) = 33 then 0 else 1, 110 :: w, ls, as_) from if_neg o1]
                  exact V
          · refine wl_s (pc' := 101) ji_35_100 rfl rfl rfl ?_
            refine kl_g V ji_35_101 jf_35_47 rfl ?_
            refine kl_t V ji_35_104 jf_35_77 rfl ?_
            refine wl_bp ji_35_107 rfl ?_
            refine wl_icmp (t := 121) ji_35_109 rfl (by omega) (by omega) (fun (hb16 : ¬ (v : Int) = 40) => ?_) (fun (hb16 : ¬ (¬ (v : Int) = 40)) => ?_)
            · refine wl_s (pc' := 122) ji_35_121 rfl rfl rfl ?_
              refine kl_g V ji_35_122 jf_35_47 rfl ?_
              refine kl_t V ji_35_125 jf_35_68 rfl ?_
              refine wl_s (pc' := 129) ji_35_128 rfl rfl rfl ?_
              refine wl_icmp (t := 153) ji_35_129 rfl (by omega) (by omega) (fun (hb17 : ¬ (k : Int) = 2) => ?_) (fun (hb17 : ¬ (¬ (k : Int) = 2)) => ?_)
              · refine wl_s (pc' := 154) ji_35_153 rfl rfl rfl ?_
                refine wl_s (pc' := 155) ji_35_154 rfl rfl rfl ?_
                refine wl_vc (d := d + 2) (as := [.ref 93, wp_i 1]) (rest := []) ji_35_155 jc_35_80 rfl (kl_93 V) jk_31.symm (Nat.le_of_ble_eq_true rfl) rfl (by rw [jn_31]; rfl) (wk_fail ht V) (fun v1 h1 R => ?_)
                obtain ⟨rfl, V⟩ := R
                show wl_R _ _ 35 158 [some (.ref 93)] [] h1 _
                refine wl_rv ji_35_158 jr_35 ⟨rfl, ?_⟩
                rw [show c_one law k v st w ls as_ = .inl 1 by unfold c_one; rw [if_neg (by omega), if_neg (by omega), if_neg (by omega), if_neg (by omega), if_neg (by omega)]]
                exact ⟨_, _, _, _, _, ws, e, hlen, V⟩
              · refine wl_s (pc' := 133) ji_35_132 rfl rfl rfl ?_
                refine kl_g V ji_35_133 jf_35_47 rfl ?_
                refine kl_t V ji_35_136 jf_35_77 rfl ?_
                refine wl_bp ji_35_139 rfl ?_
                refine wl_icmp (t := 153) ji_35_141 rfl (by omega) (by omega) (fun (hb18 : ¬ (v : Int) = 45) => ?_) (fun (hb18 : ¬ (¬ (v : Int) = 45)) => ?_)
                · refine wl_s (pc' := 154) ji_35_153 rfl rfl rfl ?_
                  refine wl_s (pc' := 155) ji_35_154 rfl rfl rfl ?_
                  refine wl_vc (d := d + 2) (as := [.ref 93, wp_i 1]) (rest := []) ji_35_155 jc_35_80 rfl (kl_93 V) jk_31.symm (Nat.le_of_ble_eq_true rfl) rfl (by rw [jn_31]; rfl) (wk_fail ht V) (fun v1 h1 R => ?_)
                  obtain ⟨rfl, V⟩ := R
                  show wl_R _ _ 35 158 [some (.ref 93)] [] h1 _
                  refine wl_rv ji_35_158 jr_35 ⟨rfl, ?_⟩
                  rw [show c_one law k v st w ls as_ = .inl 1 by unfold c_one; rw [if_neg (by omega), if_neg (by omega), if_neg (by omega), if_neg (by omega), if_neg (by omega)]]
                  exact ⟨_, _, _, _, _, ws, e, hlen, V⟩
                · refine wl_s (pc' := 145) ji_35_144 rfl rfl rfl ?_
                  refine wl_bp ji_35_145 rfl ?_
                  refine wl_vc (d := d + 2) (as := [.ref 93, wp_i 110]) (rest := []) ji_35_147 jc_35_145 rfl (kl_93 V) jk_38.symm (Nat.le_of_ble_eq_true rfl) rfl (by rw [jn_38]; rfl) (wk_open (d := d + 1) (c := 110) ht ⟨ws, e, hlen, V⟩ hw (by omega)) (fun v1 h1 R => ?_)
                  obtain ⟨rfl, V⟩ := R
                  show wl_R _ _ 35 150 [some (.ref 93)] [] h1 _
                  refine wl_goto (t := 158) ji_35_150 rfl ?_
                  refine wl_rv ji_35_158 jr_35 ⟨rfl, ?_⟩
                  rw [show c_one law k v st w ls as_ = c_op 110 w ls as_ by unfold c_one; rw [if_neg (by omega), if_neg (by omega), if_neg (by omega), if_neg (by omega), if_pos (by omega)]]
                  rw [show e_one k v st = [] from (if_neg (by omega)).trans (if_neg (by omega))]
                  show kWQ _ _ _ _ _ _ _ _ _ _ _ _ _ _ _ (c_op 110 w ls as_)
                  rcases V with ⟨o1, V⟩ | ⟨o1, V⟩
                  · rw [show c_op 110 w ls as_ = .inl 3 from if_pos o1]
                    exact ⟨_, _, _, _, _, V⟩
                  · rw [show c_op 110 w ls as_ = .inr (if (110 : Int) = 33 then 0 else 1, 110 :: w, ls, as_) from if_neg o1]
                    exact V
            · refine wl_s (pc' := 113) ji_35_112 rfl rfl rfl ?_
              refine wl_bp ji_35_113 rfl ?_
              refine wl_vc (d := d + 2) (as := [.ref 93, wp_i 40]) (rest := []) ji_35_115 jc_35_145 rfl (kl_93 V) jk_38.symm (Nat.le_of_ble_eq_true rfl) rfl (by rw [jn_38]; rfl) (wk_open (d := d + 1) (c := 40) ht ⟨ws, e, hlen, V⟩ hw (by omega)) (fun v1 h1 R => ?_)
              obtain ⟨rfl, V⟩ := R
              show wl_R _ _ 35 118 [some (.ref 93)] [] h1 _
              refine wl_goto (t := 158) ji_35_118 rfl ?_
              refine wl_rv ji_35_158 jr_35 ⟨rfl, ?_⟩
              rw [show c_one law k v st w ls as_ = c_op 40 w ls as_ by unfold c_one; rw [if_neg (by omega), if_neg (by omega), if_neg (by omega), if_pos (by omega)]]
              rw [show e_one k v st = [] from (if_neg (by omega)).trans (if_neg (by omega))]
              show kWQ _ _ _ _ _ _ _ _ _ _ _ _ _ _ _ (c_op 40 w ls as_)
              rcases V with ⟨o1, V⟩ | ⟨o1, V⟩
              · rw [show c_op 40 w ls as_ = .inl 3 from if_pos o1]
                exact ⟨_, _, _, _, _, V⟩
              · rw [show c_op 40 w ls as_ = .inr (if (40 : Int) = 33 then 0 else 1, 40 :: w, ls, as_) from if_neg o1]
                exact V
        · refine wl_s (pc' := 76) ji_35_75 rfl rfl rfl ?_
          refine wl_s (pc' := 77) ji_35_76 rfl rfl rfl ?_
          refine kl_g V ji_35_77 jf_35_47 rfl ?_
          refine kl_t V ji_35_80 jf_35_77 rfl ?_
          refine wl_vc (d := d + 2) (as := [.ref 93, wp_i v]) (rest := []) ji_35_83 jc_35_142 rfl (kl_93 V) jk_37.symm (Nat.le_of_ble_eq_true rfl) rfl (by rw [jn_37]; rfl) (wk_wd (d := d) (x := v) ht ⟨ws, e, hlen, V⟩ hw hst hlaw (hkv.2.2 (by omega))) (fun v1 h1 R => ?_)
          obtain ⟨rfl, V⟩ := R
          show wl_R _ _ 35 86 [some (.ref 93)] [] h1 _
          refine wl_goto (t := 158) ji_35_86 rfl ?_
          refine wl_rv ji_35_158 jr_35 ⟨rfl, ?_⟩
          rw [show c_one law k v st w ls as_ = c_wd law v st w ls as_ by unfold c_one; rw [if_neg (by omega), if_neg (by omega), if_pos (by omega)]]
          rw [show e_one k v st = e_wd v st from (if_neg (by omega)).trans (if_pos (by omega))]
          exact V
      · refine wl_s (pc' := 44) ji_35_43 rfl rfl rfl ?_
        refine kl_g V ji_35_44 jf_35_51 rfl ?_
        refine wl_s (pc' := 48) ji_35_47 rfl rfl rfl ?_
        refine kl_g V ji_35_48 jf_35_47 rfl ?_
        refine kl_t V ji_35_51 jf_35_77 rfl ?_
        obtain ⟨tfs, htc⟩ := kl_tc V
        refine wl_vc (d := d + 2) (as := [.ref t, wp_i v]) (rest := []) ji_35_54 jc_35_139 rfl htc jk_36.symm (Nat.le_of_ble_eq_true rfl) rfl (by rw [jn_36]; rfl) (wk_write ht V) (fun v1 h1 R => ?_)
        obtain ⟨rfl, V⟩ := R
        show wl_R _ _ 35 57 [some (.ref 93)] [] h1 _
        refine wl_s (pc' := 58) ji_35_57 rfl rfl rfl ?_
        refine wl_s (pc' := 59) ji_35_58 rfl rfl rfl ?_
        refine kl_p (y := 2) (f' := f) (q' := q) (law' := law) (st' := 2) (wn' := (w.length : Int)) (op' := opn w) (br' := brn w) (ls' := ls) (as_' := as_) ht V ji_35_59 jf_35_25 (by decide) rfl rfl rfl (fun h V => ?_)
        refine wl_goto (t := 158) ji_35_62 rfl ?_
        refine wl_rv ji_35_158 jr_35 ⟨rfl, ?_⟩
        rw [show c_one law k v st w ls as_ = .inr (2, w, ls, as_) by unfold c_one; rw [if_neg (by omega), if_pos (by omega)]]
        rw [show e_one k v st = [v] from if_pos (by omega)]
        exact ⟨ws, e, hlen, V⟩
    · refine wl_s (pc' := 25) ji_35_24 rfl rfl rfl ?_
      refine wl_s (pc' := 26) ji_35_25 rfl rfl rfl ?_
      refine wl_vc (d := d + 2) (as := [.ref 93, wp_i 2]) (rest := []) ji_35_26 jc_35_80 rfl (kl_93 V) jk_31.symm (Nat.le_of_ble_eq_true rfl) rfl (by rw [jn_31]; rfl) (wk_fail ht V) (fun v1 h1 R => ?_)
      obtain ⟨rfl, V⟩ := R
      show wl_R _ _ 35 29 [some (.ref 93)] [] h1 _
      refine wl_goto (t := 158) ji_35_29 rfl ?_
      refine wl_rv ji_35_158 jr_35 ⟨rfl, ?_⟩
      rw [show c_one law k v st w ls as_ = .inl 2 by unfold c_one; rw [if_pos (by omega)]]
      exact ⟨_, _, _, _, _, ws, e, hlen, V⟩
theorem wk_bk {nn d : Nat} {h0 h : mj_H} {bl : List Value} {fr : TD} {t : Nat} {w : List Int} {L k v s p f q law st ls as_ cl : Int} (ht : 12 ≤ t ∧ t ≤ 33) (V : kH h0 h bl t L k v s p f q law st w ls as_ cl fr) (hw : w.length ≤ 39) (hst : 0 ≤ st ∧ st ≤ 5) (hlaw : 0 ≤ law ∧ law ≤ 2) (hkv : wp_r k ∧ wp_r v ∧ (k = 0 → -1 ≤ v ∧ v ≤ 30)) : wl_R nn (d + 2) 40 0 [some (.ref 93)] [] h (fun v1 h1 => v1 = none ∧ kWQ h0 h1 bl t L k v s p f q law cl fr ([]) (c_bk k v w as_)) := by
  obtain ⟨ws, e, hlen, V⟩ := V
  have hop := opn_0 w
  have hbr := brn_0 w
  refine wl_s (pc' := 1) ji_40_0 rfl rfl rfl ?_
  refine kl_g V ji_40_1 jf_40_47 rfl ?_
  refine kl_t V ji_40_4 jf_40_68 rfl ?_
  refine wl_s (pc' := 8) ji_40_7 rfl rfl rfl ?_
  refine wl_icmp (t := 37) ji_40_8 rfl (by omega) (by omega) (fun (hb1 : ¬ (k : Int) = 2) => ?_) (fun (hb1 : ¬ (¬ (k : Int) = 2)) => ?_)
  · refine wl_s (pc' := 38) ji_40_37 rfl rfl rfl ?_
    refine wl_s (pc' := 39) ji_40_38 rfl rfl rfl ?_
    refine wl_vc (d := d + 1) (as := [.ref 93, wp_i 1]) (rest := []) ji_40_39 jc_40_80 rfl (kl_93 V) jk_31.symm (Nat.le_of_ble_eq_true rfl) rfl (by rw [jn_31]; rfl) (wk_fail ht V) (fun v1 h1 R => ?_)
    obtain ⟨rfl, V⟩ := R
    show wl_R _ _ 40 42 [some (.ref 93)] [] h1 _
    refine wl_rv ji_40_42 jr_40 ⟨rfl, ?_⟩
    rw [show c_bk k v w as_ = .inl 1 by unfold c_bk; rw [if_neg (by omega)]]
    exact ⟨_, _, _, _, _, ws, e, hlen, V⟩
  · refine wl_s (pc' := 12) ji_40_11 rfl rfl rfl ?_
    refine kl_g V ji_40_12 jf_40_47 rfl ?_
    refine kl_t V ji_40_15 jf_40_77 rfl ?_
    refine wl_bp ji_40_18 rfl ?_
    refine wl_icmp (t := 37) ji_40_20 rfl (by omega) (by omega) (fun (hb2 : ¬ (v : Int) = 40) => ?_) (fun (hb2 : ¬ (¬ (v : Int) = 40)) => ?_)
    · refine wl_s (pc' := 38) ji_40_37 rfl rfl rfl ?_
      refine wl_s (pc' := 39) ji_40_38 rfl rfl rfl ?_
      refine wl_vc (d := d + 1) (as := [.ref 93, wp_i 1]) (rest := []) ji_40_39 jc_40_80 rfl (kl_93 V) jk_31.symm (Nat.le_of_ble_eq_true rfl) rfl (by rw [jn_31]; rfl) (wk_fail ht V) (fun v1 h1 R => ?_)
      obtain ⟨rfl, V⟩ := R
      show wl_R _ _ 40 42 [some (.ref 93)] [] h1 _
      refine wl_rv ji_40_42 jr_40 ⟨rfl, ?_⟩
      rw [show c_bk k v w as_ = .inl 1 by unfold c_bk; rw [if_neg (by omega)]]
      exact ⟨_, _, _, _, _, ws, e, hlen, V⟩
    · refine wl_s (pc' := 24) ji_40_23 rfl rfl rfl ?_
      refine wl_s (pc' := 25) ji_40_24 rfl rfl rfl ?_
      refine kl_p (y := 1) (f' := f) (q' := q) (law' := law) (st' := st) (wn' := (w.length : Int)) (op' := opn w) (br' := brn w) (ls' := 1) (as_' := as_) ht V ji_40_25 jf_40_41 (by decide) rfl rfl rfl (fun h V => ?_)
      refine wl_s (pc' := 29) ji_40_28 rfl rfl rfl ?_
      refine wl_bp ji_40_29 rfl ?_
      refine wl_vc (d := d + 1) (as := [.ref 93, wp_i 91]) (rest := []) ji_40_31 jc_40_145 rfl (kl_93 V) jk_38.symm (Nat.le_of_ble_eq_true rfl) rfl (by rw [jn_38]; rfl) (wk_open (d := d) (c := 91) ht ⟨ws, e, hlen, V⟩ hw (by omega)) (fun v1 h1 R => ?_)
      obtain ⟨rfl, V⟩ := R
      show wl_R _ _ 40 34 [some (.ref 93)] [] h1 _
      refine wl_goto (t := 42) ji_40_34 rfl ?_
      refine wl_rv ji_40_42 jr_40 ⟨rfl, ?_⟩
      rw [show c_bk k v w as_ = c_op 91 w 1 as_ by unfold c_bk; rw [if_pos (by omega)]]
      show kWQ _ _ _ _ _ _ _ _ _ _ _ _ _ _ _ (c_op 91 w 1 as_)
      rcases V with ⟨o1, V⟩ | ⟨o1, V⟩
      · rw [show c_op 91 w 1 as_ = .inl 3 from if_pos o1]
        exact ⟨_, _, _, _, _, V⟩
      · rw [show c_op 91 w 1 as_ = .inr (if (91 : Int) = 33 then 0 else 1, 91 :: w, 1, as_) from if_neg o1]
        exact V
theorem wk_s217 {nn d : Nat} {h0 h : mj_H} {bl : List Value} {fr : TD} {t : Nat} {w : List Int} {L k v s p f q law st ls as_ cl : Int} (ht : 12 ≤ t ∧ t ≤ 33) (V : kH h0 h bl t L k v s p f q law st w ls as_ cl fr) (hw : w.length ≤ 39) (hst : 0 ≤ st ∧ st ≤ 5) (hlaw : 0 ≤ law ∧ law ≤ 2) (hkv : wp_r k ∧ wp_r v ∧ (k = 0 → -1 ≤ v ∧ v ≤ 30)) (has : as_ = 0 ∨ as_ = 1) (hls : 0 ≤ ls ∧ ls ≤ 100) (hcl : cok w) {g a : Int} (hgr : wp_r g) (ha : (a = 1 ∧ law = 2 ∧ brn w = 0) ∨ (a = 0 ∧ ¬ (law = 2 ∧ brn w = 0))) : wl_R nn (d + 3) 41 217 [some (.ref 93), some (wp_i g), some (wp_i a), some (wp_i (ck g))] [] h (fun v1 h1 => v1 = none ∧ kWQ h0 h1 bl t L k v s p f q law cl fr (eg6 law g w ls as_) (c6 law g w ls as_)) := by
  obtain ⟨ws, e, hlen, V⟩ := V
  have hop := opn_0 w
  have hbr := brn_0 w
  have hck := ck_r g
  refine wl_s (pc' := 218) ji_41_217 rfl rfl rfl ?_
  refine wl_bp ji_41_218 rfl ?_
  refine wl_icmp (t := 258) ji_41_220 rfl (by omega) (by omega) (fun (hb1 : ¬ (g : Int) = 59) => ?_) (fun (hb1 : ¬ (¬ (g : Int) = 59)) => ?_)
  · refine wl_s (pc' := 259) ji_41_258 rfl rfl rfl ?_
    refine wl_s (pc' := 260) ji_41_259 rfl rfl rfl ?_
    refine wl_vc (d := d + 2) (as := [.ref 93, wp_i 1]) (rest := []) ji_41_260 jc_41_80 rfl (kl_93 V) jk_31.symm (Nat.le_of_ble_eq_true rfl) rfl (by rw [jn_31]; rfl) (wk_fail ht V) (fun v1 h8 R => ?_)
    obtain ⟨rfl, V⟩ := R
    show wl_R _ _ 41 263 [some (.ref 93), some (wp_i g), some (wp_i a), some (wp_i (ck g))] [] h8 _
    refine wl_rv ji_41_263 jr_41 ⟨rfl, ?_⟩
    rw [show c6 law g w ls as_ = .inl 1 from if_neg (by omega)]
    exact ⟨_, _, _, _, _, ws, e, hlen, V⟩
  · refine wl_s (pc' := 224) ji_41_223 rfl rfl rfl ?_
    refine kl_g V ji_41_224 jf_41_38 rfl ?_
    refine wl_if (t := 258) ji_41_227 rfl (by omega) (fun (hb2 : ¬ (brn w : Int) = 0) => ?_) (fun (hb2 : ¬ (¬ (brn w : Int) = 0)) => ?_)
    · refine wl_s (pc' := 259) ji_41_258 rfl rfl rfl ?_
      refine wl_s (pc' := 260) ji_41_259 rfl rfl rfl ?_
      refine wl_vc (d := d + 2) (as := [.ref 93, wp_i 1]) (rest := []) ji_41_260 jc_41_80 rfl (kl_93 V) jk_31.symm (Nat.le_of_ble_eq_true rfl) rfl (by rw [jn_31]; rfl) (wk_fail ht V) (fun v1 h8 R => ?_)
      obtain ⟨rfl, V⟩ := R
      show wl_R _ _ 41 263 [some (.ref 93), some (wp_i g), some (wp_i a), some (wp_i (ck g))] [] h8 _
      refine wl_rv ji_41_263 jr_41 ⟨rfl, ?_⟩
      rw [show c6 law g w ls as_ = .inl 1 from if_neg (by omega)]
      exact ⟨_, _, _, _, _, ws, e, hlen, V⟩
    · refine wl_s (pc' := 231) ji_41_230 rfl rfl rfl ?_
      refine kl_g V ji_41_231 jf_41_22 rfl ?_
      refine wl_s (pc' := 235) ji_41_234 rfl rfl rfl ?_
      refine wl_icmp (t := 245) ji_41_235 rfl (by omega) (by omega) (fun (hb3 : ¬ (law : Int) = 2) => ?_) (fun (hb3 : ¬ (¬ (law : Int) = 2)) => ?_)
      · refine wl_s (pc' := 246) ji_41_245 rfl rfl rfl ?_
        refine wl_s (pc' := 247) ji_41_246 rfl rfl rfl ?_
        refine wl_vc (d := d + 2) (as := [.ref 93, wp_i 1]) (rest := []) ji_41_247 jc_41_162 rfl (kl_93 V) jk_45.symm (Nat.le_of_ble_eq_true rfl) rfl (by rw [jn_45]; rfl) (wk_jw (d := d + 1) (r := 1) ht (by omega) nn _ w _ none ⟨ws, e, hlen, V⟩) (fun v1 h9 R => ?_)
        obtain ⟨rfl, V⟩ := R
        obtain ⟨ws1, e, hlen, V⟩ := V
        show wl_R _ _ 41 250 [some (.ref 93), some (wp_i g), some (wp_i a), some (wp_i (ck g))] [] h9 _
        refine wl_s (pc' := 251) ji_41_250 rfl rfl rfl ?_
        refine wl_s (pc' := 252) ji_41_251 rfl rfl rfl ?_
        refine kl_p (y := 5) (f' := f) (q' := q) (law' := law) (st' := 5) (wn' := ((jwt 1 w).length : Int)) (op' := opn (jwt 1 w)) (br' := brn (jwt 1 w)) (ls' := ls) (as_' := as_) ht V ji_41_252 jf_41_25 (by decide) rfl rfl rfl (fun h V => ?_)
        refine wl_goto (t := 263) ji_41_255 rfl ?_
        refine wl_rv ji_41_263 jr_41 ⟨rfl, ?_⟩
        rw [show c6 law g w ls as_ = .inr (5, jwt 1 w, ls, as_) from if_pos (by omega)]
        rw [show eg6 law g w ls as_ = jE 1 w from if_pos (by omega)]
        exact ⟨ws1, e, hlen, V⟩
      · refine wl_s (pc' := 239) ji_41_238 rfl rfl rfl ?_
        refine kl_g V ji_41_239 jf_41_44 rfl ?_
        refine wl_if (t := 258) ji_41_242 rfl (by omega) (fun (hb4 : (as_ : Int) = 0) => ?_) (fun (hb4 : ¬ ((as_ : Int) = 0)) => ?_)
        · refine wl_s (pc' := 259) ji_41_258 rfl rfl rfl ?_
          refine wl_s (pc' := 260) ji_41_259 rfl rfl rfl ?_
          refine wl_vc (d := d + 2) (as := [.ref 93, wp_i 1]) (rest := []) ji_41_260 jc_41_80 rfl (kl_93 V) jk_31.symm (Nat.le_of_ble_eq_true rfl) rfl (by rw [jn_31]; rfl) (wk_fail ht V) (fun v1 h8 R => ?_)
          obtain ⟨rfl, V⟩ := R
          show wl_R _ _ 41 263 [some (.ref 93), some (wp_i g), some (wp_i a), some (wp_i (ck g))] [] h8 _
          refine wl_rv ji_41_263 jr_41 ⟨rfl, ?_⟩
          rw [show c6 law g w ls as_ = .inl 1 from if_neg (by omega)]
          exact ⟨_, _, _, _, _, ws, e, hlen, V⟩
        · refine wl_s (pc' := 246) ji_41_245 rfl rfl rfl ?_
          refine wl_s (pc' := 247) ji_41_246 rfl rfl rfl ?_
          refine wl_vc (d := d + 2) (as := [.ref 93, wp_i 1]) (rest := []) ji_41_247 jc_41_162 rfl (kl_93 V) jk_45.symm (Nat.le_of_ble_eq_true rfl) rfl (by rw [jn_45]; rfl) (wk_jw (d := d + 1) (r := 1) ht (by omega) nn _ w _ none ⟨ws, e, hlen, V⟩) (fun v1 h9 R => ?_)
          obtain ⟨rfl, V⟩ := R
          obtain ⟨ws1, e, hlen, V⟩ := V
          show wl_R _ _ 41 250 [some (.ref 93), some (wp_i g), some (wp_i a), some (wp_i (ck g))] [] h9 _
          refine wl_s (pc' := 251) ji_41_250 rfl rfl rfl ?_
          refine wl_s (pc' := 252) ji_41_251 rfl rfl rfl ?_
          refine kl_p (y := 5) (f' := f) (q' := q) (law' := law) (st' := 5) (wn' := ((jwt 1 w).length : Int)) (op' := opn (jwt 1 w)) (br' := brn (jwt 1 w)) (ls' := ls) (as_' := as_) ht V ji_41_252 jf_41_25 (by decide) rfl rfl rfl (fun h V => ?_)
          refine wl_goto (t := 263) ji_41_255 rfl ?_
          refine wl_rv ji_41_263 jr_41 ⟨rfl, ?_⟩
          rw [show c6 law g w ls as_ = .inr (5, jwt 1 w, ls, as_) from if_pos (by omega)]
          rw [show eg6 law g w ls as_ = jE 1 w from if_pos (by omega)]
          exact ⟨ws1, e, hlen, V⟩
theorem wk_s182 {nn d : Nat} {h0 h : mj_H} {bl : List Value} {fr : TD} {t : Nat} {w : List Int} {L k v s p f q law st ls as_ cl : Int} (ht : 12 ≤ t ∧ t ≤ 33) (V : kH h0 h bl t L k v s p f q law st w ls as_ cl fr) (hw : w.length ≤ 39) (hst : 0 ≤ st ∧ st ≤ 5) (hlaw : 0 ≤ law ∧ law ≤ 2) (hkv : wp_r k ∧ wp_r v ∧ (k = 0 → -1 ≤ v ∧ v ≤ 30)) (has : as_ = 0 ∨ as_ = 1) (hls : 0 ≤ ls ∧ ls ≤ 100) (hcl : cok w) {g a : Int} (hgr : wp_r g) (ha : (a = 1 ∧ law = 2 ∧ brn w = 0) ∨ (a = 0 ∧ ¬ (law = 2 ∧ brn w = 0))) : wl_R nn (d + 3) 41 182 [some (.ref 93), some (wp_i g), some (wp_i a), some (wp_i (ck g))] [] h (fun v1 h1 => v1 = none ∧ kWQ h0 h1 bl t L k v s p f q law cl fr (eg5 law g w ls as_) (c5 law g w ls as_)) := by
  obtain ⟨ws, e, hlen, V⟩ := V
  have hop := opn_0 w
  have hbr := brn_0 w
  have hck := ck_r g
  refine wl_s (pc' := 183) ji_41_182 rfl rfl rfl ?_
  refine wl_bp ji_41_183 rfl ?_
  refine wl_icmp (t := 217) ji_41_185 rfl (by omega) (by omega) (fun (hb1 : ¬ (g : Int) = 44) => ?_) (fun (hb1 : ¬ (¬ (g : Int) = 44)) => ?_)
  · rw [show c5 law g w ls as_ = c6 law g w ls as_ from if_neg (fun x => by have := x.1; have := x.2.1; have := x.2.2.1; omega)]
    rw [show eg5 law g w ls as_ = eg6 law g w ls as_ from if_neg (fun x => by have := x.1; have := x.2.1; have := x.2.2.1; omega)]
    exact wk_s217 ht ⟨ws, e, hlen, V⟩ hw hst hlaw hkv has hls hcl hgr ha
  · refine wl_s (pc' := 189) ji_41_188 rfl rfl rfl ?_
    refine kl_g V ji_41_189 jf_41_38 rfl ?_
    refine wl_s (pc' := 193) ji_41_192 rfl rfl rfl ?_
    refine wl_icmp (t := 217) ji_41_193 rfl (by omega) (by omega) (fun (hb2 : ¬ (brn w : Int) = 1) => ?_) (fun (hb2 : ¬ (¬ (brn w : Int) = 1)) => ?_)
    · rw [show c5 law g w ls as_ = c6 law g w ls as_ from if_neg (fun x => by have := x.1; have := x.2.1; have := x.2.2.1; omega)]
      rw [show eg5 law g w ls as_ = eg6 law g w ls as_ from if_neg (fun x => by have := x.1; have := x.2.1; have := x.2.2.1; omega)]
      exact wk_s217 ht ⟨ws, e, hlen, V⟩ hw hst hlaw hkv has hls hcl hgr ha
    · refine wl_s (pc' := 197) ji_41_196 rfl rfl rfl ?_
      refine kl_g V ji_41_197 jf_41_44 rfl ?_
      refine wl_if (t := 217) ji_41_200 rfl (by omega) (fun (hb3 : (as_ : Int) = 0) => ?_) (fun (hb3 : ¬ ((as_ : Int) = 0)) => ?_)
      · rw [show c5 law g w ls as_ = c6 law g w ls as_ from if_neg (fun x => by have := x.1; have := x.2.1; have := x.2.2.1; omega)]
        rw [show eg5 law g w ls as_ = eg6 law g w ls as_ from if_neg (fun x => by have := x.1; have := x.2.1; have := x.2.2.1; omega)]
        exact wk_s217 ht ⟨ws, e, hlen, V⟩ hw hst hlaw hkv has hls hcl hgr ha
      · refine wl_s (pc' := 204) ji_41_203 rfl rfl rfl ?_
        refine wl_vc (d := d + 2) (as := [.ref 93]) (rest := []) ji_41_204 jc_41_168 rfl (kl_93 V) jk_47.symm (Nat.le_of_ble_eq_true rfl) rfl (by rw [jn_47]; rfl) (wk_inl (d := d) ht ⟨ws, e, hlen, V⟩) (fun v1 h9 R => ?_)
        obtain ⟨V, y, rfl, hya, hyb⟩ := R
        obtain ⟨ws1, e, hlen, V⟩ := V
        show wl_R _ _ 41 207 [some (.ref 93), some (wp_i g), some (wp_i a), some (wp_i (ck g))] [wp_i y] h9 _
        refine wl_if (t := 217) ji_41_207 rfl (by omega) (fun (hb4 : (y : Int) = 0) => ?_) (fun (hb4 : ¬ ((y : Int) = 0)) => ?_)
        · refine wl_s (pc' := 218) ji_41_217 rfl rfl rfl ?_
          refine wl_bp ji_41_218 rfl ?_
          refine wl_icmp (t := 258) ji_41_220 rfl (by omega) (by omega) (fun (hb5 : ¬ (g : Int) = 59) => ?_) (fun (hb5 : ¬ (¬ (g : Int) = 59)) => (by exfalso; omega))
          refine wl_s (pc' := 259) ji_41_258 rfl rfl rfl ?_
          refine wl_s (pc' := 260) ji_41_259 rfl rfl rfl ?_
          refine wl_vc (d := d + 2) (as := [.ref 93, wp_i 1]) (rest := []) ji_41_260 jc_41_80 rfl (kl_93 V) jk_31.symm (Nat.le_of_ble_eq_true rfl) rfl (by rw [jn_31]; rfl) (wk_fail ht V) (fun v1 h8 R => ?_)
          obtain ⟨rfl, V⟩ := R
          show wl_R _ _ 41 263 [some (.ref 93), some (wp_i g), some (wp_i a), some (wp_i (ck g))] [] h8 _
          refine wl_rv ji_41_263 jr_41 ⟨rfl, ?_⟩
          have hno : ¬ (jwt 5 w).head? = some 91 := fun x => by
            have := hyb.mpr (by
              cases hj : jwt 5 w with
              | nil => rw [hj] at x; cases x
              | cons a2 b2 => rw [hj] at x; cases x; exact ⟨b2, rfl⟩)
            omega
          rw [show c5 law g w ls as_ = .inl 1 from (if_neg (fun x => hno x.2.2.2)).trans (if_neg (by omega))]
          exact ⟨_, _, _, _, _, ws1, e, hlen, V⟩
        · refine wl_s (pc' := 211) ji_41_210 rfl rfl rfl ?_
          refine wl_vc (d := d + 2) (as := [.ref 93]) (rest := []) ji_41_211 jc_41_172 rfl (kl_93 V) jk_48.symm (Nat.le_of_ble_eq_true rfl) rfl (by rw [jn_48]; rfl) (wk_com (d := d + 1) ht ⟨ws1, e, hlen, V⟩ hls) (fun v1 h8 R => ?_)
          obtain ⟨rfl, V⟩ := R
          show wl_R _ _ 41 214 [some (.ref 93), some (wp_i g), some (wp_i a), some (wp_i (ck g))] [] h8 _
          refine wl_goto (t := 263) ji_41_214 rfl ?_
          refine wl_rv ji_41_263 jr_41 ⟨rfl, ?_⟩
          rw [show c5 law g w ls as_ = (if ls = 6 then .inl 7 else .inr (1, jwt 5 w, ls + 1, as_)) from if_pos ⟨by omega, by omega, by omega, (hyb.mp (by omega)).elim (fun w2 z => by rw [z]; rfl)⟩]
          rw [show eg5 law g w ls as_ = jE 5 w from if_pos ⟨by omega, by omega, by omega, (hyb.mp (by omega)).elim (fun w2 z => by rw [z]; rfl)⟩]
          rcases V with ⟨o1, V⟩ | ⟨o1, V⟩
          · rw [if_pos o1]
            exact ⟨_, _, _, _, _, V⟩
          · rw [if_neg o1]
            exact V
theorem wk_s162 {nn d : Nat} {h0 h : mj_H} {bl : List Value} {fr : TD} {t : Nat} {w : List Int} {L k v s p f q law st ls as_ cl : Int} (ht : 12 ≤ t ∧ t ≤ 33) (V : kH h0 h bl t L k v s p f q law st w ls as_ cl fr) (hw : w.length ≤ 39) (hst : 0 ≤ st ∧ st ≤ 5) (hlaw : 0 ≤ law ∧ law ≤ 2) (hkv : wp_r k ∧ wp_r v ∧ (k = 0 → -1 ≤ v ∧ v ≤ 30)) (has : as_ = 0 ∨ as_ = 1) (hls : 0 ≤ ls ∧ ls ≤ 100) (hcl : cok w) {g a : Int} (hgr : wp_r g) (ha : (a = 1 ∧ law = 2 ∧ brn w = 0) ∨ (a = 0 ∧ ¬ (law = 2 ∧ brn w = 0))) : wl_R nn (d + 3) 41 162 [some (.ref 93), some (wp_i g), some (wp_i a), some (wp_i (ck g))] [] h (fun v1 h1 => v1 = none ∧ kWQ h0 h1 bl t L k v s p f q law cl fr (eg4 law g w ls as_) (c4 law g w ls as_)) := by
  obtain ⟨ws, e, hlen, V⟩ := V
  have hop := opn_0 w
  have hbr := brn_0 w
  have hck := ck_r g
  refine wl_s (pc' := 163) ji_41_162 rfl rfl rfl ?_
  refine wl_bp ji_41_163 rfl ?_
  refine wl_icmp (t := 182) ji_41_165 rfl (by omega) (by omega) (fun (hb1 : ¬ (g : Int) = 41) => ?_) (fun (hb1 : ¬ (¬ (g : Int) = 41)) => ?_)
  · rw [show c4 law g w ls as_ = c5 law g w ls as_ from if_neg (by omega)]
    rw [show eg4 law g w ls as_ = eg5 law g w ls as_ from if_neg (by omega)]
    exact wk_s182 ht ⟨ws, e, hlen, V⟩ hw hst hlaw hkv has hls hcl hgr ha
  · refine wl_s (pc' := 169) ji_41_168 rfl rfl rfl ?_
    refine kl_g V ji_41_169 jf_41_38 rfl ?_
    refine wl_if (t := 182) ji_41_172 rfl (by omega) (fun (hb2 : (brn w : Int) ≤ 0) => ?_) (fun (hb2 : ¬ ((brn w : Int) ≤ 0)) => ?_)
    · rw [show c4 law g w ls as_ = c5 law g w ls as_ from if_neg (by omega)]
      rw [show eg4 law g w ls as_ = eg5 law g w ls as_ from if_neg (by omega)]
      exact wk_s182 ht ⟨ws, e, hlen, V⟩ hw hst hlaw hkv has hls hcl hgr ha
    · refine wl_s (pc' := 176) ji_41_175 rfl rfl rfl ?_
      refine wl_vc (d := d + 2) (as := [.ref 93]) (rest := []) ji_41_176 jc_41_165 rfl (kl_93 V) jk_46.symm (Nat.le_of_ble_eq_true rfl) rfl (by rw [jn_46]; rfl) (wk_cls (d := d) ht ⟨ws, e, hlen, V⟩ hls (fun c1 w1 x => (hcl (by omega)).elim (fun c2 y => y.elim (fun w2 z => by rw [z.1] at x; injection x with x1 x2; rw [← x1]; exact z.2))) (fun x => (hcl (by omega)).elim (fun c2 y => y.elim (fun w2 z => by rw [z.1] at x; cases x)))) (fun v1 h9 R => ?_)
      obtain ⟨rfl, c1, w1, ew, V⟩ := R
      show wl_R _ _ 41 179 [some (.ref 93), some (wp_i g), some (wp_i a), some (wp_i (ck g))] [] h9 _
      refine wl_goto (t := 263) ji_41_179 rfl ?_
      refine wl_rv ji_41_263 jr_41 ⟨rfl, ?_⟩
      rw [show c4 law g w ls as_ = c_cl w ls as_ from if_pos (by omega)]
      rw [show eg4 law g w ls as_ = e_cl w ls from if_pos (by omega)]
      unfold c_cl e_cl
      rw [ew]
      exact V
theorem wk_s126 {nn d : Nat} {h0 h : mj_H} {bl : List Value} {fr : TD} {t : Nat} {w : List Int} {L k v s p f q law st ls as_ cl : Int} (ht : 12 ≤ t ∧ t ≤ 33) (V : kH h0 h bl t L k v s p f q law st w ls as_ cl fr) (hw : w.length ≤ 39) (hst : 0 ≤ st ∧ st ≤ 5) (hlaw : 0 ≤ law ∧ law ≤ 2) (hkv : wp_r k ∧ wp_r v ∧ (k = 0 → -1 ≤ v ∧ v ≤ 30)) (has : as_ = 0 ∨ as_ = 1) (hls : 0 ≤ ls ∧ ls ≤ 100) (hcl : cok w) {g a : Int} (hgr : wp_r g) (ha : (a = 1 ∧ law = 2 ∧ brn w = 0) ∨ (a = 0 ∧ ¬ (law = 2 ∧ brn w = 0))) : wl_R nn (d + 3) 41 126 [some (.ref 93), some (wp_i g), some (wp_i a), some (wp_i (ck g))] [] h (fun v1 h1 => v1 = none ∧ kWQ h0 h1 bl t L k v s p f q law cl fr (eg3 law g w ls as_) (c3 law g w ls as_)) := by
  obtain ⟨ws, e, hlen, V⟩ := V
  have hop := opn_0 w
  have hbr := brn_0 w
  have hck := ck_r g
  refine wl_s (pc' := 127) ji_41_126 rfl rfl rfl ?_
  refine wl_s (pc' := 128) ji_41_127 rfl rfl rfl ?_
  refine wl_icmp (t := 136) ji_41_128 rfl (by omega) (by omega) (fun (hb1 : (ck g : Int) = 1) => ?_) (fun (hb1 : ¬ ((ck g : Int) = 1)) => ?_)
  · refine wl_s (pc' := 137) ji_41_136 rfl rfl rfl ?_
    refine wl_if (t := 162) ji_41_137 rfl (by omega) (fun (hb2 : (a : Int) = 0) => ?_) (fun (hb2 : ¬ ((a : Int) = 0)) => ?_)
    · rw [show c3 law g w ls as_ = c4 law g w ls as_ from if_neg (by omega)]
      rw [show eg3 law g w ls as_ = eg4 law g w ls as_ from if_neg (by omega)]
      exact wk_s162 ht ⟨ws, e, hlen, V⟩ hw hst hlaw hkv has hls hcl hgr ha
    · refine wl_s (pc' := 141) ji_41_140 rfl rfl rfl ?_
      refine kl_g V ji_41_141 jf_41_44 rfl ?_
      refine wl_if (t := 162) ji_41_144 rfl (by omega) (fun (hb3 : (as_ : Int) = 0) => ?_) (fun (hb3 : ¬ ((as_ : Int) = 0)) => ?_)
      · rw [show c3 law g w ls as_ = c4 law g w ls as_ from if_neg (by omega)]
        rw [show eg3 law g w ls as_ = eg4 law g w ls as_ from if_neg (by omega)]
        exact wk_s162 ht ⟨ws, e, hlen, V⟩ hw hst hlaw hkv has hls hcl hgr ha
      · refine wl_s (pc' := 148) ji_41_147 rfl rfl rfl ?_
        refine wl_s (pc' := 149) ji_41_148 rfl rfl rfl ?_
        refine kl_p (y := 0) (f' := f) (q' := q) (law' := law) (st' := st) (wn' := (w.length : Int)) (op' := opn w) (br' := brn w) (ls' := ls) (as_' := 0) ht V ji_41_149 jf_41_44 (by decide) rfl rfl rfl (fun h V => ?_)
        refine wl_s (pc' := 153) ji_41_152 rfl rfl rfl ?_
        refine wl_s (pc' := 154) ji_41_153 rfl rfl rfl ?_
        refine wl_s (pc' := 155) ji_41_154 rfl rfl rfl ?_
        refine wl_s (pc' := 156) ji_41_155 rfl rfl rfl ?_
        refine wl_vc (d := d + 2) (as := [.ref 93, wp_i g, wp_i (ck g), wp_i 0]) (rest := []) ji_41_156 jc_41_159 rfl (kl_93 V) jk_44.symm (Nat.le_of_ble_eq_true rfl) rfl (by rw [jn_44]; rfl) (wk_jb (d := d) (c := g) (r := ck g) (x := 0) ht ⟨ws, e, hlen, V⟩ (by omega) (Nat.le_trans (jwt_len w) hw) (ck_op (by omega))) (fun v1 h9 R => ?_)
        obtain ⟨rfl, V⟩ := R
        show wl_R _ _ 41 159 [some (.ref 93), some (wp_i g), some (wp_i a), some (wp_i (ck g))] [] h9 _
        refine wl_goto (t := 263) ji_41_159 rfl ?_
        refine wl_rv ji_41_263 jr_41 ⟨rfl, ?_⟩
        rw [show c3 law g w ls as_ = .inr (0, g :: jwt (ck g) w, ls, 0) from if_pos (by omega)]
        rw [show eg3 law g w ls as_ = jE (ck g) w from if_pos (by omega)]
        exact V
  · refine wl_s (pc' := 132) ji_41_131 rfl rfl rfl ?_
    refine wl_s (pc' := 133) ji_41_132 rfl rfl rfl ?_
    refine wl_icmp (t := 162) ji_41_133 rfl (by omega) (by omega) (fun (hb4 : ¬ (ck g : Int) = 2) => ?_) (fun (hb4 : ¬ (¬ (ck g : Int) = 2)) => ?_)
    · rw [show c3 law g w ls as_ = c4 law g w ls as_ from if_neg (by omega)]
      rw [show eg3 law g w ls as_ = eg4 law g w ls as_ from if_neg (by omega)]
      exact wk_s162 ht ⟨ws, e, hlen, V⟩ hw hst hlaw hkv has hls hcl hgr ha
    · refine wl_s (pc' := 137) ji_41_136 rfl rfl rfl ?_
      refine wl_if (t := 162) ji_41_137 rfl (by omega) (fun (hb5 : (a : Int) = 0) => ?_) (fun (hb5 : ¬ ((a : Int) = 0)) => ?_)
      · rw [show c3 law g w ls as_ = c4 law g w ls as_ from if_neg (by omega)]
        rw [show eg3 law g w ls as_ = eg4 law g w ls as_ from if_neg (by omega)]
        exact wk_s162 ht ⟨ws, e, hlen, V⟩ hw hst hlaw hkv has hls hcl hgr ha
      · refine wl_s (pc' := 141) ji_41_140 rfl rfl rfl ?_
        refine kl_g V ji_41_141 jf_41_44 rfl ?_
        refine wl_if (t := 162) ji_41_144 rfl (by omega) (fun (hb6 : (as_ : Int) = 0) => ?_) (fun (hb6 : ¬ ((as_ : Int) = 0)) => ?_)
        · rw [show c3 law g w ls as_ = c4 law g w ls as_ from if_neg (by omega)]
          rw [show eg3 law g w ls as_ = eg4 law g w ls as_ from if_neg (by omega)]
          exact wk_s162 ht ⟨ws, e, hlen, V⟩ hw hst hlaw hkv has hls hcl hgr ha
        · refine wl_s (pc' := 148) ji_41_147 rfl rfl rfl ?_
          refine wl_s (pc' := 149) ji_41_148 rfl rfl rfl ?_
          refine kl_p (y := 0) (f' := f) (q' := q) (law' := law) (st' := st) (wn' := (w.length : Int)) (op' := opn w) (br' := brn w) (ls' := ls) (as_' := 0) ht V ji_41_149 jf_41_44 (by decide) rfl rfl rfl (fun h V => ?_)
          refine wl_s (pc' := 153) ji_41_152 rfl rfl rfl ?_
          refine wl_s (pc' := 154) ji_41_153 rfl rfl rfl ?_
          refine wl_s (pc' := 155) ji_41_154 rfl rfl rfl ?_
          refine wl_s (pc' := 156) ji_41_155 rfl rfl rfl ?_
          refine wl_vc (d := d + 2) (as := [.ref 93, wp_i g, wp_i (ck g), wp_i 0]) (rest := []) ji_41_156 jc_41_159 rfl (kl_93 V) jk_44.symm (Nat.le_of_ble_eq_true rfl) rfl (by rw [jn_44]; rfl) (wk_jb (d := d) (c := g) (r := ck g) (x := 0) ht ⟨ws, e, hlen, V⟩ (by omega) (Nat.le_trans (jwt_len w) hw) (ck_op (by omega))) (fun v1 h9 R => ?_)
          obtain ⟨rfl, V⟩ := R
          show wl_R _ _ 41 159 [some (.ref 93), some (wp_i g), some (wp_i a), some (wp_i (ck g))] [] h9 _
          refine wl_goto (t := 263) ji_41_159 rfl ?_
          refine wl_rv ji_41_263 jr_41 ⟨rfl, ?_⟩
          rw [show c3 law g w ls as_ = .inr (0, g :: jwt (ck g) w, ls, 0) from if_pos (by omega)]
          rw [show eg3 law g w ls as_ = jE (ck g) w from if_pos (by omega)]
          exact V
theorem wk_s91 {nn d : Nat} {h0 h : mj_H} {bl : List Value} {fr : TD} {t : Nat} {w : List Int} {L k v s p f q law st ls as_ cl : Int} (ht : 12 ≤ t ∧ t ≤ 33) (V : kH h0 h bl t L k v s p f q law st w ls as_ cl fr) (hw : w.length ≤ 39) (hst : 0 ≤ st ∧ st ≤ 5) (hlaw : 0 ≤ law ∧ law ≤ 2) (hkv : wp_r k ∧ wp_r v ∧ (k = 0 → -1 ≤ v ∧ v ≤ 30)) (has : as_ = 0 ∨ as_ = 1) (hls : 0 ≤ ls ∧ ls ≤ 100) (hcl : cok w) {g a : Int} (hgr : wp_r g) (ha : (a = 1 ∧ law = 2 ∧ brn w = 0) ∨ (a = 0 ∧ ¬ (law = 2 ∧ brn w = 0))) : wl_R nn (d + 3) 41 91 [some (.ref 93), some (wp_i g), some (wp_i a), some (wp_i (ck g))] [] h (fun v1 h1 => v1 = none ∧ kWQ h0 h1 bl t L k v s p f q law cl fr (eg2 law g w ls as_) (c2 law g w ls as_)) := by
  obtain ⟨ws, e, hlen, V⟩ := V
  have hop := opn_0 w
  have hbr := brn_0 w
  have hck := ck_r g
  refine wl_s (pc' := 92) ji_41_91 rfl rfl rfl ?_
  refine wl_bp ji_41_92 rfl ?_
  refine wl_icmp (t := 126) ji_41_94 rfl (by omega) (by omega) (fun (hb1 : ¬ (g : Int) = 91) => ?_) (fun (hb1 : ¬ (¬ (g : Int) = 91)) => ?_)
  · rw [show c2 law g w ls as_ = c3 law g w ls as_ from if_neg (by omega)]
    rw [show eg2 law g w ls as_ = eg3 law g w ls as_ from if_neg (by omega)]
    exact wk_s126 ht ⟨ws, e, hlen, V⟩ hw hst hlaw hkv has hls hcl hgr ha
  · refine wl_s (pc' := 98) ji_41_97 rfl rfl rfl ?_
    refine wl_if (t := 126) ji_41_98 rfl (by omega) (fun (hb2 : (a : Int) = 0) => ?_) (fun (hb2 : ¬ ((a : Int) = 0)) => ?_)
    · rw [show c2 law g w ls as_ = c3 law g w ls as_ from if_neg (by omega)]
      rw [show eg2 law g w ls as_ = eg3 law g w ls as_ from if_neg (by omega)]
      exact wk_s126 ht ⟨ws, e, hlen, V⟩ hw hst hlaw hkv has hls hcl hgr ha
    · refine wl_s (pc' := 102) ji_41_101 rfl rfl rfl ?_
      refine kl_g V ji_41_102 jf_41_44 rfl ?_
      refine wl_if (t := 126) ji_41_105 rfl (by omega) (fun (hb3 : ¬ (as_ : Int) = 0) => ?_) (fun (hb3 : ¬ (¬ (as_ : Int) = 0)) => ?_)
      · rw [show c2 law g w ls as_ = c3 law g w ls as_ from if_neg (by omega)]
        rw [show eg2 law g w ls as_ = eg3 law g w ls as_ from if_neg (by omega)]
        exact wk_s126 ht ⟨ws, e, hlen, V⟩ hw hst hlaw hkv has hls hcl hgr ha
      · refine wl_s (pc' := 109) ji_41_108 rfl rfl rfl ?_
        refine wl_s (pc' := 110) ji_41_109 rfl rfl rfl ?_
        refine kl_p (y := 1) (f' := f) (q' := q) (law' := law) (st' := st) (wn' := (w.length : Int)) (op' := opn w) (br' := brn w) (ls' := ls) (as_' := 1) ht V ji_41_110 jf_41_44 (by decide) rfl rfl rfl (fun h V => ?_)
        refine wl_s (pc' := 114) ji_41_113 rfl rfl rfl ?_
        refine wl_s (pc' := 115) ji_41_114 rfl rfl rfl ?_
        refine wl_vc (d := d + 2) (as := [.ref 93, wp_i 5]) (rest := []) ji_41_115 jc_41_162 rfl (kl_93 V) jk_45.symm (Nat.le_of_ble_eq_true rfl) rfl (by rw [jn_45]; rfl) (wk_jw (d := d + 1) (r := 5) ht (by omega) nn _ w _ none ⟨ws, e, hlen, V⟩) (fun v1 h9 R => ?_)
        obtain ⟨rfl, V⟩ := R
        obtain ⟨ws1, e, hlen, V⟩ := V
        show wl_R _ _ 41 118 [some (.ref 93), some (wp_i g), some (wp_i a), some (wp_i (ck g))] [] h9 _
        refine wl_s (pc' := 119) ji_41_118 rfl rfl rfl ?_
        refine wl_s (pc' := 120) ji_41_119 rfl rfl rfl ?_
        refine kl_p (y := 3) (f' := f) (q' := q) (law' := law) (st' := 3) (wn' := ((jwt 5 w).length : Int)) (op' := opn (jwt 5 w)) (br' := brn (jwt 5 w)) (ls' := ls) (as_' := 1) ht V ji_41_120 jf_41_25 (by decide) rfl rfl rfl (fun h V => ?_)
        refine wl_goto (t := 263) ji_41_123 rfl ?_
        refine wl_rv ji_41_263 jr_41 ⟨rfl, ?_⟩
        rw [show c2 law g w ls as_ = .inr (3, jwt 5 w, ls, 1) from if_pos (by omega)]
        rw [show eg2 law g w ls as_ = jE 5 w from if_pos (by omega)]
        exact ⟨ws1, e, hlen, V⟩
theorem wk_s60 {nn d : Nat} {h0 h : mj_H} {bl : List Value} {fr : TD} {t : Nat} {w : List Int} {L k v s p f q law st ls as_ cl : Int} (ht : 12 ≤ t ∧ t ≤ 33) (V : kH h0 h bl t L k v s p f q law st w ls as_ cl fr) (hw : w.length ≤ 39) (hst : 0 ≤ st ∧ st ≤ 5) (hlaw : 0 ≤ law ∧ law ≤ 2) (hkv : wp_r k ∧ wp_r v ∧ (k = 0 → -1 ≤ v ∧ v ≤ 30)) (has : as_ = 0 ∨ as_ = 1) (hls : 0 ≤ ls ∧ ls ≤ 100) (hcl : cok w) {g a : Int} (hgr : wp_r g) (ha : (a = 1 ∧ law = 2 ∧ brn w = 0) ∨ (a = 0 ∧ ¬ (law = 2 ∧ brn w = 0))) : wl_R nn (d + 3) 41 60 [some (.ref 93), some (wp_i g), some (wp_i a), some (wp_i (ck g))] [] h (fun v1 h1 => v1 = none ∧ kWQ h0 h1 bl t L k v s p f q law cl fr (eg1 law g w ls as_) (c1 law g w ls as_)) := by
  obtain ⟨ws, e, hlen, V⟩ := V
  have hop := opn_0 w
  have hbr := brn_0 w
  have hck := ck_r g
  refine wl_s (pc' := 61) ji_41_60 rfl rfl rfl ?_
  refine wl_s (pc' := 62) ji_41_61 rfl rfl rfl ?_
  refine wl_icmp (t := 91) ji_41_62 rfl (by omega) (by omega) (fun (hb1 : ¬ (ck g : Int) = 4) => ?_) (fun (hb1 : ¬ (¬ (ck g : Int) = 4)) => ?_)
  · rw [show c1 law g w ls as_ = c2 law g w ls as_ from if_neg (by omega)]
    rw [show eg1 law g w ls as_ = eg2 law g w ls as_ from if_neg (by omega)]
    exact wk_s91 ht ⟨ws, e, hlen, V⟩ hw hst hlaw hkv has hls hcl hgr ha
  · refine wl_s (pc' := 66) ji_41_65 rfl rfl rfl ?_
    refine wl_if (t := 91) ji_41_66 rfl (by omega) (fun (hb2 : (a : Int) = 0) => ?_) (fun (hb2 : ¬ ((a : Int) = 0)) => ?_)
    · rw [show c1 law g w ls as_ = c2 law g w ls as_ from if_neg (by omega)]
      rw [show eg1 law g w ls as_ = eg2 law g w ls as_ from if_neg (by omega)]
      exact wk_s91 ht ⟨ws, e, hlen, V⟩ hw hst hlaw hkv has hls hcl hgr ha
    · refine wl_s (pc' := 70) ji_41_69 rfl rfl rfl ?_
      refine kl_g V ji_41_70 jf_41_44 rfl ?_
      refine wl_if (t := 91) ji_41_73 rfl (by omega) (fun (hb3 : ¬ (as_ : Int) = 0) => ?_) (fun (hb3 : ¬ (¬ (as_ : Int) = 0)) => ?_)
      · rw [show c1 law g w ls as_ = c2 law g w ls as_ from if_neg (by omega)]
        rw [show eg1 law g w ls as_ = eg2 law g w ls as_ from if_neg (by omega)]
        exact wk_s91 ht ⟨ws, e, hlen, V⟩ hw hst hlaw hkv has hls hcl hgr ha
      · refine wl_s (pc' := 77) ji_41_76 rfl rfl rfl ?_
        refine wl_s (pc' := 78) ji_41_77 rfl rfl rfl ?_
        refine kl_p (y := 1) (f' := f) (q' := q) (law' := law) (st' := st) (wn' := (w.length : Int)) (op' := opn w) (br' := brn w) (ls' := ls) (as_' := 1) ht V ji_41_78 jf_41_44 (by decide) rfl rfl rfl (fun h V => ?_)
        refine wl_s (pc' := 82) ji_41_81 rfl rfl rfl ?_
        refine wl_s (pc' := 83) ji_41_82 rfl rfl rfl ?_
        refine wl_s (pc' := 84) ji_41_83 rfl rfl rfl ?_
        refine wl_s (pc' := 85) ji_41_84 rfl rfl rfl ?_
        refine wl_vc (d := d + 2) (as := [.ref 93, wp_i g, wp_i 5, wp_i 1]) (rest := []) ji_41_85 jc_41_159 rfl (kl_93 V) jk_44.symm (Nat.le_of_ble_eq_true rfl) rfl (by rw [jn_44]; rfl) (wk_jb (d := d) (c := g) (r := 5) (x := 1) ht ⟨ws, e, hlen, V⟩ (by omega) (Nat.le_trans (jwt_len w) hw) (ck_op (by omega))) (fun v1 h9 R => ?_)
        obtain ⟨rfl, V⟩ := R
        show wl_R _ _ 41 88 [some (.ref 93), some (wp_i g), some (wp_i a), some (wp_i (ck g))] [] h9 _
        refine wl_goto (t := 263) ji_41_88 rfl ?_
        refine wl_rv ji_41_263 jr_41 ⟨rfl, ?_⟩
        rw [show c1 law g w ls as_ = .inr (1, g :: jwt 5 w, ls, 1) from if_pos (by omega)]
        rw [show eg1 law g w ls as_ = jE 5 w from if_pos (by omega)]
        exact V
theorem wk_s31 {nn d : Nat} {h0 h : mj_H} {bl : List Value} {fr : TD} {t : Nat} {w : List Int} {L k v s p f q law st ls as_ cl : Int} (ht : 12 ≤ t ∧ t ≤ 33) (V : kH h0 h bl t L k v s p f q law st w ls as_ cl fr) (hw : w.length ≤ 39) (hst : 0 ≤ st ∧ st ≤ 5) (hlaw : 0 ≤ law ∧ law ≤ 2) (hkv : wp_r k ∧ wp_r v ∧ (k = 0 → -1 ≤ v ∧ v ≤ 30)) (has : as_ = 0 ∨ as_ = 1) (hls : 0 ≤ ls ∧ ls ≤ 100) (hcl : cok w) {g a : Int} (hgr : wp_r g) (ha : (a = 1 ∧ law = 2 ∧ brn w = 0) ∨ (a = 0 ∧ ¬ (law = 2 ∧ brn w = 0))) : wl_R nn (d + 3) 41 31 [some (.ref 93), some (wp_i g), some (wp_i a), some (wp_i (ck g))] [] h (fun v1 h1 => v1 = none ∧ kWQ h0 h1 bl t L k v s p f q law cl fr (e_sg law g st w ls as_) (c_sg law g st w ls as_)) := by
  obtain ⟨ws, e, hlen, V⟩ := V
  have hop := opn_0 w
  have hbr := brn_0 w
  have hck := ck_r g
  refine wl_s (pc' := 32) ji_41_31 rfl rfl rfl ?_
  refine wl_s (pc' := 33) ji_41_32 rfl rfl rfl ?_
  refine wl_icmp (t := 42) ji_41_33 rfl (by omega) (by omega) (fun (hb1 : (ck g : Int) = 5) => ?_) (fun (hb1 : ¬ ((ck g : Int) = 5)) => ?_)
  · refine wl_s (pc' := 43) ji_41_42 rfl rfl rfl ?_
    refine kl_g V ji_41_43 jf_41_25 rfl ?_
    refine wl_s (pc' := 47) ji_41_46 rfl rfl rfl ?_
    refine wl_icmp (t := 60) ji_41_47 rfl (by omega) (by omega) (fun (hb2 : (st : Int) = 4) => ?_) (fun (hb2 : ¬ ((st : Int) = 4)) => ?_)
    · rw [show c_sg law g st w ls as_ = c1 law g w ls as_ from if_neg (by omega)]
      rw [show e_sg law g st w ls as_ = eg1 law g w ls as_ from if_neg (by omega)]
      exact wk_s60 ht ⟨ws, e, hlen, V⟩ hw hst hlaw hkv has hls hcl hgr ha
    · refine wl_s (pc' := 51) ji_41_50 rfl rfl rfl ?_
      refine wl_s (pc' := 52) ji_41_51 rfl rfl rfl ?_
      refine wl_s (pc' := 53) ji_41_52 rfl rfl rfl ?_
      refine wl_s (pc' := 54) ji_41_53 rfl rfl rfl ?_
      refine wl_vc (d := d + 2) (as := [.ref 93, wp_i g, wp_i (ck g), wp_i 1]) (rest := []) ji_41_54 jc_41_159 rfl (kl_93 V) jk_44.symm (Nat.le_of_ble_eq_true rfl) rfl (by rw [jn_44]; rfl) (wk_jb (d := d) (c := g) (r := ck g) (x := 1) ht ⟨ws, e, hlen, V⟩ (by omega) (Nat.le_trans (jwt_len w) hw) (ck_op (by omega))) (fun v1 h9 R => ?_)
      obtain ⟨rfl, V⟩ := R
      show wl_R _ _ 41 57 [some (.ref 93), some (wp_i g), some (wp_i a), some (wp_i (ck g))] [] h9 _
      refine wl_goto (t := 263) ji_41_57 rfl ?_
      refine wl_rv ji_41_263 jr_41 ⟨rfl, ?_⟩
      rw [show c_sg law g st w ls as_ = .inr (1, g :: jwt (ck g) w, ls, as_) from if_pos (by omega)]
      rw [show e_sg law g st w ls as_ = jE (ck g) w from if_pos (by omega)]
      exact V
  · refine wl_s (pc' := 37) ji_41_36 rfl rfl rfl ?_
    refine wl_bp ji_41_37 rfl ?_
    refine wl_icmp (t := 60) ji_41_39 rfl (by omega) (by omega) (fun (hb3 : ¬ (ck g : Int) = 6) => ?_) (fun (hb3 : ¬ (¬ (ck g : Int) = 6)) => ?_)
    · rw [show c_sg law g st w ls as_ = c1 law g w ls as_ from if_neg (by omega)]
      rw [show e_sg law g st w ls as_ = eg1 law g w ls as_ from if_neg (by omega)]
      exact wk_s60 ht ⟨ws, e, hlen, V⟩ hw hst hlaw hkv has hls hcl hgr ha
    · refine wl_s (pc' := 43) ji_41_42 rfl rfl rfl ?_
      refine kl_g V ji_41_43 jf_41_25 rfl ?_
      refine wl_s (pc' := 47) ji_41_46 rfl rfl rfl ?_
      refine wl_icmp (t := 60) ji_41_47 rfl (by omega) (by omega) (fun (hb4 : (st : Int) = 4) => ?_) (fun (hb4 : ¬ ((st : Int) = 4)) => ?_)
      · rw [show c_sg law g st w ls as_ = c1 law g w ls as_ from if_neg (by omega)]
        rw [show e_sg law g st w ls as_ = eg1 law g w ls as_ from if_neg (by omega)]
        exact wk_s60 ht ⟨ws, e, hlen, V⟩ hw hst hlaw hkv has hls hcl hgr ha
      · refine wl_s (pc' := 51) ji_41_50 rfl rfl rfl ?_
        refine wl_s (pc' := 52) ji_41_51 rfl rfl rfl ?_
        refine wl_s (pc' := 53) ji_41_52 rfl rfl rfl ?_
        refine wl_s (pc' := 54) ji_41_53 rfl rfl rfl ?_
        refine wl_vc (d := d + 2) (as := [.ref 93, wp_i g, wp_i (ck g), wp_i 1]) (rest := []) ji_41_54 jc_41_159 rfl (kl_93 V) jk_44.symm (Nat.le_of_ble_eq_true rfl) rfl (by rw [jn_44]; rfl) (wk_jb (d := d) (c := g) (r := ck g) (x := 1) ht ⟨ws, e, hlen, V⟩ (by omega) (Nat.le_trans (jwt_len w) hw) (ck_op (by omega))) (fun v1 h9 R => ?_)
        obtain ⟨rfl, V⟩ := R
        show wl_R _ _ 41 57 [some (.ref 93), some (wp_i g), some (wp_i a), some (wp_i (ck g))] [] h9 _
        refine wl_goto (t := 263) ji_41_57 rfl ?_
        refine wl_rv ji_41_263 jr_41 ⟨rfl, ?_⟩
        rw [show c_sg law g st w ls as_ = .inr (1, g :: jwt (ck g) w, ls, as_) from if_pos (by omega)]
        rw [show e_sg law g st w ls as_ = jE (ck g) w from if_pos (by omega)]
        exact V
theorem wk_sg {nn d : Nat} {h0 h : mj_H} {bl : List Value} {fr : TD} {t : Nat} {w : List Int} {L k v s p f q law st ls as_ cl : Int} (ht : 12 ≤ t ∧ t ≤ 33) (V : kH h0 h bl t L k v s p f q law st w ls as_ cl fr) (hw : w.length ≤ 39) (hst : 0 ≤ st ∧ st ≤ 5) (hlaw : 0 ≤ law ∧ law ≤ 2) (hkv : wp_r k ∧ wp_r v ∧ (k = 0 → -1 ≤ v ∧ v ≤ 30)) (has : as_ = 0 ∨ as_ = 1) (hls : 0 ≤ ls ∧ ls ≤ 100) (hcl : cok w) : wl_R nn (d + 3) 41 0 [some (.ref 93), none, none, none] [] h (fun v1 h1 => v1 = none ∧ kWQ h0 h1 bl t L k v s p f q law cl fr (e_sg law (sh k v) st w ls as_) (c_sg law (sh k v) st w ls as_)) := by
  obtain ⟨ws, e, hlen, V⟩ := V
  have hop := opn_0 w
  have hbr := brn_0 w
  have hgr := sh_r (k := k) hkv.2.1
  obtain ⟨g, hg⟩ : ∃ g, sh k v = g := ⟨_, rfl⟩
  rw [hg] at hgr ⊢
  have hck := ck_r g
  refine wl_s (pc' := 1) ji_41_0 rfl rfl rfl ?_
  refine wl_vc (d := d + 2) (as := [.ref 93]) (rest := []) ji_41_1 jc_41_151 rfl (kl_93 V) jk_42.symm (Nat.le_of_ble_eq_true rfl) rfl (by rw [jn_42]; rfl) (wk_sh (d := d + 2) ht ⟨ws, e, hlen, V⟩ ⟨hkv.1, hkv.2.1⟩) (fun v1 h1 R => ?_)
  obtain ⟨ee, rfl⟩ := R
  subst ee
  rw [hg]
  show wl_R _ _ 41 4 [some (.ref 93), none, none, none] [wp_i g] h1 _
  refine wl_s (pc' := 5) (lv' := [some (.ref 93), some (wp_i g), none, none]) ji_41_4 rfl rfl rfl ?_
  refine wl_s (pc' := 6) ji_41_5 rfl rfl rfl ?_
  refine kl_g V ji_41_6 jf_41_22 rfl ?_
  refine wl_s (pc' := 10) ji_41_9 rfl rfl rfl ?_
  refine wl_icmp (t := 24) ji_41_10 rfl (by omega) (by omega) (fun (hb1 : ¬ (law : Int) = 2) => ?_) (fun (hb1 : ¬ (¬ (law : Int) = 2)) => ?_)
  · refine wl_s (pc' := 25) ji_41_24 rfl rfl rfl ?_
    refine wl_s (pc' := 26) (lv' := [some (.ref 93), some (wp_i g), some (wp_i 0), none]) ji_41_25 rfl rfl rfl ?_
    refine wl_s (pc' := 27) ji_41_26 rfl rfl rfl ?_
    refine wl_sc (d := d + 2) (as := [wp_i g]) (rest := []) ji_41_27 jc_41_155 (Nat.le_of_ble_eq_true rfl) rfl (Nat.le_of_ble_eq_true rfl) rfl (by rw [jn_43]; rfl) (wc_rank (c := g) (by omega)) (fun v1 h1 R => ?_)
    obtain ⟨ee, rfl⟩ := R
    subst ee
    show wl_R _ _ 41 30 [some (.ref 93), some (wp_i g), some (wp_i 0), none] [wp_i (ck g)] h1 _
    refine wl_s (pc' := 31) (lv' := [some (.ref 93), some (wp_i g), some (wp_i 0), some (wp_i (ck g))]) ji_41_30 rfl rfl rfl ?_
    exact wk_s31 (a := 0) ht ⟨ws, e, hlen, V⟩ hw hst hlaw hkv has hls hcl hgr (by omega)
  · refine wl_s (pc' := 14) ji_41_13 rfl rfl rfl ?_
    refine kl_g V ji_41_14 jf_41_38 rfl ?_
    refine wl_if (t := 24) ji_41_17 rfl (by omega) (fun (hb2 : ¬ (brn w : Int) = 0) => ?_) (fun (hb2 : ¬ (¬ (brn w : Int) = 0)) => ?_)
    · refine wl_s (pc' := 25) ji_41_24 rfl rfl rfl ?_
      refine wl_s (pc' := 26) (lv' := [some (.ref 93), some (wp_i g), some (wp_i 0), none]) ji_41_25 rfl rfl rfl ?_
      refine wl_s (pc' := 27) ji_41_26 rfl rfl rfl ?_
      refine wl_sc (d := d + 2) (as := [wp_i g]) (rest := []) ji_41_27 jc_41_155 (Nat.le_of_ble_eq_true rfl) rfl (Nat.le_of_ble_eq_true rfl) rfl (by rw [jn_43]; rfl) (wc_rank (c := g) (by omega)) (fun v1 h1 R => ?_)
      obtain ⟨ee, rfl⟩ := R
      subst ee
      show wl_R _ _ 41 30 [some (.ref 93), some (wp_i g), some (wp_i 0), none] [wp_i (ck g)] h1 _
      refine wl_s (pc' := 31) (lv' := [some (.ref 93), some (wp_i g), some (wp_i 0), some (wp_i (ck g))]) ji_41_30 rfl rfl rfl ?_
      exact wk_s31 (a := 0) ht ⟨ws, e, hlen, V⟩ hw hst hlaw hkv has hls hcl hgr (by omega)
    · refine wl_s (pc' := 21) ji_41_20 rfl rfl rfl ?_
      refine wl_goto (t := 25) ji_41_21 rfl ?_
      refine wl_s (pc' := 26) (lv' := [some (.ref 93), some (wp_i g), some (wp_i 1), none]) ji_41_25 rfl rfl rfl ?_
      refine wl_s (pc' := 27) ji_41_26 rfl rfl rfl ?_
      refine wl_sc (d := d + 2) (as := [wp_i g]) (rest := []) ji_41_27 jc_41_155 (Nat.le_of_ble_eq_true rfl) rfl (Nat.le_of_ble_eq_true rfl) rfl (by rw [jn_43]; rfl) (wc_rank (c := g) (by omega)) (fun v1 h1 R => ?_)
      obtain ⟨ee, rfl⟩ := R
      subst ee
      show wl_R _ _ 41 30 [some (.ref 93), some (wp_i g), some (wp_i 1), none] [wp_i (ck g)] h1 _
      refine wl_s (pc' := 31) (lv' := [some (.ref 93), some (wp_i g), some (wp_i 1), some (wp_i (ck g))]) ji_41_30 rfl rfl rfl ?_
      exact wk_s31 (a := 1) ht ⟨ws, e, hlen, V⟩ hw hst hlaw hkv has hls hcl hgr (by omega)

