/-! -/
/-! the class's reader with what it writes: laws, deeds, clauses; laid by program (wp_u91.py) -/
/-- a law from p on, with so much waiting: what is written (E), the fault (0: none), the token's place, the place behind it -/
def lre (B : Int → Int) (law : Int) : Nat → Int → Int → List Int → Int → Int → List Int → Int → Int → Int → Prop
  | 0, _, _, _, _, _, _, _, _, _ => False
  | m + 1, p, st, w, ls, as_, E, f, q, r => ∃ k v q1 r1, tok B p k v q1 r1 ∧ match cstep law k v st w ls as_ with
    | .inl n => f = n ∧ q = q1 ∧ r = r1
    | .inr (st2, w2, l2, a2) => (st2 = 5 ∧ f = 0 ∧ q = q1 ∧ r = r1 ∧ E = estep law k v st w ls as_) ∨ (¬ st2 = 5 ∧ ∃ E2, E = estep law k v st w ls as_ ++ E2 ∧ lre B law m r1 st2 w2 l2 a2 E2 f q r)
/-- what must come, with the numbers -/
def xre (B : Int → Int) : List (Int × Int × Int) → Int → Int → List Int → Int → Int → Int → Prop
  | [], p, q0, N, f, q, r => f = 0 ∧ q = q0 ∧ r = p ∧ N = []
  | (c, a, b) :: l, p, _, N, f, q, r => ∃ k v q1 r1, tok B p k v q1 r1 ∧ ((¬ xe c a b k v = 0 ∧ f = xe c a b k v ∧ q = q1 ∧ r = r1) ∨ (xe c a b k v = 0 ∧ ∃ N2, N = (if c = 0 then v :: N2 else N2) ∧ xre B l r1 q1 N2 f q r))
/-- a law begins, ends; a clause -/
def bgL (F : TD) (x : Int) : TD := (F.1, (F.2.1.1.set x.toNat (wp_i F.1.1), F.2.1.2.set x.toNat (wp_i F.1.1)), F.2.2)
def edL (F : TD) (x : Int) : TD := (F.1, (F.2.1.1, F.2.1.2.set x.toNat (wp_i F.1.1)), F.2.2)
def adL (F : TD) (cl a b c : Int) : TD := (F.1, F.2.1, (F.2.2.1.set cl.toNat (wp_i a), F.2.2.2.1.set cl.toNat (wp_i b), F.2.2.2.2.set cl.toNat (wp_i c)))
/-- a clause: kind, first, second; a law's code -/
abbrev KC : Type := (Int × Int × Int) × List Int
def apK (F : TD) (cl : Int) (C : KC) : TD := if C.1.1 < 3 then adL (edL (wrs (bgL F C.1.1) C.2) C.1.1) cl C.1.1 0 0 else adL F cl C.1.1 C.1.2.1 C.1.2.2
def apKs : TD → Int → List KC → TD
  | F, _, [] => F
  | F, cl, C :: l => apKs (apK F cl C) (cl + 1) l
theorem kl_adv {h0 h h1 : mj_H} {bl ws : List Value} {fr : TD} {t : Nat} {L k v s p f q law st wn op br ls as_ cl k' v' s' p' : Int} (ht : 12 ≤ t ∧ t ≤ 33) (V : kL h0 h bl t L k v s p f q law st wn op br ls as_ cl ws fr) (T : cT h h1 bl L k' v' s' p') : kL h0 h1 bl t L k' v' s' p' f q law st wn op br ls as_ cl ws fr := by
  obtain ⟨e1, e2, e3, ⟨e4, e5⟩, e6, e7⟩ := V
  obtain ⟨f1, f2, f3⟩ := T
  exact ⟨f1, f2, (f3 93 (by decide)).trans e3, ⟨(f3 94 (by decide)).trans e4, e5⟩, tX_fr e6 (fun a a1 a2 => f3 a (by omega)), fun a a1 a2 a3 a4 => (f3 a a2).trans (e7 a a1 a2 a3 a4)⟩
theorem kl_T {h0 h : mj_H} {bl ws : List Value} {fr : TD} {t : Nat} {L k v s p f q law st wn op br ls as_ cl : Int} (V : kL h0 h bl t L k v s p f q law st wn op br ls as_ cl ws fr) : cT h h bl L k v s p := ⟨V.1, V.2.1, fun _ _ => rfl⟩
theorem wk_law {d : Nat} {h0 : mj_H} {bl : List Value} {t : Nat} {L q law cl x : Int} (D : tB bl) (hL : 0 ≤ L ∧ L ≤ 300) (H8 : h0[8]? = some (900, tk_V)) (ht : 12 ≤ t ∧ t ≤ 33) (hlaw : 0 ≤ law ∧ law ≤ 2) {Q : Option Value → mj_H → Prop} : ∀ (n : Nat) (h : mj_H) (fr : TD) (i k v s p st : Int) (w : List Int) (ls as_ : Int), cI law st w ls as_ → kH h0 h bl t L k v s p 0 q law st w ls as_ cl fr → ¬ st = 5 → (0 ≤ i ∧ i + 1 ≤ p ∧ p ≤ L) → (∀ (h : mj_H) (i k' v' q' r' f' st' : Int) (w' : List Int) (ls' as' : Int) (m : Nat) (E : List Int) (fr' : TD), lre (bt bl L) law m p st w ls as_ E f' q' r' → (0 ≤ q' ∧ p ≤ q' ∧ q' ≤ r' ∧ r' ≤ L) → (f' = 0 → 0 ≤ ls' ∧ ls' ≤ 6) → (f' = 0 → fr' = wrs fr E) → kH h0 h bl t L k' v' q' r' f' (if f' = 0 then q else q') law st' w' ls' as' cl fr' → wl_R n (d + 4) 33 131 [some (.ref 93), some (wp_i x), some (wp_i i)] [] h Q) → wl_R n (d + 4) 33 55 [some (.ref 93), some (wp_i x), some (wp_i i)] [] h Q := by
  intro n
  induction n with
  | zero => intro h fr i k v s p st w ls as_ I V h5 hi hQ; exact wl_0
  | succ n ih =>
    intro h fr i k v s p st w ls as_ I V h5 hi hQ
    have hI := I
    obtain ⟨i1, i2, i3, i4, i5, i6, i7⟩ := I
    obtain ⟨ws, e, hlen, V⟩ := V
    refine wl_s1 (pc' := 56) ji_33_55 rfl rfl rfl ?_
    refine wl_sp ji_33_56 rfl ?_
    refine wl_icmp (t := 131) ji_33_59 rfl (by omega) (by omega) (fun (c : (300 : Int) < i) => (by exfalso; omega)) (fun _ => ?_)
    refine wl_s (pc' := 63) ji_33_62 rfl rfl rfl ?_
    refine kl_g V ji_33_63 jf_33_15 rfl ?_
    refine wl_if (t := 131) ji_33_66 rfl (x := 0) (by omega) (fun (c : ¬ ((0 : Int) = 0)) => absurd rfl c) (fun _ => ?_)
    refine wl_s (pc' := 70) ji_33_69 rfl rfl rfl ?_
    refine kl_g V ji_33_70 jf_33_25 rfl ?_
    refine wl_s (pc' := 74) ji_33_73 rfl rfl rfl ?_
    refine wl_icmp (t := 131) ji_33_74 rfl (by omega) (by omega) (fun (c : st = 5) => absurd c h5) (fun _ => ?_)
    refine wl_s (pc' := 78) ji_33_77 rfl rfl rfl ?_
    refine kl_g V ji_33_78 jf_33_47 rfl ?_
    refine wl_vc (d := d + 3) (as := [.ref 91]) (rest := []) ji_33_81 jc_33_65 rfl V.1 jk_23.symm (Nat.le_of_ble_eq_true rfl) rfl (by rw [jn_23]; rfl) (wc_adv (d := d + 1) D hL ((V.2.2.2.2.2 8 (by omega) (by decide) (by decide) (by decide)).trans H8) (kl_T V) (by omega)) (fun v1 h1 R => ?_)
    obtain ⟨rfl, k1, v1, q1, r1, T, tk, hqr⟩ := R
    show wl_R n (d + 4) 33 84 [some (.ref 93), some (wp_i x), some (wp_i i)] [] h1 Q
    have V := kl_adv ht V T
    have hta := tok_adv tk
    have htr := tok_r (fun j hj => bt_r D hL.2 hj) (by omega) tk
    have h29 := shp_39 i1 i2
    have hcl := shp_cok i1
    have hkv : wp_r k1 ∧ wp_r v1 ∧ (k1 = 0 → -1 ≤ v1 ∧ v1 ≤ 30) := ⟨by omega, by omega, htr.2.2⟩
    have fin : ∀ (h2 : mj_H), kWQ h0 h2 bl t L k1 v1 q1 r1 0 q law cl fr (estep law k1 v1 st w ls as_) (cstep law k1 v1 st w ls as_) → wl_R n (d + 4) 33 125 [some (.ref 93), some (wp_i x), some (wp_i i)] [] h2 Q := by
      intro h2 C
      refine wl_iinc (x := i) (z := i + 1) (lv' := [some (.ref 93), some (wp_i x), some (wp_i (i + 1))]) ji_33_125 rfl (Nat.le_of_ble_eq_true rfl) (by omega) rfl ?_
      refine wl_goto (t := 55) ji_33_128 rfl ?_
      cases hc : cstep law k1 v1 st w ls as_ with
      | inl f1 =>
        rw [hc] at C
        have hf := cstep_f hc
        obtain ⟨st2, w2, ls2, as2, fr2, C⟩ := C
        have lrn : lre (bt bl L) law 1 p st w ls as_ [] f1 q1 r1 := ⟨k1, v1, q1, r1, tk, by rw [hc]; exact ⟨rfl, rfl, rfl⟩⟩
        have hK := hQ h2 (i + 1) k1 v1 q1 r1 f1 st2 w2 ls2 as2 1 [] fr2 lrn (by omega) (fun z => by omega) (fun z => by omega) (by rw [if_neg (by omega)]; exact C)
        obtain ⟨ws2, e2, hlen2, C⟩ := C
        refine wl_s (pc' := 56) ji_33_55 rfl rfl rfl ?_
        refine wl_sp ji_33_56 rfl ?_
        refine wl_icmp (t := 131) ji_33_59 rfl (by omega) (by omega) (fun (c : (300 : Int) < i + 1) => (by exfalso; omega)) (fun _ => ?_)
        refine wl_s (pc' := 63) ji_33_62 rfl rfl rfl ?_
        refine kl_g C ji_33_63 jf_33_15 rfl ?_
        refine wl_if (t := 131) ji_33_66 rfl (x := f1) (by omega) (fun _ => wl_dn (Nat.le_succ n) hK) (fun (c : ¬ ¬ f1 = 0) => (by exfalso; omega))
      | inr r2 =>
        obtain ⟨st2, w2, ls2, as2⟩ := r2
        rw [hc] at C
        have C : kH h0 h2 bl t L k1 v1 q1 r1 0 q law st2 w2 ls2 as2 cl (wrs fr (estep law k1 v1 st w ls as_)) := C
        have I2 := cI_step hI hc
        have hk3 : ¬ k1 = 3 := fun e => by subst e; rw [cstep_3] at hc; cases hc
        by_cases h25 : st2 = 5
        · have lrn : lre (bt bl L) law 1 p st w ls as_ (estep law k1 v1 st w ls as_) 0 q1 r1 := ⟨k1, v1, q1, r1, tk, by rw [hc]; exact Or.inl ⟨h25, rfl, rfl, rfl, rfl⟩⟩
          have hK := hQ h2 (i + 1) k1 v1 q1 r1 0 st2 w2 ls2 as2 1 (estep law k1 v1 st w ls as_) _ lrn (by omega) (fun _ => I2.2.2.2.2.1) (fun _ => rfl) (by rw [if_pos rfl]; exact C)
          obtain ⟨ws2, e2, hlen2, C⟩ := C
          refine wl_s (pc' := 56) ji_33_55 rfl rfl rfl ?_
          refine wl_sp ji_33_56 rfl ?_
          refine wl_icmp (t := 131) ji_33_59 rfl (by omega) (by omega) (fun (c : (300 : Int) < i + 1) => (by exfalso; omega)) (fun _ => ?_)
          refine wl_s (pc' := 63) ji_33_62 rfl rfl rfl ?_
          refine kl_g C ji_33_63 jf_33_15 rfl ?_
          refine wl_if (t := 131) ji_33_66 rfl (x := 0) (by omega) (fun (c : ¬ ((0 : Int) = 0)) => absurd rfl c) (fun _ => ?_)
          refine wl_s (pc' := 70) ji_33_69 rfl rfl rfl ?_
          refine kl_g C ji_33_70 jf_33_25 rfl ?_
          refine wl_s (pc' := 74) ji_33_73 rfl rfl rfl ?_
          exact wl_icmp (t := 131) ji_33_74 rfl (x := st2) (y := 5) (by omega) (by omega) (fun _ => wl_dn (Nat.le_succ n) hK) (fun (c : ¬ st2 = 5) => absurd h25 c)
        · refine ih h2 (wrs fr (estep law k1 v1 st w ls as_)) (i + 1) k1 v1 q1 r1 st2 w2 ls2 as2 I2 C h25 (by have := hta.2.2 hk3; omega) (fun h3 i3 k3 v3 q3 r3 f3 st3 w3 ls3 as3 m E3 fr3 lrn hq3 hl3 hf3 C3 => ?_)
          exact wl_dn (Nat.le_succ n) (hQ h3 i3 k3 v3 q3 r3 f3 st3 w3 ls3 as3 (m + 1) (estep law k1 v1 st w ls as_ ++ E3) fr3 ⟨k1, v1, q1, r1, tk, by rw [hc]; exact Or.inr ⟨h25, E3, rfl, lrn⟩⟩ (by omega) hl3 (fun z => by rw [hf3 z, wrs_app]) C3)
    refine wl_s (pc' := 85) ji_33_84 rfl rfl rfl ?_
    refine kl_g V ji_33_85 jf_33_25 rfl ?_
    have one : wl_R n (d + 4) 33 99 [some (.ref 93), some (wp_i x), some (wp_i i)] [] h1 Q ∨ ¬ (st = 0 ∨ st = 1) := by
      by_cases hs : st = 0 ∨ st = 1
      · refine Or.inl ?_
        refine wl_s (pc' := 100) ji_33_99 rfl rfl rfl ?_
        refine wl_vc (d := d + 3) (as := [.ref 93]) (rest := []) ji_33_100 jc_33_127 rfl (kl_93 V) jk_35.symm (Nat.le_of_ble_eq_true rfl) rfl (by rw [jn_35]; rfl) (wk_one (d := d) ht ⟨ws, e, hlen, V⟩ (by omega) i6 hlaw hkv) (fun v2 h2 R => ?_)
        obtain ⟨rfl, C⟩ := R
        refine wl_goto (t := 125) ji_33_103 rfl ?_
        refine fin h2 ?_
        rw [show cstep law k1 v1 st w ls as_ = c_one law k1 v1 st w ls as_ from if_pos hs, show estep law k1 v1 st w ls as_ = e_one k1 v1 st from if_pos hs]
        exact C
      · exact Or.inr hs
    refine wl_if (t := 99) ji_33_88 rfl (x := st) (by omega) (fun (c : st = 0) => one.elim id (fun z => absurd (Or.inl c) z)) (fun (c : ¬ st = 0) => ?_)
    refine wl_s (pc' := 92) ji_33_91 rfl rfl rfl ?_
    refine kl_g V ji_33_92 jf_33_25 rfl ?_
    refine wl_s (pc' := 96) ji_33_95 rfl rfl rfl ?_
    refine wl_icmp (t := 106) ji_33_96 rfl (x := st) (y := 1) (by omega) (by omega) (fun (c2 : ¬ st = 1) => ?_) (fun (c2 : ¬ ¬ st = 1) => one.elim id (fun z => absurd (Or.inr (by omega)) z))
    refine wl_s (pc' := 107) ji_33_106 rfl rfl rfl ?_
    refine kl_g V ji_33_107 jf_33_25 rfl ?_
    refine wl_s (pc' := 111) ji_33_110 rfl rfl rfl ?_
    refine wl_icmp (t := 121) ji_33_111 rfl (x := st) (y := 3) (by omega) (by omega) (fun (c3 : ¬ st = 3) => ?_) (fun (c3 : ¬ ¬ st = 3) => ?_)
    · refine wl_s (pc' := 122) ji_33_121 rfl rfl rfl ?_
      refine wl_vc (d := d + 3) (as := [.ref 93]) (rest := []) ji_33_122 jc_33_133 rfl (kl_93 V) jk_41.symm (Nat.le_of_ble_eq_true rfl) rfl (by rw [jn_41]; rfl) (wk_sg (d := d) ht ⟨ws, e, hlen, V⟩ (by omega) i6 hlaw hkv i3 (by omega) hcl) (fun v2 h2 R => ?_)
      obtain ⟨rfl, C⟩ := R
      refine fin h2 ?_
      rw [show cstep law k1 v1 st w ls as_ = c_sg law (sh k1 v1) st w ls as_ from (if_neg (by omega)).trans (if_neg c3), show estep law k1 v1 st w ls as_ = e_sg law (sh k1 v1) st w ls as_ from (if_neg (by omega)).trans (if_neg c3)]
      exact C
    · refine wl_s (pc' := 115) ji_33_114 rfl rfl rfl ?_
      refine wl_vc (d := d + 3) (as := [.ref 93]) (rest := []) ji_33_115 jc_33_130 rfl (kl_93 V) jk_40.symm (Nat.le_of_ble_eq_true rfl) rfl (by rw [jn_40]; rfl) (wk_bk (d := d + 1) ht ⟨ws, e, hlen, V⟩ (by omega) i6 hlaw hkv) (fun v2 h2 R => ?_)
      obtain ⟨rfl, C⟩ := R
      refine wl_goto (t := 125) ji_33_118 rfl ?_
      refine fin h2 ?_
      rw [show cstep law k1 v1 st w ls as_ = c_bk k1 v1 w as_ from (if_neg (by omega)).trans (if_pos (by omega)), show estep law k1 v1 st w ls as_ = [] from (if_neg (by omega)).trans (if_pos (by omega))]
      exact C

section WKX
variable {nn d m pc : Nat} {lv : mj_L} {st0 : List Value} {h h0 : mj_H} {Q : Option Value → mj_H → Prop} {bl ws : List Value} {fr : TD} {t : Nat} {L k v s p f q law st wn op br ls as_ cl : Int}
theorem ktg_r {x kk j : Nat} {ty : FieldType} {w : Bool} (V : kL h0 h bl t L k v s p f q law st wn op br ls as_ cl ws fr) (hi : mj_ins m pc = some (.getfield x)) (hf : mj_fld m x = some (1, kk, ty, w)) (hj : ∀ sz : Int, [Value.ref (t + 1), wp_i sz, Value.ref (t + 2), Value.ref (t + 3), Value.ref (t + 4), Value.ref (t + 5), Value.ref (t + 6), wp_i cl, Value.ref 10][kk]? = some (.ref (t + j))) (hr : wl_R nn d m (pc + 3) lv (.ref (t + j) :: st0) h Q) : wl_R nn d m pc lv (.ref t :: st0) h Q := wl_gf hi hf V.2.2.2.2.1.1 (hj fr.1.1) hr
theorem ktg_z {x : Nat} {ty : FieldType} {w : Bool} (V : kL h0 h bl t L k v s p f q law st wn op br ls as_ cl ws fr) (hi : mj_ins m pc = some (.getfield x)) (hf : mj_fld m x = some (1, 1, ty, w)) (hr : wl_R nn d m (pc + 3) lv (wp_i fr.1.1 :: st0) h Q) : wl_R nn d m pc lv (.ref t :: st0) h Q := wl_gf hi hf V.2.2.2.2.1.1 rfl hr
theorem ktg_c {x : Nat} {ty : FieldType} {w : Bool} (V : kL h0 h bl t L k v s p f q law st wn op br ls as_ cl ws fr) (hi : mj_ins m pc = some (.getfield x)) (hf : mj_fld m x = some (1, 7, ty, w)) (hr : wl_R nn d m (pc + 3) lv (wp_i cl :: st0) h Q) : wl_R nn d m pc lv (.ref t :: st0) h Q := wl_gf hi hf V.2.2.2.2.1.1 rfl hr
theorem ktp_c {x : Nat} {y : Int} (ht : 12 ≤ t ∧ t ≤ 33) (V : kL h0 h bl t L k v s p f q law st wn op br ls as_ cl ws fr) (hi : mj_ins m pc = some (.putfield x)) (hf : mj_fld m x = some (1, 7, .int, true)) (hr : ∀ h, kL h0 h bl t L k v s p f q law st wn op br ls as_ y ws fr → wl_R nn d m (pc + 3) lv st0 h Q) : wl_R nn d m pc lv (wp_i y :: .ref t :: st0) h Q := by
  obtain ⟨x0, xz, x1, x2, x3, x4, x5, x6⟩ := V.2.2.2.2.1
  exact wl_pf hi hf x0 (Nat.le_trans (by decide) ht.1) (Nat.le_of_ble_eq_true rfl) rfl rfl (hr _ (kl_tx (b := t) ht (by omega) V ⟨List.getElem?_set_self (fd_lt x0), xz, (by rw [List.getElem?_set_ne (by omega)]; exact x1), (by rw [List.getElem?_set_ne (by omega)]; exact x2), (by rw [List.getElem?_set_ne (by omega)]; exact x3), (by rw [List.getElem?_set_ne (by omega)]; exact x4), (by rw [List.getElem?_set_ne (by omega)]; exact x5), (by rw [List.getElem?_set_ne (by omega)]; exact x6)⟩))
theorem kts_2 {x y : Int} (ht : 12 ≤ t ∧ t ≤ 33) (V : kL h0 h bl t L k v s p f q law st wn op br ls as_ cl ws fr) (hx : wp_r x) (hi : mj_ins m pc = some .iastore) (hr : ∀ h, kL h0 h bl t L k v s p f q law st wn op br ls as_ cl ws (fr.1, (fr.2.1.1.set x.toNat (wp_i y), fr.2.1.2), fr.2.2) → wl_R nn d m (pc + 1) lv st0 h Q) : wl_R nn d m pc lv (wp_i y :: wp_i x :: .ref (t + 2) :: st0) h Q := by
  obtain ⟨x0, xz, x1, x2, x3, x4, x5, x6⟩ := V.2.2.2.2.1
  exact wl_as hi x2 hx (fun y1 y2 => hr _ (kl_tx (b := t + 2) ht (by omega) V (fr2 := (fr.1, (fr.2.1.1.set x.toNat (wp_i y), fr.2.1.2), fr.2.2)) ⟨(by rw [List.getElem?_set_ne (by omega)]; exact x0), xz, (by rw [List.getElem?_set_ne (by omega)]; exact x1), List.getElem?_set_self (fd_lt x2), (by rw [List.getElem?_set_ne (by omega)]; exact x3), (by rw [List.getElem?_set_ne (by omega)]; exact x4), (by rw [List.getElem?_set_ne (by omega)]; exact x5), (by rw [List.getElem?_set_ne (by omega)]; exact x6)⟩))
theorem kts_3 {x y : Int} (ht : 12 ≤ t ∧ t ≤ 33) (V : kL h0 h bl t L k v s p f q law st wn op br ls as_ cl ws fr) (hx : wp_r x) (hi : mj_ins m pc = some .iastore) (hr : ∀ h, kL h0 h bl t L k v s p f q law st wn op br ls as_ cl ws (fr.1, (fr.2.1.1, fr.2.1.2.set x.toNat (wp_i y)), fr.2.2) → wl_R nn d m (pc + 1) lv st0 h Q) : wl_R nn d m pc lv (wp_i y :: wp_i x :: .ref (t + 3) :: st0) h Q := by
  obtain ⟨x0, xz, x1, x2, x3, x4, x5, x6⟩ := V.2.2.2.2.1
  exact wl_as hi x3 hx (fun y1 y2 => hr _ (kl_tx (b := t + 3) ht (by omega) V (fr2 := (fr.1, (fr.2.1.1, fr.2.1.2.set x.toNat (wp_i y)), fr.2.2)) ⟨(by rw [List.getElem?_set_ne (by omega)]; exact x0), xz, (by rw [List.getElem?_set_ne (by omega)]; exact x1), (by rw [List.getElem?_set_ne (by omega)]; exact x2), List.getElem?_set_self (fd_lt x3), (by rw [List.getElem?_set_ne (by omega)]; exact x4), (by rw [List.getElem?_set_ne (by omega)]; exact x5), (by rw [List.getElem?_set_ne (by omega)]; exact x6)⟩))
theorem kts_4 {x y : Int} (ht : 12 ≤ t ∧ t ≤ 33) (V : kL h0 h bl t L k v s p f q law st wn op br ls as_ cl ws fr) (hx : wp_r x) (hi : mj_ins m pc = some .iastore) (hr : ∀ h, kL h0 h bl t L k v s p f q law st wn op br ls as_ cl ws (fr.1, fr.2.1, (fr.2.2.1.set x.toNat (wp_i y), fr.2.2.2.1, fr.2.2.2.2)) → wl_R nn d m (pc + 1) lv st0 h Q) : wl_R nn d m pc lv (wp_i y :: wp_i x :: .ref (t + 4) :: st0) h Q := by
  obtain ⟨x0, xz, x1, x2, x3, x4, x5, x6⟩ := V.2.2.2.2.1
  exact wl_as hi x4 hx (fun y1 y2 => hr _ (kl_tx (b := t + 4) ht (by omega) V (fr2 := (fr.1, fr.2.1, (fr.2.2.1.set x.toNat (wp_i y), fr.2.2.2.1, fr.2.2.2.2))) ⟨(by rw [List.getElem?_set_ne (by omega)]; exact x0), xz, (by rw [List.getElem?_set_ne (by omega)]; exact x1), (by rw [List.getElem?_set_ne (by omega)]; exact x2), (by rw [List.getElem?_set_ne (by omega)]; exact x3), List.getElem?_set_self (fd_lt x4), (by rw [List.getElem?_set_ne (by omega)]; exact x5), (by rw [List.getElem?_set_ne (by omega)]; exact x6)⟩))
theorem kts_5 {x y : Int} (ht : 12 ≤ t ∧ t ≤ 33) (V : kL h0 h bl t L k v s p f q law st wn op br ls as_ cl ws fr) (hx : wp_r x) (hi : mj_ins m pc = some .iastore) (hr : ∀ h, kL h0 h bl t L k v s p f q law st wn op br ls as_ cl ws (fr.1, fr.2.1, (fr.2.2.1, fr.2.2.2.1.set x.toNat (wp_i y), fr.2.2.2.2)) → wl_R nn d m (pc + 1) lv st0 h Q) : wl_R nn d m pc lv (wp_i y :: wp_i x :: .ref (t + 5) :: st0) h Q := by
  obtain ⟨x0, xz, x1, x2, x3, x4, x5, x6⟩ := V.2.2.2.2.1
  exact wl_as hi x5 hx (fun y1 y2 => hr _ (kl_tx (b := t + 5) ht (by omega) V (fr2 := (fr.1, fr.2.1, (fr.2.2.1, fr.2.2.2.1.set x.toNat (wp_i y), fr.2.2.2.2))) ⟨(by rw [List.getElem?_set_ne (by omega)]; exact x0), xz, (by rw [List.getElem?_set_ne (by omega)]; exact x1), (by rw [List.getElem?_set_ne (by omega)]; exact x2), (by rw [List.getElem?_set_ne (by omega)]; exact x3), (by rw [List.getElem?_set_ne (by omega)]; exact x4), List.getElem?_set_self (fd_lt x5), (by rw [List.getElem?_set_ne (by omega)]; exact x6)⟩))
theorem kts_6 {x y : Int} (ht : 12 ≤ t ∧ t ≤ 33) (V : kL h0 h bl t L k v s p f q law st wn op br ls as_ cl ws fr) (hx : wp_r x) (hi : mj_ins m pc = some .iastore) (hr : ∀ h, kL h0 h bl t L k v s p f q law st wn op br ls as_ cl ws (fr.1, fr.2.1, (fr.2.2.1, fr.2.2.2.1, fr.2.2.2.2.set x.toNat (wp_i y))) → wl_R nn d m (pc + 1) lv st0 h Q) : wl_R nn d m pc lv (wp_i y :: wp_i x :: .ref (t + 6) :: st0) h Q := by
  obtain ⟨x0, xz, x1, x2, x3, x4, x5, x6⟩ := V.2.2.2.2.1
  exact wl_as hi x6 hx (fun y1 y2 => hr _ (kl_tx (b := t + 6) ht (by omega) V (fr2 := (fr.1, fr.2.1, (fr.2.2.1, fr.2.2.2.1, fr.2.2.2.2.set x.toNat (wp_i y)))) ⟨(by rw [List.getElem?_set_ne (by omega)]; exact x0), xz, (by rw [List.getElem?_set_ne (by omega)]; exact x1), (by rw [List.getElem?_set_ne (by omega)]; exact x2), (by rw [List.getElem?_set_ne (by omega)]; exact x3), (by rw [List.getElem?_set_ne (by omega)]; exact x4), (by rw [List.getElem?_set_ne (by omega)]; exact x5), List.getElem?_set_self (fd_lt x6)⟩))
end WKX
theorem wk_bl {nn d : Nat} {x : Int} {h0 h : mj_H} {bl ws : List Value} {fr : TD} {t : Nat} {L k v s p f q law st wn op br ls as_ cl : Int} (ht : 12 ≤ t ∧ t ≤ 33) (V : kL h0 h bl t L k v s p f q law st wn op br ls as_ cl ws fr) (hx : 0 ≤ x ∧ x ≤ 2) : wl_R nn d 34 0 [some (.ref t), some (wp_i x)] [] h (fun w h1 => w = none ∧ kL h0 h1 bl t L k v s p f q law st wn op br ls as_ cl ws (bgL fr x)) := by
  refine wl_s (pc' := 1) ji_34_0 rfl rfl rfl ?_
  refine ktg_r (j := 2) V ji_34_1 jf_34_21 (fun _ => rfl) ?_
  refine wl_s (pc' := 5) ji_34_4 rfl rfl rfl ?_
  refine wl_s (pc' := 6) ji_34_5 rfl rfl rfl ?_
  have hsz := V.2.2.2.2.1.2.1
  refine ktg_z V ji_34_6 jf_34_17 ?_
  refine kts_2 (x := x) (y := fr.1.1) ht V (by omega) ji_34_9 (fun h V => ?_)
  refine wl_s (pc' := 11) ji_34_10 rfl rfl rfl ?_
  refine ktg_r (j := 3) V ji_34_11 jf_34_24 (fun _ => rfl) ?_
  refine wl_s (pc' := 15) ji_34_14 rfl rfl rfl ?_
  refine wl_s (pc' := 16) ji_34_15 rfl rfl rfl ?_
  have hsz := V.2.2.2.2.1.2.1
  refine ktg_z V ji_34_16 jf_34_17 ?_
  refine kts_3 (x := x) (y := fr.1.1) ht V (by omega) ji_34_19 (fun h V => ?_)
  exact wl_rv ji_34_20 jr_34 ⟨rfl, V⟩
theorem wk_el {nn d : Nat} {x : Int} {h0 h : mj_H} {bl ws : List Value} {fr : TD} {t : Nat} {L k v s p f q law st wn op br ls as_ cl : Int} (ht : 12 ≤ t ∧ t ≤ 33) (V : kL h0 h bl t L k v s p f q law st wn op br ls as_ cl ws fr) (hx : 0 ≤ x ∧ x ≤ 2) : wl_R nn d 49 0 [some (.ref t), some (wp_i x)] [] h (fun w h1 => w = none ∧ kL h0 h1 bl t L k v s p f q law st wn op br ls as_ cl ws (edL fr x)) := by
  refine wl_s (pc' := 1) ji_49_0 rfl rfl rfl ?_
  refine ktg_r (j := 3) V ji_49_1 jf_49_24 (fun _ => rfl) ?_
  refine wl_s (pc' := 5) ji_49_4 rfl rfl rfl ?_
  refine wl_s (pc' := 6) ji_49_5 rfl rfl rfl ?_
  have hsz := V.2.2.2.2.1.2.1
  refine ktg_z V ji_49_6 jf_49_17 ?_
  refine kts_3 (x := x) (y := fr.1.1) ht V (by omega) ji_49_9 (fun h V => ?_)
  exact wl_rv ji_49_10 jr_49 ⟨rfl, V⟩
theorem wk_ac {nn d : Nat} {a b c : Int} {h0 h : mj_H} {bl ws : List Value} {fr : TD} {t : Nat} {L k v s p f q law st wn op br ls as_ cl : Int} (ht : 12 ≤ t ∧ t ≤ 33) (V : kL h0 h bl t L k v s p f q law st wn op br ls as_ cl ws fr) (hcl : 0 ≤ cl ∧ cl ≤ 23) : wl_R nn d 50 0 [some (.ref t), some (wp_i a), some (wp_i b), some (wp_i c)] [] h (fun w h1 => w = none ∧ kL h0 h1 bl t L k v s p f q law st wn op br ls as_ (cl + 1) ws (adL fr cl a b c)) := by
  refine wl_s (pc' := 1) ji_50_0 rfl rfl rfl ?_
  refine ktg_c V ji_50_1 jf_50_36 ?_
  refine wl_bp ji_50_4 rfl ?_
  refine wl_icmp (t := 49) ji_50_6 rfl (by omega) (by omega) (fun (hb1 : (24 : Int) ≤ cl) => (by exfalso; omega)) (fun (hb1 : ¬ ((24 : Int) ≤ cl)) => ?_)
  refine wl_s (pc' := 10) ji_50_9 rfl rfl rfl ?_
  refine ktg_r (j := 4) V ji_50_10 jf_50_27 (fun _ => rfl) ?_
  refine wl_s (pc' := 14) ji_50_13 rfl rfl rfl ?_
  refine ktg_c V ji_50_14 jf_50_36 ?_
  refine wl_s (pc' := 18) ji_50_17 rfl rfl rfl ?_
  refine kts_4 (x := cl) (y := a) ht V (by omega) ji_50_18 (fun h V => ?_)
  refine wl_s (pc' := 20) ji_50_19 rfl rfl rfl ?_
  refine ktg_r (j := 5) V ji_50_20 jf_50_30 (fun _ => rfl) ?_
  refine wl_s (pc' := 24) ji_50_23 rfl rfl rfl ?_
  refine ktg_c V ji_50_24 jf_50_36 ?_
  refine wl_s (pc' := 28) ji_50_27 rfl rfl rfl ?_
  refine kts_5 (x := cl) (y := b) ht V (by omega) ji_50_28 (fun h V => ?_)
  refine wl_s (pc' := 30) ji_50_29 rfl rfl rfl ?_
  refine ktg_r (j := 6) V ji_50_30 jf_50_33 (fun _ => rfl) ?_
  refine wl_s (pc' := 34) ji_50_33 rfl rfl rfl ?_
  refine ktg_c V ji_50_34 jf_50_36 ?_
  refine wl_s (pc' := 38) ji_50_37 rfl rfl rfl ?_
  refine kts_6 (x := cl) (y := c) ht V (by omega) ji_50_38 (fun h V => ?_)
  refine wl_s (pc' := 40) ji_50_39 rfl rfl rfl ?_
  refine wl_s (pc' := 41) ji_50_40 rfl rfl rfl ?_
  refine ktg_c V ji_50_41 jf_50_36 ?_
  refine wl_s (pc' := 45) ji_50_44 rfl rfl rfl ?_
  refine wl_iadd (x := cl) (y := 1) (z := cl + 1) ji_50_45 (by omega) ?_
  refine ktp_c (y := cl + 1) ht V ji_50_46 jf_50_36 (fun h V => ?_)
  exact wl_rv ji_50_49 jr_50 ⟨rfl, V⟩
theorem wk_hs {nn d : Nat} {x : Int} {h0 h : mj_H} {bl ws : List Value} {fr : TD} {t : Nat} {L k v s p f q law st wn op br ls as_ cl : Int} (ht : 12 ≤ t ∧ t ≤ 33) (V : kL h0 h bl t L k v s p f q law st wn op br ls as_ cl ws fr) (hx : 0 ≤ x ∧ x ≤ 2) (hfr : ∀ j, j < 3 → fr.2.1.1[j]? = some (wp_i (sx_el fr.2.1.1 j))) : wl_R nn d 32 0 [some (.ref t), some (wp_i x)] [] h (fun w h1 => h1 = h ∧ ∃ y : Int, w = some (wp_i y) ∧ (y = 0 ∨ y = 1) ∧ (y = 1 ↔ ¬ sx_el fr.2.1.1 x.toNat = -1)) := by
  have hel := el_r fr.2.1.1 x.toNat
  refine wl_s (pc' := 1) ji_32_0 rfl rfl rfl ?_
  refine ktg_r (j := 2) V ji_32_1 jf_32_21 (fun _ => rfl) ?_
  refine wl_s (pc' := 5) ji_32_4 rfl rfl rfl ?_
  obtain ⟨x0, xz, x1, x2, x3, x4, x5, x6⟩ := V.2.2.2.2.1
  refine wl_al ji_32_5 x2 (by omega) (fun y y1 y2 y3 => ?_)
  rw [hfr x.toNat (by omega)] at y3
  cases y3
  refine wl_s (pc' := 7) ji_32_6 rfl rfl rfl ?_
  refine wl_icmp (t := 14) ji_32_7 rfl (by omega) (by omega) (fun (hb1 : (sx_el fr.2.1.1 x.toNat : Int) = (-1)) => ?_) (fun (hb1 : ¬ ((sx_el fr.2.1.1 x.toNat : Int) = (-1))) => ?_)
  · refine wl_s (pc' := 15) ji_32_14 rfl rfl rfl ?_
    exact wl_ri ji_32_15 jr_32 rfl ⟨rfl, 0, rfl, by omega, by omega⟩
  · refine wl_s (pc' := 11) ji_32_10 rfl rfl rfl ?_
    refine wl_goto (t := 15) ji_32_11 rfl ?_
    exact wl_ri ji_32_15 jr_32 rfl ⟨rfl, 1, rfl, by omega, by omega⟩
theorem wk_rl {n d : Nat} {h0 h : mj_H} {bl ws : List Value} {fr : TD} {t : Nat} {L k v s p q law st wn op br ls as_ cl x : Int} (D : tB bl) (hL : 0 ≤ L ∧ L ≤ 300) (H8 : h0[8]? = some (900, tk_V)) (ht : 12 ≤ t ∧ t ≤ 33) (V : kL h0 h bl t L k v s p 0 q law st wn op br ls as_ cl ws fr) (hx : 0 ≤ x ∧ x ≤ 2) (hls : 0 ≤ ls ∧ ls ≤ 6) (hp : 1 ≤ p ∧ p ≤ L) (hcl : 0 ≤ cl ∧ cl ≤ 23) : wl_R n (d + 4) 33 0 [some (.ref 93), some (wp_i x), none] [] h (fun v1 h1 => v1 = none ∧ ∃ (k' v' q' r' f' st' : Int) (w' : List Int) (ls' as' : Int) (m : Nat) (E : List Int) (fr' : TD), lre (bt bl L) x m p (if x = 2 then 0 else 1) [] ls 0 E f' q' r' ∧ (f' = 0 → fr' = apK fr cl ((x, 0, 0), E)) ∧ (0 ≤ q' ∧ p ≤ q' ∧ q' ≤ r' ∧ r' ≤ L) ∧ (f' = 0 → 0 ≤ ls' ∧ ls' ≤ 6) ∧ kH h0 h1 bl t L k' v' q' r' f' (if f' = 0 then q else q') x st' w' ls' as' (cl + 1) fr') := by
  refine wl_s (pc' := 1) ji_33_0 rfl rfl rfl ?_
  refine wl_s (pc' := 2) ji_33_1 rfl rfl rfl ?_
  refine kl_p (y := x) (f' := 0) (q' := q) (law' := x) (st' := st) (wn' := wn) (op' := op) (br' := br) (ls' := ls) (as_' := as_) ht V ji_33_2 jf_33_22 (by decide) rfl rfl rfl (fun h V => ?_)
  refine wl_s (pc' := 6) ji_33_5 rfl rfl rfl ?_
  refine wl_s (pc' := 7) ji_33_6 rfl rfl rfl ?_
  refine kl_p (y := 0) (f' := 0) (q' := q) (law' := x) (st' := st) (wn' := 0) (op' := op) (br' := br) (ls' := ls) (as_' := as_) ht V ji_33_7 jf_33_32 (by decide) rfl rfl rfl (fun h V => ?_)
  refine wl_s (pc' := 11) ji_33_10 rfl rfl rfl ?_
  refine wl_s (pc' := 12) ji_33_11 rfl rfl rfl ?_
  refine kl_p (y := 0) (f' := 0) (q' := q) (law' := x) (st' := st) (wn' := 0) (op' := 0) (br' := br) (ls' := ls) (as_' := as_) ht V ji_33_12 jf_33_35 (by decide) rfl rfl rfl (fun h V => ?_)
  refine wl_s (pc' := 16) ji_33_15 rfl rfl rfl ?_
  refine wl_s (pc' := 17) ji_33_16 rfl rfl rfl ?_
  refine kl_p (y := 0) (f' := 0) (q' := q) (law' := x) (st' := st) (wn' := 0) (op' := 0) (br' := 0) (ls' := ls) (as_' := as_) ht V ji_33_17 jf_33_38 (by decide) rfl rfl rfl (fun h V => ?_)
  refine wl_s (pc' := 21) ji_33_20 rfl rfl rfl ?_
  refine wl_s (pc' := 22) ji_33_21 rfl rfl rfl ?_
  refine kl_p (y := 0) (f' := 0) (q' := q) (law' := x) (st' := st) (wn' := 0) (op' := 0) (br' := 0) (ls' := ls) (as_' := 0) ht V ji_33_22 jf_33_44 (by decide) rfl rfl rfl (fun h V => ?_)
  refine wl_s (pc' := 26) ji_33_25 rfl rfl rfl ?_
  refine wl_s (pc' := 27) ji_33_26 rfl rfl rfl ?_
  refine kl_g V ji_33_27 jf_33_22 rfl ?_
  refine wl_s (pc' := 31) ji_33_30 rfl rfl rfl ?_
  refine wl_icmp (t := 38) ji_33_31 rfl (by omega) (by omega) (fun (hb1 : ¬ (x : Int) = 2) => ?_) (fun (hb1 : ¬ (¬ (x : Int) = 2)) => ?_)
  · refine wl_s (pc' := 39) ji_33_38 rfl rfl rfl ?_
    refine kl_p (y := 1) (f' := 0) (q' := q) (law' := x) (st' := 1) (wn' := 0) (op' := 0) (br' := 0) (ls' := ls) (as_' := 0) ht V ji_33_39 jf_33_25 (by decide) rfl rfl rfl (fun h V => ?_)
    refine wl_s (pc' := 43) ji_33_42 rfl rfl rfl ?_
    refine kl_g V ji_33_43 jf_33_51 rfl ?_
    refine wl_s (pc' := 47) ji_33_46 rfl rfl rfl ?_
    refine kl_g V ji_33_47 jf_33_22 rfl ?_
    obtain ⟨tfs, htc⟩ := kl_tc V
    refine wl_vc (d := d + 3) (as := [.ref t, wp_i x]) (rest := []) ji_33_50 jc_33_124 rfl htc jk_34.symm (Nat.le_of_ble_eq_true rfl) rfl (by rw [jn_34]; rfl) (wk_bl ht V (by omega)) (fun v1 h1 R => ?_)
    obtain ⟨rfl, V⟩ := R
    show wl_R _ (d + 4) 33 53 [some (.ref 93), some (wp_i x), none] [] h1 _
    refine wl_s (pc' := 54) ji_33_53 rfl rfl rfl ?_
    refine wl_s (pc' := 55) (lv' := [some (.ref 93), some (wp_i x), some (wp_i 0)]) ji_33_54 rfl rfl rfl ?_
    have hK : cI x 1 [] ls 0 := ⟨trivial, by decide, Or.inl rfl, fun _ c hc => (by cases hc), hls, by omega, fun z => ⟨by omega, rfl, by decide⟩⟩
    refine wk_law (d := d) (law := x) D hL H8 ht hx n _ _ 0 k v s p 1 [] ls 0 hK ⟨ws, trivial, by decide, V⟩ (by omega) (by omega) (fun h i k' v' q' r' f' st' w' ls' as' m E fr1 lrn hq hl hfr V => ?_)
    obtain ⟨ws2, e2, hlen2, V⟩ := V
    refine wl_s (pc' := 132) ji_33_131 rfl rfl rfl ?_
    refine kl_g V ji_33_132 jf_33_51 rfl ?_
    refine wl_s (pc' := 136) ji_33_135 rfl rfl rfl ?_
    refine kl_g V ji_33_136 jf_33_22 rfl ?_
    obtain ⟨tfs, htc⟩ := kl_tc V
    refine wl_vc (d := d + 3) (as := [.ref t, wp_i x]) (rest := []) ji_33_139 jc_33_136 rfl htc jk_49.symm (Nat.le_of_ble_eq_true rfl) rfl (by rw [jn_49]; rfl) (wk_el ht V (by omega)) (fun v9 h9 R => ?_)
    obtain ⟨rfl, V⟩ := R
    show wl_R _ (d + 4) 33 142 [some (.ref 93), some (wp_i x), some (wp_i i)] [] h9 _
    refine wl_s (pc' := 143) ji_33_142 rfl rfl rfl ?_
    refine kl_g V ji_33_143 jf_33_51 rfl ?_
    refine wl_s (pc' := 147) ji_33_146 rfl rfl rfl ?_
    refine kl_g V ji_33_147 jf_33_22 rfl ?_
    refine wl_s (pc' := 151) ji_33_150 rfl rfl rfl ?_
    refine wl_s (pc' := 152) ji_33_151 rfl rfl rfl ?_
    obtain ⟨tfs2, htc2⟩ := kl_tc V
    refine wl_vc (d := d + 3) (as := [.ref t, wp_i x, wp_i 0, wp_i 0]) (rest := []) ji_33_152 jc_33_120 rfl htc2 jk_50.symm (Nat.le_of_ble_eq_true rfl) rfl (by rw [jn_50]; rfl) (wk_ac ht V hcl) (fun v9 h8 R => ?_)
    obtain ⟨rfl, V⟩ := R
    exact wl_rv ji_33_155 jr_33 ⟨rfl, k', v', q', r', f', st', w', ls', as', m, E, _, (by rw [if_neg (by omega)]; exact lrn), (fun z => by rw [hfr z]; exact (if_pos (by show x < 3; omega)).symm), hq, hl, ws2, e2, hlen2, V⟩
  · refine wl_s (pc' := 35) ji_33_34 rfl rfl rfl ?_
    refine wl_goto (t := 39) ji_33_35 rfl ?_
    refine kl_p (y := 0) (f' := 0) (q' := q) (law' := x) (st' := 0) (wn' := 0) (op' := 0) (br' := 0) (ls' := ls) (as_' := 0) ht V ji_33_39 jf_33_25 (by decide) rfl rfl rfl (fun h V => ?_)
    refine wl_s (pc' := 43) ji_33_42 rfl rfl rfl ?_
    refine kl_g V ji_33_43 jf_33_51 rfl ?_
    refine wl_s (pc' := 47) ji_33_46 rfl rfl rfl ?_
    refine kl_g V ji_33_47 jf_33_22 rfl ?_
    obtain ⟨tfs, htc⟩ := kl_tc V
    refine wl_vc (d := d + 3) (as := [.ref t, wp_i x]) (rest := []) ji_33_50 jc_33_124 rfl htc jk_34.symm (Nat.le_of_ble_eq_true rfl) rfl (by rw [jn_34]; rfl) (wk_bl ht V (by omega)) (fun v1 h1 R => ?_)
    obtain ⟨rfl, V⟩ := R
    show wl_R _ (d + 4) 33 53 [some (.ref 93), some (wp_i x), none] [] h1 _
    refine wl_s (pc' := 54) ji_33_53 rfl rfl rfl ?_
    refine wl_s (pc' := 55) (lv' := [some (.ref 93), some (wp_i x), some (wp_i 0)]) ji_33_54 rfl rfl rfl ?_
    have hK : cI x 0 [] ls 0 := ⟨trivial, by decide, Or.inl rfl, fun _ c hc => (by cases hc), hls, by omega, fun z => ⟨by omega, rfl, by decide⟩⟩
    refine wk_law (d := d) (law := x) D hL H8 ht hx n _ _ 0 k v s p 0 [] ls 0 hK ⟨ws, trivial, by decide, V⟩ (by omega) (by omega) (fun h i k' v' q' r' f' st' w' ls' as' m E fr1 lrn hq hl hfr V => ?_)
    obtain ⟨ws2, e2, hlen2, V⟩ := V
    refine wl_s (pc' := 132) ji_33_131 rfl rfl rfl ?_
    refine kl_g V ji_33_132 jf_33_51 rfl ?_
    refine wl_s (pc' := 136) ji_33_135 rfl rfl rfl ?_
    refine kl_g V ji_33_136 jf_33_22 rfl ?_
    obtain ⟨tfs, htc⟩ := kl_tc V
    refine wl_vc (d := d + 3) (as := [.ref t, wp_i x]) (rest := []) ji_33_139 jc_33_136 rfl htc jk_49.symm (Nat.le_of_ble_eq_true rfl) rfl (by rw [jn_49]; rfl) (wk_el ht V (by omega)) (fun v9 h9 R => ?_)
    obtain ⟨rfl, V⟩ := R
    show wl_R _ (d + 4) 33 142 [some (.ref 93), some (wp_i x), some (wp_i i)] [] h9 _
    refine wl_s (pc' := 143) ji_33_142 rfl rfl rfl ?_
    refine kl_g V ji_33_143 jf_33_51 rfl ?_
    refine wl_s (pc' := 147) ji_33_146 rfl rfl rfl ?_
    refine kl_g V ji_33_147 jf_33_22 rfl ?_
    refine wl_s (pc' := 151) ji_33_150 rfl rfl rfl ?_
    refine wl_s (pc' := 152) ji_33_151 rfl rfl rfl ?_
    obtain ⟨tfs2, htc2⟩ := kl_tc V
    refine wl_vc (d := d + 3) (as := [.ref t, wp_i x, wp_i 0, wp_i 0]) (rest := []) ji_33_152 jc_33_120 rfl htc2 jk_50.symm (Nat.le_of_ble_eq_true rfl) rfl (by rw [jn_50]; rfl) (wk_ac ht V hcl) (fun v9 h8 R => ?_)
    obtain ⟨rfl, V⟩ := R
    exact wl_rv ji_33_155 jr_33 ⟨rfl, k', v', q', r', f', st', w', ls', as', m, E, _, (by rw [if_pos (by omega)]; exact lrn), (fun z => by rw [hfr z]; exact (if_pos (by show x < 3; omega)).symm), hq, hl, ws2, e2, hlen2, V⟩

theorem wk_rn0 {n d : Nat} {h0 h : mj_H} {bl ws : List Value} {fr : TD} {t : Nat} {L k v s p f q law st wn op br ls as_ cl : Int} (D : tB bl) (hL : 0 ≤ L ∧ L ≤ 300) (H8 : h0[8]? = some (900, tk_V)) (ht : 12 ≤ t ∧ t ≤ 33) (V : kL h0 h bl t L k v s p f q law st wn op br ls as_ cl ws fr) (hp : 0 ≤ p ∧ p ≤ L) (hf : ¬ f = 0 ∧ wp_r f) {a b : Int} : wl_R n d 52 0 [some (.ref 93), some (wp_i a), some (wp_i b)] [] h (fun w h1 => w = some (wp_i 0) ∧ h1 = h) := by
  refine wl_s (pc' := 1) ji_52_0 rfl rfl rfl ?_
  refine kl_g V ji_52_1 jf_52_15 rfl ?_
  refine wl_if (t := 9) ji_52_4 rfl (x := f) hf.2 (fun (c : f = 0) => absurd c hf.1) (fun _ => ?_)
  refine wl_s (pc' := 8) ji_52_7 rfl rfl rfl ?_
  exact wl_ri ji_52_8 jr_52 rfl ⟨rfl, rfl⟩
theorem wk_rn {n d : Nat} {h0 h : mj_H} {bl ws : List Value} {fr : TD} {t : Nat} {L k v s p f q law st wn op br ls as_ cl : Int} (D : tB bl) (hL : 0 ≤ L ∧ L ≤ 300) (H8 : h0[8]? = some (900, tk_V)) (ht : 12 ≤ t ∧ t ≤ 33) (V : kL h0 h bl t L k v s p f q law st wn op br ls as_ cl ws fr) (hp : 0 ≤ p ∧ p ≤ L) (hf : f = 0) {a b : Int} (hab : wp_r a ∧ wp_r b) : wl_R n (d + 3) 52 0 [some (.ref 93), some (wp_i a), some (wp_i b)] [] h (fun w h1 => ∃ k1 v1 q1 r1, w = some (wp_i v1) ∧ tok (bt bl L) p k1 v1 q1 r1 ∧ (p ≤ q1 ∧ q1 ≤ r1 ∧ r1 ≤ L) ∧ kL h0 h1 bl t L k1 v1 q1 r1 (xn a b k1 v1) (if xn a b k1 v1 = 0 then q else q1) law st wn op br ls as_ cl ws fr) := by
  subst hf
  refine wl_s (pc' := 1) ji_52_0 rfl rfl rfl ?_
  refine kl_g V ji_52_1 jf_52_15 rfl ?_
  refine wl_if (t := 9) ji_52_4 rfl (by omega) (fun (hb1 : (0 : Int) = 0) => ?_) (fun (hb1 : ¬ ((0 : Int) = 0)) => (by exfalso; omega))
  refine wl_s (pc' := 10) ji_52_9 rfl rfl rfl ?_
  refine kl_g V ji_52_10 jf_52_47 rfl ?_
  refine wl_vc (d := d + 2) (as := [.ref 91]) (rest := []) ji_52_13 jc_52_65 rfl V.1 jk_23.symm (Nat.le_of_ble_eq_true rfl) rfl (by rw [jn_23]; rfl) (wc_adv (d := d) D hL ((V.2.2.2.2.2 8 (by omega) (by decide) (by decide) (by decide)).trans H8) (kl_T V) hp) (fun v9 h1 R => ?_)
  obtain ⟨rfl, k1, v1, q1, r1, T, tk, hqr⟩ := R
  show wl_R _ _ 52 16 [some (.ref 93), some (wp_i a), some (wp_i b)] [] h1 _
  have V := kl_adv ht V T
  have htr := tok_r (fun j hj => bt_r D hL.2 hj) hp.1 tk
  have hta := tok_adv tk
  refine wl_s (pc' := 17) ji_52_16 rfl rfl rfl ?_
  refine kl_g V ji_52_17 jf_52_47 rfl ?_
  refine kl_t V ji_52_20 jf_52_68 rfl ?_
  refine wl_s (pc' := 24) ji_52_23 rfl rfl rfl ?_
  refine wl_icmp (t := 35) ji_52_24 rfl (by omega) (by omega) (fun (hb2 : (k1 : Int) = 1) => ?_) (fun (hb2 : ¬ ((k1 : Int) = 1)) => ?_)
  · refine wl_s (pc' := 36) ji_52_35 rfl rfl rfl ?_
    refine kl_g V ji_52_36 jf_52_47 rfl ?_
    refine kl_t V ji_52_39 jf_52_77 rfl ?_
    refine wl_s (pc' := 43) ji_52_42 rfl rfl rfl ?_
    refine wl_icmp (t := 57) ji_52_43 rfl (by omega) (by omega) (fun (hb3 : (v1 : Int) < a) => ?_) (fun (hb3 : ¬ ((v1 : Int) < a)) => ?_)
    · refine wl_s (pc' := 58) ji_52_57 rfl rfl rfl ?_
      refine wl_s (pc' := 59) ji_52_58 rfl rfl rfl ?_
      refine wl_vc (d := d + 2) (as := [.ref 93, wp_i 2]) (rest := []) ji_52_59 jc_52_80 rfl (kl_93 V) jk_31.symm (Nat.le_of_ble_eq_true rfl) rfl (by rw [jn_31]; rfl) (wk_fail ht V) (fun v1 h2 R => ?_)
      obtain ⟨rfl, V⟩ := R
      show wl_R _ _ 52 62 [some (.ref 93), some (wp_i a), some (wp_i b)] [] h2 _
      refine wl_s (pc' := 63) ji_52_62 rfl rfl rfl ?_
      refine kl_g V ji_52_63 jf_52_47 rfl ?_
      refine kl_t V ji_52_66 jf_52_77 rfl ?_
      have e : xn a b k1 v1 = 2 := (if_neg (by omega)).trans (if_pos (by omega))
      exact wl_ri ji_52_69 jr_52 rfl ⟨k1, v1, q1, r1, rfl, tk, by omega, by rw [e]; exact V⟩
    · refine wl_s (pc' := 47) ji_52_46 rfl rfl rfl ?_
      refine kl_g V ji_52_47 jf_52_47 rfl ?_
      refine kl_t V ji_52_50 jf_52_77 rfl ?_
      refine wl_s (pc' := 54) ji_52_53 rfl rfl rfl ?_
      refine wl_icmp (t := 62) ji_52_54 rfl (by omega) (by omega) (fun (hb4 : (v1 : Int) ≤ b) => ?_) (fun (hb4 : ¬ ((v1 : Int) ≤ b)) => ?_)
      · refine wl_s (pc' := 63) ji_52_62 rfl rfl rfl ?_
        refine kl_g V ji_52_63 jf_52_47 rfl ?_
        refine kl_t V ji_52_66 jf_52_77 rfl ?_
        have e : xn a b k1 v1 = 0 := (if_neg (by omega)).trans (if_neg (by omega))
        exact wl_ri ji_52_69 jr_52 rfl ⟨k1, v1, q1, r1, rfl, tk, by omega, by rw [e]; exact V⟩
      · refine wl_s (pc' := 58) ji_52_57 rfl rfl rfl ?_
        refine wl_s (pc' := 59) ji_52_58 rfl rfl rfl ?_
        refine wl_vc (d := d + 2) (as := [.ref 93, wp_i 2]) (rest := []) ji_52_59 jc_52_80 rfl (kl_93 V) jk_31.symm (Nat.le_of_ble_eq_true rfl) rfl (by rw [jn_31]; rfl) (wk_fail ht V) (fun v1 h2 R => ?_)
        obtain ⟨rfl, V⟩ := R
        show wl_R _ _ 52 62 [some (.ref 93), some (wp_i a), some (wp_i b)] [] h2 _
        refine wl_s (pc' := 63) ji_52_62 rfl rfl rfl ?_
        refine kl_g V ji_52_63 jf_52_47 rfl ?_
        refine kl_t V ji_52_66 jf_52_77 rfl ?_
        have e : xn a b k1 v1 = 2 := (if_neg (by omega)).trans (if_pos (by omega))
        exact wl_ri ji_52_69 jr_52 rfl ⟨k1, v1, q1, r1, rfl, tk, by omega, by rw [e]; exact V⟩
  · refine wl_s (pc' := 28) ji_52_27 rfl rfl rfl ?_
    refine wl_s (pc' := 29) ji_52_28 rfl rfl rfl ?_
    refine wl_vc (d := d + 2) (as := [.ref 93, wp_i 1]) (rest := []) ji_52_29 jc_52_80 rfl (kl_93 V) jk_31.symm (Nat.le_of_ble_eq_true rfl) rfl (by rw [jn_31]; rfl) (wk_fail ht V) (fun v1 h2 R => ?_)
    obtain ⟨rfl, V⟩ := R
    show wl_R _ _ 52 32 [some (.ref 93), some (wp_i a), some (wp_i b)] [] h2 _
    refine wl_goto (t := 62) ji_52_32 rfl ?_
    refine wl_s (pc' := 63) ji_52_62 rfl rfl rfl ?_
    refine kl_g V ji_52_63 jf_52_47 rfl ?_
    refine kl_t V ji_52_66 jf_52_77 rfl ?_
    have e : xn a b k1 v1 = 1 := if_pos (by omega)
    exact wl_ri ji_52_69 jr_52 rfl ⟨k1, v1, q1, r1, rfl, tk, by omega, by rw [e]; exact V⟩
theorem wk_rt0 {n d : Nat} {h0 h : mj_H} {bl ws : List Value} {fr : TD} {t : Nat} {L k v s p f q law st wn op br ls as_ cl : Int} (D : tB bl) (hL : 0 ≤ L ∧ L ≤ 300) (H8 : h0[8]? = some (900, tk_V)) (ht : 12 ≤ t ∧ t ≤ 33) (V : kL h0 h bl t L k v s p f q law st wn op br ls as_ cl ws fr) (hp : 0 ≤ p ∧ p ≤ L) (hf : ¬ f = 0 ∧ wp_r f) {a b : Int} : wl_R n d 53 0 [some (.ref 93), some (wp_i a), some (wp_i b)] [] h (fun w h1 => w = none ∧ h1 = h) := by
  refine wl_s (pc' := 1) ji_53_0 rfl rfl rfl ?_
  refine kl_g V ji_53_1 jf_53_15 rfl ?_
  refine wl_if (t := 8) ji_53_4 rfl (x := f) hf.2 (fun (c : f = 0) => absurd c hf.1) (fun _ => ?_)
  exact wl_rv ji_53_7 jr_53 ⟨rfl, rfl⟩
theorem wk_rt {n d : Nat} {h0 h : mj_H} {bl ws : List Value} {fr : TD} {t : Nat} {L k v s p f q law st wn op br ls as_ cl : Int} (D : tB bl) (hL : 0 ≤ L ∧ L ≤ 300) (H8 : h0[8]? = some (900, tk_V)) (ht : 12 ≤ t ∧ t ≤ 33) (V : kL h0 h bl t L k v s p f q law st wn op br ls as_ cl ws fr) (hp : 0 ≤ p ∧ p ≤ L) (hf : f = 0) {a b : Int} (hab : wp_r a ∧ wp_r b) : wl_R n (d + 3) 53 0 [some (.ref 93), some (wp_i a), some (wp_i b)] [] h (fun w h1 => w = none ∧ ∃ k1 v1 q1 r1, tok (bt bl L) p k1 v1 q1 r1 ∧ (p ≤ q1 ∧ q1 ≤ r1 ∧ r1 ≤ L) ∧ kL h0 h1 bl t L k1 v1 q1 r1 (xt a b k1 v1) (if xt a b k1 v1 = 0 then q else q1) law st wn op br ls as_ cl ws fr) := by
  subst hf
  refine wl_s (pc' := 1) ji_53_0 rfl rfl rfl ?_
  refine kl_g V ji_53_1 jf_53_15 rfl ?_
  refine wl_if (t := 8) ji_53_4 rfl (by omega) (fun (hb1 : (0 : Int) = 0) => ?_) (fun (hb1 : ¬ ((0 : Int) = 0)) => (by exfalso; omega))
  refine wl_s (pc' := 9) ji_53_8 rfl rfl rfl ?_
  refine kl_g V ji_53_9 jf_53_47 rfl ?_
  refine wl_vc (d := d + 2) (as := [.ref 91]) (rest := []) ji_53_12 jc_53_65 rfl V.1 jk_23.symm (Nat.le_of_ble_eq_true rfl) rfl (by rw [jn_23]; rfl) (wc_adv (d := d) D hL ((V.2.2.2.2.2 8 (by omega) (by decide) (by decide) (by decide)).trans H8) (kl_T V) hp) (fun v9 h1 R => ?_)
  obtain ⟨rfl, k1, v1, q1, r1, T, tk, hqr⟩ := R
  show wl_R _ _ 53 15 [some (.ref 93), some (wp_i a), some (wp_i b)] [] h1 _
  have V := kl_adv ht V T
  have htr := tok_r (fun j hj => bt_r D hL.2 hj) hp.1 tk
  have hta := tok_adv tk
  refine wl_s (pc' := 16) ji_53_15 rfl rfl rfl ?_
  refine kl_g V ji_53_16 jf_53_47 rfl ?_
  refine kl_t V ji_53_19 jf_53_68 rfl ?_
  refine wl_s (pc' := 23) ji_53_22 rfl rfl rfl ?_
  refine wl_icmp (t := 37) ji_53_23 rfl (by omega) (by omega) (fun (hb2 : ¬ (k1 : Int) = a) => ?_) (fun (hb2 : ¬ (¬ (k1 : Int) = a)) => ?_)
  · refine wl_s (pc' := 38) ji_53_37 rfl rfl rfl ?_
    refine wl_s (pc' := 39) ji_53_38 rfl rfl rfl ?_
    refine wl_vc (d := d + 2) (as := [.ref 93, wp_i 1]) (rest := []) ji_53_39 jc_53_80 rfl (kl_93 V) jk_31.symm (Nat.le_of_ble_eq_true rfl) rfl (by rw [jn_31]; rfl) (wk_fail ht V) (fun v1 h2 R => ?_)
    obtain ⟨rfl, V⟩ := R
    show wl_R _ _ 53 42 [some (.ref 93), some (wp_i a), some (wp_i b)] [] h2 _
    have e : xt a b k1 v1 = 1 := if_neg (by omega)
    exact wl_rv ji_53_42 jr_53 ⟨rfl, k1, v1, q1, r1, tk, by omega, by rw [e]; exact V⟩
  · refine wl_s (pc' := 27) ji_53_26 rfl rfl rfl ?_
    refine kl_g V ji_53_27 jf_53_47 rfl ?_
    refine kl_t V ji_53_30 jf_53_77 rfl ?_
    refine wl_s (pc' := 34) ji_53_33 rfl rfl rfl ?_
    refine wl_icmp (t := 42) ji_53_34 rfl (by omega) (by omega) (fun (hb3 : (v1 : Int) = b) => ?_) (fun (hb3 : ¬ ((v1 : Int) = b)) => ?_)
    · have e : xt a b k1 v1 = 0 := if_pos (by omega)
      exact wl_rv ji_53_42 jr_53 ⟨rfl, k1, v1, q1, r1, tk, by omega, by rw [e]; exact V⟩
    · refine wl_s (pc' := 38) ji_53_37 rfl rfl rfl ?_
      refine wl_s (pc' := 39) ji_53_38 rfl rfl rfl ?_
      refine wl_vc (d := d + 2) (as := [.ref 93, wp_i 1]) (rest := []) ji_53_39 jc_53_80 rfl (kl_93 V) jk_31.symm (Nat.le_of_ble_eq_true rfl) rfl (by rw [jn_31]; rfl) (wk_fail ht V) (fun v1 h2 R => ?_)
      obtain ⟨rfl, V⟩ := R
      show wl_R _ _ 53 42 [some (.ref 93), some (wp_i a), some (wp_i b)] [] h2 _
      have e : xt a b k1 v1 = 1 := if_neg (by omega)
      exact wl_rv ji_53_42 jr_53 ⟨rfl, k1, v1, q1, r1, tk, by omega, by rw [e]; exact V⟩
theorem wk_d3 {n d : Nat} {h0 h : mj_H} {bl ws : List Value} {fr : TD} {t : Nat} {L k v s p f q law st wn op br ls as_ cl : Int} (D : tB bl) (hL : 0 ≤ L ∧ L ≤ 300) (H8 : h0[8]? = some (900, tk_V)) (ht : 12 ≤ t ∧ t ≤ 33) (V : kL h0 h bl t L k v s p f q law st wn op br ls as_ cl ws fr) (hp : 0 ≤ p ∧ p ≤ L) (hf : f = 0) (HC : hC h0) (hcl : 0 ≤ cl ∧ cl ≤ 23) : wl_R n (d + 4) 51 0 [some (.ref 93), some (wp_i 3), none, none] [] h (fun w h1 => w = none ∧ ∃ (k' v' q' r' f' : Int) (N : List Int) (fr' : TD), xre (bt bl L) (dl 3) p s N f' q' r' ∧ (p ≤ q' ∧ q' ≤ r' ∧ r' ≤ L) ∧ (f' = 0 → fr' = apK fr cl ((3, N.headD 0, N.tail.headD 0), [])) ∧ kL h0 h1 bl t L k' v' q' r' f' (if f' = 0 then q else q') law st wn op br ls as_ (cl + 1) ws fr') := by
  subst hf
  refine wl_s (pc' := 1) ji_51_0 rfl rfl rfl ?_
  refine wl_gs ji_51_1 jst_51_97 ?_
  refine wl_s (pc' := 5) ji_51_4 rfl rfl rfl ?_
  refine wl_ial (x := 3) ji_51_5 ((V.2.2.2.2.2 1 (by omega) (by decide) (by decide) (by decide)).trans HC.1) (by decide) (by decide) (by decide) (v := wp_i 1) rfl ?_
  refine wl_gs ji_51_6 jst_51_100 ?_
  refine wl_s (pc' := 10) ji_51_9 rfl rfl rfl ?_
  refine wl_ial (x := 3) ji_51_10 ((V.2.2.2.2.2 2 (by omega) (by decide) (by decide) (by decide)).trans HC.2.1) (by decide) (by decide) (by decide) (v := wp_i 99) rfl ?_
  refine wl_vc (d := d + 3) (as := [.ref 93, wp_i 1, wp_i 99]) (rest := []) ji_51_11 jc_51_103 rfl (kl_93 V) jk_52.symm (Nat.le_of_ble_eq_true rfl) rfl (by rw [jn_52]; rfl) (wk_rn (d := d) (a := 1) (b := 99) D hL H8 ht V (by omega) rfl (by omega)) (fun v1 h21 R => ?_)
  obtain ⟨k1, v1, q1, r1, rfl, tk1, hq1, V⟩ := R
  show wl_R _ _ 51 14 [some (.ref 93), some (wp_i 3), none, none] [wp_i v1] h21 _
  have hxr1 : 0 ≤ xn 1 99 k1 v1 ∧ xn 1 99 k1 v1 ≤ 2 := xe_r (c := 0)
  obtain ⟨e1, he1⟩ : ∃ e, xn 1 99 k1 v1 = e := ⟨_, rfl⟩
  rw [he1] at V hxr1
  by_cases hx1 : e1 = 0
  · rw [if_pos hx1, hx1] at V
    rw [hx1] at he1
    refine wl_s (pc' := 15) (lv' := [some (.ref 93), some (wp_i 3), some (wp_i v1), none]) ji_51_14 rfl rfl rfl ?_
    refine wl_s (pc' := 16) ji_51_15 rfl rfl rfl ?_
    refine wl_s (pc' := 17) (lv' := [some (.ref 93), some (wp_i 3), some (wp_i v1), some (wp_i 0)]) ji_51_16 rfl rfl rfl ?_
    refine wl_gs ji_51_17 jst_51_107 ?_
    refine wl_s (pc' := 21) ji_51_20 rfl rfl rfl ?_
    refine wl_ial (x := 3) ji_51_21 ((V.2.2.2.2.2 3 (by omega) (by decide) (by decide) (by decide)).trans HC.2.2.1) (by decide) (by decide) (by decide) (v := wp_i 10) rfl ?_
    refine wl_s (pc' := 23) ji_51_22 rfl rfl rfl ?_
    refine wl_icmp (t := 51) ji_51_23 rfl (by omega) (by omega) (fun (hb1 : (10 : Int) = (-1)) => (by exfalso; omega)) (fun (hb1 : ¬ ((10 : Int) = (-1))) => ?_)
    refine wl_s (pc' := 27) ji_51_26 rfl rfl rfl ?_
    refine wl_s (pc' := 28) ji_51_27 rfl rfl rfl ?_
    refine wl_gs ji_51_28 jst_51_107 ?_
    refine wl_s (pc' := 32) ji_51_31 rfl rfl rfl ?_
    refine wl_ial (x := 3) ji_51_32 ((V.2.2.2.2.2 3 (by omega) (by decide) (by decide) (by decide)).trans HC.2.2.1) (by decide) (by decide) (by decide) (v := wp_i 10) rfl ?_
    refine wl_vc (d := d + 3) (as := [.ref 93, wp_i 0, wp_i 10]) (rest := []) ji_51_33 jc_51_110 rfl (kl_93 V) jk_53.symm (Nat.le_of_ble_eq_true rfl) rfl (by rw [jn_53]; rfl) (wk_rt (d := d) (a := 0) (b := 10) D hL H8 ht V (by omega) rfl (by omega)) (fun v1 h22 R => ?_)
    obtain ⟨rfl, k2, v2, q2, r2, tk2, hq2, V⟩ := R
    show wl_R _ _ 51 36 [some (.ref 93), some (wp_i 3), some (wp_i v1), some (wp_i 0)] [] h22 _
    have hxr2 : 0 ≤ xt 0 10 k2 v2 ∧ xt 0 10 k2 v2 ≤ 2 := xe_r (c := 1)
    obtain ⟨e2, he2⟩ : ∃ e, xt 0 10 k2 v2 = e := ⟨_, rfl⟩
    rw [he2] at V hxr2
    by_cases hx2 : e2 = 0
    · rw [if_pos hx2, hx2] at V
      rw [hx2] at he2
      refine wl_s (pc' := 37) ji_51_36 rfl rfl rfl ?_
      refine wl_gs ji_51_37 jst_51_114 ?_
      refine wl_s (pc' := 41) ji_51_40 rfl rfl rfl ?_
      refine wl_ial (x := 3) ji_51_41 ((V.2.2.2.2.2 4 (by omega) (by decide) (by decide) (by decide)).trans HC.2.2.2.1) (by decide) (by decide) (by decide) (v := wp_i 0) rfl ?_
      refine wl_gs ji_51_42 jst_51_117 ?_
      refine wl_s (pc' := 46) ji_51_45 rfl rfl rfl ?_
      refine wl_ial (x := 3) ji_51_46 ((V.2.2.2.2.2 5 (by omega) (by decide) (by decide) (by decide)).trans HC.2.2.2.2) (by decide) (by decide) (by decide) (v := wp_i 99) rfl ?_
      refine wl_vc (d := d + 3) (as := [.ref 93, wp_i 0, wp_i 99]) (rest := []) ji_51_47 jc_51_103 rfl (kl_93 V) jk_52.symm (Nat.le_of_ble_eq_true rfl) rfl (by rw [jn_52]; rfl) (wk_rn (d := d) (a := 0) (b := 99) D hL H8 ht V (by omega) rfl (by omega)) (fun v1 h23 R => ?_)
      obtain ⟨k3, v3, q3, r3, rfl, tk3, hq3, V⟩ := R
      show wl_R _ _ 51 50 [some (.ref 93), some (wp_i 3), some (wp_i v1), some (wp_i 0)] [wp_i v3] h23 _
      have hxr3 : 0 ≤ xn 0 99 k3 v3 ∧ xn 0 99 k3 v3 ≤ 2 := xe_r (c := 0)
      obtain ⟨e3, he3⟩ : ∃ e, xn 0 99 k3 v3 = e := ⟨_, rfl⟩
      rw [he3] at V hxr3
      by_cases hx3 : e3 = 0
      · rw [if_pos hx3, hx3] at V
        rw [hx3] at he3
        refine wl_s (pc' := 51) (lv' := [some (.ref 93), some (wp_i 3), some (wp_i v1), some (wp_i v3)]) ji_51_50 rfl rfl rfl ?_
        refine wl_s (pc' := 52) ji_51_51 rfl rfl rfl ?_
        refine wl_s (pc' := 53) ji_51_52 rfl rfl rfl ?_
        refine wl_bp ji_51_53 rfl ?_
        refine wl_vc (d := d + 3) (as := [.ref 93, wp_i 2, wp_i 59]) (rest := []) ji_51_55 jc_51_110 rfl (kl_93 V) jk_53.symm (Nat.le_of_ble_eq_true rfl) rfl (by rw [jn_53]; rfl) (wk_rt (d := d) (a := 2) (b := 59) D hL H8 ht V (by omega) rfl (by omega)) (fun v1 h24 R => ?_)
        obtain ⟨rfl, k4, v4, q4, r4, tk4, hq4, V⟩ := R
        show wl_R _ _ 51 58 [some (.ref 93), some (wp_i 3), some (wp_i v1), some (wp_i v3)] [] h24 _
        have hxr4 : 0 ≤ xt 2 59 k4 v4 ∧ xt 2 59 k4 v4 ≤ 2 := xe_r (c := 1)
        obtain ⟨e4, he4⟩ : ∃ e, xt 2 59 k4 v4 = e := ⟨_, rfl⟩
        rw [he4] at V hxr4
        by_cases hx4 : e4 = 0
        · rw [if_pos hx4, hx4] at V
          rw [hx4] at he4
          refine wl_s (pc' := 59) ji_51_58 rfl rfl rfl ?_
          refine kl_g V ji_51_59 jf_51_51 rfl ?_
          refine wl_s (pc' := 63) ji_51_62 rfl rfl rfl ?_
          refine wl_s (pc' := 64) ji_51_63 rfl rfl rfl ?_
          refine wl_s (pc' := 65) ji_51_64 rfl rfl rfl ?_
          obtain ⟨tfs, htc⟩ := kl_tc V
          refine wl_vc (d := d + 3) (as := [.ref t, wp_i 3, wp_i v1, wp_i v3]) (rest := []) ji_51_65 jc_51_120 rfl htc jk_50.symm (Nat.le_of_ble_eq_true rfl) rfl (by rw [jn_50]; rfl) (wk_ac ht V hcl) (fun v1 h8 R => ?_)
          obtain ⟨rfl, V⟩ := R
          show wl_R _ _ 51 68 [some (.ref 93), some (wp_i 3), some (wp_i v1), some (wp_i v3)] [] h8 _
          rw [show dl 3 = [(0, 1, 99), (1, 0, 10), (0, 0, 99), (1, 2, 59)] from rfl]
          exact wl_rv ji_51_68 jr_51 ⟨rfl, k4, v4, q4, r4, 0, [v1, v3], _, ⟨k1, v1, q1, r1, tk1, Or.inr ⟨(show xe 0 1 99 k1 v1 = 0 from he1), [v3], (if_pos rfl).symm, ⟨k2, v2, q2, r2, tk2, Or.inr ⟨(show xe 1 0 10 k2 v2 = 0 from he2), [v3], (if_neg (by decide)).symm, ⟨k3, v3, q3, r3, tk3, Or.inr ⟨(show xe 0 0 99 k3 v3 = 0 from he3), [], (if_pos rfl).symm, ⟨k4, v4, q4, r4, tk4, Or.inr ⟨(show xe 1 2 59 k4 v4 = 0 from he4), [], (if_neg (by decide)).symm, ⟨rfl, rfl, rfl, rfl⟩⟩⟩⟩⟩⟩⟩⟩⟩, by omega, (fun z => (if_neg (by show ¬ (3 : Int) < 3; decide)).symm), by rw [if_pos rfl]; exact V⟩
        · rw [if_neg hx4] at V
          refine wl_s (pc' := 59) ji_51_58 rfl rfl rfl ?_
          refine kl_g V ji_51_59 jf_51_51 rfl ?_
          refine wl_s (pc' := 63) ji_51_62 rfl rfl rfl ?_
          refine wl_s (pc' := 64) ji_51_63 rfl rfl rfl ?_
          refine wl_s (pc' := 65) ji_51_64 rfl rfl rfl ?_
          obtain ⟨tfs, htc⟩ := kl_tc V
          refine wl_vc (d := d + 3) (as := [.ref t, wp_i 3, wp_i v1, wp_i v3]) (rest := []) ji_51_65 jc_51_120 rfl htc jk_50.symm (Nat.le_of_ble_eq_true rfl) rfl (by rw [jn_50]; rfl) (wk_ac ht V hcl) (fun v1 h8 R => ?_)
          obtain ⟨rfl, V⟩ := R
          show wl_R _ _ 51 68 [some (.ref 93), some (wp_i 3), some (wp_i v1), some (wp_i v3)] [] h8 _
          rw [show dl 3 = [(0, 1, 99), (1, 0, 10), (0, 0, 99), (1, 2, 59)] from rfl]
          exact wl_rv ji_51_68 jr_51 ⟨rfl, k4, v4, q4, r4, e4, [v1, v3], _, ⟨k1, v1, q1, r1, tk1, Or.inr ⟨(show xe 0 1 99 k1 v1 = 0 from he1), [v3], (if_pos rfl).symm, ⟨k2, v2, q2, r2, tk2, Or.inr ⟨(show xe 1 0 10 k2 v2 = 0 from he2), [v3], (if_neg (by decide)).symm, ⟨k3, v3, q3, r3, tk3, Or.inr ⟨(show xe 0 0 99 k3 v3 = 0 from he3), [], (if_pos rfl).symm, ⟨k4, v4, q4, r4, tk4, Or.inl ⟨by rw [(show xe 1 2 59 k4 v4 = e4 from he4)]; exact hx4, (show xe 1 2 59 k4 v4 = e4 from he4).symm, rfl, rfl⟩⟩⟩⟩⟩⟩⟩⟩, by omega, (fun z => absurd z hx4), by rw [if_neg hx4]; exact V⟩
      · rw [if_neg hx3] at V
        refine wl_s (pc' := 51) (lv' := [some (.ref 93), some (wp_i 3), some (wp_i v1), some (wp_i v3)]) ji_51_50 rfl rfl rfl ?_
        refine wl_s (pc' := 52) ji_51_51 rfl rfl rfl ?_
        refine wl_s (pc' := 53) ji_51_52 rfl rfl rfl ?_
        refine wl_bp ji_51_53 rfl ?_
        refine wl_vc (d := d + 3) (as := [.ref 93, wp_i 2, wp_i 59]) (rest := []) ji_51_55 jc_51_110 rfl (kl_93 V) jk_53.symm (Nat.le_of_ble_eq_true rfl) rfl (by rw [jn_53]; rfl) (wk_rt0 D hL H8 ht V (by omega) ⟨hx3, by omega⟩) (fun v1 h9 R => ?_)
        obtain ⟨rfl, e1⟩ := R
        subst e1
        show wl_R _ _ 51 58 [some (.ref 93), some (wp_i 3), some (wp_i v1), some (wp_i v3)] [] h9 _
        refine wl_s (pc' := 59) ji_51_58 rfl rfl rfl ?_
        refine kl_g V ji_51_59 jf_51_51 rfl ?_
        refine wl_s (pc' := 63) ji_51_62 rfl rfl rfl ?_
        refine wl_s (pc' := 64) ji_51_63 rfl rfl rfl ?_
        refine wl_s (pc' := 65) ji_51_64 rfl rfl rfl ?_
        obtain ⟨tfs, htc⟩ := kl_tc V
        refine wl_vc (d := d + 3) (as := [.ref t, wp_i 3, wp_i v1, wp_i v3]) (rest := []) ji_51_65 jc_51_120 rfl htc jk_50.symm (Nat.le_of_ble_eq_true rfl) rfl (by rw [jn_50]; rfl) (wk_ac ht V hcl) (fun v1 h8 R => ?_)
        obtain ⟨rfl, V⟩ := R
        show wl_R _ _ 51 68 [some (.ref 93), some (wp_i 3), some (wp_i v1), some (wp_i v3)] [] h8 _
        rw [show dl 3 = [(0, 1, 99), (1, 0, 10), (0, 0, 99), (1, 2, 59)] from rfl]
        exact wl_rv ji_51_68 jr_51 ⟨rfl, k3, v3, q3, r3, e3, [v1], _, ⟨k1, v1, q1, r1, tk1, Or.inr ⟨(show xe 0 1 99 k1 v1 = 0 from he1), [], (if_pos rfl).symm, ⟨k2, v2, q2, r2, tk2, Or.inr ⟨(show xe 1 0 10 k2 v2 = 0 from he2), [], (if_neg (by decide)).symm, ⟨k3, v3, q3, r3, tk3, Or.inl ⟨by rw [(show xe 0 0 99 k3 v3 = e3 from he3)]; exact hx3, (show xe 0 0 99 k3 v3 = e3 from he3).symm, rfl, rfl⟩⟩⟩⟩⟩⟩, by omega, (fun z => absurd z hx3), by rw [if_neg hx3]; exact V⟩
    · rw [if_neg hx2] at V
      refine wl_s (pc' := 37) ji_51_36 rfl rfl rfl ?_
      refine wl_gs ji_51_37 jst_51_114 ?_
      refine wl_s (pc' := 41) ji_51_40 rfl rfl rfl ?_
      refine wl_ial (x := 3) ji_51_41 ((V.2.2.2.2.2 4 (by omega) (by decide) (by decide) (by decide)).trans HC.2.2.2.1) (by decide) (by decide) (by decide) (v := wp_i 0) rfl ?_
      refine wl_gs ji_51_42 jst_51_117 ?_
      refine wl_s (pc' := 46) ji_51_45 rfl rfl rfl ?_
      refine wl_ial (x := 3) ji_51_46 ((V.2.2.2.2.2 5 (by omega) (by decide) (by decide) (by decide)).trans HC.2.2.2.2) (by decide) (by decide) (by decide) (v := wp_i 99) rfl ?_
      refine wl_vc (d := d + 3) (as := [.ref 93, wp_i 0, wp_i 99]) (rest := []) ji_51_47 jc_51_103 rfl (kl_93 V) jk_52.symm (Nat.le_of_ble_eq_true rfl) rfl (by rw [jn_52]; rfl) (wk_rn0 D hL H8 ht V (by omega) ⟨hx2, by omega⟩) (fun v1 h9 R => ?_)
      obtain ⟨rfl, e1⟩ := R
      subst e1
      show wl_R _ _ 51 50 [some (.ref 93), some (wp_i 3), some (wp_i v1), some (wp_i 0)] [wp_i 0] h9 _
      refine wl_s (pc' := 51) (lv' := [some (.ref 93), some (wp_i 3), some (wp_i v1), some (wp_i 0)]) ji_51_50 rfl rfl rfl ?_
      refine wl_s (pc' := 52) ji_51_51 rfl rfl rfl ?_
      refine wl_s (pc' := 53) ji_51_52 rfl rfl rfl ?_
      refine wl_bp ji_51_53 rfl ?_
      refine wl_vc (d := d + 3) (as := [.ref 93, wp_i 2, wp_i 59]) (rest := []) ji_51_55 jc_51_110 rfl (kl_93 V) jk_53.symm (Nat.le_of_ble_eq_true rfl) rfl (by rw [jn_53]; rfl) (wk_rt0 D hL H8 ht V (by omega) ⟨hx2, by omega⟩) (fun v1 h9 R => ?_)
      obtain ⟨rfl, e1⟩ := R
      subst e1
      show wl_R _ _ 51 58 [some (.ref 93), some (wp_i 3), some (wp_i v1), some (wp_i 0)] [] h9 _
      refine wl_s (pc' := 59) ji_51_58 rfl rfl rfl ?_
      refine kl_g V ji_51_59 jf_51_51 rfl ?_
      refine wl_s (pc' := 63) ji_51_62 rfl rfl rfl ?_
      refine wl_s (pc' := 64) ji_51_63 rfl rfl rfl ?_
      refine wl_s (pc' := 65) ji_51_64 rfl rfl rfl ?_
      obtain ⟨tfs, htc⟩ := kl_tc V
      refine wl_vc (d := d + 3) (as := [.ref t, wp_i 3, wp_i v1, wp_i 0]) (rest := []) ji_51_65 jc_51_120 rfl htc jk_50.symm (Nat.le_of_ble_eq_true rfl) rfl (by rw [jn_50]; rfl) (wk_ac ht V hcl) (fun v1 h8 R => ?_)
      obtain ⟨rfl, V⟩ := R
      show wl_R _ _ 51 68 [some (.ref 93), some (wp_i 3), some (wp_i v1), some (wp_i 0)] [] h8 _
      rw [show dl 3 = [(0, 1, 99), (1, 0, 10), (0, 0, 99), (1, 2, 59)] from rfl]
      exact wl_rv ji_51_68 jr_51 ⟨rfl, k2, v2, q2, r2, e2, [v1], _, ⟨k1, v1, q1, r1, tk1, Or.inr ⟨(show xe 0 1 99 k1 v1 = 0 from he1), [], (if_pos rfl).symm, ⟨k2, v2, q2, r2, tk2, Or.inl ⟨by rw [(show xe 1 0 10 k2 v2 = e2 from he2)]; exact hx2, (show xe 1 0 10 k2 v2 = e2 from he2).symm, rfl, rfl⟩⟩⟩⟩, by omega, (fun z => absurd z hx2), by rw [if_neg hx2]; exact V⟩
  · rw [if_neg hx1] at V
    refine wl_s (pc' := 15) (lv' := [some (.ref 93), some (wp_i 3), some (wp_i v1), none]) ji_51_14 rfl rfl rfl ?_
    refine wl_s (pc' := 16) ji_51_15 rfl rfl rfl ?_
    refine wl_s (pc' := 17) (lv' := [some (.ref 93), some (wp_i 3), some (wp_i v1), some (wp_i 0)]) ji_51_16 rfl rfl rfl ?_
    refine wl_gs ji_51_17 jst_51_107 ?_
    refine wl_s (pc' := 21) ji_51_20 rfl rfl rfl ?_
    refine wl_ial (x := 3) ji_51_21 ((V.2.2.2.2.2 3 (by omega) (by decide) (by decide) (by decide)).trans HC.2.2.1) (by decide) (by decide) (by decide) (v := wp_i 10) rfl ?_
    refine wl_s (pc' := 23) ji_51_22 rfl rfl rfl ?_
    refine wl_icmp (t := 51) ji_51_23 rfl (by omega) (by omega) (fun (hb2 : (10 : Int) = (-1)) => (by exfalso; omega)) (fun (hb2 : ¬ ((10 : Int) = (-1))) => ?_)
    refine wl_s (pc' := 27) ji_51_26 rfl rfl rfl ?_
    refine wl_s (pc' := 28) ji_51_27 rfl rfl rfl ?_
    refine wl_gs ji_51_28 jst_51_107 ?_
    refine wl_s (pc' := 32) ji_51_31 rfl rfl rfl ?_
    refine wl_ial (x := 3) ji_51_32 ((V.2.2.2.2.2 3 (by omega) (by decide) (by decide) (by decide)).trans HC.2.2.1) (by decide) (by decide) (by decide) (v := wp_i 10) rfl ?_
    refine wl_vc (d := d + 3) (as := [.ref 93, wp_i 0, wp_i 10]) (rest := []) ji_51_33 jc_51_110 rfl (kl_93 V) jk_53.symm (Nat.le_of_ble_eq_true rfl) rfl (by rw [jn_53]; rfl) (wk_rt0 D hL H8 ht V (by omega) ⟨hx1, by omega⟩) (fun v1 h9 R => ?_)
    obtain ⟨rfl, e1⟩ := R
    subst e1
    show wl_R _ _ 51 36 [some (.ref 93), some (wp_i 3), some (wp_i v1), some (wp_i 0)] [] h9 _
    refine wl_s (pc' := 37) ji_51_36 rfl rfl rfl ?_
    refine wl_gs ji_51_37 jst_51_114 ?_
    refine wl_s (pc' := 41) ji_51_40 rfl rfl rfl ?_
    refine wl_ial (x := 3) ji_51_41 ((V.2.2.2.2.2 4 (by omega) (by decide) (by decide) (by decide)).trans HC.2.2.2.1) (by decide) (by decide) (by decide) (v := wp_i 0) rfl ?_
    refine wl_gs ji_51_42 jst_51_117 ?_
    refine wl_s (pc' := 46) ji_51_45 rfl rfl rfl ?_
    refine wl_ial (x := 3) ji_51_46 ((V.2.2.2.2.2 5 (by omega) (by decide) (by decide) (by decide)).trans HC.2.2.2.2) (by decide) (by decide) (by decide) (v := wp_i 99) rfl ?_
    refine wl_vc (d := d + 3) (as := [.ref 93, wp_i 0, wp_i 99]) (rest := []) ji_51_47 jc_51_103 rfl (kl_93 V) jk_52.symm (Nat.le_of_ble_eq_true rfl) rfl (by rw [jn_52]; rfl) (wk_rn0 D hL H8 ht V (by omega) ⟨hx1, by omega⟩) (fun v1 h9 R => ?_)
    obtain ⟨rfl, e1⟩ := R
    subst e1
    show wl_R _ _ 51 50 [some (.ref 93), some (wp_i 3), some (wp_i v1), some (wp_i 0)] [wp_i 0] h9 _
    refine wl_s (pc' := 51) (lv' := [some (.ref 93), some (wp_i 3), some (wp_i v1), some (wp_i 0)]) ji_51_50 rfl rfl rfl ?_
    refine wl_s (pc' := 52) ji_51_51 rfl rfl rfl ?_
    refine wl_s (pc' := 53) ji_51_52 rfl rfl rfl ?_
    refine wl_bp ji_51_53 rfl ?_
    refine wl_vc (d := d + 3) (as := [.ref 93, wp_i 2, wp_i 59]) (rest := []) ji_51_55 jc_51_110 rfl (kl_93 V) jk_53.symm (Nat.le_of_ble_eq_true rfl) rfl (by rw [jn_53]; rfl) (wk_rt0 D hL H8 ht V (by omega) ⟨hx1, by omega⟩) (fun v1 h9 R => ?_)
    obtain ⟨rfl, e1⟩ := R
    subst e1
    show wl_R _ _ 51 58 [some (.ref 93), some (wp_i 3), some (wp_i v1), some (wp_i 0)] [] h9 _
    refine wl_s (pc' := 59) ji_51_58 rfl rfl rfl ?_
    refine kl_g V ji_51_59 jf_51_51 rfl ?_
    refine wl_s (pc' := 63) ji_51_62 rfl rfl rfl ?_
    refine wl_s (pc' := 64) ji_51_63 rfl rfl rfl ?_
    refine wl_s (pc' := 65) ji_51_64 rfl rfl rfl ?_
    obtain ⟨tfs, htc⟩ := kl_tc V
    refine wl_vc (d := d + 3) (as := [.ref t, wp_i 3, wp_i v1, wp_i 0]) (rest := []) ji_51_65 jc_51_120 rfl htc jk_50.symm (Nat.le_of_ble_eq_true rfl) rfl (by rw [jn_50]; rfl) (wk_ac ht V hcl) (fun v1 h8 R => ?_)
    obtain ⟨rfl, V⟩ := R
    show wl_R _ _ 51 68 [some (.ref 93), some (wp_i 3), some (wp_i v1), some (wp_i 0)] [] h8 _
    rw [show dl 3 = [(0, 1, 99), (1, 0, 10), (0, 0, 99), (1, 2, 59)] from rfl]
    exact wl_rv ji_51_68 jr_51 ⟨rfl, k1, v1, q1, r1, e1, [], _, ⟨k1, v1, q1, r1, tk1, Or.inl ⟨by rw [(show xe 0 1 99 k1 v1 = e1 from he1)]; exact hx1, (show xe 0 1 99 k1 v1 = e1 from he1).symm, rfl, rfl⟩⟩, by omega, (fun z => absurd z hx1), by rw [if_neg hx1]; exact V⟩
theorem wk_d4 {n d : Nat} {h0 h : mj_H} {bl ws : List Value} {fr : TD} {t : Nat} {L k v s p f q law st wn op br ls as_ cl : Int} (D : tB bl) (hL : 0 ≤ L ∧ L ≤ 300) (H8 : h0[8]? = some (900, tk_V)) (ht : 12 ≤ t ∧ t ≤ 33) (V : kL h0 h bl t L k v s p f q law st wn op br ls as_ cl ws fr) (hp : 0 ≤ p ∧ p ≤ L) (hf : f = 0) (HC : hC h0) (hcl : 0 ≤ cl ∧ cl ≤ 23) : wl_R n (d + 4) 51 0 [some (.ref 93), some (wp_i 4), none, none] [] h (fun w h1 => w = none ∧ ∃ (k' v' q' r' f' : Int) (N : List Int) (fr' : TD), xre (bt bl L) (dl 4) p s N f' q' r' ∧ (p ≤ q' ∧ q' ≤ r' ∧ r' ≤ L) ∧ (f' = 0 → fr' = apK fr cl ((4, N.headD 0, N.tail.headD 0), [])) ∧ kL h0 h1 bl t L k' v' q' r' f' (if f' = 0 then q else q') law st wn op br ls as_ (cl + 1) ws fr') := by
  subst hf
  refine wl_s (pc' := 1) ji_51_0 rfl rfl rfl ?_
  refine wl_gs ji_51_1 jst_51_97 ?_
  refine wl_s (pc' := 5) ji_51_4 rfl rfl rfl ?_
  refine wl_ial (x := 4) ji_51_5 ((V.2.2.2.2.2 1 (by omega) (by decide) (by decide) (by decide)).trans HC.1) (by decide) (by decide) (by decide) (v := wp_i 1) rfl ?_
  refine wl_gs ji_51_6 jst_51_100 ?_
  refine wl_s (pc' := 10) ji_51_9 rfl rfl rfl ?_
  refine wl_ial (x := 4) ji_51_10 ((V.2.2.2.2.2 2 (by omega) (by decide) (by decide) (by decide)).trans HC.2.1) (by decide) (by decide) (by decide) (v := wp_i 9) rfl ?_
  refine wl_vc (d := d + 3) (as := [.ref 93, wp_i 1, wp_i 9]) (rest := []) ji_51_11 jc_51_103 rfl (kl_93 V) jk_52.symm (Nat.le_of_ble_eq_true rfl) rfl (by rw [jn_52]; rfl) (wk_rn (d := d) (a := 1) (b := 9) D hL H8 ht V (by omega) rfl (by omega)) (fun v1 h21 R => ?_)
  obtain ⟨k1, v1, q1, r1, rfl, tk1, hq1, V⟩ := R
  show wl_R _ _ 51 14 [some (.ref 93), some (wp_i 4), none, none] [wp_i v1] h21 _
  have hxr1 : 0 ≤ xn 1 9 k1 v1 ∧ xn 1 9 k1 v1 ≤ 2 := xe_r (c := 0)
  obtain ⟨e1, he1⟩ : ∃ e, xn 1 9 k1 v1 = e := ⟨_, rfl⟩
  rw [he1] at V hxr1
  by_cases hx1 : e1 = 0
  · rw [if_pos hx1, hx1] at V
    rw [hx1] at he1
    refine wl_s (pc' := 15) (lv' := [some (.ref 93), some (wp_i 4), some (wp_i v1), none]) ji_51_14 rfl rfl rfl ?_
    refine wl_s (pc' := 16) ji_51_15 rfl rfl rfl ?_
    refine wl_s (pc' := 17) (lv' := [some (.ref 93), some (wp_i 4), some (wp_i v1), some (wp_i 0)]) ji_51_16 rfl rfl rfl ?_
    refine wl_gs ji_51_17 jst_51_107 ?_
    refine wl_s (pc' := 21) ji_51_20 rfl rfl rfl ?_
    refine wl_ial (x := 4) ji_51_21 ((V.2.2.2.2.2 3 (by omega) (by decide) (by decide) (by decide)).trans HC.2.2.1) (by decide) (by decide) (by decide) (v := wp_i (-1)) rfl ?_
    refine wl_s (pc' := 23) ji_51_22 rfl rfl rfl ?_
    refine wl_icmp (t := 51) ji_51_23 rfl (by omega) (by omega) (fun (hb1 : (-1 : Int) = (-1)) => ?_) (fun (hb1 : ¬ ((-1 : Int) = (-1))) => (by exfalso; omega))
    refine wl_s (pc' := 52) ji_51_51 rfl rfl rfl ?_
    refine wl_s (pc' := 53) ji_51_52 rfl rfl rfl ?_
    refine wl_bp ji_51_53 rfl ?_
    refine wl_vc (d := d + 3) (as := [.ref 93, wp_i 2, wp_i 59]) (rest := []) ji_51_55 jc_51_110 rfl (kl_93 V) jk_53.symm (Nat.le_of_ble_eq_true rfl) rfl (by rw [jn_53]; rfl) (wk_rt (d := d) (a := 2) (b := 59) D hL H8 ht V (by omega) rfl (by omega)) (fun v1 h22 R => ?_)
    obtain ⟨rfl, k2, v2, q2, r2, tk2, hq2, V⟩ := R
    show wl_R _ _ 51 58 [some (.ref 93), some (wp_i 4), some (wp_i v1), some (wp_i 0)] [] h22 _
    have hxr2 : 0 ≤ xt 2 59 k2 v2 ∧ xt 2 59 k2 v2 ≤ 2 := xe_r (c := 1)
    obtain ⟨e2, he2⟩ : ∃ e, xt 2 59 k2 v2 = e := ⟨_, rfl⟩
    rw [he2] at V hxr2
    by_cases hx2 : e2 = 0
    · rw [if_pos hx2, hx2] at V
      rw [hx2] at he2
      refine wl_s (pc' := 59) ji_51_58 rfl rfl rfl ?_
      refine kl_g V ji_51_59 jf_51_51 rfl ?_
      refine wl_s (pc' := 63) ji_51_62 rfl rfl rfl ?_
      refine wl_s (pc' := 64) ji_51_63 rfl rfl rfl ?_
      refine wl_s (pc' := 65) ji_51_64 rfl rfl rfl ?_
      obtain ⟨tfs, htc⟩ := kl_tc V
      refine wl_vc (d := d + 3) (as := [.ref t, wp_i 4, wp_i v1, wp_i 0]) (rest := []) ji_51_65 jc_51_120 rfl htc jk_50.symm (Nat.le_of_ble_eq_true rfl) rfl (by rw [jn_50]; rfl) (wk_ac ht V hcl) (fun v1 h8 R => ?_)
      obtain ⟨rfl, V⟩ := R
      show wl_R _ _ 51 68 [some (.ref 93), some (wp_i 4), some (wp_i v1), some (wp_i 0)] [] h8 _
      rw [show dl 4 = [(0, 1, 9), (1, 2, 59)] from rfl]
      exact wl_rv ji_51_68 jr_51 ⟨rfl, k2, v2, q2, r2, 0, [v1], _, ⟨k1, v1, q1, r1, tk1, Or.inr ⟨(show xe 0 1 9 k1 v1 = 0 from he1), [], (if_pos rfl).symm, ⟨k2, v2, q2, r2, tk2, Or.inr ⟨(show xe 1 2 59 k2 v2 = 0 from he2), [], (if_neg (by decide)).symm, ⟨rfl, rfl, rfl, rfl⟩⟩⟩⟩⟩, by omega, (fun z => (if_neg (by show ¬ (4 : Int) < 3; decide)).symm), by rw [if_pos rfl]; exact V⟩
    · rw [if_neg hx2] at V
      refine wl_s (pc' := 59) ji_51_58 rfl rfl rfl ?_
      refine kl_g V ji_51_59 jf_51_51 rfl ?_
      refine wl_s (pc' := 63) ji_51_62 rfl rfl rfl ?_
      refine wl_s (pc' := 64) ji_51_63 rfl rfl rfl ?_
      refine wl_s (pc' := 65) ji_51_64 rfl rfl rfl ?_
      obtain ⟨tfs, htc⟩ := kl_tc V
      refine wl_vc (d := d + 3) (as := [.ref t, wp_i 4, wp_i v1, wp_i 0]) (rest := []) ji_51_65 jc_51_120 rfl htc jk_50.symm (Nat.le_of_ble_eq_true rfl) rfl (by rw [jn_50]; rfl) (wk_ac ht V hcl) (fun v1 h8 R => ?_)
      obtain ⟨rfl, V⟩ := R
      show wl_R _ _ 51 68 [some (.ref 93), some (wp_i 4), some (wp_i v1), some (wp_i 0)] [] h8 _
      rw [show dl 4 = [(0, 1, 9), (1, 2, 59)] from rfl]
      exact wl_rv ji_51_68 jr_51 ⟨rfl, k2, v2, q2, r2, e2, [v1], _, ⟨k1, v1, q1, r1, tk1, Or.inr ⟨(show xe 0 1 9 k1 v1 = 0 from he1), [], (if_pos rfl).symm, ⟨k2, v2, q2, r2, tk2, Or.inl ⟨by rw [(show xe 1 2 59 k2 v2 = e2 from he2)]; exact hx2, (show xe 1 2 59 k2 v2 = e2 from he2).symm, rfl, rfl⟩⟩⟩⟩, by omega, (fun z => absurd z hx2), by rw [if_neg hx2]; exact V⟩
  · rw [if_neg hx1] at V
    refine wl_s (pc' := 15) (lv' := [some (.ref 93), some (wp_i 4), some (wp_i v1), none]) ji_51_14 rfl rfl rfl ?_
    refine wl_s (pc' := 16) ji_51_15 rfl rfl rfl ?_
    refine wl_s (pc' := 17) (lv' := [some (.ref 93), some (wp_i 4), some (wp_i v1), some (wp_i 0)]) ji_51_16 rfl rfl rfl ?_
    refine wl_gs ji_51_17 jst_51_107 ?_
    refine wl_s (pc' := 21) ji_51_20 rfl rfl rfl ?_
    refine wl_ial (x := 4) ji_51_21 ((V.2.2.2.2.2 3 (by omega) (by decide) (by decide) (by decide)).trans HC.2.2.1) (by decide) (by decide) (by decide) (v := wp_i (-1)) rfl ?_
    refine wl_s (pc' := 23) ji_51_22 rfl rfl rfl ?_
    refine wl_icmp (t := 51) ji_51_23 rfl (by omega) (by omega) (fun (hb2 : (-1 : Int) = (-1)) => ?_) (fun (hb2 : ¬ ((-1 : Int) = (-1))) => (by exfalso; omega))
    refine wl_s (pc' := 52) ji_51_51 rfl rfl rfl ?_
    refine wl_s (pc' := 53) ji_51_52 rfl rfl rfl ?_
    refine wl_bp ji_51_53 rfl ?_
    refine wl_vc (d := d + 3) (as := [.ref 93, wp_i 2, wp_i 59]) (rest := []) ji_51_55 jc_51_110 rfl (kl_93 V) jk_53.symm (Nat.le_of_ble_eq_true rfl) rfl (by rw [jn_53]; rfl) (wk_rt0 D hL H8 ht V (by omega) ⟨hx1, by omega⟩) (fun v1 h9 R => ?_)
    obtain ⟨rfl, e1⟩ := R
    subst e1
    show wl_R _ _ 51 58 [some (.ref 93), some (wp_i 4), some (wp_i v1), some (wp_i 0)] [] h9 _
    refine wl_s (pc' := 59) ji_51_58 rfl rfl rfl ?_
    refine kl_g V ji_51_59 jf_51_51 rfl ?_
    refine wl_s (pc' := 63) ji_51_62 rfl rfl rfl ?_
    refine wl_s (pc' := 64) ji_51_63 rfl rfl rfl ?_
    refine wl_s (pc' := 65) ji_51_64 rfl rfl rfl ?_
    obtain ⟨tfs, htc⟩ := kl_tc V
    refine wl_vc (d := d + 3) (as := [.ref t, wp_i 4, wp_i v1, wp_i 0]) (rest := []) ji_51_65 jc_51_120 rfl htc jk_50.symm (Nat.le_of_ble_eq_true rfl) rfl (by rw [jn_50]; rfl) (wk_ac ht V hcl) (fun v1 h8 R => ?_)
    obtain ⟨rfl, V⟩ := R
    show wl_R _ _ 51 68 [some (.ref 93), some (wp_i 4), some (wp_i v1), some (wp_i 0)] [] h8 _
    rw [show dl 4 = [(0, 1, 9), (1, 2, 59)] from rfl]
    exact wl_rv ji_51_68 jr_51 ⟨rfl, k1, v1, q1, r1, e1, [], _, ⟨k1, v1, q1, r1, tk1, Or.inl ⟨by rw [(show xe 0 1 9 k1 v1 = e1 from he1)]; exact hx1, (show xe 0 1 9 k1 v1 = e1 from he1).symm, rfl, rfl⟩⟩, by omega, (fun z => absurd z hx1), by rw [if_neg hx1]; exact V⟩
theorem wk_d5 {n d : Nat} {h0 h : mj_H} {bl ws : List Value} {fr : TD} {t : Nat} {L k v s p f q law st wn op br ls as_ cl : Int} (D : tB bl) (hL : 0 ≤ L ∧ L ≤ 300) (H8 : h0[8]? = some (900, tk_V)) (ht : 12 ≤ t ∧ t ≤ 33) (V : kL h0 h bl t L k v s p f q law st wn op br ls as_ cl ws fr) (hp : 0 ≤ p ∧ p ≤ L) (hf : f = 0) (HC : hC h0) (hcl : 0 ≤ cl ∧ cl ≤ 23) : wl_R n (d + 4) 51 0 [some (.ref 93), some (wp_i 5), none, none] [] h (fun w h1 => w = none ∧ ∃ (k' v' q' r' f' : Int) (N : List Int) (fr' : TD), xre (bt bl L) (dl 5) p s N f' q' r' ∧ (p ≤ q' ∧ q' ≤ r' ∧ r' ≤ L) ∧ (f' = 0 → fr' = apK fr cl ((5, N.headD 0, N.tail.headD 0), [])) ∧ kL h0 h1 bl t L k' v' q' r' f' (if f' = 0 then q else q') law st wn op br ls as_ (cl + 1) ws fr') := by
  subst hf
  refine wl_s (pc' := 1) ji_51_0 rfl rfl rfl ?_
  refine wl_gs ji_51_1 jst_51_97 ?_
  refine wl_s (pc' := 5) ji_51_4 rfl rfl rfl ?_
  refine wl_ial (x := 5) ji_51_5 ((V.2.2.2.2.2 1 (by omega) (by decide) (by decide) (by decide)).trans HC.1) (by decide) (by decide) (by decide) (v := wp_i 0) rfl ?_
  refine wl_gs ji_51_6 jst_51_100 ?_
  refine wl_s (pc' := 10) ji_51_9 rfl rfl rfl ?_
  refine wl_ial (x := 5) ji_51_10 ((V.2.2.2.2.2 2 (by omega) (by decide) (by decide) (by decide)).trans HC.2.1) (by decide) (by decide) (by decide) (v := wp_i 5) rfl ?_
  refine wl_vc (d := d + 3) (as := [.ref 93, wp_i 0, wp_i 5]) (rest := []) ji_51_11 jc_51_103 rfl (kl_93 V) jk_52.symm (Nat.le_of_ble_eq_true rfl) rfl (by rw [jn_52]; rfl) (wk_rn (d := d) (a := 0) (b := 5) D hL H8 ht V (by omega) rfl (by omega)) (fun v1 h21 R => ?_)
  obtain ⟨k1, v1, q1, r1, rfl, tk1, hq1, V⟩ := R
  show wl_R _ _ 51 14 [some (.ref 93), some (wp_i 5), none, none] [wp_i v1] h21 _
  have hxr1 : 0 ≤ xn 0 5 k1 v1 ∧ xn 0 5 k1 v1 ≤ 2 := xe_r (c := 0)
  obtain ⟨e1, he1⟩ : ∃ e, xn 0 5 k1 v1 = e := ⟨_, rfl⟩
  rw [he1] at V hxr1
  by_cases hx1 : e1 = 0
  · rw [if_pos hx1, hx1] at V
    rw [hx1] at he1
    refine wl_s (pc' := 15) (lv' := [some (.ref 93), some (wp_i 5), some (wp_i v1), none]) ji_51_14 rfl rfl rfl ?_
    refine wl_s (pc' := 16) ji_51_15 rfl rfl rfl ?_
    refine wl_s (pc' := 17) (lv' := [some (.ref 93), some (wp_i 5), some (wp_i v1), some (wp_i 0)]) ji_51_16 rfl rfl rfl ?_
    refine wl_gs ji_51_17 jst_51_107 ?_
    refine wl_s (pc' := 21) ji_51_20 rfl rfl rfl ?_
    refine wl_ial (x := 5) ji_51_21 ((V.2.2.2.2.2 3 (by omega) (by decide) (by decide) (by decide)).trans HC.2.2.1) (by decide) (by decide) (by decide) (v := wp_i 11) rfl ?_
    refine wl_s (pc' := 23) ji_51_22 rfl rfl rfl ?_
    refine wl_icmp (t := 51) ji_51_23 rfl (by omega) (by omega) (fun (hb1 : (11 : Int) = (-1)) => (by exfalso; omega)) (fun (hb1 : ¬ ((11 : Int) = (-1))) => ?_)
    refine wl_s (pc' := 27) ji_51_26 rfl rfl rfl ?_
    refine wl_s (pc' := 28) ji_51_27 rfl rfl rfl ?_
    refine wl_gs ji_51_28 jst_51_107 ?_
    refine wl_s (pc' := 32) ji_51_31 rfl rfl rfl ?_
    refine wl_ial (x := 5) ji_51_32 ((V.2.2.2.2.2 3 (by omega) (by decide) (by decide) (by decide)).trans HC.2.2.1) (by decide) (by decide) (by decide) (v := wp_i 11) rfl ?_
    refine wl_vc (d := d + 3) (as := [.ref 93, wp_i 0, wp_i 11]) (rest := []) ji_51_33 jc_51_110 rfl (kl_93 V) jk_53.symm (Nat.le_of_ble_eq_true rfl) rfl (by rw [jn_53]; rfl) (wk_rt (d := d) (a := 0) (b := 11) D hL H8 ht V (by omega) rfl (by omega)) (fun v1 h22 R => ?_)
    obtain ⟨rfl, k2, v2, q2, r2, tk2, hq2, V⟩ := R
    show wl_R _ _ 51 36 [some (.ref 93), some (wp_i 5), some (wp_i v1), some (wp_i 0)] [] h22 _
    have hxr2 : 0 ≤ xt 0 11 k2 v2 ∧ xt 0 11 k2 v2 ≤ 2 := xe_r (c := 1)
    obtain ⟨e2, he2⟩ : ∃ e, xt 0 11 k2 v2 = e := ⟨_, rfl⟩
    rw [he2] at V hxr2
    by_cases hx2 : e2 = 0
    · rw [if_pos hx2, hx2] at V
      rw [hx2] at he2
      refine wl_s (pc' := 37) ji_51_36 rfl rfl rfl ?_
      refine wl_gs ji_51_37 jst_51_114 ?_
      refine wl_s (pc' := 41) ji_51_40 rfl rfl rfl ?_
      refine wl_ial (x := 5) ji_51_41 ((V.2.2.2.2.2 4 (by omega) (by decide) (by decide) (by decide)).trans HC.2.2.2.1) (by decide) (by decide) (by decide) (v := wp_i 0) rfl ?_
      refine wl_gs ji_51_42 jst_51_117 ?_
      refine wl_s (pc' := 46) ji_51_45 rfl rfl rfl ?_
      refine wl_ial (x := 5) ji_51_46 ((V.2.2.2.2.2 5 (by omega) (by decide) (by decide) (by decide)).trans HC.2.2.2.2) (by decide) (by decide) (by decide) (v := wp_i 7) rfl ?_
      refine wl_vc (d := d + 3) (as := [.ref 93, wp_i 0, wp_i 7]) (rest := []) ji_51_47 jc_51_103 rfl (kl_93 V) jk_52.symm (Nat.le_of_ble_eq_true rfl) rfl (by rw [jn_52]; rfl) (wk_rn (d := d) (a := 0) (b := 7) D hL H8 ht V (by omega) rfl (by omega)) (fun v1 h23 R => ?_)
      obtain ⟨k3, v3, q3, r3, rfl, tk3, hq3, V⟩ := R
      show wl_R _ _ 51 50 [some (.ref 93), some (wp_i 5), some (wp_i v1), some (wp_i 0)] [wp_i v3] h23 _
      have hxr3 : 0 ≤ xn 0 7 k3 v3 ∧ xn 0 7 k3 v3 ≤ 2 := xe_r (c := 0)
      obtain ⟨e3, he3⟩ : ∃ e, xn 0 7 k3 v3 = e := ⟨_, rfl⟩
      rw [he3] at V hxr3
      by_cases hx3 : e3 = 0
      · rw [if_pos hx3, hx3] at V
        rw [hx3] at he3
        refine wl_s (pc' := 51) (lv' := [some (.ref 93), some (wp_i 5), some (wp_i v1), some (wp_i v3)]) ji_51_50 rfl rfl rfl ?_
        refine wl_s (pc' := 52) ji_51_51 rfl rfl rfl ?_
        refine wl_s (pc' := 53) ji_51_52 rfl rfl rfl ?_
        refine wl_bp ji_51_53 rfl ?_
        refine wl_vc (d := d + 3) (as := [.ref 93, wp_i 2, wp_i 59]) (rest := []) ji_51_55 jc_51_110 rfl (kl_93 V) jk_53.symm (Nat.le_of_ble_eq_true rfl) rfl (by rw [jn_53]; rfl) (wk_rt (d := d) (a := 2) (b := 59) D hL H8 ht V (by omega) rfl (by omega)) (fun v1 h24 R => ?_)
        obtain ⟨rfl, k4, v4, q4, r4, tk4, hq4, V⟩ := R
        show wl_R _ _ 51 58 [some (.ref 93), some (wp_i 5), some (wp_i v1), some (wp_i v3)] [] h24 _
        have hxr4 : 0 ≤ xt 2 59 k4 v4 ∧ xt 2 59 k4 v4 ≤ 2 := xe_r (c := 1)
        obtain ⟨e4, he4⟩ : ∃ e, xt 2 59 k4 v4 = e := ⟨_, rfl⟩
        rw [he4] at V hxr4
        by_cases hx4 : e4 = 0
        · rw [if_pos hx4, hx4] at V
          rw [hx4] at he4
          refine wl_s (pc' := 59) ji_51_58 rfl rfl rfl ?_
          refine kl_g V ji_51_59 jf_51_51 rfl ?_
          refine wl_s (pc' := 63) ji_51_62 rfl rfl rfl ?_
          refine wl_s (pc' := 64) ji_51_63 rfl rfl rfl ?_
          refine wl_s (pc' := 65) ji_51_64 rfl rfl rfl ?_
          obtain ⟨tfs, htc⟩ := kl_tc V
          refine wl_vc (d := d + 3) (as := [.ref t, wp_i 5, wp_i v1, wp_i v3]) (rest := []) ji_51_65 jc_51_120 rfl htc jk_50.symm (Nat.le_of_ble_eq_true rfl) rfl (by rw [jn_50]; rfl) (wk_ac ht V hcl) (fun v1 h8 R => ?_)
          obtain ⟨rfl, V⟩ := R
          show wl_R _ _ 51 68 [some (.ref 93), some (wp_i 5), some (wp_i v1), some (wp_i v3)] [] h8 _
          rw [show dl 5 = [(0, 0, 5), (1, 0, 11), (0, 0, 7), (1, 2, 59)] from rfl]
          exact wl_rv ji_51_68 jr_51 ⟨rfl, k4, v4, q4, r4, 0, [v1, v3], _, ⟨k1, v1, q1, r1, tk1, Or.inr ⟨(show xe 0 0 5 k1 v1 = 0 from he1), [v3], (if_pos rfl).symm, ⟨k2, v2, q2, r2, tk2, Or.inr ⟨(show xe 1 0 11 k2 v2 = 0 from he2), [v3], (if_neg (by decide)).symm, ⟨k3, v3, q3, r3, tk3, Or.inr ⟨(show xe 0 0 7 k3 v3 = 0 from he3), [], (if_pos rfl).symm, ⟨k4, v4, q4, r4, tk4, Or.inr ⟨(show xe 1 2 59 k4 v4 = 0 from he4), [], (if_neg (by decide)).symm, ⟨rfl, rfl, rfl, rfl⟩⟩⟩⟩⟩⟩⟩⟩⟩, by omega, (fun z => (if_neg (by show ¬ (5 : Int) < 3; decide)).symm), by rw [if_pos rfl]; exact V⟩
        · rw [if_neg hx4] at V
          refine wl_s (pc' := 59) ji_51_58 rfl rfl rfl ?_
          refine kl_g V ji_51_59 jf_51_51 rfl ?_
          refine wl_s (pc' := 63) ji_51_62 rfl rfl rfl ?_
          refine wl_s (pc' := 64) ji_51_63 rfl rfl rfl ?_
          refine wl_s (pc' := 65) ji_51_64 rfl rfl rfl ?_
          obtain ⟨tfs, htc⟩ := kl_tc V
          refine wl_vc (d := d + 3) (as := [.ref t, wp_i 5, wp_i v1, wp_i v3]) (rest := []) ji_51_65 jc_51_120 rfl htc jk_50.symm (Nat.le_of_ble_eq_true rfl) rfl (by rw [jn_50]; rfl) (wk_ac ht V hcl) (fun v1 h8 R => ?_)
          obtain ⟨rfl, V⟩ := R
          show wl_R _ _ 51 68 [some (.ref 93), some (wp_i 5), some (wp_i v1), some (wp_i v3)] [] h8 _
          rw [show dl 5 = [(0, 0, 5), (1, 0, 11), (0, 0, 7), (1, 2, 59)] from rfl]
          exact wl_rv ji_51_68 jr_51 ⟨rfl, k4, v4, q4, r4, e4, [v1, v3], _, ⟨k1, v1, q1, r1, tk1, Or.inr ⟨(show xe 0 0 5 k1 v1 = 0 from he1), [v3], (if_pos rfl).symm, ⟨k2, v2, q2, r2, tk2, Or.inr ⟨(show xe 1 0 11 k2 v2 = 0 from he2), [v3], (if_neg (by decide)).symm, ⟨k3, v3, q3, r3, tk3, Or.inr ⟨(show xe 0 0 7 k3 v3 = 0 from he3), [], (if_pos rfl).symm, ⟨k4, v4, q4, r4, tk4, Or.inl ⟨by rw [(show xe 1 2 59 k4 v4 = e4 from he4)]; exact hx4, (show xe 1 2 59 k4 v4 = e4 from he4).symm, rfl, rfl⟩⟩⟩⟩⟩⟩⟩⟩, by omega, (fun z => absurd z hx4), by rw [if_neg hx4]; exact V⟩
      · rw [if_neg hx3] at V
        refine wl_s (pc' := 51) (lv' := [some (.ref 93), some (wp_i 5), some (wp_i v1), some (wp_i v3)]) ji_51_50 rfl rfl rfl ?_
        refine wl_s (pc' := 52) ji_51_51 rfl rfl rfl ?_
        refine wl_s (pc' := 53) ji_51_52 rfl rfl rfl ?_
        refine wl_bp ji_51_53 rfl ?_
        refine wl_vc (d := d + 3) (as := [.ref 93, wp_i 2, wp_i 59]) (rest := []) ji_51_55 jc_51_110 rfl (kl_93 V) jk_53.symm (Nat.le_of_ble_eq_true rfl) rfl (by rw [jn_53]; rfl) (wk_rt0 D hL H8 ht V (by omega) ⟨hx3, by omega⟩) (fun v1 h9 R => ?_)
        obtain ⟨rfl, e1⟩ := R
        subst e1
        show wl_R _ _ 51 58 [some (.ref 93), some (wp_i 5), some (wp_i v1), some (wp_i v3)] [] h9 _
        refine wl_s (pc' := 59) ji_51_58 rfl rfl rfl ?_
        refine kl_g V ji_51_59 jf_51_51 rfl ?_
        refine wl_s (pc' := 63) ji_51_62 rfl rfl rfl ?_
        refine wl_s (pc' := 64) ji_51_63 rfl rfl rfl ?_
        refine wl_s (pc' := 65) ji_51_64 rfl rfl rfl ?_
        obtain ⟨tfs, htc⟩ := kl_tc V
        refine wl_vc (d := d + 3) (as := [.ref t, wp_i 5, wp_i v1, wp_i v3]) (rest := []) ji_51_65 jc_51_120 rfl htc jk_50.symm (Nat.le_of_ble_eq_true rfl) rfl (by rw [jn_50]; rfl) (wk_ac ht V hcl) (fun v1 h8 R => ?_)
        obtain ⟨rfl, V⟩ := R
        show wl_R _ _ 51 68 [some (.ref 93), some (wp_i 5), some (wp_i v1), some (wp_i v3)] [] h8 _
        rw [show dl 5 = [(0, 0, 5), (1, 0, 11), (0, 0, 7), (1, 2, 59)] from rfl]
        exact wl_rv ji_51_68 jr_51 ⟨rfl, k3, v3, q3, r3, e3, [v1], _, ⟨k1, v1, q1, r1, tk1, Or.inr ⟨(show xe 0 0 5 k1 v1 = 0 from he1), [], (if_pos rfl).symm, ⟨k2, v2, q2, r2, tk2, Or.inr ⟨(show xe 1 0 11 k2 v2 = 0 from he2), [], (if_neg (by decide)).symm, ⟨k3, v3, q3, r3, tk3, Or.inl ⟨by rw [(show xe 0 0 7 k3 v3 = e3 from he3)]; exact hx3, (show xe 0 0 7 k3 v3 = e3 from he3).symm, rfl, rfl⟩⟩⟩⟩⟩⟩, by omega, (fun z => absurd z hx3), by rw [if_neg hx3]; exact V⟩
    · rw [if_neg hx2] at V
      refine wl_s (pc' := 37) ji_51_36 rfl rfl rfl ?_
      refine wl_gs ji_51_37 jst_51_114 ?_
      refine wl_s (pc' := 41) ji_51_40 rfl rfl rfl ?_
      refine wl_ial (x := 5) ji_51_41 ((V.2.2.2.2.2 4 (by omega) (by decide) (by decide) (by decide)).trans HC.2.2.2.1) (by decide) (by decide) (by decide) (v := wp_i 0) rfl ?_
      refine wl_gs ji_51_42 jst_51_117 ?_
      refine wl_s (pc' := 46) ji_51_45 rfl rfl rfl ?_
      refine wl_ial (x := 5) ji_51_46 ((V.2.2.2.2.2 5 (by omega) (by decide) (by decide) (by decide)).trans HC.2.2.2.2) (by decide) (by decide) (by decide) (v := wp_i 7) rfl ?_
      refine wl_vc (d := d + 3) (as := [.ref 93, wp_i 0, wp_i 7]) (rest := []) ji_51_47 jc_51_103 rfl (kl_93 V) jk_52.symm (Nat.le_of_ble_eq_true rfl) rfl (by rw [jn_52]; rfl) (wk_rn0 D hL H8 ht V (by omega) ⟨hx2, by omega⟩) (fun v1 h9 R => ?_)
      obtain ⟨rfl, e1⟩ := R
      subst e1
      show wl_R _ _ 51 50 [some (.ref 93), some (wp_i 5), some (wp_i v1), some (wp_i 0)] [wp_i 0] h9 _
      refine wl_s (pc' := 51) (lv' := [some (.ref 93), some (wp_i 5), some (wp_i v1), some (wp_i 0)]) ji_51_50 rfl rfl rfl ?_
      refine wl_s (pc' := 52) ji_51_51 rfl rfl rfl ?_
      refine wl_s (pc' := 53) ji_51_52 rfl rfl rfl ?_
      refine wl_bp ji_51_53 rfl ?_
      refine wl_vc (d := d + 3) (as := [.ref 93, wp_i 2, wp_i 59]) (rest := []) ji_51_55 jc_51_110 rfl (kl_93 V) jk_53.symm (Nat.le_of_ble_eq_true rfl) rfl (by rw [jn_53]; rfl) (wk_rt0 D hL H8 ht V (by omega) ⟨hx2, by omega⟩) (fun v1 h9 R => ?_)
      obtain ⟨rfl, e1⟩ := R
      subst e1
      show wl_R _ _ 51 58 [some (.ref 93), some (wp_i 5), some (wp_i v1), some (wp_i 0)] [] h9 _
      refine wl_s (pc' := 59) ji_51_58 rfl rfl rfl ?_
      refine kl_g V ji_51_59 jf_51_51 rfl ?_
      refine wl_s (pc' := 63) ji_51_62 rfl rfl rfl ?_
      refine wl_s (pc' := 64) ji_51_63 rfl rfl rfl ?_
      refine wl_s (pc' := 65) ji_51_64 rfl rfl rfl ?_
      obtain ⟨tfs, htc⟩ := kl_tc V
      refine wl_vc (d := d + 3) (as := [.ref t, wp_i 5, wp_i v1, wp_i 0]) (rest := []) ji_51_65 jc_51_120 rfl htc jk_50.symm (Nat.le_of_ble_eq_true rfl) rfl (by rw [jn_50]; rfl) (wk_ac ht V hcl) (fun v1 h8 R => ?_)
      obtain ⟨rfl, V⟩ := R
      show wl_R _ _ 51 68 [some (.ref 93), some (wp_i 5), some (wp_i v1), some (wp_i 0)] [] h8 _
      rw [show dl 5 = [(0, 0, 5), (1, 0, 11), (0, 0, 7), (1, 2, 59)] from rfl]
      exact wl_rv ji_51_68 jr_51 ⟨rfl, k2, v2, q2, r2, e2, [v1], _, ⟨k1, v1, q1, r1, tk1, Or.inr ⟨(show xe 0 0 5 k1 v1 = 0 from he1), [], (if_pos rfl).symm, ⟨k2, v2, q2, r2, tk2, Or.inl ⟨by rw [(show xe 1 0 11 k2 v2 = e2 from he2)]; exact hx2, (show xe 1 0 11 k2 v2 = e2 from he2).symm, rfl, rfl⟩⟩⟩⟩, by omega, (fun z => absurd z hx2), by rw [if_neg hx2]; exact V⟩
  · rw [if_neg hx1] at V
    refine wl_s (pc' := 15) (lv' := [some (.ref 93), some (wp_i 5), some (wp_i v1), none]) ji_51_14 rfl rfl rfl ?_
    refine wl_s (pc' := 16) ji_51_15 rfl rfl rfl ?_
    refine wl_s (pc' := 17) (lv' := [some (.ref 93), some (wp_i 5), some (wp_i v1), some (wp_i 0)]) ji_51_16 rfl rfl rfl ?_
    refine wl_gs ji_51_17 jst_51_107 ?_
    refine wl_s (pc' := 21) ji_51_20 rfl rfl rfl ?_
    refine wl_ial (x := 5) ji_51_21 ((V.2.2.2.2.2 3 (by omega) (by decide) (by decide) (by decide)).trans HC.2.2.1) (by decide) (by decide) (by decide) (v := wp_i 11) rfl ?_
    refine wl_s (pc' := 23) ji_51_22 rfl rfl rfl ?_
    refine wl_icmp (t := 51) ji_51_23 rfl (by omega) (by omega) (fun (hb2 : (11 : Int) = (-1)) => (by exfalso; omega)) (fun (hb2 : ¬ ((11 : Int) = (-1))) => ?_)
    refine wl_s (pc' := 27) ji_51_26 rfl rfl rfl ?_
    refine wl_s (pc' := 28) ji_51_27 rfl rfl rfl ?_
    refine wl_gs ji_51_28 jst_51_107 ?_
    refine wl_s (pc' := 32) ji_51_31 rfl rfl rfl ?_
    refine wl_ial (x := 5) ji_51_32 ((V.2.2.2.2.2 3 (by omega) (by decide) (by decide) (by decide)).trans HC.2.2.1) (by decide) (by decide) (by decide) (v := wp_i 11) rfl ?_
    refine wl_vc (d := d + 3) (as := [.ref 93, wp_i 0, wp_i 11]) (rest := []) ji_51_33 jc_51_110 rfl (kl_93 V) jk_53.symm (Nat.le_of_ble_eq_true rfl) rfl (by rw [jn_53]; rfl) (wk_rt0 D hL H8 ht V (by omega) ⟨hx1, by omega⟩) (fun v1 h9 R => ?_)
    obtain ⟨rfl, e1⟩ := R
    subst e1
    show wl_R _ _ 51 36 [some (.ref 93), some (wp_i 5), some (wp_i v1), some (wp_i 0)] [] h9 _
    refine wl_s (pc' := 37) ji_51_36 rfl rfl rfl ?_
    refine wl_gs ji_51_37 jst_51_114 ?_
    refine wl_s (pc' := 41) ji_51_40 rfl rfl rfl ?_
    refine wl_ial (x := 5) ji_51_41 ((V.2.2.2.2.2 4 (by omega) (by decide) (by decide) (by decide)).trans HC.2.2.2.1) (by decide) (by decide) (by decide) (v := wp_i 0) rfl ?_
    refine wl_gs ji_51_42 jst_51_117 ?_
    refine wl_s (pc' := 46) ji_51_45 rfl rfl rfl ?_
    refine wl_ial (x := 5) ji_51_46 ((V.2.2.2.2.2 5 (by omega) (by decide) (by decide) (by decide)).trans HC.2.2.2.2) (by decide) (by decide) (by decide) (v := wp_i 7) rfl ?_
    refine wl_vc (d := d + 3) (as := [.ref 93, wp_i 0, wp_i 7]) (rest := []) ji_51_47 jc_51_103 rfl (kl_93 V) jk_52.symm (Nat.le_of_ble_eq_true rfl) rfl (by rw [jn_52]; rfl) (wk_rn0 D hL H8 ht V (by omega) ⟨hx1, by omega⟩) (fun v1 h9 R => ?_)
    obtain ⟨rfl, e1⟩ := R
    subst e1
    show wl_R _ _ 51 50 [some (.ref 93), some (wp_i 5), some (wp_i v1), some (wp_i 0)] [wp_i 0] h9 _
    refine wl_s (pc' := 51) (lv' := [some (.ref 93), some (wp_i 5), some (wp_i v1), some (wp_i 0)]) ji_51_50 rfl rfl rfl ?_
    refine wl_s (pc' := 52) ji_51_51 rfl rfl rfl ?_
    refine wl_s (pc' := 53) ji_51_52 rfl rfl rfl ?_
    refine wl_bp ji_51_53 rfl ?_
    refine wl_vc (d := d + 3) (as := [.ref 93, wp_i 2, wp_i 59]) (rest := []) ji_51_55 jc_51_110 rfl (kl_93 V) jk_53.symm (Nat.le_of_ble_eq_true rfl) rfl (by rw [jn_53]; rfl) (wk_rt0 D hL H8 ht V (by omega) ⟨hx1, by omega⟩) (fun v1 h9 R => ?_)
    obtain ⟨rfl, e1⟩ := R
    subst e1
    show wl_R _ _ 51 58 [some (.ref 93), some (wp_i 5), some (wp_i v1), some (wp_i 0)] [] h9 _
    refine wl_s (pc' := 59) ji_51_58 rfl rfl rfl ?_
    refine kl_g V ji_51_59 jf_51_51 rfl ?_
    refine wl_s (pc' := 63) ji_51_62 rfl rfl rfl ?_
    refine wl_s (pc' := 64) ji_51_63 rfl rfl rfl ?_
    refine wl_s (pc' := 65) ji_51_64 rfl rfl rfl ?_
    obtain ⟨tfs, htc⟩ := kl_tc V
    refine wl_vc (d := d + 3) (as := [.ref t, wp_i 5, wp_i v1, wp_i 0]) (rest := []) ji_51_65 jc_51_120 rfl htc jk_50.symm (Nat.le_of_ble_eq_true rfl) rfl (by rw [jn_50]; rfl) (wk_ac ht V hcl) (fun v1 h8 R => ?_)
    obtain ⟨rfl, V⟩ := R
    show wl_R _ _ 51 68 [some (.ref 93), some (wp_i 5), some (wp_i v1), some (wp_i 0)] [] h8 _
    rw [show dl 5 = [(0, 0, 5), (1, 0, 11), (0, 0, 7), (1, 2, 59)] from rfl]
    exact wl_rv ji_51_68 jr_51 ⟨rfl, k1, v1, q1, r1, e1, [], _, ⟨k1, v1, q1, r1, tk1, Or.inl ⟨by rw [(show xe 0 0 5 k1 v1 = e1 from he1)]; exact hx1, (show xe 0 0 5 k1 v1 = e1 from he1).symm, rfl, rfl⟩⟩, by omega, (fun z => absurd z hx1), by rw [if_neg hx1]; exact V⟩
theorem wk_d6 {n d : Nat} {h0 h : mj_H} {bl ws : List Value} {fr : TD} {t : Nat} {L k v s p f q law st wn op br ls as_ cl : Int} (D : tB bl) (hL : 0 ≤ L ∧ L ≤ 300) (H8 : h0[8]? = some (900, tk_V)) (ht : 12 ≤ t ∧ t ≤ 33) (V : kL h0 h bl t L k v s p f q law st wn op br ls as_ cl ws fr) (hp : 0 ≤ p ∧ p ≤ L) (hf : f = 0) (HC : hC h0) (hcl : 0 ≤ cl ∧ cl ≤ 23) : wl_R n (d + 4) 51 0 [some (.ref 93), some (wp_i 6), none, none] [] h (fun w h1 => w = none ∧ ∃ (k' v' q' r' f' : Int) (N : List Int) (fr' : TD), xre (bt bl L) (dl 6) p s N f' q' r' ∧ (p ≤ q' ∧ q' ≤ r' ∧ r' ≤ L) ∧ (f' = 0 → fr' = apK fr cl ((6, N.headD 0, N.tail.headD 0), [])) ∧ kL h0 h1 bl t L k' v' q' r' f' (if f' = 0 then q else q') law st wn op br ls as_ (cl + 1) ws fr') := by
  subst hf
  refine wl_s (pc' := 1) ji_51_0 rfl rfl rfl ?_
  refine wl_gs ji_51_1 jst_51_97 ?_
  refine wl_s (pc' := 5) ji_51_4 rfl rfl rfl ?_
  refine wl_ial (x := 6) ji_51_5 ((V.2.2.2.2.2 1 (by omega) (by decide) (by decide) (by decide)).trans HC.1) (by decide) (by decide) (by decide) (v := wp_i 0) rfl ?_
  refine wl_gs ji_51_6 jst_51_100 ?_
  refine wl_s (pc' := 10) ji_51_9 rfl rfl rfl ?_
  refine wl_ial (x := 6) ji_51_10 ((V.2.2.2.2.2 2 (by omega) (by decide) (by decide) (by decide)).trans HC.2.1) (by decide) (by decide) (by decide) (v := wp_i 5) rfl ?_
  refine wl_vc (d := d + 3) (as := [.ref 93, wp_i 0, wp_i 5]) (rest := []) ji_51_11 jc_51_103 rfl (kl_93 V) jk_52.symm (Nat.le_of_ble_eq_true rfl) rfl (by rw [jn_52]; rfl) (wk_rn (d := d) (a := 0) (b := 5) D hL H8 ht V (by omega) rfl (by omega)) (fun v1 h21 R => ?_)
  obtain ⟨k1, v1, q1, r1, rfl, tk1, hq1, V⟩ := R
  show wl_R _ _ 51 14 [some (.ref 93), some (wp_i 6), none, none] [wp_i v1] h21 _
  have hxr1 : 0 ≤ xn 0 5 k1 v1 ∧ xn 0 5 k1 v1 ≤ 2 := xe_r (c := 0)
  obtain ⟨e1, he1⟩ : ∃ e, xn 0 5 k1 v1 = e := ⟨_, rfl⟩
  rw [he1] at V hxr1
  by_cases hx1 : e1 = 0
  · rw [if_pos hx1, hx1] at V
    rw [hx1] at he1
    refine wl_s (pc' := 15) (lv' := [some (.ref 93), some (wp_i 6), some (wp_i v1), none]) ji_51_14 rfl rfl rfl ?_
    refine wl_s (pc' := 16) ji_51_15 rfl rfl rfl ?_
    refine wl_s (pc' := 17) (lv' := [some (.ref 93), some (wp_i 6), some (wp_i v1), some (wp_i 0)]) ji_51_16 rfl rfl rfl ?_
    refine wl_gs ji_51_17 jst_51_107 ?_
    refine wl_s (pc' := 21) ji_51_20 rfl rfl rfl ?_
    refine wl_ial (x := 6) ji_51_21 ((V.2.2.2.2.2 3 (by omega) (by decide) (by decide) (by decide)).trans HC.2.2.1) (by decide) (by decide) (by decide) (v := wp_i 11) rfl ?_
    refine wl_s (pc' := 23) ji_51_22 rfl rfl rfl ?_
    refine wl_icmp (t := 51) ji_51_23 rfl (by omega) (by omega) (fun (hb1 : (11 : Int) = (-1)) => (by exfalso; omega)) (fun (hb1 : ¬ ((11 : Int) = (-1))) => ?_)
    refine wl_s (pc' := 27) ji_51_26 rfl rfl rfl ?_
    refine wl_s (pc' := 28) ji_51_27 rfl rfl rfl ?_
    refine wl_gs ji_51_28 jst_51_107 ?_
    refine wl_s (pc' := 32) ji_51_31 rfl rfl rfl ?_
    refine wl_ial (x := 6) ji_51_32 ((V.2.2.2.2.2 3 (by omega) (by decide) (by decide) (by decide)).trans HC.2.2.1) (by decide) (by decide) (by decide) (v := wp_i 11) rfl ?_
    refine wl_vc (d := d + 3) (as := [.ref 93, wp_i 0, wp_i 11]) (rest := []) ji_51_33 jc_51_110 rfl (kl_93 V) jk_53.symm (Nat.le_of_ble_eq_true rfl) rfl (by rw [jn_53]; rfl) (wk_rt (d := d) (a := 0) (b := 11) D hL H8 ht V (by omega) rfl (by omega)) (fun v1 h22 R => ?_)
    obtain ⟨rfl, k2, v2, q2, r2, tk2, hq2, V⟩ := R
    show wl_R _ _ 51 36 [some (.ref 93), some (wp_i 6), some (wp_i v1), some (wp_i 0)] [] h22 _
    have hxr2 : 0 ≤ xt 0 11 k2 v2 ∧ xt 0 11 k2 v2 ≤ 2 := xe_r (c := 1)
    obtain ⟨e2, he2⟩ : ∃ e, xt 0 11 k2 v2 = e := ⟨_, rfl⟩
    rw [he2] at V hxr2
    by_cases hx2 : e2 = 0
    · rw [if_pos hx2, hx2] at V
      rw [hx2] at he2
      refine wl_s (pc' := 37) ji_51_36 rfl rfl rfl ?_
      refine wl_gs ji_51_37 jst_51_114 ?_
      refine wl_s (pc' := 41) ji_51_40 rfl rfl rfl ?_
      refine wl_ial (x := 6) ji_51_41 ((V.2.2.2.2.2 4 (by omega) (by decide) (by decide) (by decide)).trans HC.2.2.2.1) (by decide) (by decide) (by decide) (v := wp_i 0) rfl ?_
      refine wl_gs ji_51_42 jst_51_117 ?_
      refine wl_s (pc' := 46) ji_51_45 rfl rfl rfl ?_
      refine wl_ial (x := 6) ji_51_46 ((V.2.2.2.2.2 5 (by omega) (by decide) (by decide) (by decide)).trans HC.2.2.2.2) (by decide) (by decide) (by decide) (v := wp_i 7) rfl ?_
      refine wl_vc (d := d + 3) (as := [.ref 93, wp_i 0, wp_i 7]) (rest := []) ji_51_47 jc_51_103 rfl (kl_93 V) jk_52.symm (Nat.le_of_ble_eq_true rfl) rfl (by rw [jn_52]; rfl) (wk_rn (d := d) (a := 0) (b := 7) D hL H8 ht V (by omega) rfl (by omega)) (fun v1 h23 R => ?_)
      obtain ⟨k3, v3, q3, r3, rfl, tk3, hq3, V⟩ := R
      show wl_R _ _ 51 50 [some (.ref 93), some (wp_i 6), some (wp_i v1), some (wp_i 0)] [wp_i v3] h23 _
      have hxr3 : 0 ≤ xn 0 7 k3 v3 ∧ xn 0 7 k3 v3 ≤ 2 := xe_r (c := 0)
      obtain ⟨e3, he3⟩ : ∃ e, xn 0 7 k3 v3 = e := ⟨_, rfl⟩
      rw [he3] at V hxr3
      by_cases hx3 : e3 = 0
      · rw [if_pos hx3, hx3] at V
        rw [hx3] at he3
        refine wl_s (pc' := 51) (lv' := [some (.ref 93), some (wp_i 6), some (wp_i v1), some (wp_i v3)]) ji_51_50 rfl rfl rfl ?_
        refine wl_s (pc' := 52) ji_51_51 rfl rfl rfl ?_
        refine wl_s (pc' := 53) ji_51_52 rfl rfl rfl ?_
        refine wl_bp ji_51_53 rfl ?_
        refine wl_vc (d := d + 3) (as := [.ref 93, wp_i 2, wp_i 59]) (rest := []) ji_51_55 jc_51_110 rfl (kl_93 V) jk_53.symm (Nat.le_of_ble_eq_true rfl) rfl (by rw [jn_53]; rfl) (wk_rt (d := d) (a := 2) (b := 59) D hL H8 ht V (by omega) rfl (by omega)) (fun v1 h24 R => ?_)
        obtain ⟨rfl, k4, v4, q4, r4, tk4, hq4, V⟩ := R
        show wl_R _ _ 51 58 [some (.ref 93), some (wp_i 6), some (wp_i v1), some (wp_i v3)] [] h24 _
        have hxr4 : 0 ≤ xt 2 59 k4 v4 ∧ xt 2 59 k4 v4 ≤ 2 := xe_r (c := 1)
        obtain ⟨e4, he4⟩ : ∃ e, xt 2 59 k4 v4 = e := ⟨_, rfl⟩
        rw [he4] at V hxr4
        by_cases hx4 : e4 = 0
        · rw [if_pos hx4, hx4] at V
          rw [hx4] at he4
          refine wl_s (pc' := 59) ji_51_58 rfl rfl rfl ?_
          refine kl_g V ji_51_59 jf_51_51 rfl ?_
          refine wl_s (pc' := 63) ji_51_62 rfl rfl rfl ?_
          refine wl_s (pc' := 64) ji_51_63 rfl rfl rfl ?_
          refine wl_s (pc' := 65) ji_51_64 rfl rfl rfl ?_
          obtain ⟨tfs, htc⟩ := kl_tc V
          refine wl_vc (d := d + 3) (as := [.ref t, wp_i 6, wp_i v1, wp_i v3]) (rest := []) ji_51_65 jc_51_120 rfl htc jk_50.symm (Nat.le_of_ble_eq_true rfl) rfl (by rw [jn_50]; rfl) (wk_ac ht V hcl) (fun v1 h8 R => ?_)
          obtain ⟨rfl, V⟩ := R
          show wl_R _ _ 51 68 [some (.ref 93), some (wp_i 6), some (wp_i v1), some (wp_i v3)] [] h8 _
          rw [show dl 6 = [(0, 0, 5), (1, 0, 11), (0, 0, 7), (1, 2, 59)] from rfl]
          exact wl_rv ji_51_68 jr_51 ⟨rfl, k4, v4, q4, r4, 0, [v1, v3], _, ⟨k1, v1, q1, r1, tk1, Or.inr ⟨(show xe 0 0 5 k1 v1 = 0 from he1), [v3], (if_pos rfl).symm, ⟨k2, v2, q2, r2, tk2, Or.inr ⟨(show xe 1 0 11 k2 v2 = 0 from he2), [v3], (if_neg (by decide)).symm, ⟨k3, v3, q3, r3, tk3, Or.inr ⟨(show xe 0 0 7 k3 v3 = 0 from he3), [], (if_pos rfl).symm, ⟨k4, v4, q4, r4, tk4, Or.inr ⟨(show xe 1 2 59 k4 v4 = 0 from he4), [], (if_neg (by decide)).symm, ⟨rfl, rfl, rfl, rfl⟩⟩⟩⟩⟩⟩⟩⟩⟩, by omega, (fun z => (if_neg (by show ¬ (6 : Int) < 3; decide)).symm), by rw [if_pos rfl]; exact V⟩
        · rw [if_neg hx4] at V
          refine wl_s (pc' := 59) ji_51_58 rfl rfl rfl ?_
          refine kl_g V ji_51_59 jf_51_51 rfl ?_
          refine wl_s (pc' := 63) ji_51_62 rfl rfl rfl ?_
          refine wl_s (pc' := 64) ji_51_63 rfl rfl rfl ?_
          refine wl_s (pc' := 65) ji_51_64 rfl rfl rfl ?_
          obtain ⟨tfs, htc⟩ := kl_tc V
          refine wl_vc (d := d + 3) (as := [.ref t, wp_i 6, wp_i v1, wp_i v3]) (rest := []) ji_51_65 jc_51_120 rfl htc jk_50.symm (Nat.le_of_ble_eq_true rfl) rfl (by rw [jn_50]; rfl) (wk_ac ht V hcl) (fun v1 h8 R => ?_)
          obtain ⟨rfl, V⟩ := R
          show wl_R _ _ 51 68 [some (.ref 93), some (wp_i 6), some (wp_i v1), some (wp_i v3)] [] h8 _
          rw [show dl 6 = [(0, 0, 5), (1, 0, 11), (0, 0, 7), (1, 2, 59)] from rfl]
          exact wl_rv ji_51_68 jr_51 ⟨rfl, k4, v4, q4, r4, e4, [v1, v3], _, ⟨k1, v1, q1, r1, tk1, Or.inr ⟨(show xe 0 0 5 k1 v1 = 0 from he1), [v3], (if_pos rfl).symm, ⟨k2, v2, q2, r2, tk2, Or.inr ⟨(show xe 1 0 11 k2 v2 = 0 from he2), [v3], (if_neg (by decide)).symm, ⟨k3, v3, q3, r3, tk3, Or.inr ⟨(show xe 0 0 7 k3 v3 = 0 from he3), [], (if_pos rfl).symm, ⟨k4, v4, q4, r4, tk4, Or.inl ⟨by rw [(show xe 1 2 59 k4 v4 = e4 from he4)]; exact hx4, (show xe 1 2 59 k4 v4 = e4 from he4).symm, rfl, rfl⟩⟩⟩⟩⟩⟩⟩⟩, by omega, (fun z => absurd z hx4), by rw [if_neg hx4]; exact V⟩
      · rw [if_neg hx3] at V
        refine wl_s (pc' := 51) (lv' := [some (.ref 93), some (wp_i 6), some (wp_i v1), some (wp_i v3)]) ji_51_50 rfl rfl rfl ?_
        refine wl_s (pc' := 52) ji_51_51 rfl rfl rfl ?_
        refine wl_s (pc' := 53) ji_51_52 rfl rfl rfl ?_
        refine wl_bp ji_51_53 rfl ?_
        refine wl_vc (d := d + 3) (as := [.ref 93, wp_i 2, wp_i 59]) (rest := []) ji_51_55 jc_51_110 rfl (kl_93 V) jk_53.symm (Nat.le_of_ble_eq_true rfl) rfl (by rw [jn_53]; rfl) (wk_rt0 D hL H8 ht V (by omega) ⟨hx3, by omega⟩) (fun v1 h9 R => ?_)
        obtain ⟨rfl, e1⟩ := R
        subst e1
        show wl_R _ _ 51 58 [some (.ref 93), some (wp_i 6), some (wp_i v1), some (wp_i v3)] [] h9 _
        refine wl_s (pc' := 59) ji_51_58 rfl rfl rfl ?_
        refine kl_g V ji_51_59 jf_51_51 rfl ?_
        refine wl_s (pc' := 63) ji_51_62 rfl rfl rfl ?_
        refine wl_s (pc' := 64) ji_51_63 rfl rfl rfl ?_
        refine wl_s (pc' := 65) ji_51_64 rfl rfl rfl ?_
        obtain ⟨tfs, htc⟩ := kl_tc V
        refine wl_vc (d := d + 3) (as := [.ref t, wp_i 6, wp_i v1, wp_i v3]) (rest := []) ji_51_65 jc_51_120 rfl htc jk_50.symm (Nat.le_of_ble_eq_true rfl) rfl (by rw [jn_50]; rfl) (wk_ac ht V hcl) (fun v1 h8 R => ?_)
        obtain ⟨rfl, V⟩ := R
        show wl_R _ _ 51 68 [some (.ref 93), some (wp_i 6), some (wp_i v1), some (wp_i v3)] [] h8 _
        rw [show dl 6 = [(0, 0, 5), (1, 0, 11), (0, 0, 7), (1, 2, 59)] from rfl]
        exact wl_rv ji_51_68 jr_51 ⟨rfl, k3, v3, q3, r3, e3, [v1], _, ⟨k1, v1, q1, r1, tk1, Or.inr ⟨(show xe 0 0 5 k1 v1 = 0 from he1), [], (if_pos rfl).symm, ⟨k2, v2, q2, r2, tk2, Or.inr ⟨(show xe 1 0 11 k2 v2 = 0 from he2), [], (if_neg (by decide)).symm, ⟨k3, v3, q3, r3, tk3, Or.inl ⟨by rw [(show xe 0 0 7 k3 v3 = e3 from he3)]; exact hx3, (show xe 0 0 7 k3 v3 = e3 from he3).symm, rfl, rfl⟩⟩⟩⟩⟩⟩, by omega, (fun z => absurd z hx3), by rw [if_neg hx3]; exact V⟩
    · rw [if_neg hx2] at V
      refine wl_s (pc' := 37) ji_51_36 rfl rfl rfl ?_
      refine wl_gs ji_51_37 jst_51_114 ?_
      refine wl_s (pc' := 41) ji_51_40 rfl rfl rfl ?_
      refine wl_ial (x := 6) ji_51_41 ((V.2.2.2.2.2 4 (by omega) (by decide) (by decide) (by decide)).trans HC.2.2.2.1) (by decide) (by decide) (by decide) (v := wp_i 0) rfl ?_
      refine wl_gs ji_51_42 jst_51_117 ?_
      refine wl_s (pc' := 46) ji_51_45 rfl rfl rfl ?_
      refine wl_ial (x := 6) ji_51_46 ((V.2.2.2.2.2 5 (by omega) (by decide) (by decide) (by decide)).trans HC.2.2.2.2) (by decide) (by decide) (by decide) (v := wp_i 7) rfl ?_
      refine wl_vc (d := d + 3) (as := [.ref 93, wp_i 0, wp_i 7]) (rest := []) ji_51_47 jc_51_103 rfl (kl_93 V) jk_52.symm (Nat.le_of_ble_eq_true rfl) rfl (by rw [jn_52]; rfl) (wk_rn0 D hL H8 ht V (by omega) ⟨hx2, by omega⟩) (fun v1 h9 R => ?_)
      obtain ⟨rfl, e1⟩ := R
      subst e1
      show wl_R _ _ 51 50 [some (.ref 93), some (wp_i 6), some (wp_i v1), some (wp_i 0)] [wp_i 0] h9 _
      refine wl_s (pc' := 51) (lv' := [some (.ref 93), some (wp_i 6), some (wp_i v1), some (wp_i 0)]) ji_51_50 rfl rfl rfl ?_
      refine wl_s (pc' := 52) ji_51_51 rfl rfl rfl ?_
      refine wl_s (pc' := 53) ji_51_52 rfl rfl rfl ?_
      refine wl_bp ji_51_53 rfl ?_
      refine wl_vc (d := d + 3) (as := [.ref 93, wp_i 2, wp_i 59]) (rest := []) ji_51_55 jc_51_110 rfl (kl_93 V) jk_53.symm (Nat.le_of_ble_eq_true rfl) rfl (by rw [jn_53]; rfl) (wk_rt0 D hL H8 ht V (by omega) ⟨hx2, by omega⟩) (fun v1 h9 R => ?_)
      obtain ⟨rfl, e1⟩ := R
      subst e1
      show wl_R _ _ 51 58 [some (.ref 93), some (wp_i 6), some (wp_i v1), some (wp_i 0)] [] h9 _
      refine wl_s (pc' := 59) ji_51_58 rfl rfl rfl ?_
      refine kl_g V ji_51_59 jf_51_51 rfl ?_
      refine wl_s (pc' := 63) ji_51_62 rfl rfl rfl ?_
      refine wl_s (pc' := 64) ji_51_63 rfl rfl rfl ?_
      refine wl_s (pc' := 65) ji_51_64 rfl rfl rfl ?_
      obtain ⟨tfs, htc⟩ := kl_tc V
      refine wl_vc (d := d + 3) (as := [.ref t, wp_i 6, wp_i v1, wp_i 0]) (rest := []) ji_51_65 jc_51_120 rfl htc jk_50.symm (Nat.le_of_ble_eq_true rfl) rfl (by rw [jn_50]; rfl) (wk_ac ht V hcl) (fun v1 h8 R => ?_)
      obtain ⟨rfl, V⟩ := R
      show wl_R _ _ 51 68 [some (.ref 93), some (wp_i 6), some (wp_i v1), some (wp_i 0)] [] h8 _
      rw [show dl 6 = [(0, 0, 5), (1, 0, 11), (0, 0, 7), (1, 2, 59)] from rfl]
      exact wl_rv ji_51_68 jr_51 ⟨rfl, k2, v2, q2, r2, e2, [v1], _, ⟨k1, v1, q1, r1, tk1, Or.inr ⟨(show xe 0 0 5 k1 v1 = 0 from he1), [], (if_pos rfl).symm, ⟨k2, v2, q2, r2, tk2, Or.inl ⟨by rw [(show xe 1 0 11 k2 v2 = e2 from he2)]; exact hx2, (show xe 1 0 11 k2 v2 = e2 from he2).symm, rfl, rfl⟩⟩⟩⟩, by omega, (fun z => absurd z hx2), by rw [if_neg hx2]; exact V⟩
  · rw [if_neg hx1] at V
    refine wl_s (pc' := 15) (lv' := [some (.ref 93), some (wp_i 6), some (wp_i v1), none]) ji_51_14 rfl rfl rfl ?_
    refine wl_s (pc' := 16) ji_51_15 rfl rfl rfl ?_
    refine wl_s (pc' := 17) (lv' := [some (.ref 93), some (wp_i 6), some (wp_i v1), some (wp_i 0)]) ji_51_16 rfl rfl rfl ?_
    refine wl_gs ji_51_17 jst_51_107 ?_
    refine wl_s (pc' := 21) ji_51_20 rfl rfl rfl ?_
    refine wl_ial (x := 6) ji_51_21 ((V.2.2.2.2.2 3 (by omega) (by decide) (by decide) (by decide)).trans HC.2.2.1) (by decide) (by decide) (by decide) (v := wp_i 11) rfl ?_
    refine wl_s (pc' := 23) ji_51_22 rfl rfl rfl ?_
    refine wl_icmp (t := 51) ji_51_23 rfl (by omega) (by omega) (fun (hb2 : (11 : Int) = (-1)) => (by exfalso; omega)) (fun (hb2 : ¬ ((11 : Int) = (-1))) => ?_)
    refine wl_s (pc' := 27) ji_51_26 rfl rfl rfl ?_
    refine wl_s (pc' := 28) ji_51_27 rfl rfl rfl ?_
    refine wl_gs ji_51_28 jst_51_107 ?_
    refine wl_s (pc' := 32) ji_51_31 rfl rfl rfl ?_
    refine wl_ial (x := 6) ji_51_32 ((V.2.2.2.2.2 3 (by omega) (by decide) (by decide) (by decide)).trans HC.2.2.1) (by decide) (by decide) (by decide) (v := wp_i 11) rfl ?_
    refine wl_vc (d := d + 3) (as := [.ref 93, wp_i 0, wp_i 11]) (rest := []) ji_51_33 jc_51_110 rfl (kl_93 V) jk_53.symm (Nat.le_of_ble_eq_true rfl) rfl (by rw [jn_53]; rfl) (wk_rt0 D hL H8 ht V (by omega) ⟨hx1, by omega⟩) (fun v1 h9 R => ?_)
    obtain ⟨rfl, e1⟩ := R
    subst e1
    show wl_R _ _ 51 36 [some (.ref 93), some (wp_i 6), some (wp_i v1), some (wp_i 0)] [] h9 _
    refine wl_s (pc' := 37) ji_51_36 rfl rfl rfl ?_
    refine wl_gs ji_51_37 jst_51_114 ?_
    refine wl_s (pc' := 41) ji_51_40 rfl rfl rfl ?_
    refine wl_ial (x := 6) ji_51_41 ((V.2.2.2.2.2 4 (by omega) (by decide) (by decide) (by decide)).trans HC.2.2.2.1) (by decide) (by decide) (by decide) (v := wp_i 0) rfl ?_
    refine wl_gs ji_51_42 jst_51_117 ?_
    refine wl_s (pc' := 46) ji_51_45 rfl rfl rfl ?_
    refine wl_ial (x := 6) ji_51_46 ((V.2.2.2.2.2 5 (by omega) (by decide) (by decide) (by decide)).trans HC.2.2.2.2) (by decide) (by decide) (by decide) (v := wp_i 7) rfl ?_
    refine wl_vc (d := d + 3) (as := [.ref 93, wp_i 0, wp_i 7]) (rest := []) ji_51_47 jc_51_103 rfl (kl_93 V) jk_52.symm (Nat.le_of_ble_eq_true rfl) rfl (by rw [jn_52]; rfl) (wk_rn0 D hL H8 ht V (by omega) ⟨hx1, by omega⟩) (fun v1 h9 R => ?_)
    obtain ⟨rfl, e1⟩ := R
    subst e1
    show wl_R _ _ 51 50 [some (.ref 93), some (wp_i 6), some (wp_i v1), some (wp_i 0)] [wp_i 0] h9 _
    refine wl_s (pc' := 51) (lv' := [some (.ref 93), some (wp_i 6), some (wp_i v1), some (wp_i 0)]) ji_51_50 rfl rfl rfl ?_
    refine wl_s (pc' := 52) ji_51_51 rfl rfl rfl ?_
    refine wl_s (pc' := 53) ji_51_52 rfl rfl rfl ?_
    refine wl_bp ji_51_53 rfl ?_
    refine wl_vc (d := d + 3) (as := [.ref 93, wp_i 2, wp_i 59]) (rest := []) ji_51_55 jc_51_110 rfl (kl_93 V) jk_53.symm (Nat.le_of_ble_eq_true rfl) rfl (by rw [jn_53]; rfl) (wk_rt0 D hL H8 ht V (by omega) ⟨hx1, by omega⟩) (fun v1 h9 R => ?_)
    obtain ⟨rfl, e1⟩ := R
    subst e1
    show wl_R _ _ 51 58 [some (.ref 93), some (wp_i 6), some (wp_i v1), some (wp_i 0)] [] h9 _
    refine wl_s (pc' := 59) ji_51_58 rfl rfl rfl ?_
    refine kl_g V ji_51_59 jf_51_51 rfl ?_
    refine wl_s (pc' := 63) ji_51_62 rfl rfl rfl ?_
    refine wl_s (pc' := 64) ji_51_63 rfl rfl rfl ?_
    refine wl_s (pc' := 65) ji_51_64 rfl rfl rfl ?_
    obtain ⟨tfs, htc⟩ := kl_tc V
    refine wl_vc (d := d + 3) (as := [.ref t, wp_i 6, wp_i v1, wp_i 0]) (rest := []) ji_51_65 jc_51_120 rfl htc jk_50.symm (Nat.le_of_ble_eq_true rfl) rfl (by rw [jn_50]; rfl) (wk_ac ht V hcl) (fun v1 h8 R => ?_)
    obtain ⟨rfl, V⟩ := R
    show wl_R _ _ 51 68 [some (.ref 93), some (wp_i 6), some (wp_i v1), some (wp_i 0)] [] h8 _
    rw [show dl 6 = [(0, 0, 5), (1, 0, 11), (0, 0, 7), (1, 2, 59)] from rfl]
    exact wl_rv ji_51_68 jr_51 ⟨rfl, k1, v1, q1, r1, e1, [], _, ⟨k1, v1, q1, r1, tk1, Or.inl ⟨by rw [(show xe 0 0 5 k1 v1 = e1 from he1)]; exact hx1, (show xe 0 0 5 k1 v1 = e1 from he1).symm, rfl, rfl⟩⟩, by omega, (fun z => absurd z hx1), by rw [if_neg hx1]; exact V⟩
theorem wk_d7 {n d : Nat} {h0 h : mj_H} {bl ws : List Value} {fr : TD} {t : Nat} {L k v s p f q law st wn op br ls as_ cl : Int} (D : tB bl) (hL : 0 ≤ L ∧ L ≤ 300) (H8 : h0[8]? = some (900, tk_V)) (ht : 12 ≤ t ∧ t ≤ 33) (V : kL h0 h bl t L k v s p f q law st wn op br ls as_ cl ws fr) (hp : 0 ≤ p ∧ p ≤ L) (hf : f = 0) (HC : hC h0) (hcl : 0 ≤ cl ∧ cl ≤ 23) : wl_R n (d + 4) 51 0 [some (.ref 93), some (wp_i 7), none, none] [] h (fun w h1 => w = none ∧ ∃ (k' v' q' r' f' : Int) (N : List Int) (fr' : TD), xre (bt bl L) (dl 7) p s N f' q' r' ∧ (p ≤ q' ∧ q' ≤ r' ∧ r' ≤ L) ∧ (f' = 0 → fr' = apK fr cl ((7, N.headD 0, N.tail.headD 0), [])) ∧ kL h0 h1 bl t L k' v' q' r' f' (if f' = 0 then q else q') law st wn op br ls as_ (cl + 1) ws fr') := by
  subst hf
  refine wl_s (pc' := 1) ji_51_0 rfl rfl rfl ?_
  refine wl_gs ji_51_1 jst_51_97 ?_
  refine wl_s (pc' := 5) ji_51_4 rfl rfl rfl ?_
  refine wl_ial (x := 7) ji_51_5 ((V.2.2.2.2.2 1 (by omega) (by decide) (by decide) (by decide)).trans HC.1) (by decide) (by decide) (by decide) (v := wp_i 0) rfl ?_
  refine wl_gs ji_51_6 jst_51_100 ?_
  refine wl_s (pc' := 10) ji_51_9 rfl rfl rfl ?_
  refine wl_ial (x := 7) ji_51_10 ((V.2.2.2.2.2 2 (by omega) (by decide) (by decide) (by decide)).trans HC.2.1) (by decide) (by decide) (by decide) (v := wp_i 7) rfl ?_
  refine wl_vc (d := d + 3) (as := [.ref 93, wp_i 0, wp_i 7]) (rest := []) ji_51_11 jc_51_103 rfl (kl_93 V) jk_52.symm (Nat.le_of_ble_eq_true rfl) rfl (by rw [jn_52]; rfl) (wk_rn (d := d) (a := 0) (b := 7) D hL H8 ht V (by omega) rfl (by omega)) (fun v1 h21 R => ?_)
  obtain ⟨k1, v1, q1, r1, rfl, tk1, hq1, V⟩ := R
  show wl_R _ _ 51 14 [some (.ref 93), some (wp_i 7), none, none] [wp_i v1] h21 _
  have hxr1 : 0 ≤ xn 0 7 k1 v1 ∧ xn 0 7 k1 v1 ≤ 2 := xe_r (c := 0)
  obtain ⟨e1, he1⟩ : ∃ e, xn 0 7 k1 v1 = e := ⟨_, rfl⟩
  rw [he1] at V hxr1
  by_cases hx1 : e1 = 0
  · rw [if_pos hx1, hx1] at V
    rw [hx1] at he1
    refine wl_s (pc' := 15) (lv' := [some (.ref 93), some (wp_i 7), some (wp_i v1), none]) ji_51_14 rfl rfl rfl ?_
    refine wl_s (pc' := 16) ji_51_15 rfl rfl rfl ?_
    refine wl_s (pc' := 17) (lv' := [some (.ref 93), some (wp_i 7), some (wp_i v1), some (wp_i 0)]) ji_51_16 rfl rfl rfl ?_
    refine wl_gs ji_51_17 jst_51_107 ?_
    refine wl_s (pc' := 21) ji_51_20 rfl rfl rfl ?_
    refine wl_ial (x := 7) ji_51_21 ((V.2.2.2.2.2 3 (by omega) (by decide) (by decide) (by decide)).trans HC.2.2.1) (by decide) (by decide) (by decide) (v := wp_i 12) rfl ?_
    refine wl_s (pc' := 23) ji_51_22 rfl rfl rfl ?_
    refine wl_icmp (t := 51) ji_51_23 rfl (by omega) (by omega) (fun (hb1 : (12 : Int) = (-1)) => (by exfalso; omega)) (fun (hb1 : ¬ ((12 : Int) = (-1))) => ?_)
    refine wl_s (pc' := 27) ji_51_26 rfl rfl rfl ?_
    refine wl_s (pc' := 28) ji_51_27 rfl rfl rfl ?_
    refine wl_gs ji_51_28 jst_51_107 ?_
    refine wl_s (pc' := 32) ji_51_31 rfl rfl rfl ?_
    refine wl_ial (x := 7) ji_51_32 ((V.2.2.2.2.2 3 (by omega) (by decide) (by decide) (by decide)).trans HC.2.2.1) (by decide) (by decide) (by decide) (v := wp_i 12) rfl ?_
    refine wl_vc (d := d + 3) (as := [.ref 93, wp_i 0, wp_i 12]) (rest := []) ji_51_33 jc_51_110 rfl (kl_93 V) jk_53.symm (Nat.le_of_ble_eq_true rfl) rfl (by rw [jn_53]; rfl) (wk_rt (d := d) (a := 0) (b := 12) D hL H8 ht V (by omega) rfl (by omega)) (fun v1 h22 R => ?_)
    obtain ⟨rfl, k2, v2, q2, r2, tk2, hq2, V⟩ := R
    show wl_R _ _ 51 36 [some (.ref 93), some (wp_i 7), some (wp_i v1), some (wp_i 0)] [] h22 _
    have hxr2 : 0 ≤ xt 0 12 k2 v2 ∧ xt 0 12 k2 v2 ≤ 2 := xe_r (c := 1)
    obtain ⟨e2, he2⟩ : ∃ e, xt 0 12 k2 v2 = e := ⟨_, rfl⟩
    rw [he2] at V hxr2
    by_cases hx2 : e2 = 0
    · rw [if_pos hx2, hx2] at V
      rw [hx2] at he2
      refine wl_s (pc' := 37) ji_51_36 rfl rfl rfl ?_
      refine wl_gs ji_51_37 jst_51_114 ?_
      refine wl_s (pc' := 41) ji_51_40 rfl rfl rfl ?_
      refine wl_ial (x := 7) ji_51_41 ((V.2.2.2.2.2 4 (by omega) (by decide) (by decide) (by decide)).trans HC.2.2.2.1) (by decide) (by decide) (by decide) (v := wp_i 1) rfl ?_
      refine wl_gs ji_51_42 jst_51_117 ?_
      refine wl_s (pc' := 46) ji_51_45 rfl rfl rfl ?_
      refine wl_ial (x := 7) ji_51_46 ((V.2.2.2.2.2 5 (by omega) (by decide) (by decide) (by decide)).trans HC.2.2.2.2) (by decide) (by decide) (by decide) (v := wp_i 99) rfl ?_
      refine wl_vc (d := d + 3) (as := [.ref 93, wp_i 1, wp_i 99]) (rest := []) ji_51_47 jc_51_103 rfl (kl_93 V) jk_52.symm (Nat.le_of_ble_eq_true rfl) rfl (by rw [jn_52]; rfl) (wk_rn (d := d) (a := 1) (b := 99) D hL H8 ht V (by omega) rfl (by omega)) (fun v1 h23 R => ?_)
      obtain ⟨k3, v3, q3, r3, rfl, tk3, hq3, V⟩ := R
      show wl_R _ _ 51 50 [some (.ref 93), some (wp_i 7), some (wp_i v1), some (wp_i 0)] [wp_i v3] h23 _
      have hxr3 : 0 ≤ xn 1 99 k3 v3 ∧ xn 1 99 k3 v3 ≤ 2 := xe_r (c := 0)
      obtain ⟨e3, he3⟩ : ∃ e, xn 1 99 k3 v3 = e := ⟨_, rfl⟩
      rw [he3] at V hxr3
      by_cases hx3 : e3 = 0
      · rw [if_pos hx3, hx3] at V
        rw [hx3] at he3
        refine wl_s (pc' := 51) (lv' := [some (.ref 93), some (wp_i 7), some (wp_i v1), some (wp_i v3)]) ji_51_50 rfl rfl rfl ?_
        refine wl_s (pc' := 52) ji_51_51 rfl rfl rfl ?_
        refine wl_s (pc' := 53) ji_51_52 rfl rfl rfl ?_
        refine wl_bp ji_51_53 rfl ?_
        refine wl_vc (d := d + 3) (as := [.ref 93, wp_i 2, wp_i 59]) (rest := []) ji_51_55 jc_51_110 rfl (kl_93 V) jk_53.symm (Nat.le_of_ble_eq_true rfl) rfl (by rw [jn_53]; rfl) (wk_rt (d := d) (a := 2) (b := 59) D hL H8 ht V (by omega) rfl (by omega)) (fun v1 h24 R => ?_)
        obtain ⟨rfl, k4, v4, q4, r4, tk4, hq4, V⟩ := R
        show wl_R _ _ 51 58 [some (.ref 93), some (wp_i 7), some (wp_i v1), some (wp_i v3)] [] h24 _
        have hxr4 : 0 ≤ xt 2 59 k4 v4 ∧ xt 2 59 k4 v4 ≤ 2 := xe_r (c := 1)
        obtain ⟨e4, he4⟩ : ∃ e, xt 2 59 k4 v4 = e := ⟨_, rfl⟩
        rw [he4] at V hxr4
        by_cases hx4 : e4 = 0
        · rw [if_pos hx4, hx4] at V
          rw [hx4] at he4
          refine wl_s (pc' := 59) ji_51_58 rfl rfl rfl ?_
          refine kl_g V ji_51_59 jf_51_51 rfl ?_
          refine wl_s (pc' := 63) ji_51_62 rfl rfl rfl ?_
          refine wl_s (pc' := 64) ji_51_63 rfl rfl rfl ?_
          refine wl_s (pc' := 65) ji_51_64 rfl rfl rfl ?_
          obtain ⟨tfs, htc⟩ := kl_tc V
          refine wl_vc (d := d + 3) (as := [.ref t, wp_i 7, wp_i v1, wp_i v3]) (rest := []) ji_51_65 jc_51_120 rfl htc jk_50.symm (Nat.le_of_ble_eq_true rfl) rfl (by rw [jn_50]; rfl) (wk_ac ht V hcl) (fun v1 h8 R => ?_)
          obtain ⟨rfl, V⟩ := R
          show wl_R _ _ 51 68 [some (.ref 93), some (wp_i 7), some (wp_i v1), some (wp_i v3)] [] h8 _
          rw [show dl 7 = [(0, 0, 7), (1, 0, 12), (0, 1, 99), (1, 2, 59)] from rfl]
          exact wl_rv ji_51_68 jr_51 ⟨rfl, k4, v4, q4, r4, 0, [v1, v3], _, ⟨k1, v1, q1, r1, tk1, Or.inr ⟨(show xe 0 0 7 k1 v1 = 0 from he1), [v3], (if_pos rfl).symm, ⟨k2, v2, q2, r2, tk2, Or.inr ⟨(show xe 1 0 12 k2 v2 = 0 from he2), [v3], (if_neg (by decide)).symm, ⟨k3, v3, q3, r3, tk3, Or.inr ⟨(show xe 0 1 99 k3 v3 = 0 from he3), [], (if_pos rfl).symm, ⟨k4, v4, q4, r4, tk4, Or.inr ⟨(show xe 1 2 59 k4 v4 = 0 from he4), [], (if_neg (by decide)).symm, ⟨rfl, rfl, rfl, rfl⟩⟩⟩⟩⟩⟩⟩⟩⟩, by omega, (fun z => (if_neg (by show ¬ (7 : Int) < 3; decide)).symm), by rw [if_pos rfl]; exact V⟩
        · rw [if_neg hx4] at V
          refine wl_s (pc' := 59) ji_51_58 rfl rfl rfl ?_
          refine kl_g V ji_51_59 jf_51_51 rfl ?_
          refine wl_s (pc' := 63) ji_51_62 rfl rfl rfl ?_
          refine wl_s (pc' := 64) ji_51_63 rfl rfl rfl ?_
          refine wl_s (pc' := 65) ji_51_64 rfl rfl rfl ?_
          obtain ⟨tfs, htc⟩ := kl_tc V
          refine wl_vc (d := d + 3) (as := [.ref t, wp_i 7, wp_i v1, wp_i v3]) (rest := []) ji_51_65 jc_51_120 rfl htc jk_50.symm (Nat.le_of_ble_eq_true rfl) rfl (by rw [jn_50]; rfl) (wk_ac ht V hcl) (fun v1 h8 R => ?_)
          obtain ⟨rfl, V⟩ := R
          show wl_R _ _ 51 68 [some (.ref 93), some (wp_i 7), some (wp_i v1), some (wp_i v3)] [] h8 _
          rw [show dl 7 = [(0, 0, 7), (1, 0, 12), (0, 1, 99), (1, 2, 59)] from rfl]
          exact wl_rv ji_51_68 jr_51 ⟨rfl, k4, v4, q4, r4, e4, [v1, v3], _, ⟨k1, v1, q1, r1, tk1, Or.inr ⟨(show xe 0 0 7 k1 v1 = 0 from he1), [v3], (if_pos rfl).symm, ⟨k2, v2, q2, r2, tk2, Or.inr ⟨(show xe 1 0 12 k2 v2 = 0 from he2), [v3], (if_neg (by decide)).symm, ⟨k3, v3, q3, r3, tk3, Or.inr ⟨(show xe 0 1 99 k3 v3 = 0 from he3), [], (if_pos rfl).symm, ⟨k4, v4, q4, r4, tk4, Or.inl ⟨by rw [(show xe 1 2 59 k4 v4 = e4 from he4)]; exact hx4, (show xe 1 2 59 k4 v4 = e4 from he4).symm, rfl, rfl⟩⟩⟩⟩⟩⟩⟩⟩, by omega, (fun z => absurd z hx4), by rw [if_neg hx4]; exact V⟩
      · rw [if_neg hx3] at V
        refine wl_s (pc' := 51) (lv' := [some (.ref 93), some (wp_i 7), some (wp_i v1), some (wp_i v3)]) ji_51_50 rfl rfl rfl ?_
        refine wl_s (pc' := 52) ji_51_51 rfl rfl rfl ?_
        refine wl_s (pc' := 53) ji_51_52 rfl rfl rfl ?_
        refine wl_bp ji_51_53 rfl ?_
        refine wl_vc (d := d + 3) (as := [.ref 93, wp_i 2, wp_i 59]) (rest := []) ji_51_55 jc_51_110 rfl (kl_93 V) jk_53.symm (Nat.le_of_ble_eq_true rfl) rfl (by rw [jn_53]; rfl) (wk_rt0 D hL H8 ht V (by omega) ⟨hx3, by omega⟩) (fun v1 h9 R => ?_)
        obtain ⟨rfl, e1⟩ := R
        subst e1
        show wl_R _ _ 51 58 [some (.ref 93), some (wp_i 7), some (wp_i v1), some (wp_i v3)] [] h9 _
        refine wl_s (pc' := 59) ji_51_58 rfl rfl rfl ?_
        refine kl_g V ji_51_59 jf_51_51 rfl ?_
        refine wl_s (pc' := 63) ji_51_62 rfl rfl rfl ?_
        refine wl_s (pc' := 64) ji_51_63 rfl rfl rfl ?_
        refine wl_s (pc' := 65) ji_51_64 rfl rfl rfl ?_
        obtain ⟨tfs, htc⟩ := kl_tc V
        refine wl_vc (d := d + 3) (as := [.ref t, wp_i 7, wp_i v1, wp_i v3]) (rest := []) ji_51_65 jc_51_120 rfl htc jk_50.symm (Nat.le_of_ble_eq_true rfl) rfl (by rw [jn_50]; rfl) (wk_ac ht V hcl) (fun v1 h8 R => ?_)
        obtain ⟨rfl, V⟩ := R
        show wl_R _ _ 51 68 [some (.ref 93), some (wp_i 7), some (wp_i v1), some (wp_i v3)] [] h8 _
        rw [show dl 7 = [(0, 0, 7), (1, 0, 12), (0, 1, 99), (1, 2, 59)] from rfl]
        exact wl_rv ji_51_68 jr_51 ⟨rfl, k3, v3, q3, r3, e3, [v1], _, ⟨k1, v1, q1, r1, tk1, Or.inr ⟨(show xe 0 0 7 k1 v1 = 0 from he1), [], (if_pos rfl).symm, ⟨k2, v2, q2, r2, tk2, Or.inr ⟨(show xe 1 0 12 k2 v2 = 0 from he2), [], (if_neg (by decide)).symm, ⟨k3, v3, q3, r3, tk3, Or.inl ⟨by rw [(show xe 0 1 99 k3 v3 = e3 from he3)]; exact hx3, (show xe 0 1 99 k3 v3 = e3 from he3).symm, rfl, rfl⟩⟩⟩⟩⟩⟩, by omega, (fun z => absurd z hx3), by rw [if_neg hx3]; exact V⟩
    · rw [if_neg hx2] at V
      refine wl_s (pc' := 37) ji_51_36 rfl rfl rfl ?_
      refine wl_gs ji_51_37 jst_51_114 ?_
      refine wl_s (pc' := 41) ji_51_40 rfl rfl rfl ?_
      refine wl_ial (x := 7) ji_51_41 ((V.2.2.2.2.2 4 (by omega) (by decide) (by decide) (by decide)).trans HC.2.2.2.1) (by decide) (by decide) (by decide) (v := wp_i 1) rfl ?_
      refine wl_gs ji_51_42 jst_51_117 ?_
      refine wl_s (pc' := 46) ji_51_45 rfl rfl rfl ?_
      refine wl_ial (x := 7) ji_51_46 ((V.2.2.2.2.2 5 (by omega) (by decide) (by decide) (by decide)).trans HC.2.2.2.2) (by decide) (by decide) (by decide) (v := wp_i 99) rfl ?_
      refine wl_vc (d := d + 3) (as := [.ref 93, wp_i 1, wp_i 99]) (rest := []) ji_51_47 jc_51_103 rfl (kl_93 V) jk_52.symm (Nat.le_of_ble_eq_true rfl) rfl (by rw [jn_52]; rfl) (wk_rn0 D hL H8 ht V (by omega) ⟨hx2, by omega⟩) (fun v1 h9 R => ?_)
      obtain ⟨rfl, e1⟩ := R
      subst e1
      show wl_R _ _ 51 50 [some (.ref 93), some (wp_i 7), some (wp_i v1), some (wp_i 0)] [wp_i 0] h9 _
      refine wl_s (pc' := 51) (lv' := [some (.ref 93), some (wp_i 7), some (wp_i v1), some (wp_i 0)]) ji_51_50 rfl rfl rfl ?_
      refine wl_s (pc' := 52) ji_51_51 rfl rfl rfl ?_
      refine wl_s (pc' := 53) ji_51_52 rfl rfl rfl ?_
      refine wl_bp ji_51_53 rfl ?_
      refine wl_vc (d := d + 3) (as := [.ref 93, wp_i 2, wp_i 59]) (rest := []) ji_51_55 jc_51_110 rfl (kl_93 V) jk_53.symm (Nat.le_of_ble_eq_true rfl) rfl (by rw [jn_53]; rfl) (wk_rt0 D hL H8 ht V (by omega) ⟨hx2, by omega⟩) (fun v1 h9 R => ?_)
      obtain ⟨rfl, e1⟩ := R
      subst e1
      show wl_R _ _ 51 58 [some (.ref 93), some (wp_i 7), some (wp_i v1), some (wp_i 0)] [] h9 _
      refine wl_s (pc' := 59) ji_51_58 rfl rfl rfl ?_
      refine kl_g V ji_51_59 jf_51_51 rfl ?_
      refine wl_s (pc' := 63) ji_51_62 rfl rfl rfl ?_
      refine wl_s (pc' := 64) ji_51_63 rfl rfl rfl ?_
      refine wl_s (pc' := 65) ji_51_64 rfl rfl rfl ?_
      obtain ⟨tfs, htc⟩ := kl_tc V
      refine wl_vc (d := d + 3) (as := [.ref t, wp_i 7, wp_i v1, wp_i 0]) (rest := []) ji_51_65 jc_51_120 rfl htc jk_50.symm (Nat.le_of_ble_eq_true rfl) rfl (by rw [jn_50]; rfl) (wk_ac ht V hcl) (fun v1 h8 R => ?_)
      obtain ⟨rfl, V⟩ := R
      show wl_R _ _ 51 68 [some (.ref 93), some (wp_i 7), some (wp_i v1), some (wp_i 0)] [] h8 _
      rw [show dl 7 = [(0, 0, 7), (1, 0, 12), (0, 1, 99), (1, 2, 59)] from rfl]
      exact wl_rv ji_51_68 jr_51 ⟨rfl, k2, v2, q2, r2, e2, [v1], _, ⟨k1, v1, q1, r1, tk1, Or.inr ⟨(show xe 0 0 7 k1 v1 = 0 from he1), [], (if_pos rfl).symm, ⟨k2, v2, q2, r2, tk2, Or.inl ⟨by rw [(show xe 1 0 12 k2 v2 = e2 from he2)]; exact hx2, (show xe 1 0 12 k2 v2 = e2 from he2).symm, rfl, rfl⟩⟩⟩⟩, by omega, (fun z => absurd z hx2), by rw [if_neg hx2]; exact V⟩
  · rw [if_neg hx1] at V
    refine wl_s (pc' := 15) (lv' := [some (.ref 93), some (wp_i 7), some (wp_i v1), none]) ji_51_14 rfl rfl rfl ?_
    refine wl_s (pc' := 16) ji_51_15 rfl rfl rfl ?_
    refine wl_s (pc' := 17) (lv' := [some (.ref 93), some (wp_i 7), some (wp_i v1), some (wp_i 0)]) ji_51_16 rfl rfl rfl ?_
    refine wl_gs ji_51_17 jst_51_107 ?_
    refine wl_s (pc' := 21) ji_51_20 rfl rfl rfl ?_
    refine wl_ial (x := 7) ji_51_21 ((V.2.2.2.2.2 3 (by omega) (by decide) (by decide) (by decide)).trans HC.2.2.1) (by decide) (by decide) (by decide) (v := wp_i 12) rfl ?_
    refine wl_s (pc' := 23) ji_51_22 rfl rfl rfl ?_
    refine wl_icmp (t := 51) ji_51_23 rfl (by omega) (by omega) (fun (hb2 : (12 : Int) = (-1)) => (by exfalso; omega)) (fun (hb2 : ¬ ((12 : Int) = (-1))) => ?_)
    refine wl_s (pc' := 27) ji_51_26 rfl rfl rfl ?_
    refine wl_s (pc' := 28) ji_51_27 rfl rfl rfl ?_
    refine wl_gs ji_51_28 jst_51_107 ?_
    refine wl_s (pc' := 32) ji_51_31 rfl rfl rfl ?_
    refine wl_ial (x := 7) ji_51_32 ((V.2.2.2.2.2 3 (by omega) (by decide) (by decide) (by decide)).trans HC.2.2.1) (by decide) (by decide) (by decide) (v := wp_i 12) rfl ?_
    refine wl_vc (d := d + 3) (as := [.ref 93, wp_i 0, wp_i 12]) (rest := []) ji_51_33 jc_51_110 rfl (kl_93 V) jk_53.symm (Nat.le_of_ble_eq_true rfl) rfl (by rw [jn_53]; rfl) (wk_rt0 D hL H8 ht V (by omega) ⟨hx1, by omega⟩) (fun v1 h9 R => ?_)
    obtain ⟨rfl, e1⟩ := R
    subst e1
    show wl_R _ _ 51 36 [some (.ref 93), some (wp_i 7), some (wp_i v1), some (wp_i 0)] [] h9 _
    refine wl_s (pc' := 37) ji_51_36 rfl rfl rfl ?_
    refine wl_gs ji_51_37 jst_51_114 ?_
    refine wl_s (pc' := 41) ji_51_40 rfl rfl rfl ?_
    refine wl_ial (x := 7) ji_51_41 ((V.2.2.2.2.2 4 (by omega) (by decide) (by decide) (by decide)).trans HC.2.2.2.1) (by decide) (by decide) (by decide) (v := wp_i 1) rfl ?_
    refine wl_gs ji_51_42 jst_51_117 ?_
    refine wl_s (pc' := 46) ji_51_45 rfl rfl rfl ?_
    refine wl_ial (x := 7) ji_51_46 ((V.2.2.2.2.2 5 (by omega) (by decide) (by decide) (by decide)).trans HC.2.2.2.2) (by decide) (by decide) (by decide) (v := wp_i 99) rfl ?_
    refine wl_vc (d := d + 3) (as := [.ref 93, wp_i 1, wp_i 99]) (rest := []) ji_51_47 jc_51_103 rfl (kl_93 V) jk_52.symm (Nat.le_of_ble_eq_true rfl) rfl (by rw [jn_52]; rfl) (wk_rn0 D hL H8 ht V (by omega) ⟨hx1, by omega⟩) (fun v1 h9 R => ?_)
    obtain ⟨rfl, e1⟩ := R
    subst e1
    show wl_R _ _ 51 50 [some (.ref 93), some (wp_i 7), some (wp_i v1), some (wp_i 0)] [wp_i 0] h9 _
    refine wl_s (pc' := 51) (lv' := [some (.ref 93), some (wp_i 7), some (wp_i v1), some (wp_i 0)]) ji_51_50 rfl rfl rfl ?_
    refine wl_s (pc' := 52) ji_51_51 rfl rfl rfl ?_
    refine wl_s (pc' := 53) ji_51_52 rfl rfl rfl ?_
    refine wl_bp ji_51_53 rfl ?_
    refine wl_vc (d := d + 3) (as := [.ref 93, wp_i 2, wp_i 59]) (rest := []) ji_51_55 jc_51_110 rfl (kl_93 V) jk_53.symm (Nat.le_of_ble_eq_true rfl) rfl (by rw [jn_53]; rfl) (wk_rt0 D hL H8 ht V (by omega) ⟨hx1, by omega⟩) (fun v1 h9 R => ?_)
    obtain ⟨rfl, e1⟩ := R
    subst e1
    show wl_R _ _ 51 58 [some (.ref 93), some (wp_i 7), some (wp_i v1), some (wp_i 0)] [] h9 _
    refine wl_s (pc' := 59) ji_51_58 rfl rfl rfl ?_
    refine kl_g V ji_51_59 jf_51_51 rfl ?_
    refine wl_s (pc' := 63) ji_51_62 rfl rfl rfl ?_
    refine wl_s (pc' := 64) ji_51_63 rfl rfl rfl ?_
    refine wl_s (pc' := 65) ji_51_64 rfl rfl rfl ?_
    obtain ⟨tfs, htc⟩ := kl_tc V
    refine wl_vc (d := d + 3) (as := [.ref t, wp_i 7, wp_i v1, wp_i 0]) (rest := []) ji_51_65 jc_51_120 rfl htc jk_50.symm (Nat.le_of_ble_eq_true rfl) rfl (by rw [jn_50]; rfl) (wk_ac ht V hcl) (fun v1 h8 R => ?_)
    obtain ⟨rfl, V⟩ := R
    show wl_R _ _ 51 68 [some (.ref 93), some (wp_i 7), some (wp_i v1), some (wp_i 0)] [] h8 _
    rw [show dl 7 = [(0, 0, 7), (1, 0, 12), (0, 1, 99), (1, 2, 59)] from rfl]
    exact wl_rv ji_51_68 jr_51 ⟨rfl, k1, v1, q1, r1, e1, [], _, ⟨k1, v1, q1, r1, tk1, Or.inl ⟨by rw [(show xe 0 0 7 k1 v1 = e1 from he1)]; exact hx1, (show xe 0 0 7 k1 v1 = e1 from he1).symm, rfl, rfl⟩⟩, by omega, (fun z => absurd z hx1), by rw [if_neg hx1]; exact V⟩
theorem wk_d8 {n d : Nat} {h0 h : mj_H} {bl ws : List Value} {fr : TD} {t : Nat} {L k v s p f q law st wn op br ls as_ cl : Int} (D : tB bl) (hL : 0 ≤ L ∧ L ≤ 300) (H8 : h0[8]? = some (900, tk_V)) (ht : 12 ≤ t ∧ t ≤ 33) (V : kL h0 h bl t L k v s p f q law st wn op br ls as_ cl ws fr) (hp : 0 ≤ p ∧ p ≤ L) (hf : f = 0) (HC : hC h0) (hcl : 0 ≤ cl ∧ cl ≤ 23) : wl_R n (d + 4) 51 0 [some (.ref 93), some (wp_i 8), none, none] [] h (fun w h1 => w = none ∧ ∃ (k' v' q' r' f' : Int) (N : List Int) (fr' : TD), xre (bt bl L) (dl 8) p s N f' q' r' ∧ (p ≤ q' ∧ q' ≤ r' ∧ r' ≤ L) ∧ (f' = 0 → fr' = apK fr cl ((8, N.headD 0, N.tail.headD 0), [])) ∧ kL h0 h1 bl t L k' v' q' r' f' (if f' = 0 then q else q') law st wn op br ls as_ (cl + 1) ws fr') := by
  subst hf
  refine wl_s (pc' := 1) ji_51_0 rfl rfl rfl ?_
  refine wl_gs ji_51_1 jst_51_97 ?_
  refine wl_s (pc' := 5) ji_51_4 rfl rfl rfl ?_
  refine wl_ial (x := 8) ji_51_5 ((V.2.2.2.2.2 1 (by omega) (by decide) (by decide) (by decide)).trans HC.1) (by decide) (by decide) (by decide) (v := wp_i 0) rfl ?_
  refine wl_gs ji_51_6 jst_51_100 ?_
  refine wl_s (pc' := 10) ji_51_9 rfl rfl rfl ?_
  refine wl_ial (x := 8) ji_51_10 ((V.2.2.2.2.2 2 (by omega) (by decide) (by decide) (by decide)).trans HC.2.1) (by decide) (by decide) (by decide) (v := wp_i 9) rfl ?_
  refine wl_vc (d := d + 3) (as := [.ref 93, wp_i 0, wp_i 9]) (rest := []) ji_51_11 jc_51_103 rfl (kl_93 V) jk_52.symm (Nat.le_of_ble_eq_true rfl) rfl (by rw [jn_52]; rfl) (wk_rn (d := d) (a := 0) (b := 9) D hL H8 ht V (by omega) rfl (by omega)) (fun v1 h21 R => ?_)
  obtain ⟨k1, v1, q1, r1, rfl, tk1, hq1, V⟩ := R
  show wl_R _ _ 51 14 [some (.ref 93), some (wp_i 8), none, none] [wp_i v1] h21 _
  have hxr1 : 0 ≤ xn 0 9 k1 v1 ∧ xn 0 9 k1 v1 ≤ 2 := xe_r (c := 0)
  obtain ⟨e1, he1⟩ : ∃ e, xn 0 9 k1 v1 = e := ⟨_, rfl⟩
  rw [he1] at V hxr1
  by_cases hx1 : e1 = 0
  · rw [if_pos hx1, hx1] at V
    rw [hx1] at he1
    refine wl_s (pc' := 15) (lv' := [some (.ref 93), some (wp_i 8), some (wp_i v1), none]) ji_51_14 rfl rfl rfl ?_
    refine wl_s (pc' := 16) ji_51_15 rfl rfl rfl ?_
    refine wl_s (pc' := 17) (lv' := [some (.ref 93), some (wp_i 8), some (wp_i v1), some (wp_i 0)]) ji_51_16 rfl rfl rfl ?_
    refine wl_gs ji_51_17 jst_51_107 ?_
    refine wl_s (pc' := 21) ji_51_20 rfl rfl rfl ?_
    refine wl_ial (x := 8) ji_51_21 ((V.2.2.2.2.2 3 (by omega) (by decide) (by decide) (by decide)).trans HC.2.2.1) (by decide) (by decide) (by decide) (v := wp_i (-1)) rfl ?_
    refine wl_s (pc' := 23) ji_51_22 rfl rfl rfl ?_
    refine wl_icmp (t := 51) ji_51_23 rfl (by omega) (by omega) (fun (hb1 : (-1 : Int) = (-1)) => ?_) (fun (hb1 : ¬ ((-1 : Int) = (-1))) => (by exfalso; omega))
    refine wl_s (pc' := 52) ji_51_51 rfl rfl rfl ?_
    refine wl_s (pc' := 53) ji_51_52 rfl rfl rfl ?_
    refine wl_bp ji_51_53 rfl ?_
    refine wl_vc (d := d + 3) (as := [.ref 93, wp_i 2, wp_i 59]) (rest := []) ji_51_55 jc_51_110 rfl (kl_93 V) jk_53.symm (Nat.le_of_ble_eq_true rfl) rfl (by rw [jn_53]; rfl) (wk_rt (d := d) (a := 2) (b := 59) D hL H8 ht V (by omega) rfl (by omega)) (fun v1 h22 R => ?_)
    obtain ⟨rfl, k2, v2, q2, r2, tk2, hq2, V⟩ := R
    show wl_R _ _ 51 58 [some (.ref 93), some (wp_i 8), some (wp_i v1), some (wp_i 0)] [] h22 _
    have hxr2 : 0 ≤ xt 2 59 k2 v2 ∧ xt 2 59 k2 v2 ≤ 2 := xe_r (c := 1)
    obtain ⟨e2, he2⟩ : ∃ e, xt 2 59 k2 v2 = e := ⟨_, rfl⟩
    rw [he2] at V hxr2
    by_cases hx2 : e2 = 0
    · rw [if_pos hx2, hx2] at V
      rw [hx2] at he2
      refine wl_s (pc' := 59) ji_51_58 rfl rfl rfl ?_
      refine kl_g V ji_51_59 jf_51_51 rfl ?_
      refine wl_s (pc' := 63) ji_51_62 rfl rfl rfl ?_
      refine wl_s (pc' := 64) ji_51_63 rfl rfl rfl ?_
      refine wl_s (pc' := 65) ji_51_64 rfl rfl rfl ?_
      obtain ⟨tfs, htc⟩ := kl_tc V
      refine wl_vc (d := d + 3) (as := [.ref t, wp_i 8, wp_i v1, wp_i 0]) (rest := []) ji_51_65 jc_51_120 rfl htc jk_50.symm (Nat.le_of_ble_eq_true rfl) rfl (by rw [jn_50]; rfl) (wk_ac ht V hcl) (fun v1 h8 R => ?_)
      obtain ⟨rfl, V⟩ := R
      show wl_R _ _ 51 68 [some (.ref 93), some (wp_i 8), some (wp_i v1), some (wp_i 0)] [] h8 _
      rw [show dl 8 = [(0, 0, 9), (1, 2, 59)] from rfl]
      exact wl_rv ji_51_68 jr_51 ⟨rfl, k2, v2, q2, r2, 0, [v1], _, ⟨k1, v1, q1, r1, tk1, Or.inr ⟨(show xe 0 0 9 k1 v1 = 0 from he1), [], (if_pos rfl).symm, ⟨k2, v2, q2, r2, tk2, Or.inr ⟨(show xe 1 2 59 k2 v2 = 0 from he2), [], (if_neg (by decide)).symm, ⟨rfl, rfl, rfl, rfl⟩⟩⟩⟩⟩, by omega, (fun z => (if_neg (by show ¬ (8 : Int) < 3; decide)).symm), by rw [if_pos rfl]; exact V⟩
    · rw [if_neg hx2] at V
      refine wl_s (pc' := 59) ji_51_58 rfl rfl rfl ?_
      refine kl_g V ji_51_59 jf_51_51 rfl ?_
      refine wl_s (pc' := 63) ji_51_62 rfl rfl rfl ?_
      refine wl_s (pc' := 64) ji_51_63 rfl rfl rfl ?_
      refine wl_s (pc' := 65) ji_51_64 rfl rfl rfl ?_
      obtain ⟨tfs, htc⟩ := kl_tc V
      refine wl_vc (d := d + 3) (as := [.ref t, wp_i 8, wp_i v1, wp_i 0]) (rest := []) ji_51_65 jc_51_120 rfl htc jk_50.symm (Nat.le_of_ble_eq_true rfl) rfl (by rw [jn_50]; rfl) (wk_ac ht V hcl) (fun v1 h8 R => ?_)
      obtain ⟨rfl, V⟩ := R
      show wl_R _ _ 51 68 [some (.ref 93), some (wp_i 8), some (wp_i v1), some (wp_i 0)] [] h8 _
      rw [show dl 8 = [(0, 0, 9), (1, 2, 59)] from rfl]
      exact wl_rv ji_51_68 jr_51 ⟨rfl, k2, v2, q2, r2, e2, [v1], _, ⟨k1, v1, q1, r1, tk1, Or.inr ⟨(show xe 0 0 9 k1 v1 = 0 from he1), [], (if_pos rfl).symm, ⟨k2, v2, q2, r2, tk2, Or.inl ⟨by rw [(show xe 1 2 59 k2 v2 = e2 from he2)]; exact hx2, (show xe 1 2 59 k2 v2 = e2 from he2).symm, rfl, rfl⟩⟩⟩⟩, by omega, (fun z => absurd z hx2), by rw [if_neg hx2]; exact V⟩
  · rw [if_neg hx1] at V
    refine wl_s (pc' := 15) (lv' := [some (.ref 93), some (wp_i 8), some (wp_i v1), none]) ji_51_14 rfl rfl rfl ?_
    refine wl_s (pc' := 16) ji_51_15 rfl rfl rfl ?_
    refine wl_s (pc' := 17) (lv' := [some (.ref 93), some (wp_i 8), some (wp_i v1), some (wp_i 0)]) ji_51_16 rfl rfl rfl ?_
    refine wl_gs ji_51_17 jst_51_107 ?_
    refine wl_s (pc' := 21) ji_51_20 rfl rfl rfl ?_
    refine wl_ial (x := 8) ji_51_21 ((V.2.2.2.2.2 3 (by omega) (by decide) (by decide) (by decide)).trans HC.2.2.1) (by decide) (by decide) (by decide) (v := wp_i (-1)) rfl ?_
    refine wl_s (pc' := 23) ji_51_22 rfl rfl rfl ?_
    refine wl_icmp (t := 51) ji_51_23 rfl (by omega) (by omega) (fun (hb2 : (-1 : Int) = (-1)) => ?_) (fun (hb2 : ¬ ((-1 : Int) = (-1))) => (by exfalso; omega))
    refine wl_s (pc' := 52) ji_51_51 rfl rfl rfl ?_
    refine wl_s (pc' := 53) ji_51_52 rfl rfl rfl ?_
    refine wl_bp ji_51_53 rfl ?_
    refine wl_vc (d := d + 3) (as := [.ref 93, wp_i 2, wp_i 59]) (rest := []) ji_51_55 jc_51_110 rfl (kl_93 V) jk_53.symm (Nat.le_of_ble_eq_true rfl) rfl (by rw [jn_53]; rfl) (wk_rt0 D hL H8 ht V (by omega) ⟨hx1, by omega⟩) (fun v1 h9 R => ?_)
    obtain ⟨rfl, e1⟩ := R
    subst e1
    show wl_R _ _ 51 58 [some (.ref 93), some (wp_i 8), some (wp_i v1), some (wp_i 0)] [] h9 _
    refine wl_s (pc' := 59) ji_51_58 rfl rfl rfl ?_
    refine kl_g V ji_51_59 jf_51_51 rfl ?_
    refine wl_s (pc' := 63) ji_51_62 rfl rfl rfl ?_
    refine wl_s (pc' := 64) ji_51_63 rfl rfl rfl ?_
    refine wl_s (pc' := 65) ji_51_64 rfl rfl rfl ?_
    obtain ⟨tfs, htc⟩ := kl_tc V
    refine wl_vc (d := d + 3) (as := [.ref t, wp_i 8, wp_i v1, wp_i 0]) (rest := []) ji_51_65 jc_51_120 rfl htc jk_50.symm (Nat.le_of_ble_eq_true rfl) rfl (by rw [jn_50]; rfl) (wk_ac ht V hcl) (fun v1 h8 R => ?_)
    obtain ⟨rfl, V⟩ := R
    show wl_R _ _ 51 68 [some (.ref 93), some (wp_i 8), some (wp_i v1), some (wp_i 0)] [] h8 _
    rw [show dl 8 = [(0, 0, 9), (1, 2, 59)] from rfl]
    exact wl_rv ji_51_68 jr_51 ⟨rfl, k1, v1, q1, r1, e1, [], _, ⟨k1, v1, q1, r1, tk1, Or.inl ⟨by rw [(show xe 0 0 9 k1 v1 = e1 from he1)]; exact hx1, (show xe 0 0 9 k1 v1 = e1 from he1).symm, rfl, rfl⟩⟩, by omega, (fun z => absurd z hx1), by rw [if_neg hx1]; exact V⟩
theorem wk_d9 {n d : Nat} {h0 h : mj_H} {bl ws : List Value} {fr : TD} {t : Nat} {L k v s p f q law st wn op br ls as_ cl : Int} (D : tB bl) (hL : 0 ≤ L ∧ L ≤ 300) (H8 : h0[8]? = some (900, tk_V)) (ht : 12 ≤ t ∧ t ≤ 33) (V : kL h0 h bl t L k v s p f q law st wn op br ls as_ cl ws fr) (hp : 0 ≤ p ∧ p ≤ L) (hf : f = 0) (HC : hC h0) (hcl : 0 ≤ cl ∧ cl ≤ 23) : wl_R n (d + 4) 51 0 [some (.ref 93), some (wp_i 9), none, none] [] h (fun w h1 => w = none ∧ ∃ (k' v' q' r' f' : Int) (N : List Int) (fr' : TD), xre (bt bl L) (dl 9) p s N f' q' r' ∧ (p ≤ q' ∧ q' ≤ r' ∧ r' ≤ L) ∧ (f' = 0 → fr' = apK fr cl ((9, N.headD 0, N.tail.headD 0), [])) ∧ kL h0 h1 bl t L k' v' q' r' f' (if f' = 0 then q else q') law st wn op br ls as_ (cl + 1) ws fr') := by
  subst hf
  refine wl_s (pc' := 1) ji_51_0 rfl rfl rfl ?_
  refine wl_gs ji_51_1 jst_51_97 ?_
  refine wl_s (pc' := 5) ji_51_4 rfl rfl rfl ?_
  refine wl_ial (x := 9) ji_51_5 ((V.2.2.2.2.2 1 (by omega) (by decide) (by decide) (by decide)).trans HC.1) (by decide) (by decide) (by decide) (v := wp_i 1) rfl ?_
  refine wl_gs ji_51_6 jst_51_100 ?_
  refine wl_s (pc' := 10) ji_51_9 rfl rfl rfl ?_
  refine wl_ial (x := 9) ji_51_10 ((V.2.2.2.2.2 2 (by omega) (by decide) (by decide) (by decide)).trans HC.2.1) (by decide) (by decide) (by decide) (v := wp_i 60) rfl ?_
  refine wl_vc (d := d + 3) (as := [.ref 93, wp_i 1, wp_i 60]) (rest := []) ji_51_11 jc_51_103 rfl (kl_93 V) jk_52.symm (Nat.le_of_ble_eq_true rfl) rfl (by rw [jn_52]; rfl) (wk_rn (d := d) (a := 1) (b := 60) D hL H8 ht V (by omega) rfl (by omega)) (fun v1 h21 R => ?_)
  obtain ⟨k1, v1, q1, r1, rfl, tk1, hq1, V⟩ := R
  show wl_R _ _ 51 14 [some (.ref 93), some (wp_i 9), none, none] [wp_i v1] h21 _
  have hxr1 : 0 ≤ xn 1 60 k1 v1 ∧ xn 1 60 k1 v1 ≤ 2 := xe_r (c := 0)
  obtain ⟨e1, he1⟩ : ∃ e, xn 1 60 k1 v1 = e := ⟨_, rfl⟩
  rw [he1] at V hxr1
  by_cases hx1 : e1 = 0
  · rw [if_pos hx1, hx1] at V
    rw [hx1] at he1
    refine wl_s (pc' := 15) (lv' := [some (.ref 93), some (wp_i 9), some (wp_i v1), none]) ji_51_14 rfl rfl rfl ?_
    refine wl_s (pc' := 16) ji_51_15 rfl rfl rfl ?_
    refine wl_s (pc' := 17) (lv' := [some (.ref 93), some (wp_i 9), some (wp_i v1), some (wp_i 0)]) ji_51_16 rfl rfl rfl ?_
    refine wl_gs ji_51_17 jst_51_107 ?_
    refine wl_s (pc' := 21) ji_51_20 rfl rfl rfl ?_
    refine wl_ial (x := 9) ji_51_21 ((V.2.2.2.2.2 3 (by omega) (by decide) (by decide) (by decide)).trans HC.2.2.1) (by decide) (by decide) (by decide) (v := wp_i (-1)) rfl ?_
    refine wl_s (pc' := 23) ji_51_22 rfl rfl rfl ?_
    refine wl_icmp (t := 51) ji_51_23 rfl (by omega) (by omega) (fun (hb1 : (-1 : Int) = (-1)) => ?_) (fun (hb1 : ¬ ((-1 : Int) = (-1))) => (by exfalso; omega))
    refine wl_s (pc' := 52) ji_51_51 rfl rfl rfl ?_
    refine wl_s (pc' := 53) ji_51_52 rfl rfl rfl ?_
    refine wl_bp ji_51_53 rfl ?_
    refine wl_vc (d := d + 3) (as := [.ref 93, wp_i 2, wp_i 59]) (rest := []) ji_51_55 jc_51_110 rfl (kl_93 V) jk_53.symm (Nat.le_of_ble_eq_true rfl) rfl (by rw [jn_53]; rfl) (wk_rt (d := d) (a := 2) (b := 59) D hL H8 ht V (by omega) rfl (by omega)) (fun v1 h22 R => ?_)
    obtain ⟨rfl, k2, v2, q2, r2, tk2, hq2, V⟩ := R
    show wl_R _ _ 51 58 [some (.ref 93), some (wp_i 9), some (wp_i v1), some (wp_i 0)] [] h22 _
    have hxr2 : 0 ≤ xt 2 59 k2 v2 ∧ xt 2 59 k2 v2 ≤ 2 := xe_r (c := 1)
    obtain ⟨e2, he2⟩ : ∃ e, xt 2 59 k2 v2 = e := ⟨_, rfl⟩
    rw [he2] at V hxr2
    by_cases hx2 : e2 = 0
    · rw [if_pos hx2, hx2] at V
      rw [hx2] at he2
      refine wl_s (pc' := 59) ji_51_58 rfl rfl rfl ?_
      refine kl_g V ji_51_59 jf_51_51 rfl ?_
      refine wl_s (pc' := 63) ji_51_62 rfl rfl rfl ?_
      refine wl_s (pc' := 64) ji_51_63 rfl rfl rfl ?_
      refine wl_s (pc' := 65) ji_51_64 rfl rfl rfl ?_
      obtain ⟨tfs, htc⟩ := kl_tc V
      refine wl_vc (d := d + 3) (as := [.ref t, wp_i 9, wp_i v1, wp_i 0]) (rest := []) ji_51_65 jc_51_120 rfl htc jk_50.symm (Nat.le_of_ble_eq_true rfl) rfl (by rw [jn_50]; rfl) (wk_ac ht V hcl) (fun v1 h8 R => ?_)
      obtain ⟨rfl, V⟩ := R
      show wl_R _ _ 51 68 [some (.ref 93), some (wp_i 9), some (wp_i v1), some (wp_i 0)] [] h8 _
      rw [show dl 9 = [(0, 1, 60), (1, 2, 59)] from rfl]
      exact wl_rv ji_51_68 jr_51 ⟨rfl, k2, v2, q2, r2, 0, [v1], _, ⟨k1, v1, q1, r1, tk1, Or.inr ⟨(show xe 0 1 60 k1 v1 = 0 from he1), [], (if_pos rfl).symm, ⟨k2, v2, q2, r2, tk2, Or.inr ⟨(show xe 1 2 59 k2 v2 = 0 from he2), [], (if_neg (by decide)).symm, ⟨rfl, rfl, rfl, rfl⟩⟩⟩⟩⟩, by omega, (fun z => (if_neg (by show ¬ (9 : Int) < 3; decide)).symm), by rw [if_pos rfl]; exact V⟩
    · rw [if_neg hx2] at V
      refine wl_s (pc' := 59) ji_51_58 rfl rfl rfl ?_
      refine kl_g V ji_51_59 jf_51_51 rfl ?_
      refine wl_s (pc' := 63) ji_51_62 rfl rfl rfl ?_
      refine wl_s (pc' := 64) ji_51_63 rfl rfl rfl ?_
      refine wl_s (pc' := 65) ji_51_64 rfl rfl rfl ?_
      obtain ⟨tfs, htc⟩ := kl_tc V
      refine wl_vc (d := d + 3) (as := [.ref t, wp_i 9, wp_i v1, wp_i 0]) (rest := []) ji_51_65 jc_51_120 rfl htc jk_50.symm (Nat.le_of_ble_eq_true rfl) rfl (by rw [jn_50]; rfl) (wk_ac ht V hcl) (fun v1 h8 R => ?_)
      obtain ⟨rfl, V⟩ := R
      show wl_R _ _ 51 68 [some (.ref 93), some (wp_i 9), some (wp_i v1), some (wp_i 0)] [] h8 _
      rw [show dl 9 = [(0, 1, 60), (1, 2, 59)] from rfl]
      exact wl_rv ji_51_68 jr_51 ⟨rfl, k2, v2, q2, r2, e2, [v1], _, ⟨k1, v1, q1, r1, tk1, Or.inr ⟨(show xe 0 1 60 k1 v1 = 0 from he1), [], (if_pos rfl).symm, ⟨k2, v2, q2, r2, tk2, Or.inl ⟨by rw [(show xe 1 2 59 k2 v2 = e2 from he2)]; exact hx2, (show xe 1 2 59 k2 v2 = e2 from he2).symm, rfl, rfl⟩⟩⟩⟩, by omega, (fun z => absurd z hx2), by rw [if_neg hx2]; exact V⟩
  · rw [if_neg hx1] at V
    refine wl_s (pc' := 15) (lv' := [some (.ref 93), some (wp_i 9), some (wp_i v1), none]) ji_51_14 rfl rfl rfl ?_
    refine wl_s (pc' := 16) ji_51_15 rfl rfl rfl ?_
    refine wl_s (pc' := 17) (lv' := [some (.ref 93), some (wp_i 9), some (wp_i v1), some (wp_i 0)]) ji_51_16 rfl rfl rfl ?_
    refine wl_gs ji_51_17 jst_51_107 ?_
    refine wl_s (pc' := 21) ji_51_20 rfl rfl rfl ?_
    refine wl_ial (x := 9) ji_51_21 ((V.2.2.2.2.2 3 (by omega) (by decide) (by decide) (by decide)).trans HC.2.2.1) (by decide) (by decide) (by decide) (v := wp_i (-1)) rfl ?_
    refine wl_s (pc' := 23) ji_51_22 rfl rfl rfl ?_
    refine wl_icmp (t := 51) ji_51_23 rfl (by omega) (by omega) (fun (hb2 : (-1 : Int) = (-1)) => ?_) (fun (hb2 : ¬ ((-1 : Int) = (-1))) => (by exfalso; omega))
    refine wl_s (pc' := 52) ji_51_51 rfl rfl rfl ?_
    refine wl_s (pc' := 53) ji_51_52 rfl rfl rfl ?_
    refine wl_bp ji_51_53 rfl ?_
    refine wl_vc (d := d + 3) (as := [.ref 93, wp_i 2, wp_i 59]) (rest := []) ji_51_55 jc_51_110 rfl (kl_93 V) jk_53.symm (Nat.le_of_ble_eq_true rfl) rfl (by rw [jn_53]; rfl) (wk_rt0 D hL H8 ht V (by omega) ⟨hx1, by omega⟩) (fun v1 h9 R => ?_)
    obtain ⟨rfl, e1⟩ := R
    subst e1
    show wl_R _ _ 51 58 [some (.ref 93), some (wp_i 9), some (wp_i v1), some (wp_i 0)] [] h9 _
    refine wl_s (pc' := 59) ji_51_58 rfl rfl rfl ?_
    refine kl_g V ji_51_59 jf_51_51 rfl ?_
    refine wl_s (pc' := 63) ji_51_62 rfl rfl rfl ?_
    refine wl_s (pc' := 64) ji_51_63 rfl rfl rfl ?_
    refine wl_s (pc' := 65) ji_51_64 rfl rfl rfl ?_
    obtain ⟨tfs, htc⟩ := kl_tc V
    refine wl_vc (d := d + 3) (as := [.ref t, wp_i 9, wp_i v1, wp_i 0]) (rest := []) ji_51_65 jc_51_120 rfl htc jk_50.symm (Nat.le_of_ble_eq_true rfl) rfl (by rw [jn_50]; rfl) (wk_ac ht V hcl) (fun v1 h8 R => ?_)
    obtain ⟨rfl, V⟩ := R
    show wl_R _ _ 51 68 [some (.ref 93), some (wp_i 9), some (wp_i v1), some (wp_i 0)] [] h8 _
    rw [show dl 9 = [(0, 1, 60), (1, 2, 59)] from rfl]
    exact wl_rv ji_51_68 jr_51 ⟨rfl, k1, v1, q1, r1, e1, [], _, ⟨k1, v1, q1, r1, tk1, Or.inl ⟨by rw [(show xe 0 1 60 k1 v1 = e1 from he1)]; exact hx1, (show xe 0 1 60 k1 v1 = e1 from he1).symm, rfl, rfl⟩⟩, by omega, (fun z => absurd z hx1), by rw [if_neg hx1]; exact V⟩
theorem wk_dd {n d : Nat} {h0 h : mj_H} {bl ws : List Value} {fr : TD} {t : Nat} {L k v s p f q law st wn op br ls as_ cl : Int} (D : tB bl) (hL : 0 ≤ L ∧ L ≤ 300) (H8 : h0[8]? = some (900, tk_V)) (ht : 12 ≤ t ∧ t ≤ 33) (V : kL h0 h bl t L k v s p f q law st wn op br ls as_ cl ws fr) (hp : 0 ≤ p ∧ p ≤ L) (hf : f = 0) (HC : hC h0) (hcl : 0 ≤ cl ∧ cl ≤ 23) {x : Int} (hx : 3 ≤ x ∧ x ≤ 9) : wl_R n (d + 4) 51 0 [some (.ref 93), some (wp_i x), none, none] [] h (fun w h1 => w = none ∧ ∃ (k' v' q' r' f' : Int) (N : List Int) (fr' : TD), xre (bt bl L) (dl x) p s N f' q' r' ∧ (p ≤ q' ∧ q' ≤ r' ∧ r' ≤ L) ∧ (f' = 0 → fr' = apK fr cl ((x, N.headD 0, N.tail.headD 0), [])) ∧ kL h0 h1 bl t L k' v' q' r' f' (if f' = 0 then q else q') law st wn op br ls as_ (cl + 1) ws fr') := by
  have hc : x = 3 ∨ x = 4 ∨ x = 5 ∨ x = 6 ∨ x = 7 ∨ x = 8 ∨ x = 9 := by omega
  rcases hc with rfl | rfl | rfl | rfl | rfl | rfl | rfl
  · exact wk_d3 D hL H8 ht V hp hf HC hcl
  · exact wk_d4 D hL H8 ht V hp hf HC hcl
  · exact wk_d5 D hL H8 ht V hp hf HC hcl
  · exact wk_d6 D hL H8 ht V hp hf HC hcl
  · exact wk_d7 D hL H8 ht V hp hf HC hcl
  · exact wk_d8 D hL H8 ht V hp hf HC hcl
  · exact wk_d9 D hL H8 ht V hp hf HC hcl
/-- a clause whose first token is k, v at s, the place behind it p; what it is -/
def kre (B : Int → Int) (on : Nat → Bool) (cl ls k v s p : Int) (C : KC) (f q r : Int) : Prop := ((wdo k v < 0 ∨ 9 < wdo k v) ∧ f = 1 ∧ q = s ∧ r = p) ∨ ((0 ≤ wdo k v ∧ wdo k v ≤ 9) ∧ (((wdo k v < 3 ∧ on (wdo k v).toNat = true) ∧ f = 4 ∧ q = s ∧ r = p) ∨ (¬ (wdo k v < 3 ∧ on (wdo k v).toNat = true) ∧ ((cl = 24 ∧ f = 6 ∧ q = s ∧ r = p) ∨ (¬ cl = 24 ∧ ((wdo k v < 3 ∧ C.1 = (wdo k v, 0, 0) ∧ ∃ m, lre B (wdo k v) m p (if wdo k v = 2 then 0 else 1) [] ls 0 C.2 f q r) ∨ (3 ≤ wdo k v ∧ ∃ N, C = ((wdo k v, N.headD 0, N.tail.headD 0), []) ∧ xre B (dl (wdo k v)) p s N f q r)))))))
theorem wrs_x (F : TD) (cl : Int) (C : KC) : (apK F cl C).2.1.1 = if C.1.1 < 3 then F.2.1.1.set C.1.1.toNat (wp_i F.1.1) else F.2.1.1 := by
  unfold apK
  by_cases h : C.1.1 < 3
  · rw [if_pos h, if_pos h]
    show (wrs (bgL F C.1.1) C.2).2.1.1 = _
    rw [wrs_2]
    rfl
  · rw [if_neg h, if_neg h]
    rfl
theorem wk_rc {n d : Nat} {h0 h : mj_H} {bl ws : List Value} {fr : TD} {t : Nat} {L k v s p f q law st wn op br ls as_ cl : Int} (D : tB bl) (hL : 0 ≤ L ∧ L ≤ 300) (H8 : h0[8]? = some (900, tk_V)) (ht : 12 ≤ t ∧ t ≤ 33) (V : kL h0 h bl t L k v s p f q law st wn op br ls as_ cl ws fr) (hp : (0 ≤ s ∧ s ≤ p) ∧ 1 ≤ p ∧ p ≤ L) (hf : f = 0) (HC : hC h0) (hcl : 0 ≤ cl ∧ cl ≤ 24) {on : Nat → Bool} (R0 : onr fr.2.1.1 on) (hls : 0 ≤ ls ∧ ls ≤ 6) (hkv : wp_r k ∧ wp_r v ∧ (k = 0 → -1 ≤ v ∧ v ≤ 30)) : wl_R n (d + 5) 30 0 [some (.ref 93), none] [] h (fun v9 h1 => v9 = none ∧ ∃ (k' v' q' r' f' law' st' wn' op' br' ls' as' cl' : Int) (ws' : List Value) (fr' : TD) (C : KC), kre (bt bl L) on cl ls k v s p C f' q' r' ∧ (s ≤ q' ∧ q' ≤ r' ∧ p ≤ r' ∧ r' ≤ L) ∧ (f' = 0 → 0 ≤ ls' ∧ ls' ≤ 6) ∧ (f' = 0 → cl' = cl + 1 ∧ onr fr'.2.1.1 (if wdo k v < 3 then on1 on (wdo k v) else on) ∧ fr' = apK fr cl C) ∧ kL h0 h1 bl t L k' v' q' r' f' (if f' = 0 then q else q') law' st' wn' op' br' ls' as' cl' ws' fr') := by
  subst hf
  have hsz : 0 ≤ fr.1.1 ∧ fr.1.1 ≤ 300 := V.2.2.2.2.1.2.1
  refine wl_s (pc' := 1) ji_30_0 rfl rfl rfl ?_
  refine kl_g V ji_30_1 jf_30_47 rfl ?_
  refine kl_t V ji_30_4 jf_30_68 rfl ?_
  refine wl_if (t := 20) ji_30_7 rfl (by omega) (fun (hb1 : ¬ (k : Int) = 0) => ?_) (fun (hb1 : ¬ (¬ (k : Int) = 0)) => ?_)
  · refine wl_s (pc' := 21) ji_30_20 rfl rfl rfl ?_
    refine wl_s (pc' := 22) (lv' := [some (.ref 93), some (wp_i (-1))]) ji_30_21 rfl rfl rfl ?_
    obtain ⟨x, hx⟩ : ∃ x : Int, x = -1 := ⟨_, rfl⟩
    have hwd : wdo k v = x := by rw [hx]; unfold wdo; exact if_neg (by omega)
    have hxr : -1 ≤ x ∧ x ≤ 30 := by rw [hx]; omega
    have hE : wp_i x = wp_i (-1) := by rw [hx]
    rw [← hE]
    show wl_R n (d + 5) 30 22 [some (.ref 93), some (wp_i x)] [] h _
    refine wl_s (pc' := 23) ji_30_22 rfl rfl rfl ?_
    refine wl_if (t := 32) ji_30_23 rfl (by omega) (fun (hb2 : (x : Int) < 0) => ?_) (fun (hb2 : ¬ ((x : Int) < 0)) => ?_)
    · refine wl_s (pc' := 33) ji_30_32 rfl rfl rfl ?_
      refine wl_s (pc' := 34) ji_30_33 rfl rfl rfl ?_
      refine wl_vc (d := d + 4) (as := [.ref 93, wp_i 1]) (rest := []) ji_30_34 jc_30_80 rfl (kl_93 V) jk_31.symm (Nat.le_of_ble_eq_true rfl) rfl (by rw [jn_31]; rfl) (wk_fail ht V) (fun v1 h2 R => ?_)
      obtain ⟨rfl, V⟩ := R
      show wl_R _ _ 30 37 [some (.ref 93), some (wp_i x)] [] h2 _
      refine wl_goto (t := 103) ji_30_37 rfl ?_
      exact wl_rv ji_30_103 jr_30 ⟨rfl, k, v, s, p, 1, _, _, _, _, _, ls, _, cl, _, _, ((0, 0, 0), []), by unfold kre; rw [hwd]; exact Or.inl ⟨by omega, rfl, rfl, rfl⟩, by omega, fun z => by omega, fun z => by omega, by rw [if_neg (by decide)]; exact V⟩
    · refine wl_s (pc' := 27) ji_30_26 rfl rfl rfl ?_
      refine wl_bp ji_30_27 rfl ?_
      refine wl_icmp (t := 40) ji_30_29 rfl (by omega) (by omega) (fun (hb3 : (x : Int) ≤ 9) => ?_) (fun (hb3 : ¬ ((x : Int) ≤ 9)) => ?_)
      · refine wl_s (pc' := 41) ji_30_40 rfl rfl rfl ?_
        refine wl_s (pc' := 42) ji_30_41 rfl rfl rfl ?_
        refine wl_icmp (t := 64) ji_30_42 rfl (by omega) (by omega) (fun (hb4 : (3 : Int) ≤ x) => ?_) (fun (hb4 : ¬ ((3 : Int) ≤ x)) => ?_)
        · refine wl_s (pc' := 65) ji_30_64 rfl rfl rfl ?_
          refine kl_g V ji_30_65 jf_30_51 rfl ?_
          refine ktg_c V ji_30_68 jf_30_88 ?_
          refine wl_bp ji_30_71 rfl ?_
          refine wl_icmp (t := 85) ji_30_73 rfl (by omega) (by omega) (fun (hb5 : ¬ (cl : Int) = 24) => ?_) (fun (hb5 : ¬ (¬ (cl : Int) = 24)) => ?_)
          · refine wl_s (pc' := 86) ji_30_85 rfl rfl rfl ?_
            refine wl_s (pc' := 87) ji_30_86 rfl rfl rfl ?_
            refine wl_icmp (t := 98) ji_30_87 rfl (by omega) (by omega) (fun (hb6 : (3 : Int) ≤ x) => ?_) (fun (hb6 : ¬ ((3 : Int) ≤ x)) => ?_)
            · refine wl_s (pc' := 99) ji_30_98 rfl rfl rfl ?_
              refine wl_s (pc' := 100) ji_30_99 rfl rfl rfl ?_
              refine wl_vc (d := d + 4) (as := [.ref 93, wp_i x]) (rest := []) ji_30_100 jc_30_94 rfl (kl_93 V) jk_51.symm (Nat.le_of_ble_eq_true rfl) rfl (by rw [jn_51]; rfl) (wk_dd (d := d) D hL H8 ht V (by omega) rfl HC (by omega) (x := x) (by omega)) (fun v1 h2 R => ?_)
              obtain ⟨rfl, k', v', q', r', f', N, fr1, xrn, hq, hfr, V⟩ := R
              show wl_R _ _ 30 103 [some (.ref 93), some (wp_i x)] [] h2 _
              exact wl_rv ji_30_103 jr_30 ⟨rfl, k', v', q', r', f', _, _, _, _, _, ls, _, cl + 1, _, _, ((x, N.headD 0, N.tail.headD 0), []), by unfold kre; rw [hwd]; exact Or.inr ⟨by omega, Or.inr ⟨fun z => by omega, Or.inr ⟨by omega, Or.inr ⟨by omega, N, rfl, xrn⟩⟩⟩⟩, by omega, fun _ => hls, fun z => ⟨rfl, by rw [hwd, if_neg (by omega), hfr z, wrs_x, if_neg (by show ¬ x < 3; omega)]; exact R0, hfr z⟩, V⟩
            · refine wl_s (pc' := 91) ji_30_90 rfl rfl rfl ?_
              refine wl_s (pc' := 92) ji_30_91 rfl rfl rfl ?_
              refine wl_vc (d := d + 4) (as := [.ref 93, wp_i x]) (rest := []) ji_30_92 jc_30_91 rfl (kl_93 V) jk_33.symm (Nat.le_of_ble_eq_true rfl) rfl (by rw [jn_33]; rfl) (wk_rl (d := d) D hL H8 ht V (x := x) (by omega) hls (by omega) (by omega)) (fun v1 h2 R => ?_)
              obtain ⟨rfl, k', v', q', r', f', st', w', ls', as', m, E, fr1, lrn, hfr, hq, hl, ws2, e2, hlen2, V⟩ := R
              show wl_R _ _ 30 95 [some (.ref 93), some (wp_i x)] [] h2 _
              refine wl_goto (t := 103) ji_30_95 rfl ?_
              exact wl_rv ji_30_103 jr_30 ⟨rfl, k', v', q', r', f', _, _, _, _, _, ls', _, cl + 1, _, _, ((x, 0, 0), E), by unfold kre; rw [hwd]; exact Or.inr ⟨by omega, Or.inr ⟨fun z => by omega, Or.inr ⟨by omega, Or.inl ⟨by omega, rfl, m, lrn⟩⟩⟩⟩, by omega, hl, fun z => ⟨rfl, by rw [hwd, if_pos (by omega), hfr z, wrs_x, if_pos (by show x < 3; omega)]; exact onr_1 (x := x) R0 (by omega) hsz, hfr z⟩, V⟩
          · refine wl_s (pc' := 77) ji_30_76 rfl rfl rfl ?_
            refine wl_bp ji_30_77 rfl ?_
            refine wl_vc (d := d + 4) (as := [.ref 93, wp_i 6]) (rest := []) ji_30_79 jc_30_80 rfl (kl_93 V) jk_31.symm (Nat.le_of_ble_eq_true rfl) rfl (by rw [jn_31]; rfl) (wk_fail ht V) (fun v1 h2 R => ?_)
            obtain ⟨rfl, V⟩ := R
            show wl_R _ _ 30 82 [some (.ref 93), some (wp_i x)] [] h2 _
            refine wl_goto (t := 103) ji_30_82 rfl ?_
            exact wl_rv ji_30_103 jr_30 ⟨rfl, k, v, s, p, 6, _, _, _, _, _, ls, _, cl, _, _, ((0, 0, 0), []), by unfold kre; rw [hwd]; exact Or.inr ⟨by omega, Or.inr ⟨fun z => by omega, Or.inl ⟨by omega, rfl, rfl, rfl⟩⟩⟩, by omega, fun z => by omega, fun z => by omega, by rw [if_neg (by decide)]; exact V⟩
        · refine wl_s (pc' := 46) ji_30_45 rfl rfl rfl ?_
          refine kl_g V ji_30_46 jf_30_51 rfl ?_
          refine wl_s (pc' := 50) ji_30_49 rfl rfl rfl ?_
          obtain ⟨tfs, htc⟩ := kl_tc V
          refine wl_vc (d := d + 4) (as := [.ref t, wp_i x]) (rest := []) ji_30_50 jc_30_84 rfl htc jk_32.symm (Nat.le_of_ble_eq_true rfl) rfl (by rw [jn_32]; rfl) (wk_hs ht V (x := x) (by omega) (fun j hj => (R0.2 j hj).1)) (fun v1 h1 R => ?_)
          obtain ⟨e1, y, rfl, hya, hyb⟩ := R
          subst e1
          rw [← (R0.2 x.toNat (by omega)).2] at hyb
          show wl_R _ _ 30 53 [some (.ref 93), some (wp_i x)] [wp_i y] h1 _
          refine wl_if (t := 64) ji_30_53 rfl (by omega) (fun (hb7 : (y : Int) = 0) => ?_) (fun (hb7 : ¬ ((y : Int) = 0)) => ?_)
          · refine wl_s (pc' := 65) ji_30_64 rfl rfl rfl ?_
            refine kl_g V ji_30_65 jf_30_51 rfl ?_
            refine ktg_c V ji_30_68 jf_30_88 ?_
            refine wl_bp ji_30_71 rfl ?_
            refine wl_icmp (t := 85) ji_30_73 rfl (by omega) (by omega) (fun (hb8 : ¬ (cl : Int) = 24) => ?_) (fun (hb8 : ¬ (¬ (cl : Int) = 24)) => ?_)
            · refine wl_s (pc' := 86) ji_30_85 rfl rfl rfl ?_
              refine wl_s (pc' := 87) ji_30_86 rfl rfl rfl ?_
              refine wl_icmp (t := 98) ji_30_87 rfl (by omega) (by omega) (fun (hb9 : (3 : Int) ≤ x) => ?_) (fun (hb9 : ¬ ((3 : Int) ≤ x)) => ?_)
              · refine wl_s (pc' := 99) ji_30_98 rfl rfl rfl ?_
                refine wl_s (pc' := 100) ji_30_99 rfl rfl rfl ?_
                refine wl_vc (d := d + 4) (as := [.ref 93, wp_i x]) (rest := []) ji_30_100 jc_30_94 rfl (kl_93 V) jk_51.symm (Nat.le_of_ble_eq_true rfl) rfl (by rw [jn_51]; rfl) (wk_dd (d := d) D hL H8 ht V (by omega) rfl HC (by omega) (x := x) (by omega)) (fun v1 h2 R => ?_)
                obtain ⟨rfl, k', v', q', r', f', N, fr1, xrn, hq, hfr, V⟩ := R
                show wl_R _ _ 30 103 [some (.ref 93), some (wp_i x)] [] h2 _
                exact wl_rv ji_30_103 jr_30 ⟨rfl, k', v', q', r', f', _, _, _, _, _, ls, _, cl + 1, _, _, ((x, N.headD 0, N.tail.headD 0), []), by unfold kre; rw [hwd]; exact Or.inr ⟨by omega, Or.inr ⟨fun z => by omega, Or.inr ⟨by omega, Or.inr ⟨by omega, N, rfl, xrn⟩⟩⟩⟩, by omega, fun _ => hls, fun z => ⟨rfl, by rw [hwd, if_neg (by omega), hfr z, wrs_x, if_neg (by show ¬ x < 3; omega)]; exact R0, hfr z⟩, V⟩
              · refine wl_s (pc' := 91) ji_30_90 rfl rfl rfl ?_
                refine wl_s (pc' := 92) ji_30_91 rfl rfl rfl ?_
                refine wl_vc (d := d + 4) (as := [.ref 93, wp_i x]) (rest := []) ji_30_92 jc_30_91 rfl (kl_93 V) jk_33.symm (Nat.le_of_ble_eq_true rfl) rfl (by rw [jn_33]; rfl) (wk_rl (d := d) D hL H8 ht V (x := x) (by omega) hls (by omega) (by omega)) (fun v1 h2 R => ?_)
                obtain ⟨rfl, k', v', q', r', f', st', w', ls', as', m, E, fr1, lrn, hfr, hq, hl, ws2, e2, hlen2, V⟩ := R
                show wl_R _ _ 30 95 [some (.ref 93), some (wp_i x)] [] h2 _
                refine wl_goto (t := 103) ji_30_95 rfl ?_
                exact wl_rv ji_30_103 jr_30 ⟨rfl, k', v', q', r', f', _, _, _, _, _, ls', _, cl + 1, _, _, ((x, 0, 0), E), by unfold kre; rw [hwd]; exact Or.inr ⟨by omega, Or.inr ⟨fun z => by have := hyb.mpr z.2; omega, Or.inr ⟨by omega, Or.inl ⟨by omega, rfl, m, lrn⟩⟩⟩⟩, by omega, hl, fun z => ⟨rfl, by rw [hwd, if_pos (by omega), hfr z, wrs_x, if_pos (by show x < 3; omega)]; exact onr_1 (x := x) R0 (by omega) hsz, hfr z⟩, V⟩
            · refine wl_s (pc' := 77) ji_30_76 rfl rfl rfl ?_
              refine wl_bp ji_30_77 rfl ?_
              refine wl_vc (d := d + 4) (as := [.ref 93, wp_i 6]) (rest := []) ji_30_79 jc_30_80 rfl (kl_93 V) jk_31.symm (Nat.le_of_ble_eq_true rfl) rfl (by rw [jn_31]; rfl) (wk_fail ht V) (fun v1 h2 R => ?_)
              obtain ⟨rfl, V⟩ := R
              show wl_R _ _ 30 82 [some (.ref 93), some (wp_i x)] [] h2 _
              refine wl_goto (t := 103) ji_30_82 rfl ?_
              exact wl_rv ji_30_103 jr_30 ⟨rfl, k, v, s, p, 6, _, _, _, _, _, ls, _, cl, _, _, ((0, 0, 0), []), by unfold kre; rw [hwd]; exact Or.inr ⟨by omega, Or.inr ⟨fun z => by have := hyb.mpr z.2; omega, Or.inl ⟨by omega, rfl, rfl, rfl⟩⟩⟩, by omega, fun z => by omega, fun z => by omega, by rw [if_neg (by decide)]; exact V⟩
          · refine wl_s (pc' := 57) ji_30_56 rfl rfl rfl ?_
            refine wl_s (pc' := 58) ji_30_57 rfl rfl rfl ?_
            refine wl_vc (d := d + 4) (as := [.ref 93, wp_i 4]) (rest := []) ji_30_58 jc_30_80 rfl (kl_93 V) jk_31.symm (Nat.le_of_ble_eq_true rfl) rfl (by rw [jn_31]; rfl) (wk_fail ht V) (fun v1 h2 R => ?_)
            obtain ⟨rfl, V⟩ := R
            show wl_R _ _ 30 61 [some (.ref 93), some (wp_i x)] [] h2 _
            refine wl_goto (t := 103) ji_30_61 rfl ?_
            exact wl_rv ji_30_103 jr_30 ⟨rfl, k, v, s, p, 4, _, _, _, _, _, ls, _, cl, _, _, ((0, 0, 0), []), by unfold kre; rw [hwd]; exact Or.inr ⟨by omega, Or.inl ⟨⟨by omega, hyb.mp (by omega)⟩, rfl, rfl, rfl⟩⟩, by omega, fun z => by omega, fun z => by omega, by rw [if_neg (by decide)]; exact V⟩
      · refine wl_s (pc' := 33) ji_30_32 rfl rfl rfl ?_
        refine wl_s (pc' := 34) ji_30_33 rfl rfl rfl ?_
        refine wl_vc (d := d + 4) (as := [.ref 93, wp_i 1]) (rest := []) ji_30_34 jc_30_80 rfl (kl_93 V) jk_31.symm (Nat.le_of_ble_eq_true rfl) rfl (by rw [jn_31]; rfl) (wk_fail ht V) (fun v1 h2 R => ?_)
        obtain ⟨rfl, V⟩ := R
        show wl_R _ _ 30 37 [some (.ref 93), some (wp_i x)] [] h2 _
        refine wl_goto (t := 103) ji_30_37 rfl ?_
        exact wl_rv ji_30_103 jr_30 ⟨rfl, k, v, s, p, 1, _, _, _, _, _, ls, _, cl, _, _, ((0, 0, 0), []), by unfold kre; rw [hwd]; exact Or.inl ⟨by omega, rfl, rfl, rfl⟩, by omega, fun z => by omega, fun z => by omega, by rw [if_neg (by decide)]; exact V⟩
  · refine wl_s (pc' := 11) ji_30_10 rfl rfl rfl ?_
    refine kl_g V ji_30_11 jf_30_47 rfl ?_
    refine kl_t V ji_30_14 jf_30_77 rfl ?_
    refine wl_goto (t := 21) ji_30_17 rfl ?_
    refine wl_s (pc' := 22) (lv' := [some (.ref 93), some (wp_i v)]) ji_30_21 rfl rfl rfl ?_
    obtain ⟨x, hx⟩ : ∃ x : Int, x = v := ⟨_, rfl⟩
    have hwd : wdo k v = x := by rw [hx]; unfold wdo; exact if_pos (by omega)
    have hxr : -1 ≤ x ∧ x ≤ 30 := by rw [hx]; omega
    have hE : wp_i x = wp_i v := by rw [hx]
    rw [← hE]
    show wl_R n (d + 5) 30 22 [some (.ref 93), some (wp_i x)] [] h _
    refine wl_s (pc' := 23) ji_30_22 rfl rfl rfl ?_
    refine wl_if (t := 32) ji_30_23 rfl (by omega) (fun (hb10 : (x : Int) < 0) => ?_) (fun (hb10 : ¬ ((x : Int) < 0)) => ?_)
    · refine wl_s (pc' := 33) ji_30_32 rfl rfl rfl ?_
      refine wl_s (pc' := 34) ji_30_33 rfl rfl rfl ?_
      refine wl_vc (d := d + 4) (as := [.ref 93, wp_i 1]) (rest := []) ji_30_34 jc_30_80 rfl (kl_93 V) jk_31.symm (Nat.le_of_ble_eq_true rfl) rfl (by rw [jn_31]; rfl) (wk_fail ht V) (fun v1 h2 R => ?_)
      obtain ⟨rfl, V⟩ := R
      show wl_R _ _ 30 37 [some (.ref 93), some (wp_i x)] [] h2 _
      refine wl_goto (t := 103) ji_30_37 rfl ?_
      exact wl_rv ji_30_103 jr_30 ⟨rfl, k, v, s, p, 1, _, _, _, _, _, ls, _, cl, _, _, ((0, 0, 0), []), by unfold kre; rw [hwd]; exact Or.inl ⟨by omega, rfl, rfl, rfl⟩, by omega, fun z => by omega, fun z => by omega, by rw [if_neg (by decide)]; exact V⟩
    · refine wl_s (pc' := 27) ji_30_26 rfl rfl rfl ?_
      refine wl_bp ji_30_27 rfl ?_
      refine wl_icmp (t := 40) ji_30_29 rfl (by omega) (by omega) (fun (hb11 : (x : Int) ≤ 9) => ?_) (fun (hb11 : ¬ ((x : Int) ≤ 9)) => ?_)
      · refine wl_s (pc' := 41) ji_30_40 rfl rfl rfl ?_
        refine wl_s (pc' := 42) ji_30_41 rfl rfl rfl ?_
        refine wl_icmp (t := 64) ji_30_42 rfl (by omega) (by omega) (fun (hb12 : (3 : Int) ≤ x) => ?_) (fun (hb12 : ¬ ((3 : Int) ≤ x)) => ?_)
        · refine wl_s (pc' := 65) ji_30_64 rfl rfl rfl ?_
          refine kl_g V ji_30_65 jf_30_51 rfl ?_
          refine ktg_c V ji_30_68 jf_30_88 ?_
          refine wl_bp ji_30_71 rfl ?_
          refine wl_icmp (t := 85) ji_30_73 rfl (by omega) (by omega) (fun (hb13 : ¬ (cl : Int) = 24) => ?_) (fun (hb13 : ¬ (¬ (cl : Int) = 24)) => ?_)
          · refine wl_s (pc' := 86) ji_30_85 rfl rfl rfl ?_
            refine wl_s (pc' := 87) ji_30_86 rfl rfl rfl ?_
            refine wl_icmp (t := 98) ji_30_87 rfl (by omega) (by omega) (fun (hb14 : (3 : Int) ≤ x) => ?_) (fun (hb14 : ¬ ((3 : Int) ≤ x)) => ?_)
            · refine wl_s (pc' := 99) ji_30_98 rfl rfl rfl ?_
              refine wl_s (pc' := 100) ji_30_99 rfl rfl rfl ?_
              refine wl_vc (d := d + 4) (as := [.ref 93, wp_i x]) (rest := []) ji_30_100 jc_30_94 rfl (kl_93 V) jk_51.symm (Nat.le_of_ble_eq_true rfl) rfl (by rw [jn_51]; rfl) (wk_dd (d := d) D hL H8 ht V (by omega) rfl HC (by omega) (x := x) (by omega)) (fun v1 h2 R => ?_)
              obtain ⟨rfl, k', v', q', r', f', N, fr1, xrn, hq, hfr, V⟩ := R
              show wl_R _ _ 30 103 [some (.ref 93), some (wp_i x)] [] h2 _
              exact wl_rv ji_30_103 jr_30 ⟨rfl, k', v', q', r', f', _, _, _, _, _, ls, _, cl + 1, _, _, ((x, N.headD 0, N.tail.headD 0), []), by unfold kre; rw [hwd]; exact Or.inr ⟨by omega, Or.inr ⟨fun z => by omega, Or.inr ⟨by omega, Or.inr ⟨by omega, N, rfl, xrn⟩⟩⟩⟩, by omega, fun _ => hls, fun z => ⟨rfl, by rw [hwd, if_neg (by omega), hfr z, wrs_x, if_neg (by show ¬ x < 3; omega)]; exact R0, hfr z⟩, V⟩
            · refine wl_s (pc' := 91) ji_30_90 rfl rfl rfl ?_
              refine wl_s (pc' := 92) ji_30_91 rfl rfl rfl ?_
              refine wl_vc (d := d + 4) (as := [.ref 93, wp_i x]) (rest := []) ji_30_92 jc_30_91 rfl (kl_93 V) jk_33.symm (Nat.le_of_ble_eq_true rfl) rfl (by rw [jn_33]; rfl) (wk_rl (d := d) D hL H8 ht V (x := x) (by omega) hls (by omega) (by omega)) (fun v1 h2 R => ?_)
              obtain ⟨rfl, k', v', q', r', f', st', w', ls', as', m, E, fr1, lrn, hfr, hq, hl, ws2, e2, hlen2, V⟩ := R
              show wl_R _ _ 30 95 [some (.ref 93), some (wp_i x)] [] h2 _
              refine wl_goto (t := 103) ji_30_95 rfl ?_
              exact wl_rv ji_30_103 jr_30 ⟨rfl, k', v', q', r', f', _, _, _, _, _, ls', _, cl + 1, _, _, ((x, 0, 0), E), by unfold kre; rw [hwd]; exact Or.inr ⟨by omega, Or.inr ⟨fun z => by omega, Or.inr ⟨by omega, Or.inl ⟨by omega, rfl, m, lrn⟩⟩⟩⟩, by omega, hl, fun z => ⟨rfl, by rw [hwd, if_pos (by omega), hfr z, wrs_x, if_pos (by show x < 3; omega)]; exact onr_1 (x := x) R0 (by omega) hsz, hfr z⟩, V⟩
          · refine wl_s (pc' := 77) ji_30_76 rfl rfl rfl ?_
            refine wl_bp ji_30_77 rfl ?_
            refine wl_vc (d := d + 4) (as := [.ref 93, wp_i 6]) (rest := []) ji_30_79 jc_30_80 rfl (kl_93 V) jk_31.symm (Nat.le_of_ble_eq_true rfl) rfl (by rw [jn_31]; rfl) (wk_fail ht V) (fun v1 h2 R => ?_)
            obtain ⟨rfl, V⟩ := R
            show wl_R _ _ 30 82 [some (.ref 93), some (wp_i x)] [] h2 _
            refine wl_goto (t := 103) ji_30_82 rfl ?_
            exact wl_rv ji_30_103 jr_30 ⟨rfl, k, v, s, p, 6, _, _, _, _, _, ls, _, cl, _, _, ((0, 0, 0), []), by unfold kre; rw [hwd]; exact Or.inr ⟨by omega, Or.inr ⟨fun z => by omega, Or.inl ⟨by omega, rfl, rfl, rfl⟩⟩⟩, by omega, fun z => by omega, fun z => by omega, by rw [if_neg (by decide)]; exact V⟩
        · refine wl_s (pc' := 46) ji_30_45 rfl rfl rfl ?_
          refine kl_g V ji_30_46 jf_30_51 rfl ?_
          refine wl_s (pc' := 50) ji_30_49 rfl rfl rfl ?_
          obtain ⟨tfs, htc⟩ := kl_tc V
          refine wl_vc (d := d + 4) (as := [.ref t, wp_i x]) (rest := []) ji_30_50 jc_30_84 rfl htc jk_32.symm (Nat.le_of_ble_eq_true rfl) rfl (by rw [jn_32]; rfl) (wk_hs ht V (x := x) (by omega) (fun j hj => (R0.2 j hj).1)) (fun v1 h1 R => ?_)
          obtain ⟨e1, y, rfl, hya, hyb⟩ := R
          subst e1
          rw [← (R0.2 x.toNat (by omega)).2] at hyb
          show wl_R _ _ 30 53 [some (.ref 93), some (wp_i x)] [wp_i y] h1 _
          refine wl_if (t := 64) ji_30_53 rfl (by omega) (fun (hb15 : (y : Int) = 0) => ?_) (fun (hb15 : ¬ ((y : Int) = 0)) => ?_)
          · refine wl_s (pc' := 65) ji_30_64 rfl rfl rfl ?_
            refine kl_g V ji_30_65 jf_30_51 rfl ?_
            refine ktg_c V ji_30_68 jf_30_88 ?_
            refine wl_bp ji_30_71 rfl ?_
            refine wl_icmp (t := 85) ji_30_73 rfl (by omega) (by omega) (fun (hb16 : ¬ (cl : Int) = 24) => ?_) (fun (hb16 : ¬ (¬ (cl : Int) = 24)) => ?_)
            · refine wl_s (pc' := 86) ji_30_85 rfl rfl rfl ?_
              refine wl_s (pc' := 87) ji_30_86 rfl rfl rfl ?_
              refine wl_icmp (t := 98) ji_30_87 rfl (by omega) (by omega) (fun (hb17 : (3 : Int) ≤ x) => ?_) (fun (hb17 : ¬ ((3 : Int) ≤ x)) => ?_)
              · refine wl_s (pc' := 99) ji_30_98 rfl rfl rfl ?_
                refine wl_s (pc' := 100) ji_30_99 rfl rfl rfl ?_
                refine wl_vc (d := d + 4) (as := [.ref 93, wp_i x]) (rest := []) ji_30_100 jc_30_94 rfl (kl_93 V) jk_51.symm (Nat.le_of_ble_eq_true rfl) rfl (by rw [jn_51]; rfl) (wk_dd (d := d) D hL H8 ht V (by omega) rfl HC (by omega) (x := x) (by omega)) (fun v1 h2 R => ?_)
                obtain ⟨rfl, k', v', q', r', f', N, fr1, xrn, hq, hfr, V⟩ := R
                show wl_R _ _ 30 103 [some (.ref 93), some (wp_i x)] [] h2 _
                exact wl_rv ji_30_103 jr_30 ⟨rfl, k', v', q', r', f', _, _, _, _, _, ls, _, cl + 1, _, _, ((x, N.headD 0, N.tail.headD 0), []), by unfold kre; rw [hwd]; exact Or.inr ⟨by omega, Or.inr ⟨fun z => by omega, Or.inr ⟨by omega, Or.inr ⟨by omega, N, rfl, xrn⟩⟩⟩⟩, by omega, fun _ => hls, fun z => ⟨rfl, by rw [hwd, if_neg (by omega), hfr z, wrs_x, if_neg (by show ¬ x < 3; omega)]; exact R0, hfr z⟩, V⟩
              · refine wl_s (pc' := 91) ji_30_90 rfl rfl rfl ?_
                refine wl_s (pc' := 92) ji_30_91 rfl rfl rfl ?_
                refine wl_vc (d := d + 4) (as := [.ref 93, wp_i x]) (rest := []) ji_30_92 jc_30_91 rfl (kl_93 V) jk_33.symm (Nat.le_of_ble_eq_true rfl) rfl (by rw [jn_33]; rfl) (wk_rl (d := d) D hL H8 ht V (x := x) (by omega) hls (by omega) (by omega)) (fun v1 h2 R => ?_)
                obtain ⟨rfl, k', v', q', r', f', st', w', ls', as', m, E, fr1, lrn, hfr, hq, hl, ws2, e2, hlen2, V⟩ := R
                show wl_R _ _ 30 95 [some (.ref 93), some (wp_i x)] [] h2 _
                refine wl_goto (t := 103) ji_30_95 rfl ?_
                exact wl_rv ji_30_103 jr_30 ⟨rfl, k', v', q', r', f', _, _, _, _, _, ls', _, cl + 1, _, _, ((x, 0, 0), E), by unfold kre; rw [hwd]; exact Or.inr ⟨by omega, Or.inr ⟨fun z => by have := hyb.mpr z.2; omega, Or.inr ⟨by omega, Or.inl ⟨by omega, rfl, m, lrn⟩⟩⟩⟩, by omega, hl, fun z => ⟨rfl, by rw [hwd, if_pos (by omega), hfr z, wrs_x, if_pos (by show x < 3; omega)]; exact onr_1 (x := x) R0 (by omega) hsz, hfr z⟩, V⟩
            · refine wl_s (pc' := 77) ji_30_76 rfl rfl rfl ?_
              refine wl_bp ji_30_77 rfl ?_
              refine wl_vc (d := d + 4) (as := [.ref 93, wp_i 6]) (rest := []) ji_30_79 jc_30_80 rfl (kl_93 V) jk_31.symm (Nat.le_of_ble_eq_true rfl) rfl (by rw [jn_31]; rfl) (wk_fail ht V) (fun v1 h2 R => ?_)
              obtain ⟨rfl, V⟩ := R
              show wl_R _ _ 30 82 [some (.ref 93), some (wp_i x)] [] h2 _
              refine wl_goto (t := 103) ji_30_82 rfl ?_
              exact wl_rv ji_30_103 jr_30 ⟨rfl, k, v, s, p, 6, _, _, _, _, _, ls, _, cl, _, _, ((0, 0, 0), []), by unfold kre; rw [hwd]; exact Or.inr ⟨by omega, Or.inr ⟨fun z => by have := hyb.mpr z.2; omega, Or.inl ⟨by omega, rfl, rfl, rfl⟩⟩⟩, by omega, fun z => by omega, fun z => by omega, by rw [if_neg (by decide)]; exact V⟩
          · refine wl_s (pc' := 57) ji_30_56 rfl rfl rfl ?_
            refine wl_s (pc' := 58) ji_30_57 rfl rfl rfl ?_
            refine wl_vc (d := d + 4) (as := [.ref 93, wp_i 4]) (rest := []) ji_30_58 jc_30_80 rfl (kl_93 V) jk_31.symm (Nat.le_of_ble_eq_true rfl) rfl (by rw [jn_31]; rfl) (wk_fail ht V) (fun v1 h2 R => ?_)
            obtain ⟨rfl, V⟩ := R
            show wl_R _ _ 30 61 [some (.ref 93), some (wp_i x)] [] h2 _
            refine wl_goto (t := 103) ji_30_61 rfl ?_
            exact wl_rv ji_30_103 jr_30 ⟨rfl, k, v, s, p, 4, _, _, _, _, _, ls, _, cl, _, _, ((0, 0, 0), []), by unfold kre; rw [hwd]; exact Or.inr ⟨by omega, Or.inl ⟨⟨by omega, hyb.mp (by omega)⟩, rfl, rfl, rfl⟩⟩, by omega, fun z => by omega, fun z => by omega, by rw [if_neg (by decide)]; exact V⟩
      · refine wl_s (pc' := 33) ji_30_32 rfl rfl rfl ?_
        refine wl_s (pc' := 34) ji_30_33 rfl rfl rfl ?_
        refine wl_vc (d := d + 4) (as := [.ref 93, wp_i 1]) (rest := []) ji_30_34 jc_30_80 rfl (kl_93 V) jk_31.symm (Nat.le_of_ble_eq_true rfl) rfl (by rw [jn_31]; rfl) (wk_fail ht V) (fun v1 h2 R => ?_)
        obtain ⟨rfl, V⟩ := R
        show wl_R _ _ 30 37 [some (.ref 93), some (wp_i x)] [] h2 _
        refine wl_goto (t := 103) ji_30_37 rfl ?_
        exact wl_rv ji_30_103 jr_30 ⟨rfl, k, v, s, p, 1, _, _, _, _, _, ls, _, cl, _, _, ((0, 0, 0), []), by unfold kre; rw [hwd]; exact Or.inl ⟨by omega, rfl, rfl, rfl⟩, by omega, fun z => by omega, fun z => by omega, by rw [if_neg (by decide)]; exact V⟩

theorem lre_l {B : Int → Int} {law : Int} : ∀ {m : Nat} {p st : Int} {w : List Int} {ls as_ : Int} {E : List Int} {f q r : Int}, lre B law m p st w ls as_ E f q r → lr B law m p st w ls as_ f q r
  | 0, _, _, _, _, _, _, _, _, _, h => h.elim
  | m + 1, p, st, w, ls, as_, E, f, q, r, h => by
    obtain ⟨k, v, q1, r1, tk, h⟩ := h
    refine ⟨k, v, q1, r1, tk, ?_⟩
    cases hc : cstep law k v st w ls as_ with
    | inl n =>
      rw [hc] at h
      exact h
    | inr x =>
      obtain ⟨st2, w2, l2, a2⟩ := x
      rw [hc] at h
      rcases h with ⟨h1, h2, h3, h4, -⟩ | ⟨h1, E2, -, h2⟩
      · exact Or.inl ⟨h1, h2, h3, h4⟩
      · exact Or.inr ⟨h1, lre_l h2⟩
theorem xre_x {B : Int → Int} : ∀ {l : List (Int × Int × Int)} {p q0 : Int} {N : List Int} {f q r : Int}, xre B l p q0 N f q r → xr B l p q0 f q r
  | [], _, _, _, _, _, _, h => ⟨h.1, h.2.1, h.2.2.1⟩
  | (c, a, b) :: l, p, q0, N, f, q, r, h => by
    obtain ⟨k, v, q1, r1, tk, h⟩ := h
    refine ⟨k, v, q1, r1, tk, ?_⟩
    rcases h with h | ⟨h, N2, -, g⟩
    · exact Or.inl h
    · exact Or.inr ⟨h, xre_x g⟩
theorem kre_k {B : Int → Int} {on : Nat → Bool} {cl ls k v s p : Int} {C : KC} {f q r : Int} (h : kre B on cl ls k v s p C f q r) : clr B on cl ls k v s p f q r := by
  rcases h with h | ⟨h, h1 | ⟨h1, h2 | ⟨h2, ⟨h3, -, m, h4⟩ | ⟨h3, N, -, h4⟩⟩⟩⟩
  · exact Or.inl h
  · exact Or.inr ⟨h, Or.inl h1⟩
  · exact Or.inr ⟨h, Or.inr ⟨h1, Or.inl h2⟩⟩
  · exact Or.inr ⟨h, Or.inr ⟨h1, Or.inr ⟨h2, Or.inl ⟨h3, m, lre_l h4⟩⟩⟩⟩
  · exact Or.inr ⟨h, Or.inr ⟨h1, Or.inr ⟨h2, Or.inr ⟨h3, xre_x h4⟩⟩⟩⟩
/-- from a clause's first token on: the clauses, the fault (0: none) and its place (-1: none) -/
def tre (B : Int → Int) : Nat → (Nat → Bool) → Int → Int → Int → Int → Int → Int → List KC → Int → Int → Prop
  | 0, _, _, _, _, _, _, _, _, _, _ => False
  | m + 1, on, cl, ls, k, v, s, p, Cs, f, q => (k = 3 ∧ f = 0 ∧ q = -1 ∧ Cs = []) ∨ (¬ k = 3 ∧ ∃ C f1 q1 r1, kre B on cl ls k v s p C f1 q1 r1 ∧ ((¬ f1 = 0 ∧ f = f1 ∧ q = q1) ∨ (f1 = 0 ∧ ∃ k2 v2 q2 r2 ls2 Cs2, tok B r1 k2 v2 q2 r2 ∧ Cs = C :: Cs2 ∧ tre B m (if wdo k v < 3 then on1 on (wdo k v) else on) (cl + 1) ls2 k2 v2 q2 r2 Cs2 f q)))
def kR (h0 : mj_H) (bl : List Value) (t : Nat) (L : Int) (on : Nat → Bool) (cl ls k v s p : Int) (fr : TD) : Option Value → mj_H → Prop := fun w h1 => w = none ∧ ∃ (m : Nat) (Cs : List KC) (k' v' s' p' f' q' law' st' wn' op' br' ls' as' cl' : Int) (ws' : List Value) (fr' : TD), tre (bt bl L) m on cl ls k v s p Cs f' q' ∧ (f' = 0 → fr' = apKs fr cl Cs ∧ cl' = cl + (Cs.length : Int)) ∧ kL h0 h1 bl t L k' v' s' p' f' q' law' st' wn' op' br' ls' as' cl' ws' fr' 
theorem wk_tl {d : Nat} {h0 : mj_H} {bl : List Value} {t : Nat} {L : Int} (D : tB bl) (hL : 0 ≤ L ∧ L ≤ 300) (H8 : h0[8]? = some (900, tk_V)) (ht : 12 ≤ t ∧ t ≤ 33) (HC : hC h0) : ∀ (n : Nat) (h : mj_H) (on : Nat → Bool) (i k v s p law st wn op br ls as_ cl : Int) (ws : List Value) (fr : TD), kL h0 h bl t L k v s p 0 (-1) law st wn op br ls as_ cl ws fr → onr fr.2.1.1 on → (0 ≤ cl ∧ cl ≤ 24) → (0 ≤ ls ∧ ls ≤ 6) → (wp_r k ∧ wp_r v ∧ (k = 0 → -1 ≤ v ∧ v ≤ 30)) → ((0 ≤ s ∧ s ≤ p) ∧ p ≤ L) → (0 ≤ i ∧ i ≤ 400 ∧ (k = 3 ∨ i + 1 ≤ p)) → wl_R n (d + 6) 20 43 [some (.ref 93), some (.ref t), some (wp_i i)] [] h (kR h0 bl t L on cl ls k v s p fr) := by
  intro n
  induction n with
  | zero => intro h on i k v s p law st wn op br ls as_ cl ws fr V R0 hcl hls hkv hp hi; exact wl_0
  | succ n ih =>
    intro h on i k v s p law st wn op br ls as_ cl ws fr V R0 hcl hls hkv hp hi
    have done : k = 3 → wl_R n (d + 6) 20 92 [some (.ref 93), some (.ref t), some (wp_i i)] [] h (kR h0 bl t L on cl ls k v s p fr) := fun e => wl_rv ji_20_92 jr_20 ⟨rfl, 1, [], k, v, s, p, 0, -1, law, st, wn, op, br, ls, as_, cl, ws, fr, Or.inl ⟨e, rfl, rfl, rfl⟩, fun _ => ⟨rfl, by show cl = cl + ((0 : Nat) : Int); omega⟩, V⟩
    refine wl_s1 (pc' := 44) ji_20_43 rfl rfl rfl ?_
    refine wl_sp ji_20_44 rfl ?_
    refine wl_icmp (t := 92) ji_20_47 rfl (by omega) (by omega) (fun (c : (300 : Int) < i) => done (by omega)) (fun _ => ?_)
    refine wl_s (pc' := 51) ji_20_50 rfl rfl rfl ?_
    refine kl_g V ji_20_51 jf_20_15 rfl ?_
    refine wl_if (t := 92) ji_20_54 rfl (x := 0) (by omega) (fun (c : ¬ ((0 : Int) = 0)) => absurd rfl c) (fun _ => ?_)
    refine wl_s (pc' := 58) ji_20_57 rfl rfl rfl ?_
    refine kl_g V ji_20_58 jf_20_47 rfl ?_
    refine kl_t V ji_20_61 jf_20_68 rfl ?_
    refine wl_s (pc' := 65) ji_20_64 rfl rfl rfl ?_
    refine wl_icmp (t := 92) ji_20_65 rfl (x := k) (y := 3) hkv.1 (by omega) (fun (c : k = 3) => done c) (fun (hk3 : ¬ k = 3) => ?_)
    refine wl_s (pc' := 69) ji_20_68 rfl rfl rfl ?_
    refine wl_vc (d := d + 5) (as := [.ref 93]) (rest := []) ji_20_69 jc_20_71 rfl (kl_93 V) jk_30.symm (Nat.le_of_ble_eq_true rfl) rfl (by rw [jn_30]; rfl) (wk_rc (d := d) D hL H8 ht V (by omega) rfl HC hcl R0 hls hkv) (fun v9 h1 R => ?_)
    obtain ⟨rfl, k1, v1, q1, r1, f1, law1, st1, wn1, op1, br1, ls1, as1, cl1, ws1, fr1, C1, hkre, hq, hl1, hok, V⟩ := R
    have hclr := kre_k hkre
    show wl_R n (d + 6) 20 72 [some (.ref 93), some (.ref t), some (wp_i i)] [] h1 _
    refine wl_s (pc' := 73) ji_20_72 rfl rfl rfl ?_
    refine kl_g V ji_20_73 jf_20_15 rfl ?_
    by_cases hf : f1 = 0
    · subst hf
      obtain ⟨hc1, R1, hF⟩ := hok rfl
      have hl1 := hl1 rfl
      rw [if_pos rfl] at V
      refine wl_if (t := 86) ji_20_76 rfl (x := 0) (by omega) (fun (c : ¬ ((0 : Int) = 0)) => absurd rfl c) (fun _ => ?_)
      refine wl_s (pc' := 80) ji_20_79 rfl rfl rfl ?_
      refine kl_g V ji_20_80 jf_20_47 rfl ?_
      refine wl_vc (d := d + 5) (as := [.ref 91]) (rest := []) ji_20_83 jc_20_65 rfl V.1 jk_23.symm (Nat.le_of_ble_eq_true rfl) rfl (by rw [jn_23]; rfl) (wc_adv (d := d + 3) D hL ((V.2.2.2.2.2 8 (by omega) (by decide) (by decide) (by decide)).trans H8) (kl_T V) (by omega)) (fun v8 h2 R => ?_)
      obtain ⟨rfl, k2, v2, q2, r2, T, tk, hqr⟩ := R
      show wl_R n (d + 6) 20 86 [some (.ref 93), some (.ref t), some (wp_i i)] [] h2 _
      have V := kl_adv ht V T
      have htr := tok_r (fun j hj => bt_r D hL.2 hj) (by omega) tk
      have hta := tok_adv tk
      refine wl_iinc (x := i) (z := i + 1) (lv' := [some (.ref 93), some (.ref t), some (wp_i (i + 1))]) ji_20_86 rfl (Nat.le_of_ble_eq_true rfl) (by omega) rfl ?_
      refine wl_goto (t := 43) ji_20_89 rfl ?_
      have hcl24 : cl1 ≤ 24 := by
        rcases hclr with x | ⟨-, x | ⟨-, x | ⟨x, -⟩⟩⟩
        · omega
        · omega
        · omega
        · omega
      refine wl_mono (ih h2 _ (i + 1) k2 v2 q2 r2 law1 st1 wn1 op1 br1 ls1 as1 cl1 ws1 fr1 V R1 (by omega) hl1 ⟨by omega, by omega, htr.2.2⟩ (by omega) (by
        by_cases z : k2 = 3
        · omega
        · have := hta.2.2 z
          omega)) ?_
      rintro w9 h9 ⟨rfl, m, Cs, k', v', s', p', f', q', law', st', wn', op', br', ls', as', cl', ws', fr', htrn, hap, V9⟩
      rw [hc1] at htrn
      exact ⟨rfl, m + 1, C1 :: Cs, k', v', s', p', f', q', law', st', wn', op', br', ls', as', cl', ws', fr', Or.inr ⟨hk3, C1, 0, q1, r1, hkre, Or.inr ⟨rfl, k2, v2, q2, r2, ls1, Cs, tk, rfl, htrn⟩⟩, fun z => ⟨by rw [(hap z).1, hF, hc1]; rfl, by rw [(hap z).2, hc1]; show cl + 1 + (Cs.length : Int) = cl + ((Cs.length + 1 : Nat) : Int); omega⟩, V9⟩
    · rw [if_neg hf] at V
      have hfr : wp_r f1 ∧ 0 < f1 := by
        rcases hclr with x | ⟨-, x | ⟨-, x | ⟨-, ⟨-, m, x⟩ | ⟨-, x⟩⟩⟩⟩
        · omega
        · omega
        · omega
        · have := lr_f x
          omega
        · have := xr_f x
          omega
      refine wl_if (t := 86) ji_20_76 rfl (x := f1) hfr.1 (fun _ => ?_) (fun (c : ¬ ¬ f1 = 0) => absurd hf c)
      refine wl_iinc (x := i) (z := i + 1) (lv' := [some (.ref 93), some (.ref t), some (wp_i (i + 1))]) ji_20_86 rfl (Nat.le_of_ble_eq_true rfl) (by omega) rfl ?_
      refine wl_goto (t := 43) ji_20_89 rfl ?_
      refine wl_s (pc' := 44) ji_20_43 rfl rfl rfl ?_
      refine wl_sp ji_20_44 rfl ?_
      have fin : wl_R n (d + 6) 20 92 [some (.ref 93), some (.ref t), some (wp_i (i + 1))] [] h1 (kR h0 bl t L on cl ls k v s p fr) := wl_rv ji_20_92 jr_20 ⟨rfl, 1, [], k1, v1, q1, r1, f1, q1, law1, st1, wn1, op1, br1, ls1, as1, cl1, ws1, fr1, Or.inr ⟨hk3, C1, f1, q1, r1, hkre, Or.inl ⟨hf, rfl, rfl⟩⟩, fun z => absurd z hf, V⟩
      refine wl_icmp (t := 92) ji_20_47 rfl (x := i + 1) (y := 300) (by omega) (by omega) (fun _ => fin) (fun _ => ?_)
      refine wl_s (pc' := 51) ji_20_50 rfl rfl rfl ?_
      refine kl_g V ji_20_51 jf_20_15 rfl ?_
      exact wl_if (t := 92) ji_20_54 rfl (x := f1) hfr.1 (fun _ => fin) (fun (c : ¬ ¬ f1 = 0) => absurd hf c)
theorem wk_em {nn d : Nat} {h : mj_H} {t : Nat} {cl : Int} {fr : TD} (ht : 12 ≤ t ∧ t ≤ 33) (X : tX h t cl fr) (hfl : fr.2.1.1.length = 3) : wl_R nn d 21 0 [some (.ref t), none] [] h (fun w h1 => w = none ∧ tX h1 t 0 ((0, fr.1.2), ([wp_i (-1), wp_i (-1), wp_i (-1)], fr.2.1.2), fr.2.2) ∧ ∀ a, ¬ (t ≤ a ∧ a ≤ t + 6) → h1[a]? = h[a]?) := by
  obtain ⟨⟨sz, c1⟩, ⟨f1, c3⟩, c4, c5, c6⟩ := fr
  have hfl : f1.length = 3 := hfl
  have x0 : h[t]? = some (1, [Value.ref (t + 1), wp_i sz, Value.ref (t + 2), Value.ref (t + 3), Value.ref (t + 4), Value.ref (t + 5), Value.ref (t + 6), wp_i cl, Value.ref 10]) := X.1
  have x1 : h[t + 1]? = some (1000, c1) := X.2.2.1
  have x2 : h[t + 2]? = some (1000, f1) := X.2.2.2.1
  have x3 : h[t + 3]? = some (1000, c3) := X.2.2.2.2.1
  have x4 : h[t + 4]? = some (1000, c4) := X.2.2.2.2.2.1
  have x5 : h[t + 5]? = some (1000, c5) := X.2.2.2.2.2.2.1
  have x6 : h[t + 6]? = some (1000, c6) := X.2.2.2.2.2.2.2
  refine wl_s (pc' := 1) ji_21_0 rfl rfl rfl ?_
  refine wl_s (pc' := 2) ji_21_1 rfl rfl rfl ?_
  refine wl_pf ji_21_2 jf_21_17 x0 (Nat.le_trans (by decide) ht.1) (Nat.le_of_ble_eq_true rfl) rfl rfl ?_
  refine wl_s (pc' := 6) ji_21_5 rfl rfl rfl ?_
  refine wl_s (pc' := 7) ji_21_6 rfl rfl rfl ?_
  refine wl_pf ji_21_7 jf_21_36 (List.getElem?_set_self (fd_lt x0)) (Nat.le_trans (by decide) ht.1) (Nat.le_of_ble_eq_true rfl) rfl rfl ?_
  rw [List.set_set]
  obtain ⟨g, hg⟩ : ∃ g, h.set t (1, [Value.ref (t + 1), wp_i 0, Value.ref (t + 2), Value.ref (t + 3), Value.ref (t + 4), Value.ref (t + 5), Value.ref (t + 6), wp_i 0, Value.ref 10]) = g := ⟨_, rfl⟩
  show wl_R nn d 21 10 [some (.ref t), none] [] (h.set t (1, [Value.ref (t + 1), wp_i 0, Value.ref (t + 2), Value.ref (t + 3), Value.ref (t + 4), Value.ref (t + 5), Value.ref (t + 6), wp_i 0, Value.ref 10])) _
  rw [hg]
  have y0 : g[t]? = some (1, [Value.ref (t + 1), wp_i 0, Value.ref (t + 2), Value.ref (t + 3), Value.ref (t + 4), Value.ref (t + 5), Value.ref (t + 6), wp_i 0, Value.ref 10]) := by rw [← hg]; exact List.getElem?_set_self (fd_lt x0)
  have yf : ∀ a, a ≠ t → g[a]? = h[a]? := fun a ha => by rw [← hg]; exact List.getElem?_set_ne (Ne.symm ha)
  have y2 : g[t + 2]? = some (1000, f1) := (yf _ (by omega)).trans x2
  refine wl_s (pc' := 11) ji_21_10 rfl rfl rfl ?_
  refine wl_s (pc' := 12) (lv' := [some (.ref t), some (wp_i 0)]) ji_21_11 rfl rfl rfl ?_
  refine wl_s (pc' := 13) ji_21_12 rfl rfl rfl ?_
  refine wl_s (pc' := 14) ji_21_13 rfl rfl rfl ?_
  refine wl_icmp (t := 30) ji_21_14 rfl (x := 0) (y := 3) (by omega) (by omega) (fun (c : (3 : Int) ≤ 0) => (by exfalso; omega)) (fun _ => ?_)
  refine wl_s (pc' := 18) ji_21_17 rfl rfl rfl ?_
  refine wl_gf ji_21_18 jf_21_21 y0 rfl ?_
  refine wl_s (pc' := 22) ji_21_21 rfl rfl rfl ?_
  refine wl_s (pc' := 23) ji_21_22 rfl rfl rfl ?_
  refine wl_ias (x := 0) (y := -1) ji_21_23 y2 (Nat.le_trans (by decide) (Nat.le_trans ht.1 (Nat.le_add_right t 2))) (by omega) (by rw [hfl]; decide) (by rw [hfl]; decide) ?_
  refine wl_iinc (x := 0) (z := 1) (lv' := [some (.ref t), some (wp_i 1)]) ji_21_24 rfl (Nat.le_of_ble_eq_true rfl) (by omega) rfl ?_
  refine wl_goto (t := 12) ji_21_27 rfl ?_
  refine wl_s (pc' := 13) ji_21_12 rfl rfl rfl ?_
  refine wl_s (pc' := 14) ji_21_13 rfl rfl rfl ?_
  refine wl_icmp (t := 30) ji_21_14 rfl (x := 1) (y := 3) (by omega) (by omega) (fun (c : (3 : Int) ≤ 1) => (by exfalso; omega)) (fun _ => ?_)
  refine wl_s (pc' := 18) ji_21_17 rfl rfl rfl ?_
  refine wl_gf ji_21_18 jf_21_21 (by rw [List.getElem?_set_ne (by omega)]; exact y0) rfl ?_
  refine wl_s (pc' := 22) ji_21_21 rfl rfl rfl ?_
  refine wl_s (pc' := 23) ji_21_22 rfl rfl rfl ?_
  refine wl_ias (x := 1) (y := -1) ji_21_23 (List.getElem?_set_self (fd_lt y2)) (Nat.le_trans (by decide) (Nat.le_trans ht.1 (Nat.le_add_right t 2))) (by omega) (by rw [List.length_set, hfl]; decide) (by rw [List.length_set, hfl]; decide) ?_
  rw [List.set_set]
  refine wl_iinc (x := 1) (z := 2) (lv' := [some (.ref t), some (wp_i 2)]) ji_21_24 rfl (Nat.le_of_ble_eq_true rfl) (by omega) rfl ?_
  refine wl_goto (t := 12) ji_21_27 rfl ?_
  refine wl_s (pc' := 13) ji_21_12 rfl rfl rfl ?_
  refine wl_s (pc' := 14) ji_21_13 rfl rfl rfl ?_
  refine wl_icmp (t := 30) ji_21_14 rfl (x := 2) (y := 3) (by omega) (by omega) (fun (c : (3 : Int) ≤ 2) => (by exfalso; omega)) (fun _ => ?_)
  refine wl_s (pc' := 18) ji_21_17 rfl rfl rfl ?_
  refine wl_gf ji_21_18 jf_21_21 (by rw [List.getElem?_set_ne (by omega)]; exact y0) rfl ?_
  refine wl_s (pc' := 22) ji_21_21 rfl rfl rfl ?_
  refine wl_s (pc' := 23) ji_21_22 rfl rfl rfl ?_
  refine wl_ias (x := 2) (y := -1) ji_21_23 (List.getElem?_set_self (fd_lt y2)) (Nat.le_trans (by decide) (Nat.le_trans ht.1 (Nat.le_add_right t 2))) (by omega) (by rw [List.length_set, List.length_set, hfl]; decide) (by rw [List.length_set, List.length_set, hfl]; decide) ?_
  rw [List.set_set]
  refine wl_iinc (x := 2) (z := 3) (lv' := [some (.ref t), some (wp_i 3)]) ji_21_24 rfl (Nat.le_of_ble_eq_true rfl) (by omega) rfl ?_
  refine wl_goto (t := 12) ji_21_27 rfl ?_
  refine wl_s (pc' := 13) ji_21_12 rfl rfl rfl ?_
  refine wl_s (pc' := 14) ji_21_13 rfl rfl rfl ?_
  refine wl_icmp (t := 30) ji_21_14 rfl (x := 3) (y := 3) (by omega) (by omega) (fun _ => ?_) (fun (c : ¬ ((3 : Int) ≤ 3)) => (by exfalso; omega))
  have efr : ((f1.set (0 : Int).toNat (wp_i (-1))).set (1 : Int).toNat (wp_i (-1))).set (2 : Int).toNat (wp_i (-1)) = [wp_i (-1), wp_i (-1), wp_i (-1)] := by
    match f1, hfl with
    | [a, b, c], _ => rfl
  refine wl_rv ji_21_30 jr_21 ⟨rfl, ?_, fun a ha => ?_⟩
  · rw [efr]
    exact ⟨by rw [List.getElem?_set_ne (by omega)]; exact y0, by show (0 : Int) ≤ 0 ∧ (0 : Int) ≤ 300; decide, by rw [List.getElem?_set_ne (by omega)]; exact (yf _ (by omega)).trans x1, List.getElem?_set_self (fd_lt y2), by rw [List.getElem?_set_ne (by omega)]; exact (yf _ (by omega)).trans x3, by rw [List.getElem?_set_ne (by omega)]; exact (yf _ (by omega)).trans x4, by rw [List.getElem?_set_ne (by omega)]; exact (yf _ (by omega)).trans x5, by rw [List.getElem?_set_ne (by omega)]; exact (yf _ (by omega)).trans x6⟩
  · rw [List.getElem?_set_ne (by omega)]
    exact yf a (by omega)

def kE (h : mj_H) (g9 s47 bl ws : List Value) (fr : TD) (t t0 : Nat) (L k v s p hr f q law st wn op br ls as_ c cl : Int) : Prop := (h[9]? = some (0, g9) ∧ g9[0]? = some (.ref 47) ∧ g9[2]? = some (.ref 91) ∧ g9[3]? = some (.ref 93)) ∧ (h[47]? = some (2, s47) ∧ s47.length = 8 ∧ s47[5]? = some (.ref 11) ∧ s47[6]? = some (wp_i c)) ∧ h[11]? = some (1101, [.ref 12, .ref 19, .ref 26, .ref 33, .ref 40]) ∧ h[91]? = some (8, [.ref 92, wp_i L, wp_i k, wp_i v, wp_i s, wp_i p]) ∧ h[92]? = some (1000, bl) ∧ h[93]? = some (9, [.ref 91, .ref t0, wp_i hr, wp_i f, wp_i q, wp_i law, wp_i st, .ref 94, wp_i wn, wp_i op, wp_i br, wp_i ls, wp_i as_]) ∧ (h[94]? = some (1000, ws) ∧ ws.length = 40) ∧ (tX h t cl fr ∧ fr.2.1.1.length = 3)
theorem wk_ri {nn d : Nat} {h : mj_H} {g9 s47 bl ws : List Value} {fr : TD} {t t0 : Nat} {L k v s p hr f q law st wn op br ls as_ c cl : Int} (E : kE h g9 s47 bl ws fr t t0 L k v s p hr f q law st wn op br ls as_ c cl) (D : tB bl) (hL : 0 ≤ L ∧ L ≤ 300) (H8 : h[8]? = some (900, tk_V)) (HC : hC h) (ht : 12 ≤ t ∧ t ≤ 33) (hls : 0 ≤ ls ∧ ls ≤ 6) : wl_R nn (d + 6) 20 0 [some (.ref 93), some (.ref t), none] [] h (fun w h1 => ∃ k v s p, tok (bt bl L) 0 k v s p ∧ kR h bl t L nof 0 ls k v s p ((0, fr.1.2), ([wp_i (-1), wp_i (-1), wp_i (-1)], fr.2.1.2), fr.2.2) w h1) := by
  obtain ⟨-, -, -, e91, e92, e93, ⟨e94, e94l⟩, X, hfl⟩ := E
  refine wl_s (pc' := 1) ji_20_0 rfl rfl rfl ?_
  refine wl_s (pc' := 2) ji_20_1 rfl rfl rfl ?_
  refine wl_pf2 ji_20_2 jf_20_51 e93 (by decide) (Nat.le_of_ble_eq_true rfl) rfl rfl (fun h1 g1 k1 => ?_)
  refine wl_s (pc' := 6) ji_20_5 rfl rfl rfl ?_
  refine wl_gf ji_20_6 jf_20_51 g1 rfl ?_
  have X1 : tX h1 t cl fr := tX_fr X (fun a a1 a2 => k1 a (by omega))
  obtain ⟨cs, hcs⟩ : ∃ cs, h1[t]? = some (1, cs) := ⟨_, X1.1⟩
  refine wl_vc (d := d + 5) (as := [.ref t]) (rest := []) ji_20_9 jc_20_55 rfl hcs jk_21.symm (Nat.le_of_ble_eq_true rfl) rfl (by rw [jn_21]; rfl) (wk_em (d := d + 5) ht X1 hfl) (fun v1 h2 R => ?_)
  obtain ⟨rfl, X2, k2⟩ := R
  have g2 := (k2 93 (by omega)).trans g1
  refine wl_s (pc' := 13) ji_20_12 rfl rfl rfl ?_
  refine wl_s (pc' := 14) ji_20_13 rfl rfl rfl ?_
  refine wl_pf2 ji_20_14 jf_20_9 g2 (by decide) (Nat.le_of_ble_eq_true rfl) (pv_nb (Or.inr rfl)) (pv_fb (Or.inr rfl)) (fun h3 g3 k3 => ?_)
  refine wl_s (pc' := 18) ji_20_17 rfl rfl rfl ?_
  refine wl_s (pc' := 19) ji_20_18 rfl rfl rfl ?_
  refine wl_pf2 ji_20_19 jf_20_15 g3 (by decide) (Nat.le_of_ble_eq_true rfl) rfl rfl (fun h4 g4 k4 => ?_)
  refine wl_s (pc' := 23) ji_20_22 rfl rfl rfl ?_
  refine wl_s (pc' := 24) ji_20_23 rfl rfl rfl ?_
  refine wl_pf2 ji_20_24 jf_20_19 g4 (by decide) (Nat.le_of_ble_eq_true rfl) rfl rfl (fun h5 g5 k5 => ?_)
  have fr5 : ∀ a, a ≠ 93 → ¬ (t ≤ a ∧ a ≤ t + 6) → h5[a]? = h[a]? := fun a q1 q2 => (k5 a q1).trans ((k4 a q1).trans ((k3 a q1).trans ((k2 a q2).trans (k1 a q1))))
  have X5 : tX h5 t 0 ((0, fr.1.2), ([wp_i (-1), wp_i (-1), wp_i (-1)], fr.2.1.2), fr.2.2) := tX_fr X2 (fun a a1 a2 => (k5 a (by omega)).trans ((k4 a (by omega)).trans (k3 a (by omega))))
  have e91' : h5[91]? = some (8, [.ref 92, wp_i L, wp_i k, wp_i v, wp_i s, wp_i p]) := (fr5 91 (by decide) (by omega)).trans e91
  refine wl_s (pc' := 28) ji_20_27 rfl rfl rfl ?_
  refine wl_gf ji_20_28 jf_20_47 g5 rfl ?_
  have rw_ : wl_R nn (d + 5) 22 0 [some (.ref 91)] [] h5 (fun w h1 => w = none ∧ h1[91]? = some (8, [.ref 92, wp_i L, wp_i k, wp_i v, wp_i s, wp_i 0]) ∧ ∀ b, b ≠ 91 → h1[b]? = h5[b]?) := by
    refine wl_s (pc' := 1) ji_22_0 rfl rfl rfl ?_
    refine wl_s (pc' := 2) ji_22_1 rfl rfl rfl ?_
    refine wl_pf2 ji_22_2 jf_22_28 e91' (by decide) (Nat.le_of_ble_eq_true rfl) rfl rfl (fun h6 g6 k6 => ?_)
    exact wl_rv ji_22_5 jr_22 ⟨rfl, g6, k6⟩
  refine wl_vc (d := d + 5) (as := [.ref 91]) (rest := []) ji_20_31 jc_20_60 rfl e91' jk_22.symm (Nat.le_of_ble_eq_true rfl) rfl (by rw [jn_22]; rfl) rw_ (fun v1 h6 R => ?_)
  obtain ⟨rfl, g6, k6⟩ := R
  refine wl_s (pc' := 35) ji_20_34 rfl rfl rfl ?_
  have g93 := (k6 93 (by decide)).trans g5
  refine wl_gf ji_20_35 jf_20_47 g93 rfl ?_
  have H86 : h6[8]? = some (900, tk_V) := (k6 8 (by decide)).trans ((fr5 8 (by decide) (by omega)).trans H8)
  refine wl_vc (d := d + 5) (as := [.ref 91]) (rest := []) ji_20_38 jc_20_65 rfl g6 jk_23.symm (Nat.le_of_ble_eq_true rfl) rfl (by rw [jn_23]; rfl) (wc_adv (d := d + 3) D hL H86 (⟨g6, (k6 92 (by decide)).trans ((fr5 92 (by decide) (by omega)).trans e92), fun _ _ => rfl⟩ : cT h6 h6 bl L k v s 0) (by omega)) (fun v1 h7 R => ?_)
  obtain ⟨rfl, k', v', s', p', ⟨g7, b7, k7⟩, tk, hqr⟩ := R
  have hta := tok_adv tk
  have htr := tok_r (fun j hj => bt_r D hL.2 hj) (by omega) tk
  refine wl_s (pc' := 42) ji_20_41 rfl rfl rfl ?_
  refine wl_s (pc' := 43) (lv' := [some (.ref 93), some (.ref t), some (wp_i 0)]) ji_20_42 rfl rfl rfl ?_
  have V : kL h h7 bl t L k' v' s' p' 0 (-1) law st wn op br ls as_ 0 ws ((0, fr.1.2), ([wp_i (-1), wp_i (-1), wp_i (-1)], fr.2.1.2), fr.2.2) := by
    refine ⟨g7, b7, (k7 93 (by decide)).trans g93, ⟨(k7 94 (by decide)).trans ((k6 94 (by decide)).trans ((fr5 94 (by decide) (by omega)).trans e94)), e94l⟩, tX_fr X5 (fun a a1 a2 => (k7 a (by omega)).trans (k6 a (by omega))), fun a q1 q2 q3 q4 => (k7 a q2).trans ((k6 a q2).trans (fr5 a q3 q1))⟩
  have On : onr [wp_i (-1), wp_i (-1), wp_i (-1)] nof := ⟨rfl, fun j hj => by match j, hj with | 0, _ => exact ⟨rfl, by decide⟩ | 1, _ => exact ⟨rfl, by decide⟩ | 2, _ => exact ⟨rfl, by decide⟩⟩
  refine wl_mono (wk_tl (d := d) D hL H8 ht HC nn h7 nof 0 k' v' s' p' law st wn op br ls as_ 0 ws _ V On (by decide) hls ⟨by omega, by omega, htr.2.2⟩ (by omega) ⟨by decide, by decide, ?_⟩) ?_
  · by_cases h3 : k' = 3
    · exact Or.inl h3
    · have := hta.2.2 h3
      exact Or.inr (by omega)
  · intro w h8 Q
    exact ⟨k', v', s', p', tk, Q⟩
def kV (h : mj_H) (s47 bl : List Value) (t : Nat) (L c ls : Int) (fr : TD) : Option Value → mj_H → Prop := fun v9 h1 => (c = 4 ∧ v9 = some (wp_i (-1)) ∧ h1 = h) ∨ (¬ c = 4 ∧ ∃ k v q r f q9 Cs, tok (bt bl L) 0 k v q r ∧ (∃ m, tre (bt bl L) m nof 0 ls k v q r Cs f q9) ∧ (∃ (cl' : Int) (fr' : TD), tX h1 t cl' fr' ∧ (f = 0 → cl' = (Cs.length : Int) ∧ fr' = apKs ((0, fr.1.2), ([wp_i (-1), wp_i (-1), wp_i (-1)], fr.2.1.2), fr.2.2) 0 Cs)) ∧ (∃ ws', h1[94]? = some (1000, ws') ∧ ws'.length = 40) ∧ v9 = some (wp_i (if f = 0 then c else -1)) ∧ (∃ k v s p, h1[91]? = some (8, [.ref 92, wp_i 0, wp_i k, wp_i v, wp_i s, wp_i p])) ∧ (∃ law st wn op br ls as_, h1[93]? = some (9, [.ref 91, .ref t, wp_i 1, wp_i f, wp_i q9, wp_i law, wp_i st, .ref 94, wp_i wn, wp_i op, wp_i br, wp_i ls, wp_i as_])) ∧ h1[47]? = some (2, if f = 0 then s47.set 6 (wp_i (c + 1)) else s47) ∧ ∀ a, ¬ (t ≤ a ∧ a ≤ t + 6) → a ≠ 91 → a ≠ 93 → a ≠ 94 → a ≠ 47 → h1[a]? = h[a]?)
theorem tre_t {B : Int → Int} : ∀ {m : Nat} {on : Nat → Bool} {cl ls k v s p : Int} {Cs : List KC} {f q : Int}, tre B m on cl ls k v s p Cs f q → tr B m on cl ls k v s p f q
  | 0, _, _, _, _, _, _, _, _, _, _, h => h.elim
  | m + 1, _, _, _, _, _, _, _, _, _, _, h => by
    rcases h with ⟨h1, h2, h3, -⟩ | ⟨h1, C, f1, q1, r1, h2, h3 | ⟨h3, k2, v2, q2, r2, ls2, Cs2, h4, -, h5⟩⟩
    · exact Or.inl ⟨h1, h2, h3⟩
    · exact Or.inr ⟨h1, f1, q1, r1, kre_k h2, Or.inl h3⟩
    · exact Or.inr ⟨h1, f1, q1, r1, kre_k h2, Or.inr ⟨h3, k2, v2, q2, r2, ls2, h4, tre_t h5⟩⟩
theorem wk_tx {nn d : Nat} {h : mj_H} {g9 s47 bl ws : List Value} {fr : TD} {t t0 : Nat} {L k v s p hr f q law st wn op br ls as_ c cl : Int} (E : kE h g9 s47 bl ws fr t t0 L k v s p hr f q law st wn op br ls as_ c cl) (D : tB bl) (hL : 0 ≤ L ∧ L ≤ 300) (H8 : h[8]? = some (900, tk_V)) (HC : hC h) (hc : 0 ≤ c ∧ c ≤ 4) (ht : (t : Int) = 12 + 7 * c ∨ c = 4) (hls : 0 ≤ ls ∧ ls ≤ 6) : wl_R nn (d + 7) 19 0 [some (.ref 9)] [] h (kV h s47 bl t L c ls fr) := by
  have E0 := E
  obtain ⟨⟨e9, p0, p2, p3⟩, ⟨e47, l47, p5, p6⟩, e11, e91, e92, e93, ⟨e94, e94l⟩, X, hfl⟩ := E
  refine wl_s (pc' := 1) ji_19_0 rfl rfl rfl ?_
  refine wl_gf ji_19_1 jf_19_19 e9 p0 ?_
  refine wl_gf ji_19_4 jf_19_70 e47 p6 ?_
  refine wl_s (pc' := 8) ji_19_7 rfl rfl rfl ?_
  refine wl_icmp (t := 13) ji_19_8 rfl (x := c) (y := 4) (by omega) (by omega) (fun (c4 : ¬ c = 4) => ?_) (fun (c4 : ¬ ¬ c = 4) => ?_)
  · have ht : (t : Int) = 12 + 7 * c := by omega
    refine wl_s (pc' := 14) ji_19_13 rfl rfl rfl ?_
    refine wl_gf ji_19_14 jf_19_38 e9 p3 ?_
    refine wl_s (pc' := 18) ji_19_17 rfl rfl rfl ?_
    refine wl_gf ji_19_18 jf_19_19 e9 p0 ?_
    refine wl_gf ji_19_21 jf_19_73 e47 p5 ?_
    refine wl_s (pc' := 25) ji_19_24 rfl rfl rfl ?_
    refine wl_gf ji_19_25 jf_19_19 e9 p0 ?_
    refine wl_gf ji_19_28 jf_19_70 e47 p6 ?_
    have hv : [Value.ref 12, .ref 19, .ref 26, .ref 33, .ref 40][c.toNat]? = some (.ref t) := by
      have h4 : c = 0 ∨ c = 1 ∨ c = 2 ∨ c = 3 := by omega
      rcases h4 with e | e | e | e
      · subst e; rw [show t = 12 by omega]; rfl
      · subst e; rw [show t = 19 by omega]; rfl
      · subst e; rw [show t = 26 by omega]; rfl
      · subst e; rw [show t = 33 by omega]; rfl
    refine wl_aal (x := c) ji_19_31 e11 (by decide) hc.1 (by show c < 5; omega) (by decide) hv ?_
    refine wl_vc (d := d + 6) (as := [.ref 93, .ref t]) (rest := []) ji_19_32 jc_19_77 rfl e93 jk_20.symm (Nat.le_of_ble_eq_true rfl) rfl (by rw [jn_20]; rfl) (wk_ri (d := d) E0 D hL H8 HC (by omega) hls) (fun v1 h1 R => ?_)
    obtain ⟨k1, v1, s1, p1, tk, rfl, m, Cs, k', v', s', p', f', q', law', st', wn', op', br', ls', as', cl', ws', fr', TR, hap, V⟩ := R
    have hf := tr_f (tre_t TR)
    obtain ⟨f91, f92, f93, f94, fX, fo⟩ := V
    have g9_ : h1[9]? = some (0, g9) := (fo 9 (by omega) (by decide) (by decide) (by decide)).trans e9
    have g47_ : h1[47]? = some (2, s47) := (fo 47 (by omega) (by decide) (by decide) (by decide)).trans e47
    refine wl_s (pc' := 36) ji_19_35 rfl rfl rfl ?_
    refine wl_gf ji_19_36 jf_19_29 g9_ p2 ?_
    refine wl_s (pc' := 40) ji_19_39 rfl rfl rfl ?_
    refine wl_pf2 ji_19_40 jf_19_62 f91 (by decide) (Nat.le_of_ble_eq_true rfl) rfl rfl (fun h2 g2 k2 => ?_)
    refine wl_s (pc' := 44) ji_19_43 rfl rfl rfl ?_
    refine wl_gf ji_19_44 jf_19_38 ((k2 9 (by decide)).trans g9_) p3 ?_
    refine wl_gf ji_19_47 jf_19_81 ((k2 93 (by decide)).trans f93) rfl ?_
    refine wl_if (t := 55) ji_19_50 rfl (x := f') (by omega) (fun (c0 : f' = 0) => ?_) (fun (c0 : ¬ f' = 0) => ?_)
    · refine wl_s (pc' := 56) ji_19_55 rfl rfl rfl ?_
      refine wl_gf ji_19_56 jf_19_19 ((k2 9 (by decide)).trans g9_) p0 ?_
      refine wl_s (pc' := 60) ji_19_59 rfl rfl rfl ?_
      refine wl_gf ji_19_60 jf_19_70 ((k2 47 (by decide)).trans g47_) p6 ?_
      refine wl_s (pc' := 64) ji_19_63 rfl rfl rfl ?_
      refine wl_iadd (x := c) (y := 1) (z := c + 1) ji_19_64 rfl ?_
      refine wl_pf2 ji_19_65 jf_19_70 ((k2 47 (by decide)).trans g47_) (by decide) (by omega) rfl rfl (fun h3 g3 k3 => ?_)
      refine wl_s (pc' := 69) ji_19_68 rfl rfl rfl ?_
      refine wl_gf ji_19_69 jf_19_19 ((k3 9 (by decide)).trans ((k2 9 (by decide)).trans g9_)) p0 ?_
      refine wl_gf ji_19_72 jf_19_70 g3 (List.getElem?_set_self (by omega)) ?_
      refine wl_s (pc' := 76) ji_19_75 rfl rfl rfl ?_
      refine wl_isub (x := c + 1) (y := 1) (z := c) ji_19_76 (by omega) ?_
      refine wl_ri ji_19_77 jr_19 rfl (Or.inr ⟨c4, k1, v1, s1, p1, f', q', Cs, tk, ⟨m, TR⟩, ⟨cl', fr', tX_fr fX (fun a a1 a2 => (k3 a (by omega)).trans (k2 a (by omega))), fun z => ⟨by rw [(hap z).2]; omega, (hap z).1⟩⟩, ⟨ws', (k3 94 (by decide)).trans ((k2 94 (by decide)).trans f94.1), f94.2⟩, by rw [if_pos c0], ⟨k', v', s', p', (k3 91 (by decide)).trans g2⟩, ⟨law', st', wn', op', br', ls', as', (k3 93 (by decide)).trans ((k2 93 (by decide)).trans f93)⟩, by rw [if_pos c0]; exact g3, fun a q1 q2 q3 q4 q5 => (k3 a q5).trans ((k2 a q2).trans (fo a q1 q2 q3 q4))⟩)
    · refine wl_s (pc' := 54) ji_19_53 rfl rfl rfl ?_
      exact wl_ri ji_19_54 jr_19 rfl (Or.inr ⟨c4, k1, v1, s1, p1, f', q', Cs, tk, ⟨m, TR⟩, ⟨cl', fr', tX_fr fX (fun a a1 a2 => k2 a (by omega)), fun z => absurd z c0⟩, ⟨ws', (k2 94 (by decide)).trans f94.1, f94.2⟩, by rw [if_neg c0], ⟨k', v', s', p', g2⟩, ⟨law', st', wn', op', br', ls', as', (k2 93 (by decide)).trans f93⟩, by rw [if_neg c0]; exact (k2 47 (by decide)).trans g47_, fun a q1 q2 q3 q4 q5 => (k2 a q2).trans (fo a q1 q2 q3 q4)⟩)
  · refine wl_s (pc' := 12) ji_19_11 rfl rfl rfl ?_
    exact wl_ri ji_19_12 jr_19 rfl (Or.inl ⟨by omega, rfl, rfl⟩)

