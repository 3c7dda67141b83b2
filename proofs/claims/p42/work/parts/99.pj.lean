/-! -/
set_option maxRecDepth 100000 in
theorem jn_23 : mj_nl 23 = 1 := by decide +kernel
set_option maxRecDepth 100000 in
theorem jk_23 : mj_cls 23 = 8 := by decide +kernel
set_option maxRecDepth 100000 in
theorem jn_32 : mj_nl 32 = 2 := by decide +kernel
set_option maxRecDepth 100000 in
theorem jk_32 : mj_cls 32 = 1 := by decide +kernel
set_option maxRecDepth 100000 in
theorem jn_34 : mj_nl 34 = 2 := by decide +kernel
set_option maxRecDepth 100000 in
theorem jk_34 : mj_cls 34 = 1 := by decide +kernel
set_option maxRecDepth 100000 in
theorem jn_35 : mj_nl 35 = 1 := by decide +kernel
set_option maxRecDepth 100000 in
theorem jk_35 : mj_cls 35 = 9 := by decide +kernel
set_option maxRecDepth 100000 in
theorem jn_40 : mj_nl 40 = 1 := by decide +kernel
set_option maxRecDepth 100000 in
theorem jk_40 : mj_cls 40 = 9 := by decide +kernel
set_option maxRecDepth 100000 in
theorem jn_41 : mj_nl 41 = 4 := by decide +kernel
set_option maxRecDepth 100000 in
theorem jk_41 : mj_cls 41 = 9 := by decide +kernel
set_option maxRecDepth 100000 in
theorem jn_49 : mj_nl 49 = 2 := by decide +kernel
set_option maxRecDepth 100000 in
theorem jk_49 : mj_cls 49 = 1 := by decide +kernel
set_option maxRecDepth 100000 in
theorem jn_50 : mj_nl 50 = 4 := by decide +kernel
set_option maxRecDepth 100000 in
theorem jk_50 : mj_cls 50 = 1 := by decide +kernel
set_option maxRecDepth 100000 in
theorem ji_33_55 : mj_ins 33 55 = some (.iload_n 2) := by decide +kernel
set_option maxRecDepth 100000 in
theorem ji_33_56 : mj_ins 33 56 = some (.sipush 300) := by decide +kernel
set_option maxRecDepth 100000 in
theorem ji_33_59 : mj_ins 33 59 = some (.if_icmp .gt 72) := by decide +kernel
set_option maxRecDepth 100000 in
theorem ji_33_62 : mj_ins 33 62 = some (.aload_n 0) := by decide +kernel
set_option maxRecDepth 100000 in
theorem ji_33_63 : mj_ins 33 63 = some (.getfield 15) := by decide +kernel
set_option maxRecDepth 100000 in
theorem jf_33_15 : mj_fld 33 15 = some (9, 3, .int, true) := by decide +kernel
set_option maxRecDepth 100000 in
theorem ji_33_66 : mj_ins 33 66 = some (.ifCond .ne 65) := by decide +kernel
set_option maxRecDepth 100000 in
theorem ji_33_69 : mj_ins 33 69 = some (.aload_n 0) := by decide +kernel
set_option maxRecDepth 100000 in
theorem ji_33_70 : mj_ins 33 70 = some (.getfield 25) := by decide +kernel
set_option maxRecDepth 100000 in
theorem jf_33_25 : mj_fld 33 25 = some (9, 6, .int, true) := by decide +kernel
set_option maxRecDepth 100000 in
theorem ji_33_73 : mj_ins 33 73 = some (.iconst 5) := by decide +kernel
set_option maxRecDepth 100000 in
theorem ji_33_74 : mj_ins 33 74 = some (.if_icmp .eq 57) := by decide +kernel
set_option maxRecDepth 100000 in
theorem ji_33_77 : mj_ins 33 77 = some (.aload_n 0) := by decide +kernel
set_option maxRecDepth 100000 in
theorem ji_33_78 : mj_ins 33 78 = some (.getfield 47) := by decide +kernel
set_option maxRecDepth 100000 in
theorem jf_33_47 : mj_fld 33 47 = some (9, 0, (.object "ForestOfPoles$Tape"), false) := by decide +kernel
set_option maxRecDepth 100000 in
theorem ji_33_81 : mj_ins 33 81 = some (.invokevirtual 65) := by decide +kernel
set_option maxRecDepth 100000 in
theorem jc_33_65 : mj_cal 33 65 = some (2, 23, 0) := by decide +kernel
set_option maxRecDepth 100000 in
theorem ji_33_125 : mj_ins 33 125 = some (.iinc 2 1) := by decide +kernel
set_option maxRecDepth 100000 in
theorem ji_33_128 : mj_ins 33 128 = some (.goto (-73)) := by decide +kernel
set_option maxRecDepth 100000 in
theorem ji_33_84 : mj_ins 33 84 = some (.aload_n 0) := by decide +kernel
set_option maxRecDepth 100000 in
theorem ji_33_85 : mj_ins 33 85 = some (.getfield 25) := by decide +kernel
set_option maxRecDepth 100000 in
theorem ji_33_99 : mj_ins 33 99 = some (.aload_n 0) := by decide +kernel
set_option maxRecDepth 100000 in
theorem ji_33_100 : mj_ins 33 100 = some (.invokevirtual 127) := by decide +kernel
set_option maxRecDepth 100000 in
theorem jc_33_127 : mj_cal 33 127 = some (2, 35, 0) := by decide +kernel
set_option maxRecDepth 100000 in
theorem ji_33_103 : mj_ins 33 103 = some (.goto 22) := by decide +kernel
set_option maxRecDepth 100000 in
theorem ji_33_88 : mj_ins 33 88 = some (.ifCond .eq 11) := by decide +kernel
set_option maxRecDepth 100000 in
theorem ji_33_91 : mj_ins 33 91 = some (.aload_n 0) := by decide +kernel
set_option maxRecDepth 100000 in
theorem ji_33_92 : mj_ins 33 92 = some (.getfield 25) := by decide +kernel
set_option maxRecDepth 100000 in
theorem ji_33_95 : mj_ins 33 95 = some (.iconst 1) := by decide +kernel
set_option maxRecDepth 100000 in
theorem ji_33_96 : mj_ins 33 96 = some (.if_icmp .ne 10) := by decide +kernel
set_option maxRecDepth 100000 in
theorem ji_33_106 : mj_ins 33 106 = some (.aload_n 0) := by decide +kernel
set_option maxRecDepth 100000 in
theorem ji_33_107 : mj_ins 33 107 = some (.getfield 25) := by decide +kernel
set_option maxRecDepth 100000 in
theorem ji_33_110 : mj_ins 33 110 = some (.iconst 3) := by decide +kernel
set_option maxRecDepth 100000 in
theorem ji_33_111 : mj_ins 33 111 = some (.if_icmp .ne 10) := by decide +kernel
set_option maxRecDepth 100000 in
theorem ji_33_121 : mj_ins 33 121 = some (.aload_n 0) := by decide +kernel
set_option maxRecDepth 100000 in
theorem ji_33_122 : mj_ins 33 122 = some (.invokevirtual 133) := by decide +kernel
set_option maxRecDepth 100000 in
theorem jc_33_133 : mj_cal 33 133 = some (2, 41, 0) := by decide +kernel
set_option maxRecDepth 100000 in
theorem ji_33_114 : mj_ins 33 114 = some (.aload_n 0) := by decide +kernel
set_option maxRecDepth 100000 in
theorem ji_33_115 : mj_ins 33 115 = some (.invokevirtual 130) := by decide +kernel
set_option maxRecDepth 100000 in
theorem jc_33_130 : mj_cal 33 130 = some (2, 40, 0) := by decide +kernel
set_option maxRecDepth 100000 in
theorem ji_33_118 : mj_ins 33 118 = some (.goto 7) := by decide +kernel
/-! a law as a whole, by tokens; laid by program (wp_cread4.py) -/
theorem tok_u {B : Int → Int} {p k v q r k' v' q' r' : Int} (a : tok B p k v q r) (b : tok B p k' v' q' r') : k = k' ∧ v = v' ∧ q = q' ∧ r = r' := by
  obtain ⟨a1, a2⟩ := a
  obtain ⟨b1, b2⟩ := b
  have hq := wh_u a1 b1
  subst hq
  have n1 : ∀ x : Int, x = -1 → ¬ tk_l x := fun x e h => by unfold tk_l at h; omega
  have n2 : ∀ x : Int, x = -1 → ¬ tk_d x := fun x e h => by unfold tk_d at h; omega
  have n3 : ∀ x : Int, tk_l x → ¬ tk_d x := fun x e h => by unfold tk_l at e; unfold tk_d at h; omega
  rcases a2 with ⟨x0, x1, x2, x3⟩ | ⟨x0, x1, x2, x3⟩ | ⟨x0, x1, x2, x3⟩ | ⟨x0, x1, x2, x3, x4, x5⟩ <;> rcases b2 with ⟨y0, y1, y2, y3⟩ | ⟨y0, y1, y2, y3⟩ | ⟨y0, y1, y2, y3⟩ | ⟨y0, y1, y2, y3, y4, y5⟩
  · exact ⟨x1.trans y1.symm, x2.trans y2.symm, rfl, x3.trans y3.symm⟩
  · exact absurd y0 (n1 _ x0)
  · exact absurd y0 (n2 _ x0)
  · exact absurd x0 y0
  · exact absurd x0 (n1 _ y0)
  · have hr := wh_u x2 y2
    subst hr
    exact ⟨x1.trans y1.symm, x3.trans y3.symm, rfl, rfl⟩
  · exact absurd y0 (n3 _ x0)
  · exact absurd x0 y1
  · exact absurd x0 (n2 _ y0)
  · exact absurd x0 (n3 _ y0)
  · have hr := wh_u x2 y2
    subst hr
    exact ⟨x1.trans y1.symm, x3.trans y3.symm, rfl, rfl⟩
  · exact absurd x0 y2
  · exact absurd y0 x0
  · exact absurd y0 x1
  · exact absurd y0 x2
  · exact ⟨x3.trans y3.symm, x4.trans y4.symm, rfl, x5.trans y5.symm⟩
theorem tk_s2 (c e : Int) : 1 ≤ (tk_s c e).2.2 ∧ ((tk_s c e).1 = 2 ∨ (tk_s c e).1 = 4) := by
  unfold tk_s
  repeat' split
  all_goals (dsimp only; omega)
theorem tok_adv {B : Int → Int} {p k v q r : Int} (h : tok B p k v q r) : p ≤ q ∧ q ≤ r ∧ (¬ k = 3 → p + 1 ≤ r) := by
  obtain ⟨a1, a2⟩ := h
  have h1 := a1.1
  rcases a2 with ⟨x0, x1, x2, x3⟩ | ⟨x0, x1, x2, x3⟩ | ⟨x0, x1, x2, x3⟩ | ⟨x0, x1, x2, x3, x4, x5⟩
  · exact ⟨h1, by omega, fun h => absurd x1 h⟩
  · have h2 := x2.1
    have h3 : ¬ r = q := fun e => x2.2.2 (by rw [e]; exact x0)
    exact ⟨h1, h2, fun _ => by omega⟩
  · have h2 := x2.1
    have h3 : ¬ r = q := fun e => x2.2.2 (by rw [e]; exact x0)
    exact ⟨h1, h2, fun _ => by omega⟩
  · have h2 := tk_s2 (B q) (B (q + 1))
    exact ⟨h1, by omega, fun _ => by omega⟩
theorem wix_r {l : List Int} : ∀ {Ks : List (List Int)} {n : Int}, 0 ≤ n → -1 ≤ wix l Ks n ∧ wix l Ks n ≤ n + (Ks.length : Int)
  | [], n, h => ⟨by show -1 ≤ -1; omega, by show -1 ≤ n + 0; omega⟩
  | K :: Ks, n, h => by
    have ih := wix_r (l := l) (Ks := Ks) (n := n + 1) (by omega)
    show -1 ≤ (if l = K then n else wix l Ks (n + 1)) ∧ (if l = K then n else wix l Ks (n + 1)) ≤ n + ((Ks.length + 1 : Nat) : Int)
    split
    · omega
    · omega
theorem tok_r {B : Int → Int} (hB : ∀ j, 0 ≤ j → -1 ≤ B j ∧ B j ≤ 255) {p k v q r : Int} (hp : 0 ≤ p) (h : tok B p k v q r) : (0 ≤ k ∧ k ≤ 4) ∧ (-1 ≤ v ∧ v ≤ 10000) ∧ (k = 0 → -1 ≤ v ∧ v ≤ 30) := by
  obtain ⟨a1, a2⟩ := h
  have h1 := a1.1
  have hl : tk_W.length = 25 := by decide +kernel
  rcases a2 with ⟨x0, x1, x2, x3⟩ | ⟨x0, x1, x2, x3⟩ | ⟨x0, x1, x2, x3⟩ | ⟨x0, x1, x2, x3, x4, x5⟩
  · omega
  · have h2 := wix_r (l := tk_ls B q r) (Ks := tk_W) (n := 0) (by decide)
    rw [← x3, hl] at h2
    omega
  · have h2 := tk_n0 (B := B) (q := q) (r - q).toNat (fun j a b => x2.2.1 j a (by omega))
    omega
  · have h2 := hB q (by omega)
    have h3 : -1 ≤ (tk_s (B q) (B (q + 1))).2.1 ∧ (tk_s (B q) (B (q + 1))).2.1 ≤ 255 := by
      unfold tk_s
      repeat' split
      all_goals (dsimp only; omega)
    have h4 := tk_s2 (B q) (B (q + 1))
    omega
/-- from p on, with so much waiting: the fault (0: none), the token's place, the place behind it -/
def lr (B : Int → Int) (law : Int) : Nat → Int → Int → List Int → Int → Int → Int → Int → Int → Prop
  | 0, _, _, _, _, _, _, _, _ => False
  | m + 1, p, st, w, ls, as_, f, q, r => ∃ k v q1 r1, tok B p k v q1 r1 ∧ match cstep law k v st w ls as_ with
    | .inl n => f = n ∧ q = q1 ∧ r = r1
    | .inr (st2, w2, l2, a2) => (st2 = 5 ∧ f = 0 ∧ q = q1 ∧ r = r1) ∨ (¬ st2 = 5 ∧ lr B law m r1 st2 w2 l2 a2 f q r)
theorem cstep_3 {law v st : Int} {w : List Int} {ls as_ : Int} : cstep law 3 v st w ls as_ = .inl 1 := by
  have hs : sh 3 v = -1 := by unfold sh; rw [if_neg (by decide), if_neg (by decide)]
  have hk : ck (-1) = 0 := by decide
  unfold cstep
  split
  · unfold c_one
    rw [if_neg (by omega), if_neg (by omega), if_neg (by omega), if_neg (by omega), if_neg (by omega)]
  · split
    · unfold c_bk
      rw [if_neg (by omega)]
    · rw [hs]
      unfold c_sg
      rw [hk, if_neg (by omega)]
      unfold c1
      rw [hk, if_neg (by omega)]
      unfold c2
      rw [if_neg (by omega)]
      unfold c3
      rw [hk, if_neg (by omega)]
      unfold c4
      rw [if_neg (by omega)]
      unfold c5
      rw [if_neg (fun x => by have := x.1; omega)]
      unfold c6
      rw [if_neg (by omega)]
theorem cop_f {c : Int} {w : List Int} {ls as_ n : Int} (e : c_op c w ls as_ = .inl n) : n = 3 := by
  unfold c_op at e
  split at e
  · cases e; rfl
  · cases e
theorem cstep_f {law k v st : Int} {w : List Int} {ls as_ n : Int} (e : cstep law k v st w ls as_ = .inl n) : 1 ≤ n ∧ n ≤ 7 := by
  unfold cstep c_one c_wd c_bk c_sg c1 c2 c3 c4 c5 c6 c_cl at e
  repeat' split at e
  all_goals first
    | (have h := cop_f e; omega)
    | (cases e <;> omega)
theorem cl_adv {h0 h h1 : mj_H} {bl ws fr : List Value} {t : Nat} {L k v s p f q law st wn op br ls as_ cl k' v' s' p' : Int} (ht : 12 ≤ t ∧ t ≤ 33) (V : cL h0 h bl t L k v s p f q law st wn op br ls as_ cl ws fr) (T : cT h h1 bl L k' v' s' p') : cL h0 h1 bl t L k' v' s' p' f q law st wn op br ls as_ cl ws fr := by
  obtain ⟨e1, e2, e3, ⟨e4, e5⟩, e6, e7⟩ := V
  obtain ⟨f1, f2, f3⟩ := T
  exact ⟨f1, f2, (f3 93 (by decide)).trans e3, ⟨(f3 94 (by decide)).trans e4, e5⟩, tx_fr e6 (fun a a1 a2 => f3 a (by omega)), fun a a1 a2 a3 a4 => (f3 a a2).trans (e7 a a1 a2 a3 a4)⟩
theorem cl_T {h0 h : mj_H} {bl ws fr : List Value} {t : Nat} {L k v s p f q law st wn op br ls as_ cl : Int} (V : cL h0 h bl t L k v s p f q law st wn op br ls as_ cl ws fr) : cT h h bl L k v s p := ⟨V.1, V.2.1, fun _ _ => rfl⟩
theorem wc_law {d : Nat} {h0 : mj_H} {bl fr : List Value} {t : Nat} {L q law cl x : Int} (D : tB bl) (hL : 0 ≤ L ∧ L ≤ 300) (H8 : h0[8]? = some (900, tk_V)) (ht : 12 ≤ t ∧ t ≤ 33) (hlaw : 0 ≤ law ∧ law ≤ 2) {Q : Option Value → mj_H → Prop} : ∀ (n : Nat) (h : mj_H) (i k v s p st : Int) (w : List Int) (ls as_ : Int), cI law st w ls as_ → cH h0 h bl t L k v s p 0 q law st w ls as_ cl fr → ¬ st = 5 → (0 ≤ i ∧ i + 1 ≤ p ∧ p ≤ L) → (∀ (h : mj_H) (i k' v' q' r' f' st' : Int) (w' : List Int) (ls' as' : Int) (m : Nat), lr (bt bl L) law m p st w ls as_ f' q' r' → (0 ≤ q' ∧ p ≤ q' ∧ q' ≤ r' ∧ r' ≤ L) → (f' = 0 → 0 ≤ ls' ∧ ls' ≤ 6) → cH h0 h bl t L k' v' q' r' f' (if f' = 0 then q else q') law st' w' ls' as' cl fr → wl_R n (d + 4) 33 131 [some (.ref 93), some (wp_i x), some (wp_i i)] [] h Q) → wl_R n (d + 4) 33 55 [some (.ref 93), some (wp_i x), some (wp_i i)] [] h Q := by
  intro n
  induction n with
  | zero => intro h i k v s p st w ls as_ I V h5 hi hQ; exact wl_0
  | succ n ih =>
    intro h i k v s p st w ls as_ I V h5 hi hQ
    have hI := I
    obtain ⟨i1, i2, i3, i4, i5, i6, i7⟩ := I
    obtain ⟨ws, e, hlen, V⟩ := V
    refine wl_s1 (pc' := 56) ji_33_55 rfl rfl rfl ?_
    refine wl_sp ji_33_56 rfl ?_
    refine wl_icmp (t := 131) ji_33_59 rfl (by omega) (by omega) (fun (c : (300 : Int) < i) => (by exfalso; omega)) (fun _ => ?_)
    refine wl_s (pc' := 63) ji_33_62 rfl rfl rfl ?_
    refine cl_g V ji_33_63 jf_33_15 rfl ?_
    refine wl_if (t := 131) ji_33_66 rfl (x := 0) (by omega) (fun (c : ¬ ((0 : Int) = 0)) => absurd rfl c) (fun _ => ?_)
    refine wl_s (pc' := 70) ji_33_69 rfl rfl rfl ?_
    refine cl_g V ji_33_70 jf_33_25 rfl ?_
    refine wl_s (pc' := 74) ji_33_73 rfl rfl rfl ?_
    refine wl_icmp (t := 131) ji_33_74 rfl (by omega) (by omega) (fun (c : st = 5) => absurd c h5) (fun _ => ?_)
    refine wl_s (pc' := 78) ji_33_77 rfl rfl rfl ?_
    refine cl_g V ji_33_78 jf_33_47 rfl ?_
    refine wl_vc (d := d + 3) (as := [.ref 91]) (rest := []) ji_33_81 jc_33_65 rfl V.1 jk_23.symm (Nat.le_of_ble_eq_true rfl) rfl (by rw [jn_23]; rfl) (wc_adv (d := d + 1) D hL ((V.2.2.2.2.2 8 (by omega) (by decide) (by decide) (by decide)).trans H8) (cl_T V) (by omega)) (fun v1 h1 R => ?_)
    obtain ⟨rfl, k1, v1, q1, r1, T, tk, hqr⟩ := R
    show wl_R n (d + 4) 33 84 [some (.ref 93), some (wp_i x), some (wp_i i)] [] h1 Q
    have V := cl_adv ht V T
    have hta := tok_adv tk
    have htr := tok_r (fun j hj => bt_r D hL.2 hj) (by omega) tk
    have h29 := shp_39 i1 i2
    have hcl := shp_cok i1
    have hkv : wp_r k1 ∧ wp_r v1 ∧ (k1 = 0 → -1 ≤ v1 ∧ v1 ≤ 30) := ⟨by omega, by omega, htr.2.2⟩
    have fin : ∀ (h2 : mj_H), cQ h0 h2 bl t L k1 v1 q1 r1 0 q law cl fr (cstep law k1 v1 st w ls as_) → wl_R n (d + 4) 33 125 [some (.ref 93), some (wp_i x), some (wp_i i)] [] h2 Q := by
      intro h2 C
      refine wl_iinc (x := i) (z := i + 1) (lv' := [some (.ref 93), some (wp_i x), some (wp_i (i + 1))]) ji_33_125 rfl (Nat.le_of_ble_eq_true rfl) (by omega) rfl ?_
      refine wl_goto (t := 55) ji_33_128 rfl ?_
      cases hc : cstep law k1 v1 st w ls as_ with
      | inl f1 =>
        rw [hc] at C
        have hf := cstep_f hc
        obtain ⟨st2, w2, ls2, as2, C⟩ := C
        have lrn : lr (bt bl L) law 1 p st w ls as_ f1 q1 r1 := ⟨k1, v1, q1, r1, tk, by rw [hc]; exact ⟨rfl, rfl, rfl⟩⟩
        have hK := hQ h2 (i + 1) k1 v1 q1 r1 f1 st2 w2 ls2 as2 1 lrn (by omega) (fun z => by omega) (by rw [if_neg (by omega)]; exact C)
        obtain ⟨ws2, e2, hlen2, C⟩ := C
        refine wl_s (pc' := 56) ji_33_55 rfl rfl rfl ?_
        refine wl_sp ji_33_56 rfl ?_
        refine wl_icmp (t := 131) ji_33_59 rfl (by omega) (by omega) (fun (c : (300 : Int) < i + 1) => (by exfalso; omega)) (fun _ => ?_)
        refine wl_s (pc' := 63) ji_33_62 rfl rfl rfl ?_
        refine cl_g C ji_33_63 jf_33_15 rfl ?_
        refine wl_if (t := 131) ji_33_66 rfl (x := f1) (by omega) (fun _ => wl_dn (Nat.le_succ n) hK) (fun (c : ¬ ¬ f1 = 0) => (by exfalso; omega))
      | inr r2 =>
        obtain ⟨st2, w2, ls2, as2⟩ := r2
        rw [hc] at C
        have C : cH h0 h2 bl t L k1 v1 q1 r1 0 q law st2 w2 ls2 as2 cl fr := C
        have I2 := cI_step hI hc
        have hk3 : ¬ k1 = 3 := fun e => by subst e; rw [cstep_3] at hc; cases hc
        by_cases h25 : st2 = 5
        · have lrn : lr (bt bl L) law 1 p st w ls as_ 0 q1 r1 := ⟨k1, v1, q1, r1, tk, by rw [hc]; exact Or.inl ⟨h25, rfl, rfl, rfl⟩⟩
          have hK := hQ h2 (i + 1) k1 v1 q1 r1 0 st2 w2 ls2 as2 1 lrn (by omega) (fun _ => I2.2.2.2.2.1) (by rw [if_pos rfl]; exact C)
          obtain ⟨ws2, e2, hlen2, C⟩ := C
          refine wl_s (pc' := 56) ji_33_55 rfl rfl rfl ?_
          refine wl_sp ji_33_56 rfl ?_
          refine wl_icmp (t := 131) ji_33_59 rfl (by omega) (by omega) (fun (c : (300 : Int) < i + 1) => (by exfalso; omega)) (fun _ => ?_)
          refine wl_s (pc' := 63) ji_33_62 rfl rfl rfl ?_
          refine cl_g C ji_33_63 jf_33_15 rfl ?_
          refine wl_if (t := 131) ji_33_66 rfl (x := 0) (by omega) (fun (c : ¬ ((0 : Int) = 0)) => absurd rfl c) (fun _ => ?_)
          refine wl_s (pc' := 70) ji_33_69 rfl rfl rfl ?_
          refine cl_g C ji_33_70 jf_33_25 rfl ?_
          refine wl_s (pc' := 74) ji_33_73 rfl rfl rfl ?_
          exact wl_icmp (t := 131) ji_33_74 rfl (x := st2) (y := 5) (by omega) (by omega) (fun _ => wl_dn (Nat.le_succ n) hK) (fun (c : ¬ st2 = 5) => absurd h25 c)
        · refine ih h2 (i + 1) k1 v1 q1 r1 st2 w2 ls2 as2 I2 C h25 (by have := hta.2.2 hk3; omega) (fun h3 i3 k3 v3 q3 r3 f3 st3 w3 ls3 as3 m lrn hq3 hl3 C3 => ?_)
          exact wl_dn (Nat.le_succ n) (hQ h3 i3 k3 v3 q3 r3 f3 st3 w3 ls3 as3 (m + 1) ⟨k1, v1, q1, r1, tk, by rw [hc]; exact Or.inr ⟨h25, lrn⟩⟩ (by omega) hl3 C3)
    refine wl_s (pc' := 85) ji_33_84 rfl rfl rfl ?_
    refine cl_g V ji_33_85 jf_33_25 rfl ?_
    have one : wl_R n (d + 4) 33 99 [some (.ref 93), some (wp_i x), some (wp_i i)] [] h1 Q ∨ ¬ (st = 0 ∨ st = 1) := by
      by_cases hs : st = 0 ∨ st = 1
      · refine Or.inl ?_
        refine wl_s (pc' := 100) ji_33_99 rfl rfl rfl ?_
        refine wl_vc (d := d + 3) (as := [.ref 93]) (rest := []) ji_33_100 jc_33_127 rfl (cl_93 V) jk_35.symm (Nat.le_of_ble_eq_true rfl) rfl (by rw [jn_35]; rfl) (wc_one (d := d) ht ⟨ws, e, hlen, V⟩ (by omega) i6 hlaw hkv) (fun v2 h2 R => ?_)
        obtain ⟨rfl, C⟩ := R
        refine wl_goto (t := 125) ji_33_103 rfl ?_
        refine fin h2 ?_
        rw [show cstep law k1 v1 st w ls as_ = c_one law k1 v1 st w ls as_ from if_pos hs]
        exact C
      · exact Or.inr hs
    refine wl_if (t := 99) ji_33_88 rfl (x := st) (by omega) (fun (c : st = 0) => one.elim id (fun z => absurd (Or.inl c) z)) (fun (c : ¬ st = 0) => ?_)
    refine wl_s (pc' := 92) ji_33_91 rfl rfl rfl ?_
    refine cl_g V ji_33_92 jf_33_25 rfl ?_
    refine wl_s (pc' := 96) ji_33_95 rfl rfl rfl ?_
    refine wl_icmp (t := 106) ji_33_96 rfl (x := st) (y := 1) (by omega) (by omega) (fun (c2 : ¬ st = 1) => ?_) (fun (c2 : ¬ ¬ st = 1) => one.elim id (fun z => absurd (Or.inr (by omega)) z))
    refine wl_s (pc' := 107) ji_33_106 rfl rfl rfl ?_
    refine cl_g V ji_33_107 jf_33_25 rfl ?_
    refine wl_s (pc' := 111) ji_33_110 rfl rfl rfl ?_
    refine wl_icmp (t := 121) ji_33_111 rfl (x := st) (y := 3) (by omega) (by omega) (fun (c3 : ¬ st = 3) => ?_) (fun (c3 : ¬ ¬ st = 3) => ?_)
    · refine wl_s (pc' := 122) ji_33_121 rfl rfl rfl ?_
      refine wl_vc (d := d + 3) (as := [.ref 93]) (rest := []) ji_33_122 jc_33_133 rfl (cl_93 V) jk_41.symm (Nat.le_of_ble_eq_true rfl) rfl (by rw [jn_41]; rfl) (wc_sg (d := d) ht ⟨ws, e, hlen, V⟩ (by omega) i6 hlaw hkv i3 (by omega) hcl) (fun v2 h2 R => ?_)
      obtain ⟨rfl, C⟩ := R
      refine fin h2 ?_
      rw [show cstep law k1 v1 st w ls as_ = c_sg law (sh k1 v1) st w ls as_ from (if_neg (by omega)).trans (if_neg c3)]
      exact C
    · refine wl_s (pc' := 115) ji_33_114 rfl rfl rfl ?_
      refine wl_vc (d := d + 3) (as := [.ref 93]) (rest := []) ji_33_115 jc_33_130 rfl (cl_93 V) jk_40.symm (Nat.le_of_ble_eq_true rfl) rfl (by rw [jn_40]; rfl) (wc_bk (d := d + 1) ht ⟨ws, e, hlen, V⟩ (by omega) i6 hlaw hkv) (fun v2 h2 R => ?_)
      obtain ⟨rfl, C⟩ := R
      refine wl_goto (t := 125) ji_33_118 rfl ?_
      refine fin h2 ?_
      rw [show cstep law k1 v1 st w ls as_ = c_bk k1 v1 w as_ from (if_neg (by omega)).trans (if_pos (by omega))]
      exact C
