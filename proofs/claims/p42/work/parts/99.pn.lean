/-! -/
set_option maxRecDepth 100000 in
theorem jn_20 : mj_nl 20 = 3 := by decide +kernel
set_option maxRecDepth 100000 in
theorem jk_20 : mj_cls 20 = 9 := by decide +kernel
set_option maxRecDepth 100000 in
theorem jn_21 : mj_nl 21 = 2 := by decide +kernel
set_option maxRecDepth 100000 in
theorem jk_21 : mj_cls 21 = 1 := by decide +kernel
set_option maxRecDepth 100000 in
theorem jn_22 : mj_nl 22 = 1 := by decide +kernel
set_option maxRecDepth 100000 in
theorem jk_22 : mj_cls 22 = 8 := by decide +kernel
set_option maxRecDepth 100000 in
theorem jn_30 : mj_nl 30 = 2 := by decide +kernel
set_option maxRecDepth 100000 in
theorem jk_30 : mj_cls 30 = 9 := by decide +kernel
set_option maxRecDepth 100000 in
theorem ji_20_92 : mj_ins 20 92 = some (.return_) := by decide +kernel
set_option maxRecDepth 100000 in
theorem jr_20 : mj_ret 20 = none := by decide +kernel
set_option maxRecDepth 100000 in
theorem ji_20_43 : mj_ins 20 43 = some (.iload_n 2) := by decide +kernel
set_option maxRecDepth 100000 in
theorem ji_20_44 : mj_ins 20 44 = some (.sipush 300) := by decide +kernel
set_option maxRecDepth 100000 in
theorem ji_20_47 : mj_ins 20 47 = some (.if_icmp .gt 45) := by decide +kernel
set_option maxRecDepth 100000 in
theorem ji_20_50 : mj_ins 20 50 = some (.aload_n 0) := by decide +kernel
set_option maxRecDepth 100000 in
theorem ji_20_51 : mj_ins 20 51 = some (.getfield 15) := by decide +kernel
set_option maxRecDepth 100000 in
theorem jf_20_15 : mj_fld 20 15 = some (9, 3, .int, true) := by decide +kernel
set_option maxRecDepth 100000 in
theorem ji_20_54 : mj_ins 20 54 = some (.ifCond .ne 38) := by decide +kernel
set_option maxRecDepth 100000 in
theorem ji_20_57 : mj_ins 20 57 = some (.aload_n 0) := by decide +kernel
set_option maxRecDepth 100000 in
theorem ji_20_58 : mj_ins 20 58 = some (.getfield 47) := by decide +kernel
set_option maxRecDepth 100000 in
theorem jf_20_47 : mj_fld 20 47 = some (9, 0, (.object "ForestOfPoles$Tape"), false) := by decide +kernel
set_option maxRecDepth 100000 in
theorem ji_20_61 : mj_ins 20 61 = some (.getfield 68) := by decide +kernel
set_option maxRecDepth 100000 in
theorem jf_20_68 : mj_fld 20 68 = some (8, 2, .int, true) := by decide +kernel
set_option maxRecDepth 100000 in
theorem ji_20_64 : mj_ins 20 64 = some (.iconst 3) := by decide +kernel
set_option maxRecDepth 100000 in
theorem ji_20_65 : mj_ins 20 65 = some (.if_icmp .eq 27) := by decide +kernel
set_option maxRecDepth 100000 in
theorem ji_20_68 : mj_ins 20 68 = some (.aload_n 0) := by decide +kernel
set_option maxRecDepth 100000 in
theorem ji_20_69 : mj_ins 20 69 = some (.invokevirtual 71) := by decide +kernel
set_option maxRecDepth 100000 in
theorem jc_20_71 : mj_cal 20 71 = some (2, 30, 0) := by decide +kernel
set_option maxRecDepth 100000 in
theorem ji_20_72 : mj_ins 20 72 = some (.aload_n 0) := by decide +kernel
set_option maxRecDepth 100000 in
theorem ji_20_73 : mj_ins 20 73 = some (.getfield 15) := by decide +kernel
set_option maxRecDepth 100000 in
theorem ji_20_76 : mj_ins 20 76 = some (.ifCond .ne 10) := by decide +kernel
set_option maxRecDepth 100000 in
theorem ji_20_79 : mj_ins 20 79 = some (.aload_n 0) := by decide +kernel
set_option maxRecDepth 100000 in
theorem ji_20_80 : mj_ins 20 80 = some (.getfield 47) := by decide +kernel
set_option maxRecDepth 100000 in
theorem ji_20_83 : mj_ins 20 83 = some (.invokevirtual 65) := by decide +kernel
set_option maxRecDepth 100000 in
theorem jc_20_65 : mj_cal 20 65 = some (2, 23, 0) := by decide +kernel
set_option maxRecDepth 100000 in
theorem ji_20_86 : mj_ins 20 86 = some (.iinc 2 1) := by decide +kernel
set_option maxRecDepth 100000 in
theorem ji_20_89 : mj_ins 20 89 = some (.goto (-46)) := by decide +kernel
set_option maxRecDepth 100000 in
theorem ji_21_0 : mj_ins 21 0 = some (.aload_n 0) := by decide +kernel
set_option maxRecDepth 100000 in
theorem ji_21_1 : mj_ins 21 1 = some (.iconst 0) := by decide +kernel
set_option maxRecDepth 100000 in
theorem ji_21_2 : mj_ins 21 2 = some (.putfield 17) := by decide +kernel
set_option maxRecDepth 100000 in
theorem jf_21_17 : mj_fld 21 17 = some (1, 1, .int, true) := by decide +kernel
set_option maxRecDepth 100000 in
theorem ji_21_5 : mj_ins 21 5 = some (.aload_n 0) := by decide +kernel
set_option maxRecDepth 100000 in
theorem ji_21_6 : mj_ins 21 6 = some (.iconst 0) := by decide +kernel
set_option maxRecDepth 100000 in
theorem ji_21_7 : mj_ins 21 7 = some (.putfield 36) := by decide +kernel
set_option maxRecDepth 100000 in
theorem jf_21_36 : mj_fld 21 36 = some (1, 7, .int, true) := by decide +kernel
set_option maxRecDepth 100000 in
theorem ji_21_10 : mj_ins 21 10 = some (.iconst 0) := by decide +kernel
set_option maxRecDepth 100000 in
theorem ji_21_11 : mj_ins 21 11 = some (.istore_n 1) := by decide +kernel
set_option maxRecDepth 100000 in
theorem ji_21_12 : mj_ins 21 12 = some (.iload_n 1) := by decide +kernel
set_option maxRecDepth 100000 in
theorem ji_21_13 : mj_ins 21 13 = some (.iconst 3) := by decide +kernel
set_option maxRecDepth 100000 in
theorem ji_21_14 : mj_ins 21 14 = some (.if_icmp .ge 16) := by decide +kernel
set_option maxRecDepth 100000 in
theorem ji_21_17 : mj_ins 21 17 = some (.aload_n 0) := by decide +kernel
set_option maxRecDepth 100000 in
theorem ji_21_18 : mj_ins 21 18 = some (.getfield 21) := by decide +kernel
set_option maxRecDepth 100000 in
theorem jf_21_21 : mj_fld 21 21 = some (1, 2, (.array .int), false) := by decide +kernel
set_option maxRecDepth 100000 in
theorem ji_21_21 : mj_ins 21 21 = some (.iload_n 1) := by decide +kernel
set_option maxRecDepth 100000 in
theorem ji_21_22 : mj_ins 21 22 = some (.iconst (-1)) := by decide +kernel
set_option maxRecDepth 100000 in
theorem ji_21_23 : mj_ins 21 23 = some (.iastore) := by decide +kernel
set_option maxRecDepth 100000 in
theorem ji_21_24 : mj_ins 21 24 = some (.iinc 1 1) := by decide +kernel
set_option maxRecDepth 100000 in
theorem ji_21_27 : mj_ins 21 27 = some (.goto (-15)) := by decide +kernel
set_option maxRecDepth 100000 in
theorem ji_21_30 : mj_ins 21 30 = some (.return_) := by decide +kernel
set_option maxRecDepth 100000 in
theorem jr_21 : mj_ret 21 = none := by decide +kernel
/-! a text, by the class; laid by program (wp_cread8.py) -/
theorem lr_f {B : Int → Int} {law : Int} : ∀ {m : Nat} {p st : Int} {w : List Int} {ls as_ f q r : Int}, lr B law m p st w ls as_ f q r → 0 ≤ f ∧ f ≤ 7
  | 0, _, _, _, _, _, _, _, _, h => by cases h
  | m + 1, p, st, w, ls, as_, f, q, r, h => by
    obtain ⟨k, v, q1, r1, tk, h⟩ := h
    cases hc : cstep law k v st w ls as_ with
    | inl n =>
      rw [hc] at h
      have := cstep_f hc
      have h1 := h.1
      omega
    | inr x =>
      obtain ⟨st2, w2, l2, a2⟩ := x
      rw [hc] at h
      rcases h with h | h
      · have := h.2.1
        omega
      · exact lr_f h.2
theorem xr_f {B : Int → Int} : ∀ {l : List (Int × Int × Int)} {p q0 f q r : Int}, xr B l p q0 f q r → 0 ≤ f ∧ f ≤ 7
  | [], _, _, _, _, _, h => by have := h.1; omega
  | (c, a, b) :: l, p, q0, f, q, r, h => by
    obtain ⟨k, v, q1, r1, tk, h⟩ := h
    rcases h with h | h
    · have := xe_r (c := c) (a := a) (b := b) (k := k) (v := v)
      have := h.2.1
      omega
    · exact xr_f h.2
/-- from a clause's first token on: the fault (0: none) and its place (-1: none) -/
def tr (B : Int → Int) : Nat → (Nat → Bool) → Int → Int → Int → Int → Int → Int → Int → Int → Prop
  | 0, _, _, _, _, _, _, _, _, _ => False
  | m + 1, on, cl, ls, k, v, s, p, f, q => (k = 3 ∧ f = 0 ∧ q = -1) ∨ (¬ k = 3 ∧ ∃ f1 q1 r1, clr B on cl ls k v s p f1 q1 r1 ∧ ((¬ f1 = 0 ∧ f = f1 ∧ q = q1) ∨ (f1 = 0 ∧ ∃ k2 v2 q2 r2 ls2, tok B r1 k2 v2 q2 r2 ∧ tr B m (if wdo k v < 3 then on1 on (wdo k v) else on) (cl + 1) ls2 k2 v2 q2 r2 f q)))
def rQ (h0 : mj_H) (bl : List Value) (t : Nat) (L : Int) (on : Nat → Bool) (cl ls k v s p : Int) : Option Value → mj_H → Prop := fun w h1 => w = none ∧ ∃ (m : Nat) (k' v' s' p' f' q' law' st' wn' op' br' ls' as' cl' : Int) (ws' fr' : List Value), tr (bt bl L) m on cl ls k v s p f' q' ∧ cL h0 h1 bl t L k' v' s' p' f' q' law' st' wn' op' br' ls' as' cl' ws' fr'
theorem wc_tl {d : Nat} {h0 : mj_H} {bl : List Value} {t : Nat} {L : Int} (D : tB bl) (hL : 0 ≤ L ∧ L ≤ 300) (H8 : h0[8]? = some (900, tk_V)) (ht : 12 ≤ t ∧ t ≤ 33) (HC : hC h0) : ∀ (n : Nat) (h : mj_H) (on : Nat → Bool) (i k v s p law st wn op br ls as_ cl : Int) (ws fr : List Value), cL h0 h bl t L k v s p 0 (-1) law st wn op br ls as_ cl ws fr → onr fr on → (0 ≤ cl ∧ cl ≤ 24) → (0 ≤ ls ∧ ls ≤ 6) → (wp_r k ∧ wp_r v ∧ (k = 0 → -1 ≤ v ∧ v ≤ 30)) → ((0 ≤ s ∧ s ≤ p) ∧ p ≤ L) → (0 ≤ i ∧ i ≤ 400 ∧ (k = 3 ∨ i + 1 ≤ p)) → wl_R n (d + 6) 20 43 [some (.ref 93), some (.ref t), some (wp_i i)] [] h (rQ h0 bl t L on cl ls k v s p) := by
  intro n
  induction n with
  | zero => intro h on i k v s p law st wn op br ls as_ cl ws fr V R0 hcl hls hkv hp hi; exact wl_0
  | succ n ih =>
    intro h on i k v s p law st wn op br ls as_ cl ws fr V R0 hcl hls hkv hp hi
    have done : k = 3 → wl_R n (d + 6) 20 92 [some (.ref 93), some (.ref t), some (wp_i i)] [] h (rQ h0 bl t L on cl ls k v s p) := fun e => wl_rv ji_20_92 jr_20 ⟨rfl, 1, k, v, s, p, 0, -1, law, st, wn, op, br, ls, as_, cl, ws, fr, Or.inl ⟨e, rfl, rfl⟩, V⟩
    refine wl_s1 (pc' := 44) ji_20_43 rfl rfl rfl ?_
    refine wl_sp ji_20_44 rfl ?_
    refine wl_icmp (t := 92) ji_20_47 rfl (by omega) (by omega) (fun (c : (300 : Int) < i) => done (by omega)) (fun _ => ?_)
    refine wl_s (pc' := 51) ji_20_50 rfl rfl rfl ?_
    refine cl_g V ji_20_51 jf_20_15 rfl ?_
    refine wl_if (t := 92) ji_20_54 rfl (x := 0) (by omega) (fun (c : ¬ ((0 : Int) = 0)) => absurd rfl c) (fun _ => ?_)
    refine wl_s (pc' := 58) ji_20_57 rfl rfl rfl ?_
    refine cl_g V ji_20_58 jf_20_47 rfl ?_
    refine cl_t V ji_20_61 jf_20_68 rfl ?_
    refine wl_s (pc' := 65) ji_20_64 rfl rfl rfl ?_
    refine wl_icmp (t := 92) ji_20_65 rfl (x := k) (y := 3) hkv.1 (by omega) (fun (c : k = 3) => done c) (fun (hk3 : ¬ k = 3) => ?_)
    refine wl_s (pc' := 69) ji_20_68 rfl rfl rfl ?_
    refine wl_vc (d := d + 5) (as := [.ref 93]) (rest := []) ji_20_69 jc_20_71 rfl (cl_93 V) jk_30.symm (Nat.le_of_ble_eq_true rfl) rfl (by rw [jn_30]; rfl) (wc_rc (d := d) D hL H8 ht V (by omega) rfl HC hcl R0 hls hkv) (fun v9 h1 R => ?_)
    obtain ⟨rfl, k1, v1, q1, r1, f1, law1, st1, wn1, op1, br1, ls1, as1, cl1, ws1, fr1, hclr, hq, hl1, hok, V⟩ := R
    show wl_R n (d + 6) 20 72 [some (.ref 93), some (.ref t), some (wp_i i)] [] h1 _
    refine wl_s (pc' := 73) ji_20_72 rfl rfl rfl ?_
    refine cl_g V ji_20_73 jf_20_15 rfl ?_
    by_cases hf : f1 = 0
    · subst hf
      obtain ⟨hc1, R1⟩ := hok rfl
      have hl1 := hl1 rfl
      rw [if_pos rfl] at V
      refine wl_if (t := 86) ji_20_76 rfl (x := 0) (by omega) (fun (c : ¬ ((0 : Int) = 0)) => absurd rfl c) (fun _ => ?_)
      refine wl_s (pc' := 80) ji_20_79 rfl rfl rfl ?_
      refine cl_g V ji_20_80 jf_20_47 rfl ?_
      refine wl_vc (d := d + 5) (as := [.ref 91]) (rest := []) ji_20_83 jc_20_65 rfl V.1 jk_23.symm (Nat.le_of_ble_eq_true rfl) rfl (by rw [jn_23]; rfl) (wc_adv (d := d + 3) D hL ((V.2.2.2.2.2 8 (by omega) (by decide) (by decide) (by decide)).trans H8) (cl_T V) (by omega)) (fun v8 h2 R => ?_)
      obtain ⟨rfl, k2, v2, q2, r2, T, tk, hqr⟩ := R
      show wl_R n (d + 6) 20 86 [some (.ref 93), some (.ref t), some (wp_i i)] [] h2 _
      have V := cl_adv ht V T
      have htr := tok_r (fun j hj => bt_r D hL.2 hj) (by omega) tk
      have hta := tok_adv tk
      refine wl_iinc (x := i) (z := i + 1) (lv' := [some (.ref 93), some (.ref t), some (wp_i (i + 1))]) ji_20_86 rfl (Nat.le_of_ble_eq_true rfl) (by omega) rfl ?_
      refine wl_goto (t := 43) ji_20_89 rfl ?_
      have hcl24 : cl1 ≤ 24 := by
        rcases hclr with x | ⟨-, x | ⟨-, x | ⟨x, -⟩⟩⟩
        · omega
        · omega
        · omega
        · omega
      refine wl_mono (ih h2 _ (i + 1) k2 v2 q2 r2 law1 st1 wn1 op1 br1 ls1 as1 cl1 ws1 fr1 V R1 (by omega) hl1 ⟨by omega, by omega, htr.2.2⟩ (by omega) (by
        by_cases z : k2 = 3
        · omega
        · have := hta.2.2 z
          omega)) ?_
      rintro w9 h9 ⟨rfl, m, k', v', s', p', f', q', law', st', wn', op', br', ls', as', cl', ws', fr', htrn, V9⟩
      rw [hc1] at htrn
      exact ⟨rfl, m + 1, k', v', s', p', f', q', law', st', wn', op', br', ls', as', cl', ws', fr', Or.inr ⟨hk3, 0, q1, r1, hclr, Or.inr ⟨rfl, k2, v2, q2, r2, ls1, tk, htrn⟩⟩, V9⟩
    · rw [if_neg hf] at V
      have hfr : wp_r f1 ∧ 0 < f1 := by
        rcases hclr with x | ⟨-, x | ⟨-, x | ⟨-, ⟨-, m, x⟩ | ⟨-, x⟩⟩⟩⟩
        · omega
        · omega
        · omega
        · have := lr_f x
          omega
        · have := xr_f x
          omega
      refine wl_if (t := 86) ji_20_76 rfl (x := f1) hfr.1 (fun _ => ?_) (fun (c : ¬ ¬ f1 = 0) => absurd hf c)
      refine wl_iinc (x := i) (z := i + 1) (lv' := [some (.ref 93), some (.ref t), some (wp_i (i + 1))]) ji_20_86 rfl (Nat.le_of_ble_eq_true rfl) (by omega) rfl ?_
      refine wl_goto (t := 43) ji_20_89 rfl ?_
      refine wl_s (pc' := 44) ji_20_43 rfl rfl rfl ?_
      refine wl_sp ji_20_44 rfl ?_
      have fin : wl_R n (d + 6) 20 92 [some (.ref 93), some (.ref t), some (wp_i (i + 1))] [] h1 (rQ h0 bl t L on cl ls k v s p) := wl_rv ji_20_92 jr_20 ⟨rfl, 1, k1, v1, q1, r1, f1, q1, law1, st1, wn1, op1, br1, ls1, as1, cl1, ws1, fr1, Or.inr ⟨hk3, f1, q1, r1, hclr, Or.inl ⟨hf, rfl, rfl⟩⟩, V⟩
      refine wl_icmp (t := 92) ji_20_47 rfl (x := i + 1) (y := 300) (by omega) (by omega) (fun _ => fin) (fun _ => ?_)
      refine wl_s (pc' := 51) ji_20_50 rfl rfl rfl ?_
      refine cl_g V ji_20_51 jf_20_15 rfl ?_
      exact wl_if (t := 92) ji_20_54 rfl (x := f1) hfr.1 (fun _ => fin) (fun (c : ¬ ¬ f1 = 0) => absurd hf c)
theorem wc_em {nn d : Nat} {h : mj_H} {t : Nat} {cl : Int} {fr : List Value} (ht : 12 ≤ t ∧ t ≤ 33) (X : tx h t cl fr) (hfl : fr.length = 3) : wl_R nn d 21 0 [some (.ref t), none] [] h (fun w h1 => w = none ∧ tx h1 t 0 [wp_i (-1), wp_i (-1), wp_i (-1)] ∧ ∀ a, ¬ (t ≤ a ∧ a ≤ t + 6) → h1[a]? = h[a]?) := by
  obtain ⟨sz, c1, c3, c4, c5, c6, x0, x, x1, x2, x3, x4, x5, x6⟩ := X
  refine wl_s (pc' := 1) ji_21_0 rfl rfl rfl ?_
  refine wl_s (pc' := 2) ji_21_1 rfl rfl rfl ?_
  refine wl_pf ji_21_2 jf_21_17 x0 (Nat.le_trans (by decide) ht.1) (Nat.le_of_ble_eq_true rfl) rfl rfl ?_
  refine wl_s (pc' := 6) ji_21_5 rfl rfl rfl ?_
  refine wl_s (pc' := 7) ji_21_6 rfl rfl rfl ?_
  refine wl_pf ji_21_7 jf_21_36 (List.getElem?_set_self (fd_lt x0)) (Nat.le_trans (by decide) ht.1) (Nat.le_of_ble_eq_true rfl) rfl rfl ?_
  rw [List.set_set]
  obtain ⟨g, hg⟩ : ∃ g, h.set t (1, [Value.ref (t + 1), wp_i 0, Value.ref (t + 2), Value.ref (t + 3), Value.ref (t + 4), Value.ref (t + 5), Value.ref (t + 6), wp_i 0, Value.ref 10]) = g := ⟨_, rfl⟩
  show wl_R nn d 21 10 [some (.ref t), none] [] (h.set t (1, [Value.ref (t + 1), wp_i 0, Value.ref (t + 2), Value.ref (t + 3), Value.ref (t + 4), Value.ref (t + 5), Value.ref (t + 6), wp_i 0, Value.ref 10])) _
  rw [hg]
  have y0 : g[t]? = some (1, [Value.ref (t + 1), wp_i 0, Value.ref (t + 2), Value.ref (t + 3), Value.ref (t + 4), Value.ref (t + 5), Value.ref (t + 6), wp_i 0, Value.ref 10]) := by rw [← hg]; exact List.getElem?_set_self (fd_lt x0)
  have yf : ∀ a, a ≠ t → g[a]? = h[a]? := fun a ha => by rw [← hg]; exact List.getElem?_set_ne (Ne.symm ha)
  have y2 : g[t + 2]? = some (1000, fr) := (yf _ (by omega)).trans x2
  refine wl_s (pc' := 11) ji_21_10 rfl rfl rfl ?_
  refine wl_s (pc' := 12) (lv' := [some (.ref t), some (wp_i 0)]) ji_21_11 rfl rfl rfl ?_
  refine wl_s (pc' := 13) ji_21_12 rfl rfl rfl ?_
  refine wl_s (pc' := 14) ji_21_13 rfl rfl rfl ?_
  refine wl_icmp (t := 30) ji_21_14 rfl (x := 0) (y := 3) (by omega) (by omega) (fun (c : (3 : Int) ≤ 0) => (by exfalso; omega)) (fun _ => ?_)
  refine wl_s (pc' := 18) ji_21_17 rfl rfl rfl ?_
  refine wl_gf ji_21_18 jf_21_21 y0 rfl ?_
  refine wl_s (pc' := 22) ji_21_21 rfl rfl rfl ?_
  refine wl_s (pc' := 23) ji_21_22 rfl rfl rfl ?_
  refine wl_ias (x := 0) (y := -1) ji_21_23 y2 (Nat.le_trans (by decide) (Nat.le_trans ht.1 (Nat.le_add_right t 2))) (by omega) (by rw [hfl]; decide) (by rw [hfl]; decide) ?_
  refine wl_iinc (x := 0) (z := 1) (lv' := [some (.ref t), some (wp_i 1)]) ji_21_24 rfl (Nat.le_of_ble_eq_true rfl) (by omega) rfl ?_
  refine wl_goto (t := 12) ji_21_27 rfl ?_
  refine wl_s (pc' := 13) ji_21_12 rfl rfl rfl ?_
  refine wl_s (pc' := 14) ji_21_13 rfl rfl rfl ?_
  refine wl_icmp (t := 30) ji_21_14 rfl (x := 1) (y := 3) (by omega) (by omega) (fun (c : (3 : Int) ≤ 1) => (by exfalso; omega)) (fun _ => ?_)
  refine wl_s (pc' := 18) ji_21_17 rfl rfl rfl ?_
  refine wl_gf ji_21_18 jf_21_21 (by rw [List.getElem?_set_ne (by omega)]; exact y0) rfl ?_
  refine wl_s (pc' := 22) ji_21_21 rfl rfl rfl ?_
  refine wl_s (pc' := 23) ji_21_22 rfl rfl rfl ?_
  refine wl_ias (x := 1) (y := -1) ji_21_23 (List.getElem?_set_self (fd_lt y2)) (Nat.le_trans (by decide) (Nat.le_trans ht.1 (Nat.le_add_right t 2))) (by omega) (by rw [List.length_set, hfl]; decide) (by rw [List.length_set, hfl]; decide) ?_
  rw [List.set_set]
  refine wl_iinc (x := 1) (z := 2) (lv' := [some (.ref t), some (wp_i 2)]) ji_21_24 rfl (Nat.le_of_ble_eq_true rfl) (by omega) rfl ?_
  refine wl_goto (t := 12) ji_21_27 rfl ?_
  refine wl_s (pc' := 13) ji_21_12 rfl rfl rfl ?_
  refine wl_s (pc' := 14) ji_21_13 rfl rfl rfl ?_
  refine wl_icmp (t := 30) ji_21_14 rfl (x := 2) (y := 3) (by omega) (by omega) (fun (c : (3 : Int) ≤ 2) => (by exfalso; omega)) (fun _ => ?_)
  refine wl_s (pc' := 18) ji_21_17 rfl rfl rfl ?_
  refine wl_gf ji_21_18 jf_21_21 (by rw [List.getElem?_set_ne (by omega)]; exact y0) rfl ?_
  refine wl_s (pc' := 22) ji_21_21 rfl rfl rfl ?_
  refine wl_s (pc' := 23) ji_21_22 rfl rfl rfl ?_
  refine wl_ias (x := 2) (y := -1) ji_21_23 (List.getElem?_set_self (fd_lt y2)) (Nat.le_trans (by decide) (Nat.le_trans ht.1 (Nat.le_add_right t 2))) (by omega) (by rw [List.length_set, List.length_set, hfl]; decide) (by rw [List.length_set, List.length_set, hfl]; decide) ?_
  rw [List.set_set]
  refine wl_iinc (x := 2) (z := 3) (lv' := [some (.ref t), some (wp_i 3)]) ji_21_24 rfl (Nat.le_of_ble_eq_true rfl) (by omega) rfl ?_
  refine wl_goto (t := 12) ji_21_27 rfl ?_
  refine wl_s (pc' := 13) ji_21_12 rfl rfl rfl ?_
  refine wl_s (pc' := 14) ji_21_13 rfl rfl rfl ?_
  refine wl_icmp (t := 30) ji_21_14 rfl (x := 3) (y := 3) (by omega) (by omega) (fun _ => ?_) (fun (c : ¬ ((3 : Int) ≤ 3)) => (by exfalso; omega))
  have efr : ((fr.set (0 : Int).toNat (wp_i (-1))).set (1 : Int).toNat (wp_i (-1))).set (2 : Int).toNat (wp_i (-1)) = [wp_i (-1), wp_i (-1), wp_i (-1)] := by
    match fr, hfl with
    | [a, b, c], _ => rfl
  refine wl_rv ji_21_30 jr_21 ⟨rfl, ?_, fun a ha => ?_⟩
  · rw [efr]
    exact ⟨0, c1, c3, c4, c5, c6, by rw [List.getElem?_set_ne (by omega)]; exact y0, by omega, by rw [List.getElem?_set_ne (by omega)]; exact (yf _ (by omega)).trans x1, List.getElem?_set_self (fd_lt y2), by rw [List.getElem?_set_ne (by omega)]; exact (yf _ (by omega)).trans x3, by rw [List.getElem?_set_ne (by omega)]; exact (yf _ (by omega)).trans x4, by rw [List.getElem?_set_ne (by omega)]; exact (yf _ (by omega)).trans x5, by rw [List.getElem?_set_ne (by omega)]; exact (yf _ (by omega)).trans x6⟩
  · rw [List.getElem?_set_ne (by omega)]
    exact yf a (by omega)
