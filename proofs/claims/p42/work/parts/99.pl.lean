/-! -/
set_option maxRecDepth 100000 in
theorem ji_52_0 : mj_ins 52 0 = some (.aload_n 0) := by decide +kernel
set_option maxRecDepth 100000 in
theorem ji_52_1 : mj_ins 52 1 = some (.getfield 15) := by decide +kernel
set_option maxRecDepth 100000 in
theorem jf_52_15 : mj_fld 52 15 = some (9, 3, .int, true) := by decide +kernel
set_option maxRecDepth 100000 in
theorem ji_52_4 : mj_ins 52 4 = some (.ifCond .eq 5) := by decide +kernel
set_option maxRecDepth 100000 in
theorem ji_52_7 : mj_ins 52 7 = some (.iconst 0) := by decide +kernel
set_option maxRecDepth 100000 in
theorem ji_52_8 : mj_ins 52 8 = some (.ireturn) := by decide +kernel
set_option maxRecDepth 100000 in
theorem jr_52 : mj_ret 52 = some .int := by decide +kernel
set_option maxRecDepth 100000 in
theorem ji_52_9 : mj_ins 52 9 = some (.aload_n 0) := by decide +kernel
set_option maxRecDepth 100000 in
theorem ji_52_10 : mj_ins 52 10 = some (.getfield 47) := by decide +kernel
set_option maxRecDepth 100000 in
theorem jf_52_47 : mj_fld 52 47 = some (9, 0, (.object "ForestOfPoles$Tape"), false) := by decide +kernel
set_option maxRecDepth 100000 in
theorem ji_52_13 : mj_ins 52 13 = some (.invokevirtual 65) := by decide +kernel
set_option maxRecDepth 100000 in
theorem jc_52_65 : mj_cal 52 65 = some (2, 23, 0) := by decide +kernel
set_option maxRecDepth 100000 in
theorem ji_52_16 : mj_ins 52 16 = some (.aload_n 0) := by decide +kernel
set_option maxRecDepth 100000 in
theorem ji_52_17 : mj_ins 52 17 = some (.getfield 47) := by decide +kernel
set_option maxRecDepth 100000 in
theorem ji_52_20 : mj_ins 52 20 = some (.getfield 68) := by decide +kernel
set_option maxRecDepth 100000 in
theorem jf_52_68 : mj_fld 52 68 = some (8, 2, .int, true) := by decide +kernel
set_option maxRecDepth 100000 in
theorem ji_52_23 : mj_ins 52 23 = some (.iconst 1) := by decide +kernel
set_option maxRecDepth 100000 in
theorem ji_52_24 : mj_ins 52 24 = some (.if_icmp .eq 11) := by decide +kernel
set_option maxRecDepth 100000 in
theorem ji_52_35 : mj_ins 52 35 = some (.aload_n 0) := by decide +kernel
set_option maxRecDepth 100000 in
theorem ji_52_36 : mj_ins 52 36 = some (.getfield 47) := by decide +kernel
set_option maxRecDepth 100000 in
theorem ji_52_39 : mj_ins 52 39 = some (.getfield 77) := by decide +kernel
set_option maxRecDepth 100000 in
theorem jf_52_77 : mj_fld 52 77 = some (8, 3, .int, true) := by decide +kernel
set_option maxRecDepth 100000 in
theorem ji_52_42 : mj_ins 52 42 = some (.iload_n 1) := by decide +kernel
set_option maxRecDepth 100000 in
theorem ji_52_43 : mj_ins 52 43 = some (.if_icmp .lt 14) := by decide +kernel
set_option maxRecDepth 100000 in
theorem ji_52_57 : mj_ins 52 57 = some (.aload_n 0) := by decide +kernel
set_option maxRecDepth 100000 in
theorem ji_52_58 : mj_ins 52 58 = some (.iconst 2) := by decide +kernel
set_option maxRecDepth 100000 in
theorem ji_52_59 : mj_ins 52 59 = some (.invokevirtual 80) := by decide +kernel
set_option maxRecDepth 100000 in
theorem jc_52_80 : mj_cal 52 80 = some (2, 31, 1) := by decide +kernel
set_option maxRecDepth 100000 in
theorem ji_52_62 : mj_ins 52 62 = some (.aload_n 0) := by decide +kernel
set_option maxRecDepth 100000 in
theorem ji_52_63 : mj_ins 52 63 = some (.getfield 47) := by decide +kernel
set_option maxRecDepth 100000 in
theorem ji_52_66 : mj_ins 52 66 = some (.getfield 77) := by decide +kernel
set_option maxRecDepth 100000 in
theorem ji_52_69 : mj_ins 52 69 = some (.ireturn) := by decide +kernel
set_option maxRecDepth 100000 in
theorem ji_52_46 : mj_ins 52 46 = some (.aload_n 0) := by decide +kernel
set_option maxRecDepth 100000 in
theorem ji_52_47 : mj_ins 52 47 = some (.getfield 47) := by decide +kernel
set_option maxRecDepth 100000 in
theorem ji_52_50 : mj_ins 52 50 = some (.getfield 77) := by decide +kernel
set_option maxRecDepth 100000 in
theorem ji_52_53 : mj_ins 52 53 = some (.iload_n 2) := by decide +kernel
set_option maxRecDepth 100000 in
theorem ji_52_54 : mj_ins 52 54 = some (.if_icmp .le 8) := by decide +kernel
set_option maxRecDepth 100000 in
theorem ji_52_27 : mj_ins 52 27 = some (.aload_n 0) := by decide +kernel
set_option maxRecDepth 100000 in
theorem ji_52_28 : mj_ins 52 28 = some (.iconst 1) := by decide +kernel
set_option maxRecDepth 100000 in
theorem ji_52_29 : mj_ins 52 29 = some (.invokevirtual 80) := by decide +kernel
set_option maxRecDepth 100000 in
theorem ji_52_32 : mj_ins 52 32 = some (.goto 30) := by decide +kernel
set_option maxRecDepth 100000 in
theorem ji_53_0 : mj_ins 53 0 = some (.aload_n 0) := by decide +kernel
set_option maxRecDepth 100000 in
theorem ji_53_1 : mj_ins 53 1 = some (.getfield 15) := by decide +kernel
set_option maxRecDepth 100000 in
theorem jf_53_15 : mj_fld 53 15 = some (9, 3, .int, true) := by decide +kernel
set_option maxRecDepth 100000 in
theorem ji_53_4 : mj_ins 53 4 = some (.ifCond .eq 4) := by decide +kernel
set_option maxRecDepth 100000 in
theorem ji_53_7 : mj_ins 53 7 = some (.return_) := by decide +kernel
set_option maxRecDepth 100000 in
theorem jr_53 : mj_ret 53 = none := by decide +kernel
set_option maxRecDepth 100000 in
theorem ji_53_8 : mj_ins 53 8 = some (.aload_n 0) := by decide +kernel
set_option maxRecDepth 100000 in
theorem ji_53_9 : mj_ins 53 9 = some (.getfield 47) := by decide +kernel
set_option maxRecDepth 100000 in
theorem jf_53_47 : mj_fld 53 47 = some (9, 0, (.object "ForestOfPoles$Tape"), false) := by decide +kernel
set_option maxRecDepth 100000 in
theorem ji_53_12 : mj_ins 53 12 = some (.invokevirtual 65) := by decide +kernel
set_option maxRecDepth 100000 in
theorem jc_53_65 : mj_cal 53 65 = some (2, 23, 0) := by decide +kernel
set_option maxRecDepth 100000 in
theorem ji_53_15 : mj_ins 53 15 = some (.aload_n 0) := by decide +kernel
set_option maxRecDepth 100000 in
theorem ji_53_16 : mj_ins 53 16 = some (.getfield 47) := by decide +kernel
set_option maxRecDepth 100000 in
theorem ji_53_19 : mj_ins 53 19 = some (.getfield 68) := by decide +kernel
set_option maxRecDepth 100000 in
theorem jf_53_68 : mj_fld 53 68 = some (8, 2, .int, true) := by decide +kernel
set_option maxRecDepth 100000 in
theorem ji_53_22 : mj_ins 53 22 = some (.iload_n 1) := by decide +kernel
set_option maxRecDepth 100000 in
theorem ji_53_23 : mj_ins 53 23 = some (.if_icmp .ne 14) := by decide +kernel
set_option maxRecDepth 100000 in
theorem ji_53_37 : mj_ins 53 37 = some (.aload_n 0) := by decide +kernel
set_option maxRecDepth 100000 in
theorem ji_53_38 : mj_ins 53 38 = some (.iconst 1) := by decide +kernel
set_option maxRecDepth 100000 in
theorem ji_53_39 : mj_ins 53 39 = some (.invokevirtual 80) := by decide +kernel
set_option maxRecDepth 100000 in
theorem jc_53_80 : mj_cal 53 80 = some (2, 31, 1) := by decide +kernel
set_option maxRecDepth 100000 in
theorem ji_53_42 : mj_ins 53 42 = some (.return_) := by decide +kernel
set_option maxRecDepth 100000 in
theorem ji_53_26 : mj_ins 53 26 = some (.aload_n 0) := by decide +kernel
set_option maxRecDepth 100000 in
theorem ji_53_27 : mj_ins 53 27 = some (.getfield 47) := by decide +kernel
set_option maxRecDepth 100000 in
theorem ji_53_30 : mj_ins 53 30 = some (.getfield 77) := by decide +kernel
set_option maxRecDepth 100000 in
theorem jf_53_77 : mj_fld 53 77 = some (8, 3, .int, true) := by decide +kernel
set_option maxRecDepth 100000 in
theorem ji_53_33 : mj_ins 53 33 = some (.iload_n 2) := by decide +kernel
set_option maxRecDepth 100000 in
theorem ji_53_34 : mj_ins 53 34 = some (.if_icmp .eq 8) := by decide +kernel
set_option maxRecDepth 100000 in
theorem jst_51_97 : mj_stt 51 97 = some (.ref 1) := by decide +kernel
set_option maxRecDepth 100000 in
theorem jst_51_100 : mj_stt 51 100 = some (.ref 2) := by decide +kernel
set_option maxRecDepth 100000 in
theorem jst_51_107 : mj_stt 51 107 = some (.ref 3) := by decide +kernel
set_option maxRecDepth 100000 in
theorem jst_51_114 : mj_stt 51 114 = some (.ref 4) := by decide +kernel
set_option maxRecDepth 100000 in
theorem jst_51_117 : mj_stt 51 117 = some (.ref 5) := by decide +kernel
set_option maxRecDepth 100000 in
theorem ji_51_0 : mj_ins 51 0 = some (.aload_n 0) := by decide +kernel
set_option maxRecDepth 100000 in
theorem ji_51_1 : mj_ins 51 1 = some (.getstatic 97) := by decide +kernel
set_option maxRecDepth 100000 in
theorem ji_51_4 : mj_ins 51 4 = some (.iload_n 1) := by decide +kernel
set_option maxRecDepth 100000 in
theorem ji_51_5 : mj_ins 51 5 = some (.iaload) := by decide +kernel
set_option maxRecDepth 100000 in
theorem ji_51_6 : mj_ins 51 6 = some (.getstatic 100) := by decide +kernel
set_option maxRecDepth 100000 in
theorem ji_51_9 : mj_ins 51 9 = some (.iload_n 1) := by decide +kernel
set_option maxRecDepth 100000 in
theorem ji_51_10 : mj_ins 51 10 = some (.iaload) := by decide +kernel
set_option maxRecDepth 100000 in
theorem ji_51_11 : mj_ins 51 11 = some (.invokevirtual 103) := by decide +kernel
set_option maxRecDepth 100000 in
theorem jc_51_103 : mj_cal 51 103 = some (2, 52, 2) := by decide +kernel
set_option maxRecDepth 100000 in
theorem ji_51_14 : mj_ins 51 14 = some (.istore_n 2) := by decide +kernel
set_option maxRecDepth 100000 in
theorem ji_51_15 : mj_ins 51 15 = some (.iconst 0) := by decide +kernel
set_option maxRecDepth 100000 in
theorem ji_51_16 : mj_ins 51 16 = some (.istore_n 3) := by decide +kernel
set_option maxRecDepth 100000 in
theorem ji_51_17 : mj_ins 51 17 = some (.getstatic 107) := by decide +kernel
set_option maxRecDepth 100000 in
theorem ji_51_20 : mj_ins 51 20 = some (.iload_n 1) := by decide +kernel
set_option maxRecDepth 100000 in
theorem ji_51_21 : mj_ins 51 21 = some (.iaload) := by decide +kernel
set_option maxRecDepth 100000 in
theorem ji_51_22 : mj_ins 51 22 = some (.iconst (-1)) := by decide +kernel
set_option maxRecDepth 100000 in
theorem ji_51_23 : mj_ins 51 23 = some (.if_icmp .eq 28) := by decide +kernel
set_option maxRecDepth 100000 in
theorem ji_51_26 : mj_ins 51 26 = some (.aload_n 0) := by decide +kernel
set_option maxRecDepth 100000 in
theorem ji_51_27 : mj_ins 51 27 = some (.iconst 0) := by decide +kernel
set_option maxRecDepth 100000 in
theorem ji_51_28 : mj_ins 51 28 = some (.getstatic 107) := by decide +kernel
set_option maxRecDepth 100000 in
theorem ji_51_31 : mj_ins 51 31 = some (.iload_n 1) := by decide +kernel
set_option maxRecDepth 100000 in
theorem ji_51_32 : mj_ins 51 32 = some (.iaload) := by decide +kernel
set_option maxRecDepth 100000 in
theorem ji_51_33 : mj_ins 51 33 = some (.invokevirtual 110) := by decide +kernel
set_option maxRecDepth 100000 in
theorem jc_51_110 : mj_cal 51 110 = some (2, 53, 2) := by decide +kernel
set_option maxRecDepth 100000 in
theorem ji_51_36 : mj_ins 51 36 = some (.aload_n 0) := by decide +kernel
set_option maxRecDepth 100000 in
theorem ji_51_37 : mj_ins 51 37 = some (.getstatic 114) := by decide +kernel
set_option maxRecDepth 100000 in
theorem ji_51_40 : mj_ins 51 40 = some (.iload_n 1) := by decide +kernel
set_option maxRecDepth 100000 in
theorem ji_51_41 : mj_ins 51 41 = some (.iaload) := by decide +kernel
set_option maxRecDepth 100000 in
theorem ji_51_42 : mj_ins 51 42 = some (.getstatic 117) := by decide +kernel
set_option maxRecDepth 100000 in
theorem ji_51_45 : mj_ins 51 45 = some (.iload_n 1) := by decide +kernel
set_option maxRecDepth 100000 in
theorem ji_51_46 : mj_ins 51 46 = some (.iaload) := by decide +kernel
set_option maxRecDepth 100000 in
theorem ji_51_47 : mj_ins 51 47 = some (.invokevirtual 103) := by decide +kernel
set_option maxRecDepth 100000 in
theorem ji_51_50 : mj_ins 51 50 = some (.istore_n 3) := by decide +kernel
set_option maxRecDepth 100000 in
theorem ji_51_51 : mj_ins 51 51 = some (.aload_n 0) := by decide +kernel
set_option maxRecDepth 100000 in
theorem ji_51_52 : mj_ins 51 52 = some (.iconst 2) := by decide +kernel
set_option maxRecDepth 100000 in
theorem ji_51_53 : mj_ins 51 53 = some (.bipush 59) := by decide +kernel
set_option maxRecDepth 100000 in
theorem ji_51_55 : mj_ins 51 55 = some (.invokevirtual 110) := by decide +kernel
set_option maxRecDepth 100000 in
theorem ji_51_58 : mj_ins 51 58 = some (.aload_n 0) := by decide +kernel
set_option maxRecDepth 100000 in
theorem ji_51_59 : mj_ins 51 59 = some (.getfield 51) := by decide +kernel
set_option maxRecDepth 100000 in
theorem jf_51_51 : mj_fld 51 51 = some (9, 1, (.object "ForestOfPoles$Text"), true) := by decide +kernel
set_option maxRecDepth 100000 in
theorem ji_51_62 : mj_ins 51 62 = some (.iload_n 1) := by decide +kernel
set_option maxRecDepth 100000 in
theorem ji_51_63 : mj_ins 51 63 = some (.iload_n 2) := by decide +kernel
set_option maxRecDepth 100000 in
theorem ji_51_64 : mj_ins 51 64 = some (.iload_n 3) := by decide +kernel
set_option maxRecDepth 100000 in
theorem ji_51_65 : mj_ins 51 65 = some (.invokevirtual 120) := by decide +kernel
set_option maxRecDepth 100000 in
theorem jc_51_120 : mj_cal 51 120 = some (2, 50, 3) := by decide +kernel
set_option maxRecDepth 100000 in
theorem ji_51_68 : mj_ins 51 68 = some (.return_) := by decide +kernel
set_option maxRecDepth 100000 in
theorem jr_51 : mj_ret 51 = none := by decide +kernel
/-! the class's deeds; laid by program (wp_cread6.py) -/
def xn (a b k v : Int) : Int := if ¬ k = 1 then 1 else if v < a ∨ b < v then 2 else 0
def xt (a b k v : Int) : Int := if k = a ∧ v = b then 0 else 1
def xe (c a b k v : Int) : Int := if c = 0 then xn a b k v else xt a b k v
/-- what must come: a number (0, low, high), or a token (1, kind, value) -/
def xr (B : Int → Int) : List (Int × Int × Int) → Int → Int → Int → Int → Int → Prop
  | [], p, q0, f, q, r => f = 0 ∧ q = q0 ∧ r = p
  | (c, a, b) :: l, p, _, f, q, r => ∃ k v q1 r1, tok B p k v q1 r1 ∧ ((¬ xe c a b k v = 0 ∧ f = xe c a b k v ∧ q = q1 ∧ r = r1) ∨ (xe c a b k v = 0 ∧ xr B l r1 q1 f q r))
theorem xe_r {c a b k v : Int} : 0 ≤ xe c a b k v ∧ xe c a b k v ≤ 2 := by
  unfold xe xn xt
  repeat' split
  all_goals omega
theorem wc_rn0 {n d : Nat} {h0 h : mj_H} {bl ws fr : List Value} {t : Nat} {L k v s p f q law st wn op br ls as_ cl : Int} (D : tB bl) (hL : 0 ≤ L ∧ L ≤ 300) (H8 : h0[8]? = some (900, tk_V)) (ht : 12 ≤ t ∧ t ≤ 33) (V : cL h0 h bl t L k v s p f q law st wn op br ls as_ cl ws fr) (hp : 0 ≤ p ∧ p ≤ L) (hf : ¬ f = 0 ∧ wp_r f) {a b : Int} : wl_R n d 52 0 [some (.ref 93), some (wp_i a), some (wp_i b)] [] h (fun w h1 => w = some (wp_i 0) ∧ h1 = h) := by
  refine wl_s (pc' := 1) ji_52_0 rfl rfl rfl ?_
  refine cl_g V ji_52_1 jf_52_15 rfl ?_
  refine wl_if (t := 9) ji_52_4 rfl (x := f) hf.2 (fun (c : f = 0) => absurd c hf.1) (fun _ => ?_)
  refine wl_s (pc' := 8) ji_52_7 rfl rfl rfl ?_
  exact wl_ri ji_52_8 jr_52 rfl ⟨rfl, rfl⟩
theorem wc_rn {n d : Nat} {h0 h : mj_H} {bl ws fr : List Value} {t : Nat} {L k v s p f q law st wn op br ls as_ cl : Int} (D : tB bl) (hL : 0 ≤ L ∧ L ≤ 300) (H8 : h0[8]? = some (900, tk_V)) (ht : 12 ≤ t ∧ t ≤ 33) (V : cL h0 h bl t L k v s p f q law st wn op br ls as_ cl ws fr) (hp : 0 ≤ p ∧ p ≤ L) (hf : f = 0) {a b : Int} (hab : wp_r a ∧ wp_r b) : wl_R n (d + 3) 52 0 [some (.ref 93), some (wp_i a), some (wp_i b)] [] h (fun w h1 => (∃ y, w = some (wp_i y)) ∧ ∃ k1 v1 q1 r1, tok (bt bl L) p k1 v1 q1 r1 ∧ (p ≤ q1 ∧ q1 ≤ r1 ∧ r1 ≤ L) ∧ cL h0 h1 bl t L k1 v1 q1 r1 (xn a b k1 v1) (if xn a b k1 v1 = 0 then q else q1) law st wn op br ls as_ cl ws fr) := by
  subst hf
  refine wl_s (pc' := 1) ji_52_0 rfl rfl rfl ?_
  refine cl_g V ji_52_1 jf_52_15 rfl ?_
  refine wl_if (t := 9) ji_52_4 rfl (by omega) (fun (hb1 : (0 : Int) = 0) => ?_) (fun (hb1 : ¬ ((0 : Int) = 0)) => (by exfalso; omega))
  refine wl_s (pc' := 10) ji_52_9 rfl rfl rfl ?_
  refine cl_g V ji_52_10 jf_52_47 rfl ?_
  refine wl_vc (d := d + 2) (as := [.ref 91]) (rest := []) ji_52_13 jc_52_65 rfl V.1 jk_23.symm (Nat.le_of_ble_eq_true rfl) rfl (by rw [jn_23]; rfl) (wc_adv (d := d) D hL ((V.2.2.2.2.2 8 (by omega) (by decide) (by decide) (by decide)).trans H8) (cl_T V) hp) (fun v9 h1 R => ?_)
  obtain ⟨rfl, k1, v1, q1, r1, T, tk, hqr⟩ := R
  show wl_R _ _ 52 16 [some (.ref 93), some (wp_i a), some (wp_i b)] [] h1 _
  have V := cl_adv ht V T
  have htr := tok_r (fun j hj => bt_r D hL.2 hj) hp.1 tk
  have hta := tok_adv tk
  refine wl_s (pc' := 17) ji_52_16 rfl rfl rfl ?_
  refine cl_g V ji_52_17 jf_52_47 rfl ?_
  refine cl_t V ji_52_20 jf_52_68 rfl ?_
  refine wl_s (pc' := 24) ji_52_23 rfl rfl rfl ?_
  refine wl_icmp (t := 35) ji_52_24 rfl (by omega) (by omega) (fun (hb2 : (k1 : Int) = 1) => ?_) (fun (hb2 : ¬ ((k1 : Int) = 1)) => ?_)
  · refine wl_s (pc' := 36) ji_52_35 rfl rfl rfl ?_
    refine cl_g V ji_52_36 jf_52_47 rfl ?_
    refine cl_t V ji_52_39 jf_52_77 rfl ?_
    refine wl_s (pc' := 43) ji_52_42 rfl rfl rfl ?_
    refine wl_icmp (t := 57) ji_52_43 rfl (by omega) (by omega) (fun (hb3 : (v1 : Int) < a) => ?_) (fun (hb3 : ¬ ((v1 : Int) < a)) => ?_)
    · refine wl_s (pc' := 58) ji_52_57 rfl rfl rfl ?_
      refine wl_s (pc' := 59) ji_52_58 rfl rfl rfl ?_
      refine wl_vc (d := d + 2) (as := [.ref 93, wp_i 2]) (rest := []) ji_52_59 jc_52_80 rfl (cl_93 V) jk_31.symm (Nat.le_of_ble_eq_true rfl) rfl (by rw [jn_31]; rfl) (wc_fail ht V) (fun v1 h2 R => ?_)
      obtain ⟨rfl, V⟩ := R
      show wl_R _ _ 52 62 [some (.ref 93), some (wp_i a), some (wp_i b)] [] h2 _
      refine wl_s (pc' := 63) ji_52_62 rfl rfl rfl ?_
      refine cl_g V ji_52_63 jf_52_47 rfl ?_
      refine cl_t V ji_52_66 jf_52_77 rfl ?_
      have e : xn a b k1 v1 = 2 := (if_neg (by omega)).trans (if_pos (by omega))
      exact wl_ri ji_52_69 jr_52 rfl ⟨⟨_, rfl⟩, k1, v1, q1, r1, tk, by omega, by rw [e]; exact V⟩
    · refine wl_s (pc' := 47) ji_52_46 rfl rfl rfl ?_
      refine cl_g V ji_52_47 jf_52_47 rfl ?_
      refine cl_t V ji_52_50 jf_52_77 rfl ?_
      refine wl_s (pc' := 54) ji_52_53 rfl rfl rfl ?_
      refine wl_icmp (t := 62) ji_52_54 rfl (by omega) (by omega) (fun (hb4 : (v1 : Int) ≤ b) => ?_) (fun (hb4 : ¬ ((v1 : Int) ≤ b)) => ?_)
      · refine wl_s (pc' := 63) ji_52_62 rfl rfl rfl ?_
        refine cl_g V ji_52_63 jf_52_47 rfl ?_
        refine cl_t V ji_52_66 jf_52_77 rfl ?_
        have e : xn a b k1 v1 = 0 := (if_neg (by omega)).trans (if_neg (by omega))
        exact wl_ri ji_52_69 jr_52 rfl ⟨⟨_, rfl⟩, k1, v1, q1, r1, tk, by omega, by rw [e]; exact V⟩
      · refine wl_s (pc' := 58) ji_52_57 rfl rfl rfl ?_
        refine wl_s (pc' := 59) ji_52_58 rfl rfl rfl ?_
        refine wl_vc (d := d + 2) (as := [.ref 93, wp_i 2]) (rest := []) ji_52_59 jc_52_80 rfl (cl_93 V) jk_31.symm (Nat.le_of_ble_eq_true rfl) rfl (by rw [jn_31]; rfl) (wc_fail ht V) (fun v1 h2 R => ?_)
        obtain ⟨rfl, V⟩ := R
        show wl_R _ _ 52 62 [some (.ref 93), some (wp_i a), some (wp_i b)] [] h2 _
        refine wl_s (pc' := 63) ji_52_62 rfl rfl rfl ?_
        refine cl_g V ji_52_63 jf_52_47 rfl ?_
        refine cl_t V ji_52_66 jf_52_77 rfl ?_
        have e : xn a b k1 v1 = 2 := (if_neg (by omega)).trans (if_pos (by omega))
        exact wl_ri ji_52_69 jr_52 rfl ⟨⟨_, rfl⟩, k1, v1, q1, r1, tk, by omega, by rw [e]; exact V⟩
  · refine wl_s (pc' := 28) ji_52_27 rfl rfl rfl ?_
    refine wl_s (pc' := 29) ji_52_28 rfl rfl rfl ?_
    refine wl_vc (d := d + 2) (as := [.ref 93, wp_i 1]) (rest := []) ji_52_29 jc_52_80 rfl (cl_93 V) jk_31.symm (Nat.le_of_ble_eq_true rfl) rfl (by rw [jn_31]; rfl) (wc_fail ht V) (fun v1 h2 R => ?_)
    obtain ⟨rfl, V⟩ := R
    show wl_R _ _ 52 32 [some (.ref 93), some (wp_i a), some (wp_i b)] [] h2 _
    refine wl_goto (t := 62) ji_52_32 rfl ?_
    refine wl_s (pc' := 63) ji_52_62 rfl rfl rfl ?_
    refine cl_g V ji_52_63 jf_52_47 rfl ?_
    refine cl_t V ji_52_66 jf_52_77 rfl ?_
    have e : xn a b k1 v1 = 1 := if_pos (by omega)
    exact wl_ri ji_52_69 jr_52 rfl ⟨⟨_, rfl⟩, k1, v1, q1, r1, tk, by omega, by rw [e]; exact V⟩
theorem wc_rt0 {n d : Nat} {h0 h : mj_H} {bl ws fr : List Value} {t : Nat} {L k v s p f q law st wn op br ls as_ cl : Int} (D : tB bl) (hL : 0 ≤ L ∧ L ≤ 300) (H8 : h0[8]? = some (900, tk_V)) (ht : 12 ≤ t ∧ t ≤ 33) (V : cL h0 h bl t L k v s p f q law st wn op br ls as_ cl ws fr) (hp : 0 ≤ p ∧ p ≤ L) (hf : ¬ f = 0 ∧ wp_r f) {a b : Int} : wl_R n d 53 0 [some (.ref 93), some (wp_i a), some (wp_i b)] [] h (fun w h1 => w = none ∧ h1 = h) := by
  refine wl_s (pc' := 1) ji_53_0 rfl rfl rfl ?_
  refine cl_g V ji_53_1 jf_53_15 rfl ?_
  refine wl_if (t := 8) ji_53_4 rfl (x := f) hf.2 (fun (c : f = 0) => absurd c hf.1) (fun _ => ?_)
  exact wl_rv ji_53_7 jr_53 ⟨rfl, rfl⟩
theorem wc_rt {n d : Nat} {h0 h : mj_H} {bl ws fr : List Value} {t : Nat} {L k v s p f q law st wn op br ls as_ cl : Int} (D : tB bl) (hL : 0 ≤ L ∧ L ≤ 300) (H8 : h0[8]? = some (900, tk_V)) (ht : 12 ≤ t ∧ t ≤ 33) (V : cL h0 h bl t L k v s p f q law st wn op br ls as_ cl ws fr) (hp : 0 ≤ p ∧ p ≤ L) (hf : f = 0) {a b : Int} (hab : wp_r a ∧ wp_r b) : wl_R n (d + 3) 53 0 [some (.ref 93), some (wp_i a), some (wp_i b)] [] h (fun w h1 => w = none ∧ ∃ k1 v1 q1 r1, tok (bt bl L) p k1 v1 q1 r1 ∧ (p ≤ q1 ∧ q1 ≤ r1 ∧ r1 ≤ L) ∧ cL h0 h1 bl t L k1 v1 q1 r1 (xt a b k1 v1) (if xt a b k1 v1 = 0 then q else q1) law st wn op br ls as_ cl ws fr) := by
  subst hf
  refine wl_s (pc' := 1) ji_53_0 rfl rfl rfl ?_
  refine cl_g V ji_53_1 jf_53_15 rfl ?_
  refine wl_if (t := 8) ji_53_4 rfl (by omega) (fun (hb1 : (0 : Int) = 0) => ?_) (fun (hb1 : ¬ ((0 : Int) = 0)) => (by exfalso; omega))
  refine wl_s (pc' := 9) ji_53_8 rfl rfl rfl ?_
  refine cl_g V ji_53_9 jf_53_47 rfl ?_
  refine wl_vc (d := d + 2) (as := [.ref 91]) (rest := []) ji_53_12 jc_53_65 rfl V.1 jk_23.symm (Nat.le_of_ble_eq_true rfl) rfl (by rw [jn_23]; rfl) (wc_adv (d := d) D hL ((V.2.2.2.2.2 8 (by omega) (by decide) (by decide) (by decide)).trans H8) (cl_T V) hp) (fun v9 h1 R => ?_)
  obtain ⟨rfl, k1, v1, q1, r1, T, tk, hqr⟩ := R
  show wl_R _ _ 53 15 [some (.ref 93), some (wp_i a), some (wp_i b)] [] h1 _
  have V := cl_adv ht V T
  have htr := tok_r (fun j hj => bt_r D hL.2 hj) hp.1 tk
  have hta := tok_adv tk
  refine wl_s (pc' := 16) ji_53_15 rfl rfl rfl ?_
  refine cl_g V ji_53_16 jf_53_47 rfl ?_
  refine cl_t V ji_53_19 jf_53_68 rfl ?_
  refine wl_s (pc' := 23) ji_53_22 rfl rfl rfl ?_
  refine wl_icmp (t := 37) ji_53_23 rfl (by omega) (by omega) (fun (hb2 : ¬ (k1 : Int) = a) => ?_) (fun (hb2 : ¬ (¬ (k1 : Int) = a)) => ?_)
  · refine wl_s (pc' := 38) ji_53_37 rfl rfl rfl ?_
    refine wl_s (pc' := 39) ji_53_38 rfl rfl rfl ?_
    refine wl_vc (d := d + 2) (as := [.ref 93, wp_i 1]) (rest := []) ji_53_39 jc_53_80 rfl (cl_93 V) jk_31.symm (Nat.le_of_ble_eq_true rfl) rfl (by rw [jn_31]; rfl) (wc_fail ht V) (fun v1 h2 R => ?_)
    obtain ⟨rfl, V⟩ := R
    show wl_R _ _ 53 42 [some (.ref 93), some (wp_i a), some (wp_i b)] [] h2 _
    have e : xt a b k1 v1 = 1 := if_neg (by omega)
    exact wl_rv ji_53_42 jr_53 ⟨rfl, k1, v1, q1, r1, tk, by omega, by rw [e]; exact V⟩
  · refine wl_s (pc' := 27) ji_53_26 rfl rfl rfl ?_
    refine cl_g V ji_53_27 jf_53_47 rfl ?_
    refine cl_t V ji_53_30 jf_53_77 rfl ?_
    refine wl_s (pc' := 34) ji_53_33 rfl rfl rfl ?_
    refine wl_icmp (t := 42) ji_53_34 rfl (by omega) (by omega) (fun (hb3 : (v1 : Int) = b) => ?_) (fun (hb3 : ¬ ((v1 : Int) = b)) => ?_)
    · have e : xt a b k1 v1 = 0 := if_pos (by omega)
      exact wl_rv ji_53_42 jr_53 ⟨rfl, k1, v1, q1, r1, tk, by omega, by rw [e]; exact V⟩
    · refine wl_s (pc' := 38) ji_53_37 rfl rfl rfl ?_
      refine wl_s (pc' := 39) ji_53_38 rfl rfl rfl ?_
      refine wl_vc (d := d + 2) (as := [.ref 93, wp_i 1]) (rest := []) ji_53_39 jc_53_80 rfl (cl_93 V) jk_31.symm (Nat.le_of_ble_eq_true rfl) rfl (by rw [jn_31]; rfl) (wc_fail ht V) (fun v1 h2 R => ?_)
      obtain ⟨rfl, V⟩ := R
      show wl_R _ _ 53 42 [some (.ref 93), some (wp_i a), some (wp_i b)] [] h2 _
      have e : xt a b k1 v1 = 1 := if_neg (by omega)
      exact wl_rv ji_53_42 jr_53 ⟨rfl, k1, v1, q1, r1, tk, by omega, by rw [e]; exact V⟩
def dl (x : Int) : List (Int × Int × Int) := if x = 3 then [(0, 1, 99), (1, 0, 10), (0, 0, 99), (1, 2, 59)] else if x = 4 then [(0, 1, 9), (1, 2, 59)] else if x = 5 then [(0, 0, 5), (1, 0, 11), (0, 0, 7), (1, 2, 59)] else if x = 6 then [(0, 0, 5), (1, 0, 11), (0, 0, 7), (1, 2, 59)] else if x = 7 then [(0, 0, 7), (1, 0, 12), (0, 1, 99), (1, 2, 59)] else if x = 8 then [(0, 0, 9), (1, 2, 59)] else if x = 9 then [(0, 1, 60), (1, 2, 59)] else []
theorem wl_gs {nn d m pc : Nat} {lv : mj_L} {st : List Value} {h : mj_H} {Q : Option Value → mj_H → Prop} {x a : Nat} (hi : mj_ins m pc = some (.getstatic x)) (hs : mj_stt m x = some (.ref a)) (hr : wl_R nn d m (pc + 3) lv (.ref a :: st) h Q) : wl_R nn d m pc lv st h Q := by
  refine wl_s (pc' := pc + 3) (lv' := lv) (st' := .ref a :: st) (h' := h) hi rfl rfl ?_ hr
  simp only [mj_st, hs]
  rfl
def hC (h0 : mj_H) : Prop := h0[1]? = some (1000, [Value.int 0, Value.int 0, Value.int 0, Value.int 1, Value.int 1, Value.int 0, Value.int 0, Value.int 0, Value.int 0, Value.int 1]) ∧ h0[2]? = some (1000, [Value.int 0, Value.int 0, Value.int 0, Value.int 99, Value.int 9, Value.int 5, Value.int 5, Value.int 7, Value.int 9, Value.int 60]) ∧ h0[3]? = some (1000, [Value.int (-1), Value.int (-1), Value.int (-1), Value.int 10, Value.int (-1), Value.int 11, Value.int 11, Value.int 12, Value.int (-1), Value.int (-1)]) ∧ h0[4]? = some (1000, [Value.int 0, Value.int 0, Value.int 0, Value.int 0, Value.int 0, Value.int 0, Value.int 0, Value.int 1, Value.int 0, Value.int 0]) ∧ h0[5]? = some (1000, [Value.int 0, Value.int 0, Value.int 0, Value.int 99, Value.int 0, Value.int 7, Value.int 7, Value.int 99, Value.int 0, Value.int 0])
theorem wc_d3 {n d : Nat} {h0 h : mj_H} {bl ws fr : List Value} {t : Nat} {L k v s p f q law st wn op br ls as_ cl : Int} (D : tB bl) (hL : 0 ≤ L ∧ L ≤ 300) (H8 : h0[8]? = some (900, tk_V)) (ht : 12 ≤ t ∧ t ≤ 33) (V : cL h0 h bl t L k v s p f q law st wn op br ls as_ cl ws fr) (hp : 0 ≤ p ∧ p ≤ L) (hf : f = 0) (HC : hC h0) (hcl : 0 ≤ cl ∧ cl ≤ 23) : wl_R n (d + 4) 51 0 [some (.ref 93), some (wp_i 3), none, none] [] h (fun w h1 => w = none ∧ ∃ k' v' q' r' f', xr (bt bl L) (dl 3) p s f' q' r' ∧ (p ≤ q' ∧ q' ≤ r' ∧ r' ≤ L) ∧ cL h0 h1 bl t L k' v' q' r' f' (if f' = 0 then q else q') law st wn op br ls as_ (cl + 1) ws fr) := by
  subst hf
  refine wl_s (pc' := 1) ji_51_0 rfl rfl rfl ?_
  refine wl_gs ji_51_1 jst_51_97 ?_
  refine wl_s (pc' := 5) ji_51_4 rfl rfl rfl ?_
  refine wl_ial (x := 3) ji_51_5 ((V.2.2.2.2.2 1 (by omega) (by decide) (by decide) (by decide)).trans HC.1) (by decide) (by decide) (by decide) (v := wp_i 1) rfl ?_
  refine wl_gs ji_51_6 jst_51_100 ?_
  refine wl_s (pc' := 10) ji_51_9 rfl rfl rfl ?_
  refine wl_ial (x := 3) ji_51_10 ((V.2.2.2.2.2 2 (by omega) (by decide) (by decide) (by decide)).trans HC.2.1) (by decide) (by decide) (by decide) (v := wp_i 99) rfl ?_
  refine wl_vc (d := d + 3) (as := [.ref 93, wp_i 1, wp_i 99]) (rest := []) ji_51_11 jc_51_103 rfl (cl_93 V) jk_52.symm (Nat.le_of_ble_eq_true rfl) rfl (by rw [jn_52]; rfl) (wc_rn (d := d) (a := 1) (b := 99) D hL H8 ht V (by omega) rfl (by omega)) (fun v1 h21 R => ?_)
  obtain ⟨⟨y1, rfl⟩, k1, v1, q1, r1, tk1, hq1, V⟩ := R
  show wl_R _ _ 51 14 [some (.ref 93), some (wp_i 3), none, none] [wp_i y1] h21 _
  have hxr1 : 0 ≤ xn 1 99 k1 v1 ∧ xn 1 99 k1 v1 ≤ 2 := xe_r (c := 0)
  obtain ⟨e1, he1⟩ : ∃ e, xn 1 99 k1 v1 = e := ⟨_, rfl⟩
  rw [he1] at V hxr1
  by_cases hx1 : e1 = 0
  · rw [if_pos hx1, hx1] at V
    rw [hx1] at he1
    refine wl_s (pc' := 15) (lv' := [some (.ref 93), some (wp_i 3), some (wp_i y1), none]) ji_51_14 rfl rfl rfl ?_
    refine wl_s (pc' := 16) ji_51_15 rfl rfl rfl ?_
    refine wl_s (pc' := 17) (lv' := [some (.ref 93), some (wp_i 3), some (wp_i y1), some (wp_i 0)]) ji_51_16 rfl rfl rfl ?_
    refine wl_gs ji_51_17 jst_51_107 ?_
    refine wl_s (pc' := 21) ji_51_20 rfl rfl rfl ?_
    refine wl_ial (x := 3) ji_51_21 ((V.2.2.2.2.2 3 (by omega) (by decide) (by decide) (by decide)).trans HC.2.2.1) (by decide) (by decide) (by decide) (v := wp_i 10) rfl ?_
    refine wl_s (pc' := 23) ji_51_22 rfl rfl rfl ?_
    refine wl_icmp (t := 51) ji_51_23 rfl (by omega) (by omega) (fun (hb1 : (10 : Int) = (-1)) => (by exfalso; omega)) (fun (hb1 : ¬ ((10 : Int) = (-1))) => ?_)
    refine wl_s (pc' := 27) ji_51_26 rfl rfl rfl ?_
    refine wl_s (pc' := 28) ji_51_27 rfl rfl rfl ?_
    refine wl_gs ji_51_28 jst_51_107 ?_
    refine wl_s (pc' := 32) ji_51_31 rfl rfl rfl ?_
    refine wl_ial (x := 3) ji_51_32 ((V.2.2.2.2.2 3 (by omega) (by decide) (by decide) (by decide)).trans HC.2.2.1) (by decide) (by decide) (by decide) (v := wp_i 10) rfl ?_
    refine wl_vc (d := d + 3) (as := [.ref 93, wp_i 0, wp_i 10]) (rest := []) ji_51_33 jc_51_110 rfl (cl_93 V) jk_53.symm (Nat.le_of_ble_eq_true rfl) rfl (by rw [jn_53]; rfl) (wc_rt (d := d) (a := 0) (b := 10) D hL H8 ht V (by omega) rfl (by omega)) (fun v1 h22 R => ?_)
    obtain ⟨rfl, k2, v2, q2, r2, tk2, hq2, V⟩ := R
    show wl_R _ _ 51 36 [some (.ref 93), some (wp_i 3), some (wp_i y1), some (wp_i 0)] [] h22 _
    have hxr2 : 0 ≤ xt 0 10 k2 v2 ∧ xt 0 10 k2 v2 ≤ 2 := xe_r (c := 1)
    obtain ⟨e2, he2⟩ : ∃ e, xt 0 10 k2 v2 = e := ⟨_, rfl⟩
    rw [he2] at V hxr2
    by_cases hx2 : e2 = 0
    · rw [if_pos hx2, hx2] at V
      rw [hx2] at he2
      refine wl_s (pc' := 37) ji_51_36 rfl rfl rfl ?_
      refine wl_gs ji_51_37 jst_51_114 ?_
      refine wl_s (pc' := 41) ji_51_40 rfl rfl rfl ?_
      refine wl_ial (x := 3) ji_51_41 ((V.2.2.2.2.2 4 (by omega) (by decide) (by decide) (by decide)).trans HC.2.2.2.1) (by decide) (by decide) (by decide) (v := wp_i 0) rfl ?_
      refine wl_gs ji_51_42 jst_51_117 ?_
      refine wl_s (pc' := 46) ji_51_45 rfl rfl rfl ?_
      refine wl_ial (x := 3) ji_51_46 ((V.2.2.2.2.2 5 (by omega) (by decide) (by decide) (by decide)).trans HC.2.2.2.2) (by decide) (by decide) (by decide) (v := wp_i 99) rfl ?_
      refine wl_vc (d := d + 3) (as := [.ref 93, wp_i 0, wp_i 99]) (rest := []) ji_51_47 jc_51_103 rfl (cl_93 V) jk_52.symm (Nat.le_of_ble_eq_true rfl) rfl (by rw [jn_52]; rfl) (wc_rn (d := d) (a := 0) (b := 99) D hL H8 ht V (by omega) rfl (by omega)) (fun v1 h23 R => ?_)
      obtain ⟨⟨y3, rfl⟩, k3, v3, q3, r3, tk3, hq3, V⟩ := R
      show wl_R _ _ 51 50 [some (.ref 93), some (wp_i 3), some (wp_i y1), some (wp_i 0)] [wp_i y3] h23 _
      have hxr3 : 0 ≤ xn 0 99 k3 v3 ∧ xn 0 99 k3 v3 ≤ 2 := xe_r (c := 0)
      obtain ⟨e3, he3⟩ : ∃ e, xn 0 99 k3 v3 = e := ⟨_, rfl⟩
      rw [he3] at V hxr3
      by_cases hx3 : e3 = 0
      · rw [if_pos hx3, hx3] at V
        rw [hx3] at he3
        refine wl_s (pc' := 51) (lv' := [some (.ref 93), some (wp_i 3), some (wp_i y1), some (wp_i y3)]) ji_51_50 rfl rfl rfl ?_
        refine wl_s (pc' := 52) ji_51_51 rfl rfl rfl ?_
        refine wl_s (pc' := 53) ji_51_52 rfl rfl rfl ?_
        refine wl_bp ji_51_53 rfl ?_
        refine wl_vc (d := d + 3) (as := [.ref 93, wp_i 2, wp_i 59]) (rest := []) ji_51_55 jc_51_110 rfl (cl_93 V) jk_53.symm (Nat.le_of_ble_eq_true rfl) rfl (by rw [jn_53]; rfl) (wc_rt (d := d) (a := 2) (b := 59) D hL H8 ht V (by omega) rfl (by omega)) (fun v1 h24 R => ?_)
        obtain ⟨rfl, k4, v4, q4, r4, tk4, hq4, V⟩ := R
        show wl_R _ _ 51 58 [some (.ref 93), some (wp_i 3), some (wp_i y1), some (wp_i y3)] [] h24 _
        have hxr4 : 0 ≤ xt 2 59 k4 v4 ∧ xt 2 59 k4 v4 ≤ 2 := xe_r (c := 1)
        obtain ⟨e4, he4⟩ : ∃ e, xt 2 59 k4 v4 = e := ⟨_, rfl⟩
        rw [he4] at V hxr4
        by_cases hx4 : e4 = 0
        · rw [if_pos hx4, hx4] at V
          rw [hx4] at he4
          refine wl_s (pc' := 59) ji_51_58 rfl rfl rfl ?_
          refine cl_g V ji_51_59 jf_51_51 rfl ?_
          refine wl_s (pc' := 63) ji_51_62 rfl rfl rfl ?_
          refine wl_s (pc' := 64) ji_51_63 rfl rfl rfl ?_
          refine wl_s (pc' := 65) ji_51_64 rfl rfl rfl ?_
          obtain ⟨tfs, htc⟩ := cl_tc V
          refine wl_vc (d := d + 3) (as := [.ref t, wp_i 3, wp_i y1, wp_i y3]) (rest := []) ji_51_65 jc_51_120 rfl htc jk_50.symm (Nat.le_of_ble_eq_true rfl) rfl (by rw [jn_50]; rfl) (wc_ac ht V hcl) (fun v1 h8 R => ?_)
          obtain ⟨rfl, V⟩ := R
          show wl_R _ _ 51 68 [some (.ref 93), some (wp_i 3), some (wp_i y1), some (wp_i y3)] [] h8 _
          rw [show dl 3 = [(0, 1, 99), (1, 0, 10), (0, 0, 99), (1, 2, 59)] from rfl]
          exact wl_rv ji_51_68 jr_51 ⟨rfl, k4, v4, q4, r4, 0, ⟨k1, v1, q1, r1, tk1, Or.inr ⟨(show xe 0 1 99 k1 v1 = 0 from he1), ⟨k2, v2, q2, r2, tk2, Or.inr ⟨(show xe 1 0 10 k2 v2 = 0 from he2), ⟨k3, v3, q3, r3, tk3, Or.inr ⟨(show xe 0 0 99 k3 v3 = 0 from he3), ⟨k4, v4, q4, r4, tk4, Or.inr ⟨(show xe 1 2 59 k4 v4 = 0 from he4), ⟨rfl, rfl, rfl⟩⟩⟩⟩⟩⟩⟩⟩⟩, by omega, by rw [if_pos rfl]; exact V⟩
        · rw [if_neg hx4] at V
          refine wl_s (pc' := 59) ji_51_58 rfl rfl rfl ?_
          refine cl_g V ji_51_59 jf_51_51 rfl ?_
          refine wl_s (pc' := 63) ji_51_62 rfl rfl rfl ?_
          refine wl_s (pc' := 64) ji_51_63 rfl rfl rfl ?_
          refine wl_s (pc' := 65) ji_51_64 rfl rfl rfl ?_
          obtain ⟨tfs, htc⟩ := cl_tc V
          refine wl_vc (d := d + 3) (as := [.ref t, wp_i 3, wp_i y1, wp_i y3]) (rest := []) ji_51_65 jc_51_120 rfl htc jk_50.symm (Nat.le_of_ble_eq_true rfl) rfl (by rw [jn_50]; rfl) (wc_ac ht V hcl) (fun v1 h8 R => ?_)
          obtain ⟨rfl, V⟩ := R
          show wl_R _ _ 51 68 [some (.ref 93), some (wp_i 3), some (wp_i y1), some (wp_i y3)] [] h8 _
          rw [show dl 3 = [(0, 1, 99), (1, 0, 10), (0, 0, 99), (1, 2, 59)] from rfl]
          exact wl_rv ji_51_68 jr_51 ⟨rfl, k4, v4, q4, r4, e4, ⟨k1, v1, q1, r1, tk1, Or.inr ⟨(show xe 0 1 99 k1 v1 = 0 from he1), ⟨k2, v2, q2, r2, tk2, Or.inr ⟨(show xe 1 0 10 k2 v2 = 0 from he2), ⟨k3, v3, q3, r3, tk3, Or.inr ⟨(show xe 0 0 99 k3 v3 = 0 from he3), ⟨k4, v4, q4, r4, tk4, Or.inl ⟨by rw [(show xe 1 2 59 k4 v4 = e4 from he4)]; exact hx4, (show xe 1 2 59 k4 v4 = e4 from he4).symm, rfl, rfl⟩⟩⟩⟩⟩⟩⟩⟩, by omega, by rw [if_neg hx4]; exact V⟩
      · rw [if_neg hx3] at V
        refine wl_s (pc' := 51) (lv' := [some (.ref 93), some (wp_i 3), some (wp_i y1), some (wp_i y3)]) ji_51_50 rfl rfl rfl ?_
        refine wl_s (pc' := 52) ji_51_51 rfl rfl rfl ?_
        refine wl_s (pc' := 53) ji_51_52 rfl rfl rfl ?_
        refine wl_bp ji_51_53 rfl ?_
        refine wl_vc (d := d + 3) (as := [.ref 93, wp_i 2, wp_i 59]) (rest := []) ji_51_55 jc_51_110 rfl (cl_93 V) jk_53.symm (Nat.le_of_ble_eq_true rfl) rfl (by rw [jn_53]; rfl) (wc_rt0 D hL H8 ht V (by omega) ⟨hx3, by omega⟩) (fun v1 h9 R => ?_)
        obtain ⟨rfl, e1⟩ := R
        subst e1
        show wl_R _ _ 51 58 [some (.ref 93), some (wp_i 3), some (wp_i y1), some (wp_i y3)] [] h9 _
        refine wl_s (pc' := 59) ji_51_58 rfl rfl rfl ?_
        refine cl_g V ji_51_59 jf_51_51 rfl ?_
        refine wl_s (pc' := 63) ji_51_62 rfl rfl rfl ?_
        refine wl_s (pc' := 64) ji_51_63 rfl rfl rfl ?_
        refine wl_s (pc' := 65) ji_51_64 rfl rfl rfl ?_
        obtain ⟨tfs, htc⟩ := cl_tc V
        refine wl_vc (d := d + 3) (as := [.ref t, wp_i 3, wp_i y1, wp_i y3]) (rest := []) ji_51_65 jc_51_120 rfl htc jk_50.symm (Nat.le_of_ble_eq_true rfl) rfl (by rw [jn_50]; rfl) (wc_ac ht V hcl) (fun v1 h8 R => ?_)
        obtain ⟨rfl, V⟩ := R
        show wl_R _ _ 51 68 [some (.ref 93), some (wp_i 3), some (wp_i y1), some (wp_i y3)] [] h8 _
        rw [show dl 3 = [(0, 1, 99), (1, 0, 10), (0, 0, 99), (1, 2, 59)] from rfl]
        exact wl_rv ji_51_68 jr_51 ⟨rfl, k3, v3, q3, r3, e3, ⟨k1, v1, q1, r1, tk1, Or.inr ⟨(show xe 0 1 99 k1 v1 = 0 from he1), ⟨k2, v2, q2, r2, tk2, Or.inr ⟨(show xe 1 0 10 k2 v2 = 0 from he2), ⟨k3, v3, q3, r3, tk3, Or.inl ⟨by rw [(show xe 0 0 99 k3 v3 = e3 from he3)]; exact hx3, (show xe 0 0 99 k3 v3 = e3 from he3).symm, rfl, rfl⟩⟩⟩⟩⟩⟩, by omega, by rw [if_neg hx3]; exact V⟩
    · rw [if_neg hx2] at V
      refine wl_s (pc' := 37) ji_51_36 rfl rfl rfl ?_
      refine wl_gs ji_51_37 jst_51_114 ?_
      refine wl_s (pc' := 41) ji_51_40 rfl rfl rfl ?_
      refine wl_ial (x := 3) ji_51_41 ((V.2.2.2.2.2 4 (by omega) (by decide) (by decide) (by decide)).trans HC.2.2.2.1) (by decide) (by decide) (by decide) (v := wp_i 0) rfl ?_
      refine wl_gs ji_51_42 jst_51_117 ?_
      refine wl_s (pc' := 46) ji_51_45 rfl rfl rfl ?_
      refine wl_ial (x := 3) ji_51_46 ((V.2.2.2.2.2 5 (by omega) (by decide) (by decide) (by decide)).trans HC.2.2.2.2) (by decide) (by decide) (by decide) (v := wp_i 99) rfl ?_
      refine wl_vc (d := d + 3) (as := [.ref 93, wp_i 0, wp_i 99]) (rest := []) ji_51_47 jc_51_103 rfl (cl_93 V) jk_52.symm (Nat.le_of_ble_eq_true rfl) rfl (by rw [jn_52]; rfl) (wc_rn0 D hL H8 ht V (by omega) ⟨hx2, by omega⟩) (fun v1 h9 R => ?_)
      obtain ⟨rfl, e1⟩ := R
      subst e1
      show wl_R _ _ 51 50 [some (.ref 93), some (wp_i 3), some (wp_i y1), some (wp_i 0)] [wp_i 0] h9 _
      refine wl_s (pc' := 51) (lv' := [some (.ref 93), some (wp_i 3), some (wp_i y1), some (wp_i 0)]) ji_51_50 rfl rfl rfl ?_
      refine wl_s (pc' := 52) ji_51_51 rfl rfl rfl ?_
      refine wl_s (pc' := 53) ji_51_52 rfl rfl rfl ?_
      refine wl_bp ji_51_53 rfl ?_
      refine wl_vc (d := d + 3) (as := [.ref 93, wp_i 2, wp_i 59]) (rest := []) ji_51_55 jc_51_110 rfl (cl_93 V) jk_53.symm (Nat.le_of_ble_eq_true rfl) rfl (by rw [jn_53]; rfl) (wc_rt0 D hL H8 ht V (by omega) ⟨hx2, by omega⟩) (fun v1 h9 R => ?_)
      obtain ⟨rfl, e1⟩ := R
      subst e1
      show wl_R _ _ 51 58 [some (.ref 93), some (wp_i 3), some (wp_i y1), some (wp_i 0)] [] h9 _
      refine wl_s (pc' := 59) ji_51_58 rfl rfl rfl ?_
      refine cl_g V ji_51_59 jf_51_51 rfl ?_
      refine wl_s (pc' := 63) ji_51_62 rfl rfl rfl ?_
      refine wl_s (pc' := 64) ji_51_63 rfl rfl rfl ?_
      refine wl_s (pc' := 65) ji_51_64 rfl rfl rfl ?_
      obtain ⟨tfs, htc⟩ := cl_tc V
      refine wl_vc (d := d + 3) (as := [.ref t, wp_i 3, wp_i y1, wp_i 0]) (rest := []) ji_51_65 jc_51_120 rfl htc jk_50.symm (Nat.le_of_ble_eq_true rfl) rfl (by rw [jn_50]; rfl) (wc_ac ht V hcl) (fun v1 h8 R => ?_)
      obtain ⟨rfl, V⟩ := R
      show wl_R _ _ 51 68 [some (.ref 93), some (wp_i 3), some (wp_i y1), some (wp_i 0)] [] h8 _
      rw [show dl 3 = [(0, 1, 99), (1, 0, 10), (0, 0, 99), (1, 2, 59)] from rfl]
      exact wl_rv ji_51_68 jr_51 ⟨rfl, k2, v2, q2, r2, e2, ⟨k1, v1, q1, r1, tk1, Or.inr ⟨(show xe 0 1 99 k1 v1 = 0 from he1), ⟨k2, v2, q2, r2, tk2, Or.inl ⟨by rw [(show xe 1 0 10 k2 v2 = e2 from he2)]; exact hx2, (show xe 1 0 10 k2 v2 = e2 from he2).symm, rfl, rfl⟩⟩⟩⟩, by omega, by rw [if_neg hx2]; exact V⟩
  · rw [if_neg hx1] at V
    refine wl_s (pc' := 15) (lv' := [some (.ref 93), some (wp_i 3), some (wp_i y1), none]) ji_51_14 rfl rfl rfl ?_
    refine wl_s (pc' := 16) ji_51_15 rfl rfl rfl ?_
    refine wl_s (pc' := 17) (lv' := [some (.ref 93), some (wp_i 3), some (wp_i y1), some (wp_i 0)]) ji_51_16 rfl rfl rfl ?_
    refine wl_gs ji_51_17 jst_51_107 ?_
    refine wl_s (pc' := 21) ji_51_20 rfl rfl rfl ?_
    refine wl_ial (x := 3) ji_51_21 ((V.2.2.2.2.2 3 (by omega) (by decide) (by decide) (by decide)).trans HC.2.2.1) (by decide) (by decide) (by decide) (v := wp_i 10) rfl ?_
    refine wl_s (pc' := 23) ji_51_22 rfl rfl rfl ?_
    refine wl_icmp (t := 51) ji_51_23 rfl (by omega) (by omega) (fun (hb2 : (10 : Int) = (-1)) => (by exfalso; omega)) (fun (hb2 : ¬ ((10 : Int) = (-1))) => ?_)
    refine wl_s (pc' := 27) ji_51_26 rfl rfl rfl ?_
    refine wl_s (pc' := 28) ji_51_27 rfl rfl rfl ?_
    refine wl_gs ji_51_28 jst_51_107 ?_
    refine wl_s (pc' := 32) ji_51_31 rfl rfl rfl ?_
    refine wl_ial (x := 3) ji_51_32 ((V.2.2.2.2.2 3 (by omega) (by decide) (by decide) (by decide)).trans HC.2.2.1) (by decide) (by decide) (by decide) (v := wp_i 10) rfl ?_
    refine wl_vc (d := d + 3) (as := [.ref 93, wp_i 0, wp_i 10]) (rest := []) ji_51_33 jc_51_110 rfl (cl_93 V) jk_53.symm (Nat.le_of_ble_eq_true rfl) rfl (by rw [jn_53]; rfl) (wc_rt0 D hL H8 ht V (by omega) ⟨hx1, by omega⟩) (fun v1 h9 R => ?_)
    obtain ⟨rfl, e1⟩ := R
    subst e1
    show wl_R _ _ 51 36 [some (.ref 93), some (wp_i 3), some (wp_i y1), some (wp_i 0)] [] h9 _
    refine wl_s (pc' := 37) ji_51_36 rfl rfl rfl ?_
    refine wl_gs ji_51_37 jst_51_114 ?_
    refine wl_s (pc' := 41) ji_51_40 rfl rfl rfl ?_
    refine wl_ial (x := 3) ji_51_41 ((V.2.2.2.2.2 4 (by omega) (by decide) (by decide) (by decide)).trans HC.2.2.2.1) (by decide) (by decide) (by decide) (v := wp_i 0) rfl ?_
    refine wl_gs ji_51_42 jst_51_117 ?_
    refine wl_s (pc' := 46) ji_51_45 rfl rfl rfl ?_
    refine wl_ial (x := 3) ji_51_46 ((V.2.2.2.2.2 5 (by omega) (by decide) (by decide) (by decide)).trans HC.2.2.2.2) (by decide) (by decide) (by decide) (v := wp_i 99) rfl ?_
    refine wl_vc (d := d + 3) (as := [.ref 93, wp_i 0, wp_i 99]) (rest := []) ji_51_47 jc_51_103 rfl (cl_93 V) jk_52.symm (Nat.le_of_ble_eq_true rfl) rfl (by rw [jn_52]; rfl) (wc_rn0 D hL H8 ht V (by omega) ⟨hx1, by omega⟩) (fun v1 h9 R => ?_)
    obtain ⟨rfl, e1⟩ := R
    subst e1
    show wl_R _ _ 51 50 [some (.ref 93), some (wp_i 3), some (wp_i y1), some (wp_i 0)] [wp_i 0] h9 _
    refine wl_s (pc' := 51) (lv' := [some (.ref 93), some (wp_i 3), some (wp_i y1), some (wp_i 0)]) ji_51_50 rfl rfl rfl ?_
    refine wl_s (pc' := 52) ji_51_51 rfl rfl rfl ?_
    refine wl_s (pc' := 53) ji_51_52 rfl rfl rfl ?_
    refine wl_bp ji_51_53 rfl ?_
    refine wl_vc (d := d + 3) (as := [.ref 93, wp_i 2, wp_i 59]) (rest := []) ji_51_55 jc_51_110 rfl (cl_93 V) jk_53.symm (Nat.le_of_ble_eq_true rfl) rfl (by rw [jn_53]; rfl) (wc_rt0 D hL H8 ht V (by omega) ⟨hx1, by omega⟩) (fun v1 h9 R => ?_)
    obtain ⟨rfl, e1⟩ := R
    subst e1
    show wl_R _ _ 51 58 [some (.ref 93), some (wp_i 3), some (wp_i y1), some (wp_i 0)] [] h9 _
    refine wl_s (pc' := 59) ji_51_58 rfl rfl rfl ?_
    refine cl_g V ji_51_59 jf_51_51 rfl ?_
    refine wl_s (pc' := 63) ji_51_62 rfl rfl rfl ?_
    refine wl_s (pc' := 64) ji_51_63 rfl rfl rfl ?_
    refine wl_s (pc' := 65) ji_51_64 rfl rfl rfl ?_
    obtain ⟨tfs, htc⟩ := cl_tc V
    refine wl_vc (d := d + 3) (as := [.ref t, wp_i 3, wp_i y1, wp_i 0]) (rest := []) ji_51_65 jc_51_120 rfl htc jk_50.symm (Nat.le_of_ble_eq_true rfl) rfl (by rw [jn_50]; rfl) (wc_ac ht V hcl) (fun v1 h8 R => ?_)
    obtain ⟨rfl, V⟩ := R
    show wl_R _ _ 51 68 [some (.ref 93), some (wp_i 3), some (wp_i y1), some (wp_i 0)] [] h8 _
    rw [show dl 3 = [(0, 1, 99), (1, 0, 10), (0, 0, 99), (1, 2, 59)] from rfl]
    exact wl_rv ji_51_68 jr_51 ⟨rfl, k1, v1, q1, r1, e1, ⟨k1, v1, q1, r1, tk1, Or.inl ⟨by rw [(show xe 0 1 99 k1 v1 = e1 from he1)]; exact hx1, (show xe 0 1 99 k1 v1 = e1 from he1).symm, rfl, rfl⟩⟩, by omega, by rw [if_neg hx1]; exact V⟩
theorem wc_d4 {n d : Nat} {h0 h : mj_H} {bl ws fr : List Value} {t : Nat} {L k v s p f q law st wn op br ls as_ cl : Int} (D : tB bl) (hL : 0 ≤ L ∧ L ≤ 300) (H8 : h0[8]? = some (900, tk_V)) (ht : 12 ≤ t ∧ t ≤ 33) (V : cL h0 h bl t L k v s p f q law st wn op br ls as_ cl ws fr) (hp : 0 ≤ p ∧ p ≤ L) (hf : f = 0) (HC : hC h0) (hcl : 0 ≤ cl ∧ cl ≤ 23) : wl_R n (d + 4) 51 0 [some (.ref 93), some (wp_i 4), none, none] [] h (fun w h1 => w = none ∧ ∃ k' v' q' r' f', xr (bt bl L) (dl 4) p s f' q' r' ∧ (p ≤ q' ∧ q' ≤ r' ∧ r' ≤ L) ∧ cL h0 h1 bl t L k' v' q' r' f' (if f' = 0 then q else q') law st wn op br ls as_ (cl + 1) ws fr) := by
  subst hf
  refine wl_s (pc' := 1) ji_51_0 rfl rfl rfl ?_
  refine wl_gs ji_51_1 jst_51_97 ?_
  refine wl_s (pc' := 5) ji_51_4 rfl rfl rfl ?_
  refine wl_ial (x := 4) ji_51_5 ((V.2.2.2.2.2 1 (by omega) (by decide) (by decide) (by decide)).trans HC.1) (by decide) (by decide) (by decide) (v := wp_i 1) rfl ?_
  refine wl_gs ji_51_6 jst_51_100 ?_
  refine wl_s (pc' := 10) ji_51_9 rfl rfl rfl ?_
  refine wl_ial (x := 4) ji_51_10 ((V.2.2.2.2.2 2 (by omega) (by decide) (by decide) (by decide)).trans HC.2.1) (by decide) (by decide) (by decide) (v := wp_i 9) rfl ?_
  refine wl_vc (d := d + 3) (as := [.ref 93, wp_i 1, wp_i 9]) (rest := []) ji_51_11 jc_51_103 rfl (cl_93 V) jk_52.symm (Nat.le_of_ble_eq_true rfl) rfl (by rw [jn_52]; rfl) (wc_rn (d := d) (a := 1) (b := 9) D hL H8 ht V (by omega) rfl (by omega)) (fun v1 h21 R => ?_)
  obtain ⟨⟨y1, rfl⟩, k1, v1, q1, r1, tk1, hq1, V⟩ := R
  show wl_R _ _ 51 14 [some (.ref 93), some (wp_i 4), none, none] [wp_i y1] h21 _
  have hxr1 : 0 ≤ xn 1 9 k1 v1 ∧ xn 1 9 k1 v1 ≤ 2 := xe_r (c := 0)
  obtain ⟨e1, he1⟩ : ∃ e, xn 1 9 k1 v1 = e := ⟨_, rfl⟩
  rw [he1] at V hxr1
  by_cases hx1 : e1 = 0
  · rw [if_pos hx1, hx1] at V
    rw [hx1] at he1
    refine wl_s (pc' := 15) (lv' := [some (.ref 93), some (wp_i 4), some (wp_i y1), none]) ji_51_14 rfl rfl rfl ?_
    refine wl_s (pc' := 16) ji_51_15 rfl rfl rfl ?_
    refine wl_s (pc' := 17) (lv' := [some (.ref 93), some (wp_i 4), some (wp_i y1), some (wp_i 0)]) ji_51_16 rfl rfl rfl ?_
    refine wl_gs ji_51_17 jst_51_107 ?_
    refine wl_s (pc' := 21) ji_51_20 rfl rfl rfl ?_
    refine wl_ial (x := 4) ji_51_21 ((V.2.2.2.2.2 3 (by omega) (by decide) (by decide) (by decide)).trans HC.2.2.1) (by decide) (by decide) (by decide) (v := wp_i (-1)) rfl ?_
    refine wl_s (pc' := 23) ji_51_22 rfl rfl rfl ?_
    refine wl_icmp (t := 51) ji_51_23 rfl (by omega) (by omega) (fun (hb1 : (-1 : Int) = (-1)) => ?_) (fun (hb1 : ¬ ((-1 : Int) = (-1))) => (by exfalso; omega))
    refine wl_s (pc' := 52) ji_51_51 rfl rfl rfl ?_
    refine wl_s (pc' := 53) ji_51_52 rfl rfl rfl ?_
    refine wl_bp ji_51_53 rfl ?_
    refine wl_vc (d := d + 3) (as := [.ref 93, wp_i 2, wp_i 59]) (rest := []) ji_51_55 jc_51_110 rfl (cl_93 V) jk_53.symm (Nat.le_of_ble_eq_true rfl) rfl (by rw [jn_53]; rfl) (wc_rt (d := d) (a := 2) (b := 59) D hL H8 ht V (by omega) rfl (by omega)) (fun v1 h22 R => ?_)
    obtain ⟨rfl, k2, v2, q2, r2, tk2, hq2, V⟩ := R
    show wl_R _ _ 51 58 [some (.ref 93), some (wp_i 4), some (wp_i y1), some (wp_i 0)] [] h22 _
    have hxr2 : 0 ≤ xt 2 59 k2 v2 ∧ xt 2 59 k2 v2 ≤ 2 := xe_r (c := 1)
    obtain ⟨e2, he2⟩ : ∃ e, xt 2 59 k2 v2 = e := ⟨_, rfl⟩
    rw [he2] at V hxr2
    by_cases hx2 : e2 = 0
    · rw [if_pos hx2, hx2] at V
      rw [hx2] at he2
      refine wl_s (pc' := 59) ji_51_58 rfl rfl rfl ?_
      refine cl_g V ji_51_59 jf_51_51 rfl ?_
      refine wl_s (pc' := 63) ji_51_62 rfl rfl rfl ?_
      refine wl_s (pc' := 64) ji_51_63 rfl rfl rfl ?_
      refine wl_s (pc' := 65) ji_51_64 rfl rfl rfl ?_
      obtain ⟨tfs, htc⟩ := cl_tc V
      refine wl_vc (d := d + 3) (as := [.ref t, wp_i 4, wp_i y1, wp_i 0]) (rest := []) ji_51_65 jc_51_120 rfl htc jk_50.symm (Nat.le_of_ble_eq_true rfl) rfl (by rw [jn_50]; rfl) (wc_ac ht V hcl) (fun v1 h8 R => ?_)
      obtain ⟨rfl, V⟩ := R
      show wl_R _ _ 51 68 [some (.ref 93), some (wp_i 4), some (wp_i y1), some (wp_i 0)] [] h8 _
      rw [show dl 4 = [(0, 1, 9), (1, 2, 59)] from rfl]
      exact wl_rv ji_51_68 jr_51 ⟨rfl, k2, v2, q2, r2, 0, ⟨k1, v1, q1, r1, tk1, Or.inr ⟨(show xe 0 1 9 k1 v1 = 0 from he1), ⟨k2, v2, q2, r2, tk2, Or.inr ⟨(show xe 1 2 59 k2 v2 = 0 from he2), ⟨rfl, rfl, rfl⟩⟩⟩⟩⟩, by omega, by rw [if_pos rfl]; exact V⟩
    · rw [if_neg hx2] at V
      refine wl_s (pc' := 59) ji_51_58 rfl rfl rfl ?_
      refine cl_g V ji_51_59 jf_51_51 rfl ?_
      refine wl_s (pc' := 63) ji_51_62 rfl rfl rfl ?_
      refine wl_s (pc' := 64) ji_51_63 rfl rfl rfl ?_
      refine wl_s (pc' := 65) ji_51_64 rfl rfl rfl ?_
      obtain ⟨tfs, htc⟩ := cl_tc V
      refine wl_vc (d := d + 3) (as := [.ref t, wp_i 4, wp_i y1, wp_i 0]) (rest := []) ji_51_65 jc_51_120 rfl htc jk_50.symm (Nat.le_of_ble_eq_true rfl) rfl (by rw [jn_50]; rfl) (wc_ac ht V hcl) (fun v1 h8 R => ?_)
      obtain ⟨rfl, V⟩ := R
      show wl_R _ _ 51 68 [some (.ref 93), some (wp_i 4), some (wp_i y1), some (wp_i 0)] [] h8 _
      rw [show dl 4 = [(0, 1, 9), (1, 2, 59)] from rfl]
      exact wl_rv ji_51_68 jr_51 ⟨rfl, k2, v2, q2, r2, e2, ⟨k1, v1, q1, r1, tk1, Or.inr ⟨(show xe 0 1 9 k1 v1 = 0 from he1), ⟨k2, v2, q2, r2, tk2, Or.inl ⟨by rw [(show xe 1 2 59 k2 v2 = e2 from he2)]; exact hx2, (show xe 1 2 59 k2 v2 = e2 from he2).symm, rfl, rfl⟩⟩⟩⟩, by omega, by rw [if_neg hx2]; exact V⟩
  · rw [if_neg hx1] at V
    refine wl_s (pc' := 15) (lv' := [some (.ref 93), some (wp_i 4), some (wp_i y1), none]) ji_51_14 rfl rfl rfl ?_
    refine wl_s (pc' := 16) ji_51_15 rfl rfl rfl ?_
    refine wl_s (pc' := 17) (lv' := [some (.ref 93), some (wp_i 4), some (wp_i y1), some (wp_i 0)]) ji_51_16 rfl rfl rfl ?_
    refine wl_gs ji_51_17 jst_51_107 ?_
    refine wl_s (pc' := 21) ji_51_20 rfl rfl rfl ?_
    refine wl_ial (x := 4) ji_51_21 ((V.2.2.2.2.2 3 (by omega) (by decide) (by decide) (by decide)).trans HC.2.2.1) (by decide) (by decide) (by decide) (v := wp_i (-1)) rfl ?_
    refine wl_s (pc' := 23) ji_51_22 rfl rfl rfl ?_
    refine wl_icmp (t := 51) ji_51_23 rfl (by omega) (by omega) (fun (hb2 : (-1 : Int) = (-1)) => ?_) (fun (hb2 : ¬ ((-1 : Int) = (-1))) => (by exfalso; omega))
    refine wl_s (pc' := 52) ji_51_51 rfl rfl rfl ?_
    refine wl_s (pc' := 53) ji_51_52 rfl rfl rfl ?_
    refine wl_bp ji_51_53 rfl ?_
    refine wl_vc (d := d + 3) (as := [.ref 93, wp_i 2, wp_i 59]) (rest := []) ji_51_55 jc_51_110 rfl (cl_93 V) jk_53.symm (Nat.le_of_ble_eq_true rfl) rfl (by rw [jn_53]; rfl) (wc_rt0 D hL H8 ht V (by omega) ⟨hx1, by omega⟩) (fun v1 h9 R => ?_)
    obtain ⟨rfl, e1⟩ := R
    subst e1
    show wl_R _ _ 51 58 [some (.ref 93), some (wp_i 4), some (wp_i y1), some (wp_i 0)] [] h9 _
    refine wl_s (pc' := 59) ji_51_58 rfl rfl rfl ?_
    refine cl_g V ji_51_59 jf_51_51 rfl ?_
    refine wl_s (pc' := 63) ji_51_62 rfl rfl rfl ?_
    refine wl_s (pc' := 64) ji_51_63 rfl rfl rfl ?_
    refine wl_s (pc' := 65) ji_51_64 rfl rfl rfl ?_
    obtain ⟨tfs, htc⟩ := cl_tc V
    refine wl_vc (d := d + 3) (as := [.ref t, wp_i 4, wp_i y1, wp_i 0]) (rest := []) ji_51_65 jc_51_120 rfl htc jk_50.symm (Nat.le_of_ble_eq_true rfl) rfl (by rw [jn_50]; rfl) (wc_ac ht V hcl) (fun v1 h8 R => ?_)
    obtain ⟨rfl, V⟩ := R
    show wl_R _ _ 51 68 [some (.ref 93), some (wp_i 4), some (wp_i y1), some (wp_i 0)] [] h8 _
    rw [show dl 4 = [(0, 1, 9), (1, 2, 59)] from rfl]
    exact wl_rv ji_51_68 jr_51 ⟨rfl, k1, v1, q1, r1, e1, ⟨k1, v1, q1, r1, tk1, Or.inl ⟨by rw [(show xe 0 1 9 k1 v1 = e1 from he1)]; exact hx1, (show xe 0 1 9 k1 v1 = e1 from he1).symm, rfl, rfl⟩⟩, by omega, by rw [if_neg hx1]; exact V⟩
theorem wc_d5 {n d : Nat} {h0 h : mj_H} {bl ws fr : List Value} {t : Nat} {L k v s p f q law st wn op br ls as_ cl : Int} (D : tB bl) (hL : 0 ≤ L ∧ L ≤ 300) (H8 : h0[8]? = some (900, tk_V)) (ht : 12 ≤ t ∧ t ≤ 33) (V : cL h0 h bl t L k v s p f q law st wn op br ls as_ cl ws fr) (hp : 0 ≤ p ∧ p ≤ L) (hf : f = 0) (HC : hC h0) (hcl : 0 ≤ cl ∧ cl ≤ 23) : wl_R n (d + 4) 51 0 [some (.ref 93), some (wp_i 5), none, none] [] h (fun w h1 => w = none ∧ ∃ k' v' q' r' f', xr (bt bl L) (dl 5) p s f' q' r' ∧ (p ≤ q' ∧ q' ≤ r' ∧ r' ≤ L) ∧ cL h0 h1 bl t L k' v' q' r' f' (if f' = 0 then q else q') law st wn op br ls as_ (cl + 1) ws fr) := by
  subst hf
  refine wl_s (pc' := 1) ji_51_0 rfl rfl rfl ?_
  refine wl_gs ji_51_1 jst_51_97 ?_
  refine wl_s (pc' := 5) ji_51_4 rfl rfl rfl ?_
  refine wl_ial (x := 5) ji_51_5 ((V.2.2.2.2.2 1 (by omega) (by decide) (by decide) (by decide)).trans HC.1) (by decide) (by decide) (by decide) (v := wp_i 0) rfl ?_
  refine wl_gs ji_51_6 jst_51_100 ?_
  refine wl_s (pc' := 10) ji_51_9 rfl rfl rfl ?_
  refine wl_ial (x := 5) ji_51_10 ((V.2.2.2.2.2 2 (by omega) (by decide) (by decide) (by decide)).trans HC.2.1) (by decide) (by decide) (by decide) (v := wp_i 5) rfl ?_
  refine wl_vc (d := d + 3) (as := [.ref 93, wp_i 0, wp_i 5]) (rest := []) ji_51_11 jc_51_103 rfl (cl_93 V) jk_52.symm (Nat.le_of_ble_eq_true rfl) rfl (by rw [jn_52]; rfl) (wc_rn (d := d) (a := 0) (b := 5) D hL H8 ht V (by omega) rfl (by omega)) (fun v1 h21 R => ?_)
  obtain ⟨⟨y1, rfl⟩, k1, v1, q1, r1, tk1, hq1, V⟩ := R
  show wl_R _ _ 51 14 [some (.ref 93), some (wp_i 5), none, none] [wp_i y1] h21 _
  have hxr1 : 0 ≤ xn 0 5 k1 v1 ∧ xn 0 5 k1 v1 ≤ 2 := xe_r (c := 0)
  obtain ⟨e1, he1⟩ : ∃ e, xn 0 5 k1 v1 = e := ⟨_, rfl⟩
  rw [he1] at V hxr1
  by_cases hx1 : e1 = 0
  · rw [if_pos hx1, hx1] at V
    rw [hx1] at he1
    refine wl_s (pc' := 15) (lv' := [some (.ref 93), some (wp_i 5), some (wp_i y1), none]) ji_51_14 rfl rfl rfl ?_
    refine wl_s (pc' := 16) ji_51_15 rfl rfl rfl ?_
    refine wl_s (pc' := 17) (lv' := [some (.ref 93), some (wp_i 5), some (wp_i y1), some (wp_i 0)]) ji_51_16 rfl rfl rfl ?_
    refine wl_gs ji_51_17 jst_51_107 ?_
    refine wl_s (pc' := 21) ji_51_20 rfl rfl rfl ?_
    refine wl_ial (x := 5) ji_51_21 ((V.2.2.2.2.2 3 (by omega) (by decide) (by decide) (by decide)).trans HC.2.2.1) (by decide) (by decide) (by decide) (v := wp_i 11) rfl ?_
    refine wl_s (pc' := 23) ji_51_22 rfl rfl rfl ?_
    refine wl_icmp (t := 51) ji_51_23 rfl (by omega) (by omega) (fun (hb1 : (11 : Int) = (-1)) => (by exfalso; omega)) (fun (hb1 : ¬ ((11 : Int) = (-1))) => ?_)
    refine wl_s (pc' := 27) ji_51_26 rfl rfl rfl ?_
    refine wl_s (pc' := 28) ji_51_27 rfl rfl rfl ?_
    refine wl_gs ji_51_28 jst_51_107 ?_
    refine wl_s (pc' := 32) ji_51_31 rfl rfl rfl ?_
    refine wl_ial (x := 5) ji_51_32 ((V.2.2.2.2.2 3 (by omega) (by decide) (by decide) (by decide)).trans HC.2.2.1) (by decide) (by decide) (by decide) (v := wp_i 11) rfl ?_
    refine wl_vc (d := d + 3) (as := [.ref 93, wp_i 0, wp_i 11]) (rest := []) ji_51_33 jc_51_110 rfl (cl_93 V) jk_53.symm (Nat.le_of_ble_eq_true rfl) rfl (by rw [jn_53]; rfl) (wc_rt (d := d) (a := 0) (b := 11) D hL H8 ht V (by omega) rfl (by omega)) (fun v1 h22 R => ?_)
    obtain ⟨rfl, k2, v2, q2, r2, tk2, hq2, V⟩ := R
    show wl_R _ _ 51 36 [some (.ref 93), some (wp_i 5), some (wp_i y1), some (wp_i 0)] [] h22 _
    have hxr2 : 0 ≤ xt 0 11 k2 v2 ∧ xt 0 11 k2 v2 ≤ 2 := xe_r (c := 1)
    obtain ⟨e2, he2⟩ : ∃ e, xt 0 11 k2 v2 = e := ⟨_, rfl⟩
    rw [he2] at V hxr2
    by_cases hx2 : e2 = 0
    · rw [if_pos hx2, hx2] at V
      rw [hx2] at he2
      refine wl_s (pc' := 37) ji_51_36 rfl rfl rfl ?_
      refine wl_gs ji_51_37 jst_51_114 ?_
      refine wl_s (pc' := 41) ji_51_40 rfl rfl rfl ?_
      refine wl_ial (x := 5) ji_51_41 ((V.2.2.2.2.2 4 (by omega) (by decide) (by decide) (by decide)).trans HC.2.2.2.1) (by decide) (by decide) (by decide) (v := wp_i 0) rfl ?_
      refine wl_gs ji_51_42 jst_51_117 ?_
      refine wl_s (pc' := 46) ji_51_45 rfl rfl rfl ?_
      refine wl_ial (x := 5) ji_51_46 ((V.2.2.2.2.2 5 (by omega) (by decide) (by decide) (by decide)).trans HC.2.2.2.2) (by decide) (by decide) (by decide) (v := wp_i 7) rfl ?_
      refine wl_vc (d := d + 3) (as := [.ref 93, wp_i 0, wp_i 7]) (rest := []) ji_51_47 jc_51_103 rfl (cl_93 V) jk_52.symm (Nat.le_of_ble_eq_true rfl) rfl (by rw [jn_52]; rfl) (wc_rn (d := d) (a := 0) (b := 7) D hL H8 ht V (by omega) rfl (by omega)) (fun v1 h23 R => ?_)
      obtain ⟨⟨y3, rfl⟩, k3, v3, q3, r3, tk3, hq3, V⟩ := R
      show wl_R _ _ 51 50 [some (.ref 93), some (wp_i 5), some (wp_i y1), some (wp_i 0)] [wp_i y3] h23 _
      have hxr3 : 0 ≤ xn 0 7 k3 v3 ∧ xn 0 7 k3 v3 ≤ 2 := xe_r (c := 0)
      obtain ⟨e3, he3⟩ : ∃ e, xn 0 7 k3 v3 = e := ⟨_, rfl⟩
      rw [he3] at V hxr3
      by_cases hx3 : e3 = 0
      · rw [if_pos hx3, hx3] at V
        rw [hx3] at he3
        refine wl_s (pc' := 51) (lv' := [some (.ref 93), some (wp_i 5), some (wp_i y1), some (wp_i y3)]) ji_51_50 rfl rfl rfl ?_
        refine wl_s (pc' := 52) ji_51_51 rfl rfl rfl ?_
        refine wl_s (pc' := 53) ji_51_52 rfl rfl rfl ?_
        refine wl_bp ji_51_53 rfl ?_
        refine wl_vc (d := d + 3) (as := [.ref 93, wp_i 2, wp_i 59]) (rest := []) ji_51_55 jc_51_110 rfl (cl_93 V) jk_53.symm (Nat.le_of_ble_eq_true rfl) rfl (by rw [jn_53]; rfl) (wc_rt (d := d) (a := 2) (b := 59) D hL H8 ht V (by omega) rfl (by omega)) (fun v1 h24 R => ?_)
        obtain ⟨rfl, k4, v4, q4, r4, tk4, hq4, V⟩ := R
        show wl_R _ _ 51 58 [some (.ref 93), some (wp_i 5), some (wp_i y1), some (wp_i y3)] [] h24 _
        have hxr4 : 0 ≤ xt 2 59 k4 v4 ∧ xt 2 59 k4 v4 ≤ 2 := xe_r (c := 1)
        obtain ⟨e4, he4⟩ : ∃ e, xt 2 59 k4 v4 = e := ⟨_, rfl⟩
        rw [he4] at V hxr4
        by_cases hx4 : e4 = 0
        · rw [if_pos hx4, hx4] at V
          rw [hx4] at he4
          refine wl_s (pc' := 59) ji_51_58 rfl rfl rfl ?_
          refine cl_g V ji_51_59 jf_51_51 rfl ?_
          refine wl_s (pc' := 63) ji_51_62 rfl rfl rfl ?_
          refine wl_s (pc' := 64) ji_51_63 rfl rfl rfl ?_
          refine wl_s (pc' := 65) ji_51_64 rfl rfl rfl ?_
          obtain ⟨tfs, htc⟩ := cl_tc V
          refine wl_vc (d := d + 3) (as := [.ref t, wp_i 5, wp_i y1, wp_i y3]) (rest := []) ji_51_65 jc_51_120 rfl htc jk_50.symm (Nat.le_of_ble_eq_true rfl) rfl (by rw [jn_50]; rfl) (wc_ac ht V hcl) (fun v1 h8 R => ?_)
          obtain ⟨rfl, V⟩ := R
          show wl_R _ _ 51 68 [some (.ref 93), some (wp_i 5), some (wp_i y1), some (wp_i y3)] [] h8 _
          rw [show dl 5 = [(0, 0, 5), (1, 0, 11), (0, 0, 7), (1, 2, 59)] from rfl]
          exact wl_rv ji_51_68 jr_51 ⟨rfl, k4, v4, q4, r4, 0, ⟨k1, v1, q1, r1, tk1, Or.inr ⟨(show xe 0 0 5 k1 v1 = 0 from he1), ⟨k2, v2, q2, r2, tk2, Or.inr ⟨(show xe 1 0 11 k2 v2 = 0 from he2), ⟨k3, v3, q3, r3, tk3, Or.inr ⟨(show xe 0 0 7 k3 v3 = 0 from he3), ⟨k4, v4, q4, r4, tk4, Or.inr ⟨(show xe 1 2 59 k4 v4 = 0 from he4), ⟨rfl, rfl, rfl⟩⟩⟩⟩⟩⟩⟩⟩⟩, by omega, by rw [if_pos rfl]; exact V⟩
        · rw [if_neg hx4] at V
          refine wl_s (pc' := 59) ji_51_58 rfl rfl rfl ?_
          refine cl_g V ji_51_59 jf_51_51 rfl ?_
          refine wl_s (pc' := 63) ji_51_62 rfl rfl rfl ?_
          refine wl_s (pc' := 64) ji_51_63 rfl rfl rfl ?_
          refine wl_s (pc' := 65) ji_51_64 rfl rfl rfl ?_
          obtain ⟨tfs, htc⟩ := cl_tc V
          refine wl_vc (d := d + 3) (as := [.ref t, wp_i 5, wp_i y1, wp_i y3]) (rest := []) ji_51_65 jc_51_120 rfl htc jk_50.symm (Nat.le_of_ble_eq_true rfl) rfl (by rw [jn_50]; rfl) (wc_ac ht V hcl) (fun v1 h8 R => ?_)
          obtain ⟨rfl, V⟩ := R
          show wl_R _ _ 51 68 [some (.ref 93), some (wp_i 5), some (wp_i y1), some (wp_i y3)] [] h8 _
          rw [show dl 5 = [(0, 0, 5), (1, 0, 11), (0, 0, 7), (1, 2, 59)] from rfl]
          exact wl_rv ji_51_68 jr_51 ⟨rfl, k4, v4, q4, r4, e4, ⟨k1, v1, q1, r1, tk1, Or.inr ⟨(show xe 0 0 5 k1 v1 = 0 from he1), ⟨k2, v2, q2, r2, tk2, Or.inr ⟨(show xe 1 0 11 k2 v2 = 0 from he2), ⟨k3, v3, q3, r3, tk3, Or.inr ⟨(show xe 0 0 7 k3 v3 = 0 from he3), ⟨k4, v4, q4, r4, tk4, Or.inl ⟨by rw [(show xe 1 2 59 k4 v4 = e4 from he4)]; exact hx4, (show xe 1 2 59 k4 v4 = e4 from he4).symm, rfl, rfl⟩⟩⟩⟩⟩⟩⟩⟩, by omega, by rw [if_neg hx4]; exact V⟩
      · rw [if_neg hx3] at V
        refine wl_s (pc' := 51) (lv' := [some (.ref 93), some (wp_i 5), some (wp_i y1), some (wp_i y3)]) ji_51_50 rfl rfl rfl ?_
        refine wl_s (pc' := 52) ji_51_51 rfl rfl rfl ?_
        refine wl_s (pc' := 53) ji_51_52 rfl rfl rfl ?_
        refine wl_bp ji_51_53 rfl ?_
        refine wl_vc (d := d + 3) (as := [.ref 93, wp_i 2, wp_i 59]) (rest := []) ji_51_55 jc_51_110 rfl (cl_93 V) jk_53.symm (Nat.le_of_ble_eq_true rfl) rfl (by rw [jn_53]; rfl) (wc_rt0 D hL H8 ht V (by omega) ⟨hx3, by omega⟩) (fun v1 h9 R => ?_)
        obtain ⟨rfl, e1⟩ := R
        subst e1
        show wl_R _ _ 51 58 [some (.ref 93), some (wp_i 5), some (wp_i y1), some (wp_i y3)] [] h9 _
        refine wl_s (pc' := 59) ji_51_58 rfl rfl rfl ?_
        refine cl_g V ji_51_59 jf_51_51 rfl ?_
        refine wl_s (pc' := 63) ji_51_62 rfl rfl rfl ?_
        refine wl_s (pc' := 64) ji_51_63 rfl rfl rfl ?_
        refine wl_s (pc' := 65) ji_51_64 rfl rfl rfl ?_
        obtain ⟨tfs, htc⟩ := cl_tc V
        refine wl_vc (d := d + 3) (as := [.ref t, wp_i 5, wp_i y1, wp_i y3]) (rest := []) ji_51_65 jc_51_120 rfl htc jk_50.symm (Nat.le_of_ble_eq_true rfl) rfl (by rw [jn_50]; rfl) (wc_ac ht V hcl) (fun v1 h8 R => ?_)
        obtain ⟨rfl, V⟩ := R
        show wl_R _ _ 51 68 [some (.ref 93), some (wp_i 5), some (wp_i y1), some (wp_i y3)] [] h8 _
        rw [show dl 5 = [(0, 0, 5), (1, 0, 11), (0, 0, 7), (1, 2, 59)] from rfl]
        exact wl_rv ji_51_68 jr_51 ⟨rfl, k3, v3, q3, r3, e3, ⟨k1, v1, q1, r1, tk1, Or.inr ⟨(show xe 0 0 5 k1 v1 = 0 from he1), ⟨k2, v2, q2, r2, tk2, Or.inr ⟨(show xe 1 0 11 k2 v2 = 0 from he2), ⟨k3, v3, q3, r3, tk3, Or.inl ⟨by rw [(show xe 0 0 7 k3 v3 = e3 from he3)]; exact hx3, (show xe 0 0 7 k3 v3 = e3 from he3).symm, rfl, rfl⟩⟩⟩⟩⟩⟩, by omega, by rw [if_neg hx3]; exact V⟩
    · rw [if_neg hx2] at V
      refine wl_s (pc' := 37) ji_51_36 rfl rfl rfl ?_
      refine wl_gs ji_51_37 jst_51_114 ?_
      refine wl_s (pc' := 41) ji_51_40 rfl rfl rfl ?_
      refine wl_ial (x := 5) ji_51_41 ((V.2.2.2.2.2 4 (by omega) (by decide) (by decide) (by decide)).trans HC.2.2.2.1) (by decide) (by decide) (by decide) (v := wp_i 0) rfl ?_
      refine wl_gs ji_51_42 jst_51_117 ?_
      refine wl_s (pc' := 46) ji_51_45 rfl rfl rfl ?_
      refine wl_ial (x := 5) ji_51_46 ((V.2.2.2.2.2 5 (by omega) (by decide) (by decide) (by decide)).trans HC.2.2.2.2) (by decide) (by decide) (by decide) (v := wp_i 7) rfl ?_
      refine wl_vc (d := d + 3) (as := [.ref 93, wp_i 0, wp_i 7]) (rest := []) ji_51_47 jc_51_103 rfl (cl_93 V) jk_52.symm (Nat.le_of_ble_eq_true rfl) rfl (by rw [jn_52]; rfl) (wc_rn0 D hL H8 ht V (by omega) ⟨hx2, by omega⟩) (fun v1 h9 R => ?_)
      obtain ⟨rfl, e1⟩ := R
      subst e1
      show wl_R _ _ 51 50 [some (.ref 93), some (wp_i 5), some (wp_i y1), some (wp_i 0)] [wp_i 0] h9 _
      refine wl_s (pc' := 51) (lv' := [some (.ref 93), some (wp_i 5), some (wp_i y1), some (wp_i 0)]) ji_51_50 rfl rfl rfl ?_
      refine wl_s (pc' := 52) ji_51_51 rfl rfl rfl ?_
      refine wl_s (pc' := 53) ji_51_52 rfl rfl rfl ?_
      refine wl_bp ji_51_53 rfl ?_
      refine wl_vc (d := d + 3) (as := [.ref 93, wp_i 2, wp_i 59]) (rest := []) ji_51_55 jc_51_110 rfl (cl_93 V) jk_53.symm (Nat.le_of_ble_eq_true rfl) rfl (by rw [jn_53]; rfl) (wc_rt0 D hL H8 ht V (by omega) ⟨hx2, by omega⟩) (fun v1 h9 R => ?_)
      obtain ⟨rfl, e1⟩ := R
      subst e1
      show wl_R _ _ 51 58 [some (.ref 93), some (wp_i 5), some (wp_i y1), some (wp_i 0)] [] h9 _
      refine wl_s (pc' := 59) ji_51_58 rfl rfl rfl ?_
      refine cl_g V ji_51_59 jf_51_51 rfl ?_
      refine wl_s (pc' := 63) ji_51_62 rfl rfl rfl ?_
      refine wl_s (pc' := 64) ji_51_63 rfl rfl rfl ?_
      refine wl_s (pc' := 65) ji_51_64 rfl rfl rfl ?_
      obtain ⟨tfs, htc⟩ := cl_tc V
      refine wl_vc (d := d + 3) (as := [.ref t, wp_i 5, wp_i y1, wp_i 0]) (rest := []) ji_51_65 jc_51_120 rfl htc jk_50.symm (Nat.le_of_ble_eq_true rfl) rfl (by rw [jn_50]; rfl) (wc_ac ht V hcl) (fun v1 h8 R => ?_)
      obtain ⟨rfl, V⟩ := R
      show wl_R _ _ 51 68 [some (.ref 93), some (wp_i 5), some (wp_i y1), some (wp_i 0)] [] h8 _
      rw [show dl 5 = [(0, 0, 5), (1, 0, 11), (0, 0, 7), (1, 2, 59)] from rfl]
      exact wl_rv ji_51_68 jr_51 ⟨rfl, k2, v2, q2, r2, e2, ⟨k1, v1, q1, r1, tk1, Or.inr ⟨(show xe 0 0 5 k1 v1 = 0 from he1), ⟨k2, v2, q2, r2, tk2, Or.inl ⟨by rw [(show xe 1 0 11 k2 v2 = e2 from he2)]; exact hx2, (show xe 1 0 11 k2 v2 = e2 from he2).symm, rfl, rfl⟩⟩⟩⟩, by omega, by rw [if_neg hx2]; exact V⟩
  · rw [if_neg hx1] at V
    refine wl_s (pc' := 15) (lv' := [some (.ref 93), some (wp_i 5), some (wp_i y1), none]) ji_51_14 rfl rfl rfl ?_
    refine wl_s (pc' := 16) ji_51_15 rfl rfl rfl ?_
    refine wl_s (pc' := 17) (lv' := [some (.ref 93), some (wp_i 5), some (wp_i y1), some (wp_i 0)]) ji_51_16 rfl rfl rfl ?_
    refine wl_gs ji_51_17 jst_51_107 ?_
    refine wl_s (pc' := 21) ji_51_20 rfl rfl rfl ?_
    refine wl_ial (x := 5) ji_51_21 ((V.2.2.2.2.2 3 (by omega) (by decide) (by decide) (by decide)).trans HC.2.2.1) (by decide) (by decide) (by decide) (v := wp_i 11) rfl ?_
    refine wl_s (pc' := 23) ji_51_22 rfl rfl rfl ?_
    refine wl_icmp (t := 51) ji_51_23 rfl (by omega) (by omega) (fun (hb2 : (11 : Int) = (-1)) => (by exfalso; omega)) (fun (hb2 : ¬ ((11 : Int) = (-1))) => ?_)
    refine wl_s (pc' := 27) ji_51_26 rfl rfl rfl ?_
    refine wl_s (pc' := 28) ji_51_27 rfl rfl rfl ?_
    refine wl_gs ji_51_28 jst_51_107 ?_
    refine wl_s (pc' := 32) ji_51_31 rfl rfl rfl ?_
    refine wl_ial (x := 5) ji_51_32 ((V.2.2.2.2.2 3 (by omega) (by decide) (by decide) (by decide)).trans HC.2.2.1) (by decide) (by decide) (by decide) (v := wp_i 11) rfl ?_
    refine wl_vc (d := d + 3) (as := [.ref 93, wp_i 0, wp_i 11]) (rest := []) ji_51_33 jc_51_110 rfl (cl_93 V) jk_53.symm (Nat.le_of_ble_eq_true rfl) rfl (by rw [jn_53]; rfl) (wc_rt0 D hL H8 ht V (by omega) ⟨hx1, by omega⟩) (fun v1 h9 R => ?_)
    obtain ⟨rfl, e1⟩ := R
    subst e1
    show wl_R _ _ 51 36 [some (.ref 93), some (wp_i 5), some (wp_i y1), some (wp_i 0)] [] h9 _
    refine wl_s (pc' := 37) ji_51_36 rfl rfl rfl ?_
    refine wl_gs ji_51_37 jst_51_114 ?_
    refine wl_s (pc' := 41) ji_51_40 rfl rfl rfl ?_
    refine wl_ial (x := 5) ji_51_41 ((V.2.2.2.2.2 4 (by omega) (by decide) (by decide) (by decide)).trans HC.2.2.2.1) (by decide) (by decide) (by decide) (v := wp_i 0) rfl ?_
    refine wl_gs ji_51_42 jst_51_117 ?_
    refine wl_s (pc' := 46) ji_51_45 rfl rfl rfl ?_
    refine wl_ial (x := 5) ji_51_46 ((V.2.2.2.2.2 5 (by omega) (by decide) (by decide) (by decide)).trans HC.2.2.2.2) (by decide) (by decide) (by decide) (v := wp_i 7) rfl ?_
    refine wl_vc (d := d + 3) (as := [.ref 93, wp_i 0, wp_i 7]) (rest := []) ji_51_47 jc_51_103 rfl (cl_93 V) jk_52.symm (Nat.le_of_ble_eq_true rfl) rfl (by rw [jn_52]; rfl) (wc_rn0 D hL H8 ht V (by omega) ⟨hx1, by omega⟩) (fun v1 h9 R => ?_)
    obtain ⟨rfl, e1⟩ := R
    subst e1
    show wl_R _ _ 51 50 [some (.ref 93), some (wp_i 5), some (wp_i y1), some (wp_i 0)] [wp_i 0] h9 _
    refine wl_s (pc' := 51) (lv' := [some (.ref 93), some (wp_i 5), some (wp_i y1), some (wp_i 0)]) ji_51_50 rfl rfl rfl ?_
    refine wl_s (pc' := 52) ji_51_51 rfl rfl rfl ?_
    refine wl_s (pc' := 53) ji_51_52 rfl rfl rfl ?_
    refine wl_bp ji_51_53 rfl ?_
    refine wl_vc (d := d + 3) (as := [.ref 93, wp_i 2, wp_i 59]) (rest := []) ji_51_55 jc_51_110 rfl (cl_93 V) jk_53.symm (Nat.le_of_ble_eq_true rfl) rfl (by rw [jn_53]; rfl) (wc_rt0 D hL H8 ht V (by omega) ⟨hx1, by omega⟩) (fun v1 h9 R => ?_)
    obtain ⟨rfl, e1⟩ := R
    subst e1
    show wl_R _ _ 51 58 [some (.ref 93), some (wp_i 5), some (wp_i y1), some (wp_i 0)] [] h9 _
    refine wl_s (pc' := 59) ji_51_58 rfl rfl rfl ?_
    refine cl_g V ji_51_59 jf_51_51 rfl ?_
    refine wl_s (pc' := 63) ji_51_62 rfl rfl rfl ?_
    refine wl_s (pc' := 64) ji_51_63 rfl rfl rfl ?_
    refine wl_s (pc' := 65) ji_51_64 rfl rfl rfl ?_
    obtain ⟨tfs, htc⟩ := cl_tc V
    refine wl_vc (d := d + 3) (as := [.ref t, wp_i 5, wp_i y1, wp_i 0]) (rest := []) ji_51_65 jc_51_120 rfl htc jk_50.symm (Nat.le_of_ble_eq_true rfl) rfl (by rw [jn_50]; rfl) (wc_ac ht V hcl) (fun v1 h8 R => ?_)
    obtain ⟨rfl, V⟩ := R
    show wl_R _ _ 51 68 [some (.ref 93), some (wp_i 5), some (wp_i y1), some (wp_i 0)] [] h8 _
    rw [show dl 5 = [(0, 0, 5), (1, 0, 11), (0, 0, 7), (1, 2, 59)] from rfl]
    exact wl_rv ji_51_68 jr_51 ⟨rfl, k1, v1, q1, r1, e1, ⟨k1, v1, q1, r1, tk1, Or.inl ⟨by rw [(show xe 0 0 5 k1 v1 = e1 from he1)]; exact hx1, (show xe 0 0 5 k1 v1 = e1 from he1).symm, rfl, rfl⟩⟩, by omega, by rw [if_neg hx1]; exact V⟩
theorem wc_d6 {n d : Nat} {h0 h : mj_H} {bl ws fr : List Value} {t : Nat} {L k v s p f q law st wn op br ls as_ cl : Int} (D : tB bl) (hL : 0 ≤ L ∧ L ≤ 300) (H8 : h0[8]? = some (900, tk_V)) (ht : 12 ≤ t ∧ t ≤ 33) (V : cL h0 h bl t L k v s p f q law st wn op br ls as_ cl ws fr) (hp : 0 ≤ p ∧ p ≤ L) (hf : f = 0) (HC : hC h0) (hcl : 0 ≤ cl ∧ cl ≤ 23) : wl_R n (d + 4) 51 0 [some (.ref 93), some (wp_i 6), none, none] [] h (fun w h1 => w = none ∧ ∃ k' v' q' r' f', xr (bt bl L) (dl 6) p s f' q' r' ∧ (p ≤ q' ∧ q' ≤ r' ∧ r' ≤ L) ∧ cL h0 h1 bl t L k' v' q' r' f' (if f' = 0 then q else q') law st wn op br ls as_ (cl + 1) ws fr) := by
  subst hf
  refine wl_s (pc' := 1) ji_51_0 rfl rfl rfl ?_
  refine wl_gs ji_51_1 jst_51_97 ?_
  refine wl_s (pc' := 5) ji_51_4 rfl rfl rfl ?_
  refine wl_ial (x := 6) ji_51_5 ((V.2.2.2.2.2 1 (by omega) (by decide) (by decide) (by decide)).trans HC.1) (by decide) (by decide) (by decide) (v := wp_i 0) rfl ?_
  refine wl_gs ji_51_6 jst_51_100 ?_
  refine wl_s (pc' := 10) ji_51_9 rfl rfl rfl ?_
  refine wl_ial (x := 6) ji_51_10 ((V.2.2.2.2.2 2 (by omega) (by decide) (by decide) (by decide)).trans HC.2.1) (by decide) (by decide) (by decide) (v := wp_i 5) rfl ?_
  refine wl_vc (d := d + 3) (as := [.ref 93, wp_i 0, wp_i 5]) (rest := []) ji_51_11 jc_51_103 rfl (cl_93 V) jk_52.symm (Nat.le_of_ble_eq_true rfl) rfl (by rw [jn_52]; rfl) (wc_rn (d := d) (a := 0) (b := 5) D hL H8 ht V (by omega) rfl (by omega)) (fun v1 h21 R => ?_)
  obtain ⟨⟨y1, rfl⟩, k1, v1, q1, r1, tk1, hq1, V⟩ := R
  show wl_R _ _ 51 14 [some (.ref 93), some (wp_i 6), none, none] [wp_i y1] h21 _
  have hxr1 : 0 ≤ xn 0 5 k1 v1 ∧ xn 0 5 k1 v1 ≤ 2 := xe_r (c := 0)
  obtain ⟨e1, he1⟩ : ∃ e, xn 0 5 k1 v1 = e := ⟨_, rfl⟩
  rw [he1] at V hxr1
  by_cases hx1 : e1 = 0
  · rw [if_pos hx1, hx1] at V
    rw [hx1] at he1
    refine wl_s (pc' := 15) (lv' := [some (.ref 93), some (wp_i 6), some (wp_i y1), none]) ji_51_14 rfl rfl rfl ?_
    refine wl_s (pc' := 16) ji_51_15 rfl rfl rfl ?_
    refine wl_s (pc' := 17) (lv' := [some (.ref 93), some (wp_i 6), some (wp_i y1), some (wp_i 0)]) ji_51_16 rfl rfl rfl ?_
    refine wl_gs ji_51_17 jst_51_107 ?_
    refine wl_s (pc' := 21) ji_51_20 rfl rfl rfl ?_
    refine wl_ial (x := 6) ji_51_21 ((V.2.2.2.2.2 3 (by omega) (by decide) (by decide) (by decide)).trans HC.2.2.1) (by decide) (by decide) (by decide) (v := wp_i 11) rfl ?_
    refine wl_s (pc' := 23) ji_51_22 rfl rfl rfl ?_
    refine wl_icmp (t := 51) ji_51_23 rfl (by omega) (by omega) (fun (hb1 : (11 : Int) = (-1)) => (by exfalso; omega)) (fun (hb1 : ¬ ((11 : Int) = (-1))) => ?_)
    refine wl_s (pc' := 27) ji_51_26 rfl rfl rfl ?_
    refine wl_s (pc' := 28) ji_51_27 rfl rfl rfl ?_
    refine wl_gs ji_51_28 jst_51_107 ?_
    refine wl_s (pc' := 32) ji_51_31 rfl rfl rfl ?_
    refine wl_ial (x := 6) ji_51_32 ((V.2.2.2.2.2 3 (by omega) (by decide) (by decide) (by decide)).trans HC.2.2.1) (by decide) (by decide) (by decide) (v := wp_i 11) rfl ?_
    refine wl_vc (d := d + 3) (as := [.ref 93, wp_i 0, wp_i 11]) (rest := []) ji_51_33 jc_51_110 rfl (cl_93 V) jk_53.symm (Nat.le_of_ble_eq_true rfl) rfl (by rw [jn_53]; rfl) (wc_rt (d := d) (a := 0) (b := 11) D hL H8 ht V (by omega) rfl (by omega)) (fun v1 h22 R => ?_)
    obtain ⟨rfl, k2, v2, q2, r2, tk2, hq2, V⟩ := R
    show wl_R _ _ 51 36 [some (.ref 93), some (wp_i 6), some (wp_i y1), some (wp_i 0)] [] h22 _
    have hxr2 : 0 ≤ xt 0 11 k2 v2 ∧ xt 0 11 k2 v2 ≤ 2 := xe_r (c := 1)
    obtain ⟨e2, he2⟩ : ∃ e, xt 0 11 k2 v2 = e := ⟨_, rfl⟩
    rw [he2] at V hxr2
    by_cases hx2 : e2 = 0
    · rw [if_pos hx2, hx2] at V
      rw [hx2] at he2
      refine wl_s (pc' := 37) ji_51_36 rfl rfl rfl ?_
      refine wl_gs ji_51_37 jst_51_114 ?_
      refine wl_s (pc' := 41) ji_51_40 rfl rfl rfl ?_
      refine wl_ial (x := 6) ji_51_41 ((V.2.2.2.2.2 4 (by omega) (by decide) (by decide) (by decide)).trans HC.2.2.2.1) (by decide) (by decide) (by decide) (v := wp_i 0) rfl ?_
      refine wl_gs ji_51_42 jst_51_117 ?_
      refine wl_s (pc' := 46) ji_51_45 rfl rfl rfl ?_
      refine wl_ial (x := 6) ji_51_46 ((V.2.2.2.2.2 5 (by omega) (by decide) (by decide) (by decide)).trans HC.2.2.2.2) (by decide) (by decide) (by decide) (v := wp_i 7) rfl ?_
      refine wl_vc (d := d + 3) (as := [.ref 93, wp_i 0, wp_i 7]) (rest := []) ji_51_47 jc_51_103 rfl (cl_93 V) jk_52.symm (Nat.le_of_ble_eq_true rfl) rfl (by rw [jn_52]; rfl) (wc_rn (d := d) (a := 0) (b := 7) D hL H8 ht V (by omega) rfl (by omega)) (fun v1 h23 R => ?_)
      obtain ⟨⟨y3, rfl⟩, k3, v3, q3, r3, tk3, hq3, V⟩ := R
      show wl_R _ _ 51 50 [some (.ref 93), some (wp_i 6), some (wp_i y1), some (wp_i 0)] [wp_i y3] h23 _
      have hxr3 : 0 ≤ xn 0 7 k3 v3 ∧ xn 0 7 k3 v3 ≤ 2 := xe_r (c := 0)
      obtain ⟨e3, he3⟩ : ∃ e, xn 0 7 k3 v3 = e := ⟨_, rfl⟩
      rw [he3] at V hxr3
      by_cases hx3 : e3 = 0
      · rw [if_pos hx3, hx3] at V
        rw [hx3] at he3
        refine wl_s (pc' := 51) (lv' := [some (.ref 93), some (wp_i 6), some (wp_i y1), some (wp_i y3)]) ji_51_50 rfl rfl rfl ?_
        refine wl_s (pc' := 52) ji_51_51 rfl rfl rfl ?_
        refine wl_s (pc' := 53) ji_51_52 rfl rfl rfl ?_
        refine wl_bp ji_51_53 rfl ?_
        refine wl_vc (d := d + 3) (as := [.ref 93, wp_i 2, wp_i 59]) (rest := []) ji_51_55 jc_51_110 rfl (cl_93 V) jk_53.symm (Nat.le_of_ble_eq_true rfl) rfl (by rw [jn_53]; rfl) (wc_rt (d := d) (a := 2) (b := 59) D hL H8 ht V (by omega) rfl (by omega)) (fun v1 h24 R => ?_)
        obtain ⟨rfl, k4, v4, q4, r4, tk4, hq4, V⟩ := R
        show wl_R _ _ 51 58 [some (.ref 93), some (wp_i 6), some (wp_i y1), some (wp_i y3)] [] h24 _
        have hxr4 : 0 ≤ xt 2 59 k4 v4 ∧ xt 2 59 k4 v4 ≤ 2 := xe_r (c := 1)
        obtain ⟨e4, he4⟩ : ∃ e, xt 2 59 k4 v4 = e := ⟨_, rfl⟩
        rw [he4] at V hxr4
        by_cases hx4 : e4 = 0
        · rw [if_pos hx4, hx4] at V
          rw [hx4] at he4
          refine wl_s (pc' := 59) ji_51_58 rfl rfl rfl ?_
          refine cl_g V ji_51_59 jf_51_51 rfl ?_
          refine wl_s (pc' := 63) ji_51_62 rfl rfl rfl ?_
          refine wl_s (pc' := 64) ji_51_63 rfl rfl rfl ?_
          refine wl_s (pc' := 65) ji_51_64 rfl rfl rfl ?_
          obtain ⟨tfs, htc⟩ := cl_tc V
          refine wl_vc (d := d + 3) (as := [.ref t, wp_i 6, wp_i y1, wp_i y3]) (rest := []) ji_51_65 jc_51_120 rfl htc jk_50.symm (Nat.le_of_ble_eq_true rfl) rfl (by rw [jn_50]; rfl) (wc_ac ht V hcl) (fun v1 h8 R => ?_)
          obtain ⟨rfl, V⟩ := R
          show wl_R _ _ 51 68 [some (.ref 93), some (wp_i 6), some (wp_i y1), some (wp_i y3)] [] h8 _
          rw [show dl 6 = [(0, 0, 5), (1, 0, 11), (0, 0, 7), (1, 2, 59)] from rfl]
          exact wl_rv ji_51_68 jr_51 ⟨rfl, k4, v4, q4, r4, 0, ⟨k1, v1, q1, r1, tk1, Or.inr ⟨(show xe 0 0 5 k1 v1 = 0 from he1), ⟨k2, v2, q2, r2, tk2, Or.inr ⟨(show xe 1 0 11 k2 v2 = 0 from he2), ⟨k3, v3, q3, r3, tk3, Or.inr ⟨(show xe 0 0 7 k3 v3 = 0 from he3), ⟨k4, v4, q4, r4, tk4, Or.inr ⟨(show xe 1 2 59 k4 v4 = 0 from he4), ⟨rfl, rfl, rfl⟩⟩⟩⟩⟩⟩⟩⟩⟩, by omega, by rw [if_pos rfl]; exact V⟩
        · rw [if_neg hx4] at V
          refine wl_s (pc' := 59) ji_51_58 rfl rfl rfl ?_
          refine cl_g V ji_51_59 jf_51_51 rfl ?_
          refine wl_s (pc' := 63) ji_51_62 rfl rfl rfl ?_
          refine wl_s (pc' := 64) ji_51_63 rfl rfl rfl ?_
          refine wl_s (pc' := 65) ji_51_64 rfl rfl rfl ?_
          obtain ⟨tfs, htc⟩ := cl_tc V
          refine wl_vc (d := d + 3) (as := [.ref t, wp_i 6, wp_i y1, wp_i y3]) (rest := []) ji_51_65 jc_51_120 rfl htc jk_50.symm (Nat.le_of_ble_eq_true rfl) rfl (by rw [jn_50]; rfl) (wc_ac ht V hcl) (fun v1 h8 R => ?_)
          obtain ⟨rfl, V⟩ := R
          show wl_R _ _ 51 68 [some (.ref 93), some (wp_i 6), some (wp_i y1), some (wp_i y3)] [] h8 _
          rw [show dl 6 = [(0, 0, 5), (1, 0, 11), (0, 0, 7), (1, 2, 59)] from rfl]
          exact wl_rv ji_51_68 jr_51 ⟨rfl, k4, v4, q4, r4, e4, ⟨k1, v1, q1, r1, tk1, Or.inr ⟨(show xe 0 0 5 k1 v1 = 0 from he1), ⟨k2, v2, q2, r2, tk2, Or.inr ⟨(show xe 1 0 11 k2 v2 = 0 from he2), ⟨k3, v3, q3, r3, tk3, Or.inr ⟨(show xe 0 0 7 k3 v3 = 0 from he3), ⟨k4, v4, q4, r4, tk4, Or.inl ⟨by rw [(show xe 1 2 59 k4 v4 = e4 from he4)]; exact hx4, (show xe 1 2 59 k4 v4 = e4 from he4).symm, rfl, rfl⟩⟩⟩⟩⟩⟩⟩⟩, by omega, by rw [if_neg hx4]; exact V⟩
      · rw [if_neg hx3] at V
        refine wl_s (pc' := 51) (lv' := [some (.ref 93), some (wp_i 6), some (wp_i y1), some (wp_i y3)]) ji_51_50 rfl rfl rfl ?_
        refine wl_s (pc' := 52) ji_51_51 rfl rfl rfl ?_
        refine wl_s (pc' := 53) ji_51_52 rfl rfl rfl ?_
        refine wl_bp ji_51_53 rfl ?_
        refine wl_vc (d := d + 3) (as := [.ref 93, wp_i 2, wp_i 59]) (rest := []) ji_51_55 jc_51_110 rfl (cl_93 V) jk_53.symm (Nat.le_of_ble_eq_true rfl) rfl (by rw [jn_53]; rfl) (wc_rt0 D hL H8 ht V (by omega) ⟨hx3, by omega⟩) (fun v1 h9 R => ?_)
        obtain ⟨rfl, e1⟩ := R
        subst e1
        show wl_R _ _ 51 58 [some (.ref 93), some (wp_i 6), some (wp_i y1), some (wp_i y3)] [] h9 _
        refine wl_s (pc' := 59) ji_51_58 rfl rfl rfl ?_
        refine cl_g V ji_51_59 jf_51_51 rfl ?_
        refine wl_s (pc' := 63) ji_51_62 rfl rfl rfl ?_
        refine wl_s (pc' := 64) ji_51_63 rfl rfl rfl ?_
        refine wl_s (pc' := 65) ji_51_64 rfl rfl rfl ?_
        obtain ⟨tfs, htc⟩ := cl_tc V
        refine wl_vc (d := d + 3) (as := [.ref t, wp_i 6, wp_i y1, wp_i y3]) (rest := []) ji_51_65 jc_51_120 rfl htc jk_50.symm (Nat.le_of_ble_eq_true rfl) rfl (by rw [jn_50]; rfl) (wc_ac ht V hcl) (fun v1 h8 R => ?_)
        obtain ⟨rfl, V⟩ := R
        show wl_R _ _ 51 68 [some (.ref 93), some (wp_i 6), some (wp_i y1), some (wp_i y3)] [] h8 _
        rw [show dl 6 = [(0, 0, 5), (1, 0, 11), (0, 0, 7), (1, 2, 59)] from rfl]
        exact wl_rv ji_51_68 jr_51 ⟨rfl, k3, v3, q3, r3, e3, ⟨k1, v1, q1, r1, tk1, Or.inr ⟨(show xe 0 0 5 k1 v1 = 0 from he1), ⟨k2, v2, q2, r2, tk2, Or.inr ⟨(show xe 1 0 11 k2 v2 = 0 from he2), ⟨k3, v3, q3, r3, tk3, Or.inl ⟨by rw [(show xe 0 0 7 k3 v3 = e3 from he3)]; exact hx3, (show xe 0 0 7 k3 v3 = e3 from he3).symm, rfl, rfl⟩⟩⟩⟩⟩⟩, by omega, by rw [if_neg hx3]; exact V⟩
    · rw [if_neg hx2] at V
      refine wl_s (pc' := 37) ji_51_36 rfl rfl rfl ?_
      refine wl_gs ji_51_37 jst_51_114 ?_
      refine wl_s (pc' := 41) ji_51_40 rfl rfl rfl ?_
      refine wl_ial (x := 6) ji_51_41 ((V.2.2.2.2.2 4 (by omega) (by decide) (by decide) (by decide)).trans HC.2.2.2.1) (by decide) (by decide) (by decide) (v := wp_i 0) rfl ?_
      refine wl_gs ji_51_42 jst_51_117 ?_
      refine wl_s (pc' := 46) ji_51_45 rfl rfl rfl ?_
      refine wl_ial (x := 6) ji_51_46 ((V.2.2.2.2.2 5 (by omega) (by decide) (by decide) (by decide)).trans HC.2.2.2.2) (by decide) (by decide) (by decide) (v := wp_i 7) rfl ?_
      refine wl_vc (d := d + 3) (as := [.ref 93, wp_i 0, wp_i 7]) (rest := []) ji_51_47 jc_51_103 rfl (cl_93 V) jk_52.symm (Nat.le_of_ble_eq_true rfl) rfl (by rw [jn_52]; rfl) (wc_rn0 D hL H8 ht V (by omega) ⟨hx2, by omega⟩) (fun v1 h9 R => ?_)
      obtain ⟨rfl, e1⟩ := R
      subst e1
      show wl_R _ _ 51 50 [some (.ref 93), some (wp_i 6), some (wp_i y1), some (wp_i 0)] [wp_i 0] h9 _
      refine wl_s (pc' := 51) (lv' := [some (.ref 93), some (wp_i 6), some (wp_i y1), some (wp_i 0)]) ji_51_50 rfl rfl rfl ?_
      refine wl_s (pc' := 52) ji_51_51 rfl rfl rfl ?_
      refine wl_s (pc' := 53) ji_51_52 rfl rfl rfl ?_
      refine wl_bp ji_51_53 rfl ?_
      refine wl_vc (d := d + 3) (as := [.ref 93, wp_i 2, wp_i 59]) (rest := []) ji_51_55 jc_51_110 rfl (cl_93 V) jk_53.symm (Nat.le_of_ble_eq_true rfl) rfl (by rw [jn_53]; rfl) (wc_rt0 D hL H8 ht V (by omega) ⟨hx2, by omega⟩) (fun v1 h9 R => ?_)
      obtain ⟨rfl, e1⟩ := R
      subst e1
      show wl_R _ _ 51 58 [some (.ref 93), some (wp_i 6), some (wp_i y1), some (wp_i 0)] [] h9 _
      refine wl_s (pc' := 59) ji_51_58 rfl rfl rfl ?_
      refine cl_g V ji_51_59 jf_51_51 rfl ?_
      refine wl_s (pc' := 63) ji_51_62 rfl rfl rfl ?_
      refine wl_s (pc' := 64) ji_51_63 rfl rfl rfl ?_
      refine wl_s (pc' := 65) ji_51_64 rfl rfl rfl ?_
      obtain ⟨tfs, htc⟩ := cl_tc V
      refine wl_vc (d := d + 3) (as := [.ref t, wp_i 6, wp_i y1, wp_i 0]) (rest := []) ji_51_65 jc_51_120 rfl htc jk_50.symm (Nat.le_of_ble_eq_true rfl) rfl (by rw [jn_50]; rfl) (wc_ac ht V hcl) (fun v1 h8 R => ?_)
      obtain ⟨rfl, V⟩ := R
      show wl_R _ _ 51 68 [some (.ref 93), some (wp_i 6), some (wp_i y1), some (wp_i 0)] [] h8 _
      rw [show dl 6 = [(0, 0, 5), (1, 0, 11), (0, 0, 7), (1, 2, 59)] from rfl]
      exact wl_rv ji_51_68 jr_51 ⟨rfl, k2, v2, q2, r2, e2, ⟨k1, v1, q1, r1, tk1, Or.inr ⟨(show xe 0 0 5 k1 v1 = 0 from he1), ⟨k2, v2, q2, r2, tk2, Or.inl ⟨by rw [(show xe 1 0 11 k2 v2 = e2 from he2)]; exact hx2, (show xe 1 0 11 k2 v2 = e2 from he2).symm, rfl, rfl⟩⟩⟩⟩, by omega, by rw [if_neg hx2]; exact V⟩
  · rw [if_neg hx1] at V
    refine wl_s (pc' := 15) (lv' := [some (.ref 93), some (wp_i 6), some (wp_i y1), none]) ji_51_14 rfl rfl rfl ?_
    refine wl_s (pc' := 16) ji_51_15 rfl rfl rfl ?_
    refine wl_s (pc' := 17) (lv' := [some (.ref 93), some (wp_i 6), some (wp_i y1), some (wp_i 0)]) ji_51_16 rfl rfl rfl ?_
    refine wl_gs ji_51_17 jst_51_107 ?_
    refine wl_s (pc' := 21) ji_51_20 rfl rfl rfl ?_
    refine wl_ial (x := 6) ji_51_21 ((V.2.2.2.2.2 3 (by omega) (by decide) (by decide) (by decide)).trans HC.2.2.1) (by decide) (by decide) (by decide) (v := wp_i 11) rfl ?_
    refine wl_s (pc' := 23) ji_51_22 rfl rfl rfl ?_
    refine wl_icmp (t := 51) ji_51_23 rfl (by omega) (by omega) (fun (hb2 : (11 : Int) = (-1)) => (by exfalso; omega)) (fun (hb2 : ¬ ((11 : Int) = (-1))) => ?_)
    refine wl_s (pc' := 27) ji_51_26 rfl rfl rfl ?_
    refine wl_s (pc' := 28) ji_51_27 rfl rfl rfl ?_
    refine wl_gs ji_51_28 jst_51_107 ?_
    refine wl_s (pc' := 32) ji_51_31 rfl rfl rfl ?_
    refine wl_ial (x := 6) ji_51_32 ((V.2.2.2.2.2 3 (by omega) (by decide) (by decide) (by decide)).trans HC.2.2.1) (by decide) (by decide) (by decide) (v := wp_i 11) rfl ?_
    refine wl_vc (d := d + 3) (as := [.ref 93, wp_i 0, wp_i 11]) (rest := []) ji_51_33 jc_51_110 rfl (cl_93 V) jk_53.symm (Nat.le_of_ble_eq_true rfl) rfl (by rw [jn_53]; rfl) (wc_rt0 D hL H8 ht V (by omega) ⟨hx1, by omega⟩) (fun v1 h9 R => ?_)
    obtain ⟨rfl, e1⟩ := R
    subst e1
    show wl_R _ _ 51 36 [some (.ref 93), some (wp_i 6), some (wp_i y1), some (wp_i 0)] [] h9 _
    refine wl_s (pc' := 37) ji_51_36 rfl rfl rfl ?_
    refine wl_gs ji_51_37 jst_51_114 ?_
    refine wl_s (pc' := 41) ji_51_40 rfl rfl rfl ?_
    refine wl_ial (x := 6) ji_51_41 ((V.2.2.2.2.2 4 (by omega) (by decide) (by decide) (by decide)).trans HC.2.2.2.1) (by decide) (by decide) (by decide) (v := wp_i 0) rfl ?_
    refine wl_gs ji_51_42 jst_51_117 ?_
    refine wl_s (pc' := 46) ji_51_45 rfl rfl rfl ?_
    refine wl_ial (x := 6) ji_51_46 ((V.2.2.2.2.2 5 (by omega) (by decide) (by decide) (by decide)).trans HC.2.2.2.2) (by decide) (by decide) (by decide) (v := wp_i 7) rfl ?_
    refine wl_vc (d := d + 3) (as := [.ref 93, wp_i 0, wp_i 7]) (rest := []) ji_51_47 jc_51_103 rfl (cl_93 V) jk_52.symm (Nat.le_of_ble_eq_true rfl) rfl (by rw [jn_52]; rfl) (wc_rn0 D hL H8 ht V (by omega) ⟨hx1, by omega⟩) (fun v1 h9 R => ?_)
    obtain ⟨rfl, e1⟩ := R
    subst e1
    show wl_R _ _ 51 50 [some (.ref 93), some (wp_i 6), some (wp_i y1), some (wp_i 0)] [wp_i 0] h9 _
    refine wl_s (pc' := 51) (lv' := [some (.ref 93), some (wp_i 6), some (wp_i y1), some (wp_i 0)]) ji_51_50 rfl rfl rfl ?_
    refine wl_s (pc' := 52) ji_51_51 rfl rfl rfl ?_
    refine wl_s (pc' := 53) ji_51_52 rfl rfl rfl ?_
    refine wl_bp ji_51_53 rfl ?_
    refine wl_vc (d := d + 3) (as := [.ref 93, wp_i 2, wp_i 59]) (rest := []) ji_51_55 jc_51_110 rfl (cl_93 V) jk_53.symm (Nat.le_of_ble_eq_true rfl) rfl (by rw [jn_53]; rfl) (wc_rt0 D hL H8 ht V (by omega) ⟨hx1, by omega⟩) (fun v1 h9 R => ?_)
    obtain ⟨rfl, e1⟩ := R
    subst e1
    show wl_R _ _ 51 58 [some (.ref 93), some (wp_i 6), some (wp_i y1), some (wp_i 0)] [] h9 _
    refine wl_s (pc' := 59) ji_51_58 rfl rfl rfl ?_
    refine cl_g V ji_51_59 jf_51_51 rfl ?_
    refine wl_s (pc' := 63) ji_51_62 rfl rfl rfl ?_
    refine wl_s (pc' := 64) ji_51_63 rfl rfl rfl ?_
    refine wl_s (pc' := 65) ji_51_64 rfl rfl rfl ?_
    obtain ⟨tfs, htc⟩ := cl_tc V
    refine wl_vc (d := d + 3) (as := [.ref t, wp_i 6, wp_i y1, wp_i 0]) (rest := []) ji_51_65 jc_51_120 rfl htc jk_50.symm (Nat.le_of_ble_eq_true rfl) rfl (by rw [jn_50]; rfl) (wc_ac ht V hcl) (fun v1 h8 R => ?_)
    obtain ⟨rfl, V⟩ := R
    show wl_R _ _ 51 68 [some (.ref 93), some (wp_i 6), some (wp_i y1), some (wp_i 0)] [] h8 _
    rw [show dl 6 = [(0, 0, 5), (1, 0, 11), (0, 0, 7), (1, 2, 59)] from rfl]
    exact wl_rv ji_51_68 jr_51 ⟨rfl, k1, v1, q1, r1, e1, ⟨k1, v1, q1, r1, tk1, Or.inl ⟨by rw [(show xe 0 0 5 k1 v1 = e1 from he1)]; exact hx1, (show xe 0 0 5 k1 v1 = e1 from he1).symm, rfl, rfl⟩⟩, by omega, by rw [if_neg hx1]; exact V⟩
theorem wc_d7 {n d : Nat} {h0 h : mj_H} {bl ws fr : List Value} {t : Nat} {L k v s p f q law st wn op br ls as_ cl : Int} (D : tB bl) (hL : 0 ≤ L ∧ L ≤ 300) (H8 : h0[8]? = some (900, tk_V)) (ht : 12 ≤ t ∧ t ≤ 33) (V : cL h0 h bl t L k v s p f q law st wn op br ls as_ cl ws fr) (hp : 0 ≤ p ∧ p ≤ L) (hf : f = 0) (HC : hC h0) (hcl : 0 ≤ cl ∧ cl ≤ 23) : wl_R n (d + 4) 51 0 [some (.ref 93), some (wp_i 7), none, none] [] h (fun w h1 => w = none ∧ ∃ k' v' q' r' f', xr (bt bl L) (dl 7) p s f' q' r' ∧ (p ≤ q' ∧ q' ≤ r' ∧ r' ≤ L) ∧ cL h0 h1 bl t L k' v' q' r' f' (if f' = 0 then q else q') law st wn op br ls as_ (cl + 1) ws fr) := by
  subst hf
  refine wl_s (pc' := 1) ji_51_0 rfl rfl rfl ?_
  refine wl_gs ji_51_1 jst_51_97 ?_
  refine wl_s (pc' := 5) ji_51_4 rfl rfl rfl ?_
  refine wl_ial (x := 7) ji_51_5 ((V.2.2.2.2.2 1 (by omega) (by decide) (by decide) (by decide)).trans HC.1) (by decide) (by decide) (by decide) (v := wp_i 0) rfl ?_
  refine wl_gs ji_51_6 jst_51_100 ?_
  refine wl_s (pc' := 10) ji_51_9 rfl rfl rfl ?_
  refine wl_ial (x := 7) ji_51_10 ((V.2.2.2.2.2 2 (by omega) (by decide) (by decide) (by decide)).trans HC.2.1) (by decide) (by decide) (by decide) (v := wp_i 7) rfl ?_
  refine wl_vc (d := d + 3) (as := [.ref 93, wp_i 0, wp_i 7]) (rest := []) ji_51_11 jc_51_103 rfl (cl_93 V) jk_52.symm (Nat.le_of_ble_eq_true rfl) rfl (by rw [jn_52]; rfl) (wc_rn (d := d) (a := 0) (b := 7) D hL H8 ht V (by omega) rfl (by omega)) (fun v1 h21 R => ?_)
  obtain ⟨⟨y1, rfl⟩, k1, v1, q1, r1, tk1, hq1, V⟩ := R
  show wl_R _ _ 51 14 [some (.ref 93), some (wp_i 7), none, none] [wp_i y1] h21 _
  have hxr1 : 0 ≤ xn 0 7 k1 v1 ∧ xn 0 7 k1 v1 ≤ 2 := xe_r (c := 0)
  obtain ⟨e1, he1⟩ : ∃ e, xn 0 7 k1 v1 = e := ⟨_, rfl⟩
  rw [he1] at V hxr1
  by_cases hx1 : e1 = 0
  · rw [if_pos hx1, hx1] at V
    rw [hx1] at he1
    refine wl_s (pc' := 15) (lv' := [some (.ref 93), some (wp_i 7), some (wp_i y1), none]) ji_51_14 rfl rfl rfl ?_
    refine wl_s (pc' := 16) ji_51_15 rfl rfl rfl ?_
    refine wl_s (pc' := 17) (lv' := [some (.ref 93), some (wp_i 7), some (wp_i y1), some (wp_i 0)]) ji_51_16 rfl rfl rfl ?_
    refine wl_gs ji_51_17 jst_51_107 ?_
    refine wl_s (pc' := 21) ji_51_20 rfl rfl rfl ?_
    refine wl_ial (x := 7) ji_51_21 ((V.2.2.2.2.2 3 (by omega) (by decide) (by decide) (by decide)).trans HC.2.2.1) (by decide) (by decide) (by decide) (v := wp_i 12) rfl ?_
    refine wl_s (pc' := 23) ji_51_22 rfl rfl rfl ?_
    refine wl_icmp (t := 51) ji_51_23 rfl (by omega) (by omega) (fun (hb1 : (12 : Int) = (-1)) => (by exfalso; omega)) (fun (hb1 : ¬ ((12 : Int) = (-1))) => ?_)
    refine wl_s (pc' := 27) ji_51_26 rfl rfl rfl ?_
    refine wl_s (pc' := 28) ji_51_27 rfl rfl rfl ?_
    refine wl_gs ji_51_28 jst_51_107 ?_
    refine wl_s (pc' := 32) ji_51_31 rfl rfl rfl ?_
    refine wl_ial (x := 7) ji_51_32 ((V.2.2.2.2.2 3 (by omega) (by decide) (by decide) (by decide)).trans HC.2.2.1) (by decide) (by decide) (by decide) (v := wp_i 12) rfl ?_
    refine wl_vc (d := d + 3) (as := [.ref 93, wp_i 0, wp_i 12]) (rest := []) ji_51_33 jc_51_110 rfl (cl_93 V) jk_53.symm (Nat.le_of_ble_eq_true rfl) rfl (by rw [jn_53]; rfl) (wc_rt (d := d) (a := 0) (b := 12) D hL H8 ht V (by omega) rfl (by omega)) (fun v1 h22 R => ?_)
    obtain ⟨rfl, k2, v2, q2, r2, tk2, hq2, V⟩ := R
    show wl_R _ _ 51 36 [some (.ref 93), some (wp_i 7), some (wp_i y1), some (wp_i 0)] [] h22 _
    have hxr2 : 0 ≤ xt 0 12 k2 v2 ∧ xt 0 12 k2 v2 ≤ 2 := xe_r (c := 1)
    obtain ⟨e2, he2⟩ : ∃ e, xt 0 12 k2 v2 = e := ⟨_, rfl⟩
    rw [he2] at V hxr2
    by_cases hx2 : e2 = 0
    · rw [if_pos hx2, hx2] at V
      rw [hx2] at he2
      refine wl_s (pc' := 37) ji_51_36 rfl rfl rfl ?_
      refine wl_gs ji_51_37 jst_51_114 ?_
      refine wl_s (pc' := 41) ji_51_40 rfl rfl rfl ?_
      refine wl_ial (x := 7) ji_51_41 ((V.2.2.2.2.2 4 (by omega) (by decide) (by decide) (by decide)).trans HC.2.2.2.1) (by decide) (by decide) (by decide) (v := wp_i 1) rfl ?_
      refine wl_gs ji_51_42 jst_51_117 ?_
      refine wl_s (pc' := 46) ji_51_45 rfl rfl rfl ?_
      refine wl_ial (x := 7) ji_51_46 ((V.2.2.2.2.2 5 (by omega) (by decide) (by decide) (by decide)).trans HC.2.2.2.2) (by decide) (by decide) (by decide) (v := wp_i 99) rfl ?_
      refine wl_vc (d := d + 3) (as := [.ref 93, wp_i 1, wp_i 99]) (rest := []) ji_51_47 jc_51_103 rfl (cl_93 V) jk_52.symm (Nat.le_of_ble_eq_true rfl) rfl (by rw [jn_52]; rfl) (wc_rn (d := d) (a := 1) (b := 99) D hL H8 ht V (by omega) rfl (by omega)) (fun v1 h23 R => ?_)
      obtain ⟨⟨y3, rfl⟩, k3, v3, q3, r3, tk3, hq3, V⟩ := R
      show wl_R _ _ 51 50 [some (.ref 93), some (wp_i 7), some (wp_i y1), some (wp_i 0)] [wp_i y3] h23 _
      have hxr3 : 0 ≤ xn 1 99 k3 v3 ∧ xn 1 99 k3 v3 ≤ 2 := xe_r (c := 0)
      obtain ⟨e3, he3⟩ : ∃ e, xn 1 99 k3 v3 = e := ⟨_, rfl⟩
      rw [he3] at V hxr3
      by_cases hx3 : e3 = 0
      · rw [if_pos hx3, hx3] at V
        rw [hx3] at he3
        refine wl_s (pc' := 51) (lv' := [some (.ref 93), some (wp_i 7), some (wp_i y1), some (wp_i y3)]) ji_51_50 rfl rfl rfl ?_
        refine wl_s (pc' := 52) ji_51_51 rfl rfl rfl ?_
        refine wl_s (pc' := 53) ji_51_52 rfl rfl rfl ?_
        refine wl_bp ji_51_53 rfl ?_
        refine wl_vc (d := d + 3) (as := [.ref 93, wp_i 2, wp_i 59]) (rest := []) ji_51_55 jc_51_110 rfl (cl_93 V) jk_53.symm (Nat.le_of_ble_eq_true rfl) rfl (by rw [jn_53]; rfl) (wc_rt (d := d) (a := 2) (b := 59) D hL H8 ht V (by omega) rfl (by omega)) (fun v1 h24 R => ?_)
        obtain ⟨rfl, k4, v4, q4, r4, tk4, hq4, V⟩ := R
        show wl_R _ _ 51 58 [some (.ref 93), some (wp_i 7), some (wp_i y1), some (wp_i y3)] [] h24 _
        have hxr4 : 0 ≤ xt 2 59 k4 v4 ∧ xt 2 59 k4 v4 ≤ 2 := xe_r (c := 1)
        obtain ⟨e4, he4⟩ : ∃ e, xt 2 59 k4 v4 = e := ⟨_, rfl⟩
        rw [he4] at V hxr4
        by_cases hx4 : e4 = 0
        · rw [if_pos hx4, hx4] at V
          rw [hx4] at he4
          refine wl_s (pc' := 59) ji_51_58 rfl rfl rfl ?_
          refine cl_g V ji_51_59 jf_51_51 rfl ?_
          refine wl_s (pc' := 63) ji_51_62 rfl rfl rfl ?_
          refine wl_s (pc' := 64) ji_51_63 rfl rfl rfl ?_
          refine wl_s (pc' := 65) ji_51_64 rfl rfl rfl ?_
          obtain ⟨tfs, htc⟩ := cl_tc V
          refine wl_vc (d := d + 3) (as := [.ref t, wp_i 7, wp_i y1, wp_i y3]) (rest := []) ji_51_65 jc_51_120 rfl htc jk_50.symm (Nat.le_of_ble_eq_true rfl) rfl (by rw [jn_50]; rfl) (wc_ac ht V hcl) (fun v1 h8 R => ?_)
          obtain ⟨rfl, V⟩ := R
          show wl_R _ _ 51 68 [some (.ref 93), some (wp_i 7), some (wp_i y1), some (wp_i y3)] [] h8 _
          rw [show dl 7 = [(0, 0, 7), (1, 0, 12), (0, 1, 99), (1, 2, 59)] from rfl]
          exact wl_rv ji_51_68 jr_51 ⟨rfl, k4, v4, q4, r4, 0, ⟨k1, v1, q1, r1, tk1, Or.inr ⟨(show xe 0 0 7 k1 v1 = 0 from he1), ⟨k2, v2, q2, r2, tk2, Or.inr ⟨(show xe 1 0 12 k2 v2 = 0 from he2), ⟨k3, v3, q3, r3, tk3, Or.inr ⟨(show xe 0 1 99 k3 v3 = 0 from he3), ⟨k4, v4, q4, r4, tk4, Or.inr ⟨(show xe 1 2 59 k4 v4 = 0 from he4), ⟨rfl, rfl, rfl⟩⟩⟩⟩⟩⟩⟩⟩⟩, by omega, by rw [if_pos rfl]; exact V⟩
        · rw [if_neg hx4] at V
          refine wl_s (pc' := 59) ji_51_58 rfl rfl rfl ?_
          refine cl_g V ji_51_59 jf_51_51 rfl ?_
          refine wl_s (pc' := 63) ji_51_62 rfl rfl rfl ?_
          refine wl_s (pc' := 64) ji_51_63 rfl rfl rfl ?_
          refine wl_s (pc' := 65) ji_51_64 rfl rfl rfl ?_
          obtain ⟨tfs, htc⟩ := cl_tc V
          refine wl_vc (d := d + 3) (as := [.ref t, wp_i 7, wp_i y1, wp_i y3]) (rest := []) ji_51_65 jc_51_120 rfl htc jk_50.symm (Nat.le_of_ble_eq_true rfl) rfl (by rw [jn_50]; rfl) (wc_ac ht V hcl) (fun v1 h8 R => ?_)
          obtain ⟨rfl, V⟩ := R
          show wl_R _ _ 51 68 [some (.ref 93), some (wp_i 7), some (wp_i y1), some (wp_i y3)] [] h8 _
          rw [show dl 7 = [(0, 0, 7), (1, 0, 12), (0, 1, 99), (1, 2, 59)] from rfl]
          exact wl_rv ji_51_68 jr_51 ⟨rfl, k4, v4, q4, r4, e4, ⟨k1, v1, q1, r1, tk1, Or.inr ⟨(show xe 0 0 7 k1 v1 = 0 from he1), ⟨k2, v2, q2, r2, tk2, Or.inr ⟨(show xe 1 0 12 k2 v2 = 0 from he2), ⟨k3, v3, q3, r3, tk3, Or.inr ⟨(show xe 0 1 99 k3 v3 = 0 from he3), ⟨k4, v4, q4, r4, tk4, Or.inl ⟨by rw [(show xe 1 2 59 k4 v4 = e4 from he4)]; exact hx4, (show xe 1 2 59 k4 v4 = e4 from he4).symm, rfl, rfl⟩⟩⟩⟩⟩⟩⟩⟩, by omega, by rw [if_neg hx4]; exact V⟩
      · rw [if_neg hx3] at V
        refine wl_s (pc' := 51) (lv' := [some (.ref 93), some (wp_i 7), some (wp_i y1), some (wp_i y3)]) ji_51_50 rfl rfl rfl ?_
        refine wl_s (pc' := 52) ji_51_51 rfl rfl rfl ?_
        refine wl_s (pc' := 53) ji_51_52 rfl rfl rfl ?_
        refine wl_bp ji_51_53 rfl ?_
        refine wl_vc (d := d + 3) (as := [.ref 93, wp_i 2, wp_i 59]) (rest := []) ji_51_55 jc_51_110 rfl (cl_93 V) jk_53.symm (Nat.le_of_ble_eq_true rfl) rfl (by rw [jn_53]; rfl) (wc_rt0 D hL H8 ht V (by omega) ⟨hx3, by omega⟩) (fun v1 h9 R => ?_)
        obtain ⟨rfl, e1⟩ := R
        subst e1
        show wl_R _ _ 51 58 [some (.ref 93), some (wp_i 7), some (wp_i y1), some (wp_i y3)] [] h9 _
        refine wl_s (pc' := 59) ji_51_58 rfl rfl rfl ?_
        refine cl_g V ji_51_59 jf_51_51 rfl ?_
        refine wl_s (pc' := 63) ji_51_62 rfl rfl rfl ?_
        refine wl_s (pc' := 64) ji_51_63 rfl rfl rfl ?_
        refine wl_s (pc' := 65) ji_51_64 rfl rfl rfl ?_
        obtain ⟨tfs, htc⟩ := cl_tc V
        refine wl_vc (d := d + 3) (as := [.ref t, wp_i 7, wp_i y1, wp_i y3]) (rest := []) ji_51_65 jc_51_120 rfl htc jk_50.symm (Nat.le_of_ble_eq_true rfl) rfl (by rw [jn_50]; rfl) (wc_ac ht V hcl) (fun v1 h8 R => ?_)
        obtain ⟨rfl, V⟩ := R
        show wl_R _ _ 51 68 [some (.ref 93), some (wp_i 7), some (wp_i y1), some (wp_i y3)] [] h8 _
        rw [show dl 7 = [(0, 0, 7), (1, 0, 12), (0, 1, 99), (1, 2, 59)] from rfl]
        exact wl_rv ji_51_68 jr_51 ⟨rfl, k3, v3, q3, r3, e3, ⟨k1, v1, q1, r1, tk1, Or.inr ⟨(show xe 0 0 7 k1 v1 = 0 from he1), ⟨k2, v2, q2, r2, tk2, Or.inr ⟨(show xe 1 0 12 k2 v2 = 0 from he2), ⟨k3, v3, q3, r3, tk3, Or.inl ⟨by rw [(show xe 0 1 99 k3 v3 = e3 from he3)]; exact hx3, (show xe 0 1 99 k3 v3 = e3 from he3).symm, rfl, rfl⟩⟩⟩⟩⟩⟩, by omega, by rw [if_neg hx3]; exact V⟩
    · rw [if_neg hx2] at V
      refine wl_s (pc' := 37) ji_51_36 rfl rfl rfl ?_
      refine wl_gs ji_51_37 jst_51_114 ?_
      refine wl_s (pc' := 41) ji_51_40 rfl rfl rfl ?_
      refine wl_ial (x := 7) ji_51_41 ((V.2.2.2.2.2 4 (by omega) (by decide) (by decide) (by decide)).trans HC.2.2.2.1) (by decide) (by decide) (by decide) (v := wp_i 1) rfl ?_
      refine wl_gs ji_51_42 jst_51_117 ?_
      refine wl_s (pc' := 46) ji_51_45 rfl rfl rfl ?_
      refine wl_ial (x := 7) ji_51_46 ((V.2.2.2.2.2 5 (by omega) (by decide) (by decide) (by decide)).trans HC.2.2.2.2) (by decide) (by decide) (by decide) (v := wp_i 99) rfl ?_
      refine wl_vc (d := d + 3) (as := [.ref 93, wp_i 1, wp_i 99]) (rest := []) ji_51_47 jc_51_103 rfl (cl_93 V) jk_52.symm (Nat.le_of_ble_eq_true rfl) rfl (by rw [jn_52]; rfl) (wc_rn0 D hL H8 ht V (by omega) ⟨hx2, by omega⟩) (fun v1 h9 R => ?_)
      obtain ⟨rfl, e1⟩ := R
      subst e1
      show wl_R _ _ 51 50 [some (.ref 93), some (wp_i 7), some (wp_i y1), some (wp_i 0)] [wp_i 0] h9 _
      refine wl_s (pc' := 51) (lv' := [some (.ref 93), some (wp_i 7), some (wp_i y1), some (wp_i 0)]) ji_51_50 rfl rfl rfl ?_
      refine wl_s (pc' := 52) ji_51_51 rfl rfl rfl ?_
      refine wl_s (pc' := 53) ji_51_52 rfl rfl rfl ?_
      refine wl_bp ji_51_53 rfl ?_
      refine wl_vc (d := d + 3) (as := [.ref 93, wp_i 2, wp_i 59]) (rest := []) ji_51_55 jc_51_110 rfl (cl_93 V) jk_53.symm (Nat.le_of_ble_eq_true rfl) rfl (by rw [jn_53]; rfl) (wc_rt0 D hL H8 ht V (by omega) ⟨hx2, by omega⟩) (fun v1 h9 R => ?_)
      obtain ⟨rfl, e1⟩ := R
      subst e1
      show wl_R _ _ 51 58 [some (.ref 93), some (wp_i 7), some (wp_i y1), some (wp_i 0)] [] h9 _
      refine wl_s (pc' := 59) ji_51_58 rfl rfl rfl ?_
      refine cl_g V ji_51_59 jf_51_51 rfl ?_
      refine wl_s (pc' := 63) ji_51_62 rfl rfl rfl ?_
      refine wl_s (pc' := 64) ji_51_63 rfl rfl rfl ?_
      refine wl_s (pc' := 65) ji_51_64 rfl rfl rfl ?_
      obtain ⟨tfs, htc⟩ := cl_tc V
      refine wl_vc (d := d + 3) (as := [.ref t, wp_i 7, wp_i y1, wp_i 0]) (rest := []) ji_51_65 jc_51_120 rfl htc jk_50.symm (Nat.le_of_ble_eq_true rfl) rfl (by rw [jn_50]; rfl) (wc_ac ht V hcl) (fun v1 h8 R => ?_)
      obtain ⟨rfl, V⟩ := R
      show wl_R _ _ 51 68 [some (.ref 93), some (wp_i 7), some (wp_i y1), some (wp_i 0)] [] h8 _
      rw [show dl 7 = [(0, 0, 7), (1, 0, 12), (0, 1, 99), (1, 2, 59)] from rfl]
      exact wl_rv ji_51_68 jr_51 ⟨rfl, k2, v2, q2, r2, e2, ⟨k1, v1, q1, r1, tk1, Or.inr ⟨(show xe 0 0 7 k1 v1 = 0 from he1), ⟨k2, v2, q2, r2, tk2, Or.inl ⟨by rw [(show xe 1 0 12 k2 v2 = e2 from he2)]; exact hx2, (show xe 1 0 12 k2 v2 = e2 from he2).symm, rfl, rfl⟩⟩⟩⟩, by omega, by rw [if_neg hx2]; exact V⟩
  · rw [if_neg hx1] at V
    refine wl_s (pc' := 15) (lv' := [some (.ref 93), some (wp_i 7), some (wp_i y1), none]) ji_51_14 rfl rfl rfl ?_
    refine wl_s (pc' := 16) ji_51_15 rfl rfl rfl ?_
    refine wl_s (pc' := 17) (lv' := [some (.ref 93), some (wp_i 7), some (wp_i y1), some (wp_i 0)]) ji_51_16 rfl rfl rfl ?_
    refine wl_gs ji_51_17 jst_51_107 ?_
    refine wl_s (pc' := 21) ji_51_20 rfl rfl rfl ?_
    refine wl_ial (x := 7) ji_51_21 ((V.2.2.2.2.2 3 (by omega) (by decide) (by decide) (by decide)).trans HC.2.2.1) (by decide) (by decide) (by decide) (v := wp_i 12) rfl ?_
    refine wl_s (pc' := 23) ji_51_22 rfl rfl rfl ?_
    refine wl_icmp (t := 51) ji_51_23 rfl (by omega) (by omega) (fun (hb2 : (12 : Int) = (-1)) => (by exfalso; omega)) (fun (hb2 : ¬ ((12 : Int) = (-1))) => ?_)
    refine wl_s (pc' := 27) ji_51_26 rfl rfl rfl ?_
    refine wl_s (pc' := 28) ji_51_27 rfl rfl rfl ?_
    refine wl_gs ji_51_28 jst_51_107 ?_
    refine wl_s (pc' := 32) ji_51_31 rfl rfl rfl ?_
    refine wl_ial (x := 7) ji_51_32 ((V.2.2.2.2.2 3 (by omega) (by decide) (by decide) (by decide)).trans HC.2.2.1) (by decide) (by decide) (by decide) (v := wp_i 12) rfl ?_
    refine wl_vc (d := d + 3) (as := [.ref 93, wp_i 0, wp_i 12]) (rest := []) ji_51_33 jc_51_110 rfl (cl_93 V) jk_53.symm (Nat.le_of_ble_eq_true rfl) rfl (by rw [jn_53]; rfl) (wc_rt0 D hL H8 ht V (by omega) ⟨hx1, by omega⟩) (fun v1 h9 R => ?_)
    obtain ⟨rfl, e1⟩ := R
    subst e1
    show wl_R _ _ 51 36 [some (.ref 93), some (wp_i 7), some (wp_i y1), some (wp_i 0)] [] h9 _
    refine wl_s (pc' := 37) ji_51_36 rfl rfl rfl ?_
    refine wl_gs ji_51_37 jst_51_114 ?_
    refine wl_s (pc' := 41) ji_51_40 rfl rfl rfl ?_
    refine wl_ial (x := 7) ji_51_41 ((V.2.2.2.2.2 4 (by omega) (by decide) (by decide) (by decide)).trans HC.2.2.2.1) (by decide) (by decide) (by decide) (v := wp_i 1) rfl ?_
    refine wl_gs ji_51_42 jst_51_117 ?_
    refine wl_s (pc' := 46) ji_51_45 rfl rfl rfl ?_
    refine wl_ial (x := 7) ji_51_46 ((V.2.2.2.2.2 5 (by omega) (by decide) (by decide) (by decide)).trans HC.2.2.2.2) (by decide) (by decide) (by decide) (v := wp_i 99) rfl ?_
    refine wl_vc (d := d + 3) (as := [.ref 93, wp_i 1, wp_i 99]) (rest := []) ji_51_47 jc_51_103 rfl (cl_93 V) jk_52.symm (Nat.le_of_ble_eq_true rfl) rfl (by rw [jn_52]; rfl) (wc_rn0 D hL H8 ht V (by omega) ⟨hx1, by omega⟩) (fun v1 h9 R => ?_)
    obtain ⟨rfl, e1⟩ := R
    subst e1
    show wl_R _ _ 51 50 [some (.ref 93), some (wp_i 7), some (wp_i y1), some (wp_i 0)] [wp_i 0] h9 _
    refine wl_s (pc' := 51) (lv' := [some (.ref 93), some (wp_i 7), some (wp_i y1), some (wp_i 0)]) ji_51_50 rfl rfl rfl ?_
    refine wl_s (pc' := 52) ji_51_51 rfl rfl rfl ?_
    refine wl_s (pc' := 53) ji_51_52 rfl rfl rfl ?_
    refine wl_bp ji_51_53 rfl ?_
    refine wl_vc (d := d + 3) (as := [.ref 93, wp_i 2, wp_i 59]) (rest := []) ji_51_55 jc_51_110 rfl (cl_93 V) jk_53.symm (Nat.le_of_ble_eq_true rfl) rfl (by rw [jn_53]; rfl) (wc_rt0 D hL H8 ht V (by omega) ⟨hx1, by omega⟩) (fun v1 h9 R => ?_)
    obtain ⟨rfl, e1⟩ := R
    subst e1
    show wl_R _ _ 51 58 [some (.ref 93), some (wp_i 7), some (wp_i y1), some (wp_i 0)] [] h9 _
    refine wl_s (pc' := 59) ji_51_58 rfl rfl rfl ?_
    refine cl_g V ji_51_59 jf_51_51 rfl ?_
    refine wl_s (pc' := 63) ji_51_62 rfl rfl rfl ?_
    refine wl_s (pc' := 64) ji_51_63 rfl rfl rfl ?_
    refine wl_s (pc' := 65) ji_51_64 rfl rfl rfl ?_
    obtain ⟨tfs, htc⟩ := cl_tc V
    refine wl_vc (d := d + 3) (as := [.ref t, wp_i 7, wp_i y1, wp_i 0]) (rest := []) ji_51_65 jc_51_120 rfl htc jk_50.symm (Nat.le_of_ble_eq_true rfl) rfl (by rw [jn_50]; rfl) (wc_ac ht V hcl) (fun v1 h8 R => ?_)
    obtain ⟨rfl, V⟩ := R
    show wl_R _ _ 51 68 [some (.ref 93), some (wp_i 7), some (wp_i y1), some (wp_i 0)] [] h8 _
    rw [show dl 7 = [(0, 0, 7), (1, 0, 12), (0, 1, 99), (1, 2, 59)] from rfl]
    exact wl_rv ji_51_68 jr_51 ⟨rfl, k1, v1, q1, r1, e1, ⟨k1, v1, q1, r1, tk1, Or.inl ⟨by rw [(show xe 0 0 7 k1 v1 = e1 from he1)]; exact hx1, (show xe 0 0 7 k1 v1 = e1 from he1).symm, rfl, rfl⟩⟩, by omega, by rw [if_neg hx1]; exact V⟩
theorem wc_d8 {n d : Nat} {h0 h : mj_H} {bl ws fr : List Value} {t : Nat} {L k v s p f q law st wn op br ls as_ cl : Int} (D : tB bl) (hL : 0 ≤ L ∧ L ≤ 300) (H8 : h0[8]? = some (900, tk_V)) (ht : 12 ≤ t ∧ t ≤ 33) (V : cL h0 h bl t L k v s p f q law st wn op br ls as_ cl ws fr) (hp : 0 ≤ p ∧ p ≤ L) (hf : f = 0) (HC : hC h0) (hcl : 0 ≤ cl ∧ cl ≤ 23) : wl_R n (d + 4) 51 0 [some (.ref 93), some (wp_i 8), none, none] [] h (fun w h1 => w = none ∧ ∃ k' v' q' r' f', xr (bt bl L) (dl 8) p s f' q' r' ∧ (p ≤ q' ∧ q' ≤ r' ∧ r' ≤ L) ∧ cL h0 h1 bl t L k' v' q' r' f' (if f' = 0 then q else q') law st wn op br ls as_ (cl + 1) ws fr) := by
  subst hf
  refine wl_s (pc' := 1) ji_51_0 rfl rfl rfl ?_
  refine wl_gs ji_51_1 jst_51_97 ?_
  refine wl_s (pc' := 5) ji_51_4 rfl rfl rfl ?_
  refine wl_ial (x := 8) ji_51_5 ((V.2.2.2.2.2 1 (by omega) (by decide) (by decide) (by decide)).trans HC.1) (by decide) (by decide) (by decide) (v := wp_i 0) rfl ?_
  refine wl_gs ji_51_6 jst_51_100 ?_
  refine wl_s (pc' := 10) ji_51_9 rfl rfl rfl ?_
  refine wl_ial (x := 8) ji_51_10 ((V.2.2.2.2.2 2 (by omega) (by decide) (by decide) (by decide)).trans HC.2.1) (by decide) (by decide) (by decide) (v := wp_i 9) rfl ?_
  refine wl_vc (d := d + 3) (as := [.ref 93, wp_i 0, wp_i 9]) (rest := []) ji_51_11 jc_51_103 rfl (cl_93 V) jk_52.symm (Nat.le_of_ble_eq_true rfl) rfl (by rw [jn_52]; rfl) (wc_rn (d := d) (a := 0) (b := 9) D hL H8 ht V (by omega) rfl (by omega)) (fun v1 h21 R => ?_)
  obtain ⟨⟨y1, rfl⟩, k1, v1, q1, r1, tk1, hq1, V⟩ := R
  show wl_R _ _ 51 14 [some (.ref 93), some (wp_i 8), none, none] [wp_i y1] h21 _
  have hxr1 : 0 ≤ xn 0 9 k1 v1 ∧ xn 0 9 k1 v1 ≤ 2 := xe_r (c := 0)
  obtain ⟨e1, he1⟩ : ∃ e, xn 0 9 k1 v1 = e := ⟨_, rfl⟩
  rw [he1] at V hxr1
  by_cases hx1 : e1 = 0
  · rw [if_pos hx1, hx1] at V
    rw [hx1] at he1
    refine wl_s (pc' := 15) (lv' := [some (.ref 93), some (wp_i 8), some (wp_i y1), none]) ji_51_14 rfl rfl rfl ?_
    refine wl_s (pc' := 16) ji_51_15 rfl rfl rfl ?_
    refine wl_s (pc' := 17) (lv' := [some (.ref 93), some (wp_i 8), some (wp_i y1), some (wp_i 0)]) ji_51_16 rfl rfl rfl ?_
    refine wl_gs ji_51_17 jst_51_107 ?_
    refine wl_s (pc' := 21) ji_51_20 rfl rfl rfl ?_
    refine wl_ial (x := 8) ji_51_21 ((V.2.2.2.2.2 3 (by omega) (by decide) (by decide) (by decide)).trans HC.2.2.1) (by decide) (by decide) (by decide) (v := wp_i (-1)) rfl ?_
    refine wl_s (pc' := 23) ji_51_22 rfl rfl rfl ?_
    refine wl_icmp (t := 51) ji_51_23 rfl (by omega) (by omega) (fun (hb1 : (-1 : Int) = (-1)) => ?_) (fun (hb1 : ¬ ((-1 : Int) = (-1))) => (by exfalso; omega))
    refine wl_s (pc' := 52) ji_51_51 rfl rfl rfl ?_
    refine wl_s (pc' := 53) ji_51_52 rfl rfl rfl ?_
    refine wl_bp ji_51_53 rfl ?_
    refine wl_vc (d := d + 3) (as := [.ref 93, wp_i 2, wp_i 59]) (rest := []) ji_51_55 jc_51_110 rfl (cl_93 V) jk_53.symm (Nat.le_of_ble_eq_true rfl) rfl (by rw [jn_53]; rfl) (wc_rt (d := d) (a := 2) (b := 59) D hL H8 ht V (by omega) rfl (by omega)) (fun v1 h22 R => ?_)
    obtain ⟨rfl, k2, v2, q2, r2, tk2, hq2, V⟩ := R
    show wl_R _ _ 51 58 [some (.ref 93), some (wp_i 8), some (wp_i y1), some (wp_i 0)] [] h22 _
    have hxr2 : 0 ≤ xt 2 59 k2 v2 ∧ xt 2 59 k2 v2 ≤ 2 := xe_r (c := 1)
    obtain ⟨e2, he2⟩ : ∃ e, xt 2 59 k2 v2 = e := ⟨_, rfl⟩
    rw [he2] at V hxr2
    by_cases hx2 : e2 = 0
    · rw [if_pos hx2, hx2] at V
      rw [hx2] at he2
      refine wl_s (pc' := 59) ji_51_58 rfl rfl rfl ?_
      refine cl_g V ji_51_59 jf_51_51 rfl ?_
      refine wl_s (pc' := 63) ji_51_62 rfl rfl rfl ?_
      refine wl_s (pc' := 64) ji_51_63 rfl rfl rfl ?_
      refine wl_s (pc' := 65) ji_51_64 rfl rfl rfl ?_
      obtain ⟨tfs, htc⟩ := cl_tc V
      refine wl_vc (d := d + 3) (as := [.ref t, wp_i 8, wp_i y1, wp_i 0]) (rest := []) ji_51_65 jc_51_120 rfl htc jk_50.symm (Nat.le_of_ble_eq_true rfl) rfl (by rw [jn_50]; rfl) (wc_ac ht V hcl) (fun v1 h8 R => ?_)
      obtain ⟨rfl, V⟩ := R
      show wl_R _ _ 51 68 [some (.ref 93), some (wp_i 8), some (wp_i y1), some (wp_i 0)] [] h8 _
      rw [show dl 8 = [(0, 0, 9), (1, 2, 59)] from rfl]
      exact wl_rv ji_51_68 jr_51 ⟨rfl, k2, v2, q2, r2, 0, ⟨k1, v1, q1, r1, tk1, Or.inr ⟨(show xe 0 0 9 k1 v1 = 0 from he1), ⟨k2, v2, q2, r2, tk2, Or.inr ⟨(show xe 1 2 59 k2 v2 = 0 from he2), ⟨rfl, rfl, rfl⟩⟩⟩⟩⟩, by omega, by rw [if_pos rfl]; exact V⟩
    · rw [if_neg hx2] at V
      refine wl_s (pc' := 59) ji_51_58 rfl rfl rfl ?_
      refine cl_g V ji_51_59 jf_51_51 rfl ?_
      refine wl_s (pc' := 63) ji_51_62 rfl rfl rfl ?_
      refine wl_s (pc' := 64) ji_51_63 rfl rfl rfl ?_
      refine wl_s (pc' := 65) ji_51_64 rfl rfl rfl ?_
      obtain ⟨tfs, htc⟩ := cl_tc V
      refine wl_vc (d := d + 3) (as := [.ref t, wp_i 8, wp_i y1, wp_i 0]) (rest := []) ji_51_65 jc_51_120 rfl htc jk_50.symm (Nat.le_of_ble_eq_true rfl) rfl (by rw [jn_50]; rfl) (wc_ac ht V hcl) (fun v1 h8 R => ?_)
      obtain ⟨rfl, V⟩ := R
      show wl_R _ _ 51 68 [some (.ref 93), some (wp_i 8), some (wp_i y1), some (wp_i 0)] [] h8 _
      rw [show dl 8 = [(0, 0, 9), (1, 2, 59)] from rfl]
      exact wl_rv ji_51_68 jr_51 ⟨rfl, k2, v2, q2, r2, e2, ⟨k1, v1, q1, r1, tk1, Or.inr ⟨(show xe 0 0 9 k1 v1 = 0 from he1), ⟨k2, v2, q2, r2, tk2, Or.inl ⟨by rw [(show xe 1 2 59 k2 v2 = e2 from he2)]; exact hx2, (show xe 1 2 59 k2 v2 = e2 from he2).symm, rfl, rfl⟩⟩⟩⟩, by omega, by rw [if_neg hx2]; exact V⟩
  · rw [if_neg hx1] at V
    refine wl_s (pc' := 15) (lv' := [some (.ref 93), some (wp_i 8), some (wp_i y1), none]) ji_51_14 rfl rfl rfl ?_
    refine wl_s (pc' := 16) ji_51_15 rfl rfl rfl ?_
    refine wl_s (pc' := 17) (lv' := [some (.ref 93), some (wp_i 8), some (wp_i y1), some (wp_i 0)]) ji_51_16 rfl rfl rfl ?_
    refine wl_gs ji_51_17 jst_51_107 ?_
    refine wl_s (pc' := 21) ji_51_20 rfl rfl rfl ?_
    refine wl_ial (x := 8) ji_51_21 ((V.2.2.2.2.2 3 (by omega) (by decide) (by decide) (by decide)).trans HC.2.2.1) (by decide) (by decide) (by decide) (v := wp_i (-1)) rfl ?_
    refine wl_s (pc' := 23) ji_51_22 rfl rfl rfl ?_
    refine wl_icmp (t := 51) ji_51_23 rfl (by omega) (by omega) (fun (hb2 : (-1 : Int) = (-1)) => ?_) (fun (hb2 : ¬ ((-1 : Int) = (-1))) => (by exfalso; omega))
    refine wl_s (pc' := 52) ji_51_51 rfl rfl rfl ?_
    refine wl_s (pc' := 53) ji_51_52 rfl rfl rfl ?_
    refine wl_bp ji_51_53 rfl ?_
    refine wl_vc (d := d + 3) (as := [.ref 93, wp_i 2, wp_i 59]) (rest := []) ji_51_55 jc_51_110 rfl (cl_93 V) jk_53.symm (Nat.le_of_ble_eq_true rfl) rfl (by rw [jn_53]; rfl) (wc_rt0 D hL H8 ht V (by omega) ⟨hx1, by omega⟩) (fun v1 h9 R => ?_)
    obtain ⟨rfl, e1⟩ := R
    subst e1
    show wl_R _ _ 51 58 [some (.ref 93), some (wp_i 8), some (wp_i y1), some (wp_i 0)] [] h9 _
    refine wl_s (pc' := 59) ji_51_58 rfl rfl rfl ?_
    refine cl_g V ji_51_59 jf_51_51 rfl ?_
    refine wl_s (pc' := 63) ji_51_62 rfl rfl rfl ?_
    refine wl_s (pc' := 64) ji_51_63 rfl rfl rfl ?_
    refine wl_s (pc' := 65) ji_51_64 rfl rfl rfl ?_
    obtain ⟨tfs, htc⟩ := cl_tc V
    refine wl_vc (d := d + 3) (as := [.ref t, wp_i 8, wp_i y1, wp_i 0]) (rest := []) ji_51_65 jc_51_120 rfl htc jk_50.symm (Nat.le_of_ble_eq_true rfl) rfl (by rw [jn_50]; rfl) (wc_ac ht V hcl) (fun v1 h8 R => ?_)
    obtain ⟨rfl, V⟩ := R
    show wl_R _ _ 51 68 [some (.ref 93), some (wp_i 8), some (wp_i y1), some (wp_i 0)] [] h8 _
    rw [show dl 8 = [(0, 0, 9), (1, 2, 59)] from rfl]
    exact wl_rv ji_51_68 jr_51 ⟨rfl, k1, v1, q1, r1, e1, ⟨k1, v1, q1, r1, tk1, Or.inl ⟨by rw [(show xe 0 0 9 k1 v1 = e1 from he1)]; exact hx1, (show xe 0 0 9 k1 v1 = e1 from he1).symm, rfl, rfl⟩⟩, by omega, by rw [if_neg hx1]; exact V⟩
theorem wc_d9 {n d : Nat} {h0 h : mj_H} {bl ws fr : List Value} {t : Nat} {L k v s p f q law st wn op br ls as_ cl : Int} (D : tB bl) (hL : 0 ≤ L ∧ L ≤ 300) (H8 : h0[8]? = some (900, tk_V)) (ht : 12 ≤ t ∧ t ≤ 33) (V : cL h0 h bl t L k v s p f q law st wn op br ls as_ cl ws fr) (hp : 0 ≤ p ∧ p ≤ L) (hf : f = 0) (HC : hC h0) (hcl : 0 ≤ cl ∧ cl ≤ 23) : wl_R n (d + 4) 51 0 [some (.ref 93), some (wp_i 9), none, none] [] h (fun w h1 => w = none ∧ ∃ k' v' q' r' f', xr (bt bl L) (dl 9) p s f' q' r' ∧ (p ≤ q' ∧ q' ≤ r' ∧ r' ≤ L) ∧ cL h0 h1 bl t L k' v' q' r' f' (if f' = 0 then q else q') law st wn op br ls as_ (cl + 1) ws fr) := by
  subst hf
  refine wl_s (pc' := 1) ji_51_0 rfl rfl rfl ?_
  refine wl_gs ji_51_1 jst_51_97 ?_
  refine wl_s (pc' := 5) ji_51_4 rfl rfl rfl ?_
  refine wl_ial (x := 9) ji_51_5 ((V.2.2.2.2.2 1 (by omega) (by decide) (by decide) (by decide)).trans HC.1) (by decide) (by decide) (by decide) (v := wp_i 1) rfl ?_
  refine wl_gs ji_51_6 jst_51_100 ?_
  refine wl_s (pc' := 10) ji_51_9 rfl rfl rfl ?_
  refine wl_ial (x := 9) ji_51_10 ((V.2.2.2.2.2 2 (by omega) (by decide) (by decide) (by decide)).trans HC.2.1) (by decide) (by decide) (by decide) (v := wp_i 60) rfl ?_
  refine wl_vc (d := d + 3) (as := [.ref 93, wp_i 1, wp_i 60]) (rest := []) ji_51_11 jc_51_103 rfl (cl_93 V) jk_52.symm (Nat.le_of_ble_eq_true rfl) rfl (by rw [jn_52]; rfl) (wc_rn (d := d) (a := 1) (b := 60) D hL H8 ht V (by omega) rfl (by omega)) (fun v1 h21 R => ?_)
  obtain ⟨⟨y1, rfl⟩, k1, v1, q1, r1, tk1, hq1, V⟩ := R
  show wl_R _ _ 51 14 [some (.ref 93), some (wp_i 9), none, none] [wp_i y1] h21 _
  have hxr1 : 0 ≤ xn 1 60 k1 v1 ∧ xn 1 60 k1 v1 ≤ 2 := xe_r (c := 0)
  obtain ⟨e1, he1⟩ : ∃ e, xn 1 60 k1 v1 = e := ⟨_, rfl⟩
  rw [he1] at V hxr1
  by_cases hx1 : e1 = 0
  · rw [if_pos hx1, hx1] at V
    rw [hx1] at he1
    refine wl_s (pc' := 15) (lv' := [some (.ref 93), some (wp_i 9), some (wp_i y1), none]) ji_51_14 rfl rfl rfl ?_
    refine wl_s (pc' := 16) ji_51_15 rfl rfl rfl ?_
    refine wl_s (pc' := 17) (lv' := [some (.ref 93), some (wp_i 9), some (wp_i y1), some (wp_i 0)]) ji_51_16 rfl rfl rfl ?_
    refine wl_gs ji_51_17 jst_51_107 ?_
    refine wl_s (pc' := 21) ji_51_20 rfl rfl rfl ?_
    refine wl_ial (x := 9) ji_51_21 ((V.2.2.2.2.2 3 (by omega) (by decide) (by decide) (by decide)).trans HC.2.2.1) (by decide) (by decide) (by decide) (v := wp_i (-1)) rfl ?_
    refine wl_s (pc' := 23) ji_51_22 rfl rfl rfl ?_
    refine wl_icmp (t := 51) ji_51_23 rfl (by omega) (by omega) (fun (hb1 : (-1 : Int) = (-1)) => ?_) (fun (hb1 : ¬ ((-1 : Int) = (-1))) => (by exfalso; omega))
    refine wl_s (pc' := 52) ji_51_51 rfl rfl rfl ?_
    refine wl_s (pc' := 53) ji_51_52 rfl rfl rfl ?_
    refine wl_bp ji_51_53 rfl ?_
    refine wl_vc (d := d + 3) (as := [.ref 93, wp_i 2, wp_i 59]) (rest := []) ji_51_55 jc_51_110 rfl (cl_93 V) jk_53.symm (Nat.le_of_ble_eq_true rfl) rfl (by rw [jn_53]; rfl) (wc_rt (d := d) (a := 2) (b := 59) D hL H8 ht V (by omega) rfl (by omega)) (fun v1 h22 R => ?_)
    obtain ⟨rfl, k2, v2, q2, r2, tk2, hq2, V⟩ := R
    show wl_R _ _ 51 58 [some (.ref 93), some (wp_i 9), some (wp_i y1), some (wp_i 0)] [] h22 _
    have hxr2 : 0 ≤ xt 2 59 k2 v2 ∧ xt 2 59 k2 v2 ≤ 2 := xe_r (c := 1)
    obtain ⟨e2, he2⟩ : ∃ e, xt 2 59 k2 v2 = e := ⟨_, rfl⟩
    rw [he2] at V hxr2
    by_cases hx2 : e2 = 0
    · rw [if_pos hx2, hx2] at V
      rw [hx2] at he2
      refine wl_s (pc' := 59) ji_51_58 rfl rfl rfl ?_
      refine cl_g V ji_51_59 jf_51_51 rfl ?_
      refine wl_s (pc' := 63) ji_51_62 rfl rfl rfl ?_
      refine wl_s (pc' := 64) ji_51_63 rfl rfl rfl ?_
      refine wl_s (pc' := 65) ji_51_64 rfl rfl rfl ?_
      obtain ⟨tfs, htc⟩ := cl_tc V
      refine wl_vc (d := d + 3) (as := [.ref t, wp_i 9, wp_i y1, wp_i 0]) (rest := []) ji_51_65 jc_51_120 rfl htc jk_50.symm (Nat.le_of_ble_eq_true rfl) rfl (by rw [jn_50]; rfl) (wc_ac ht V hcl) (fun v1 h8 R => ?_)
      obtain ⟨rfl, V⟩ := R
      show wl_R _ _ 51 68 [some (.ref 93), some (wp_i 9), some (wp_i y1), some (wp_i 0)] [] h8 _
      rw [show dl 9 = [(0, 1, 60), (1, 2, 59)] from rfl]
      exact wl_rv ji_51_68 jr_51 ⟨rfl, k2, v2, q2, r2, 0, ⟨k1, v1, q1, r1, tk1, Or.inr ⟨(show xe 0 1 60 k1 v1 = 0 from he1), ⟨k2, v2, q2, r2, tk2, Or.inr ⟨(show xe 1 2 59 k2 v2 = 0 from he2), ⟨rfl, rfl, rfl⟩⟩⟩⟩⟩, by omega, by rw [if_pos rfl]; exact V⟩
    · rw [if_neg hx2] at V
      refine wl_s (pc' := 59) ji_51_58 rfl rfl rfl ?_
      refine cl_g V ji_51_59 jf_51_51 rfl ?_
      refine wl_s (pc' := 63) ji_51_62 rfl rfl rfl ?_
      refine wl_s (pc' := 64) ji_51_63 rfl rfl rfl ?_
      refine wl_s (pc' := 65) ji_51_64 rfl rfl rfl ?_
      obtain ⟨tfs, htc⟩ := cl_tc V
      refine wl_vc (d := d + 3) (as := [.ref t, wp_i 9, wp_i y1, wp_i 0]) (rest := []) ji_51_65 jc_51_120 rfl htc jk_50.symm (Nat.le_of_ble_eq_true rfl) rfl (by rw [jn_50]; rfl) (wc_ac ht V hcl) (fun v1 h8 R => ?_)
      obtain ⟨rfl, V⟩ := R
      show wl_R _ _ 51 68 [some (.ref 93), some (wp_i 9), some (wp_i y1), some (wp_i 0)] [] h8 _
      rw [show dl 9 = [(0, 1, 60), (1, 2, 59)] from rfl]
      exact wl_rv ji_51_68 jr_51 ⟨rfl, k2, v2, q2, r2, e2, ⟨k1, v1, q1, r1, tk1, Or.inr ⟨(show xe 0 1 60 k1 v1 = 0 from he1), ⟨k2, v2, q2, r2, tk2, Or.inl ⟨by rw [(show xe 1 2 59 k2 v2 = e2 from he2)]; exact hx2, (show xe 1 2 59 k2 v2 = e2 from he2).symm, rfl, rfl⟩⟩⟩⟩, by omega, by rw [if_neg hx2]; exact V⟩
  · rw [if_neg hx1] at V
    refine wl_s (pc' := 15) (lv' := [some (.ref 93), some (wp_i 9), some (wp_i y1), none]) ji_51_14 rfl rfl rfl ?_
    refine wl_s (pc' := 16) ji_51_15 rfl rfl rfl ?_
    refine wl_s (pc' := 17) (lv' := [some (.ref 93), some (wp_i 9), some (wp_i y1), some (wp_i 0)]) ji_51_16 rfl rfl rfl ?_
    refine wl_gs ji_51_17 jst_51_107 ?_
    refine wl_s (pc' := 21) ji_51_20 rfl rfl rfl ?_
    refine wl_ial (x := 9) ji_51_21 ((V.2.2.2.2.2 3 (by omega) (by decide) (by decide) (by decide)).trans HC.2.2.1) (by decide) (by decide) (by decide) (v := wp_i (-1)) rfl ?_
    refine wl_s (pc' := 23) ji_51_22 rfl rfl rfl ?_
    refine wl_icmp (t := 51) ji_51_23 rfl (by omega) (by omega) (fun (hb2 : (-1 : Int) = (-1)) => ?_) (fun (hb2 : ¬ ((-1 : Int) = (-1))) => (by exfalso; omega))
    refine wl_s (pc' := 52) ji_51_51 rfl rfl rfl ?_
    refine wl_s (pc' := 53) ji_51_52 rfl rfl rfl ?_
    refine wl_bp ji_51_53 rfl ?_
    refine wl_vc (d := d + 3) (as := [.ref 93, wp_i 2, wp_i 59]) (rest := []) ji_51_55 jc_51_110 rfl (cl_93 V) jk_53.symm (Nat.le_of_ble_eq_true rfl) rfl (by rw [jn_53]; rfl) (wc_rt0 D hL H8 ht V (by omega) ⟨hx1, by omega⟩) (fun v1 h9 R => ?_)
    obtain ⟨rfl, e1⟩ := R
    subst e1
    show wl_R _ _ 51 58 [some (.ref 93), some (wp_i 9), some (wp_i y1), some (wp_i 0)] [] h9 _
    refine wl_s (pc' := 59) ji_51_58 rfl rfl rfl ?_
    refine cl_g V ji_51_59 jf_51_51 rfl ?_
    refine wl_s (pc' := 63) ji_51_62 rfl rfl rfl ?_
    refine wl_s (pc' := 64) ji_51_63 rfl rfl rfl ?_
    refine wl_s (pc' := 65) ji_51_64 rfl rfl rfl ?_
    obtain ⟨tfs, htc⟩ := cl_tc V
    refine wl_vc (d := d + 3) (as := [.ref t, wp_i 9, wp_i y1, wp_i 0]) (rest := []) ji_51_65 jc_51_120 rfl htc jk_50.symm (Nat.le_of_ble_eq_true rfl) rfl (by rw [jn_50]; rfl) (wc_ac ht V hcl) (fun v1 h8 R => ?_)
    obtain ⟨rfl, V⟩ := R
    show wl_R _ _ 51 68 [some (.ref 93), some (wp_i 9), some (wp_i y1), some (wp_i 0)] [] h8 _
    rw [show dl 9 = [(0, 1, 60), (1, 2, 59)] from rfl]
    exact wl_rv ji_51_68 jr_51 ⟨rfl, k1, v1, q1, r1, e1, ⟨k1, v1, q1, r1, tk1, Or.inl ⟨by rw [(show xe 0 1 60 k1 v1 = e1 from he1)]; exact hx1, (show xe 0 1 60 k1 v1 = e1 from he1).symm, rfl, rfl⟩⟩, by omega, by rw [if_neg hx1]; exact V⟩
