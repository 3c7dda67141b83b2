/-! -/
set_option maxRecDepth 100000 in
theorem ji_30_0 : mj_ins 30 0 = some (.aload_n 0) := by decide +kernel
set_option maxRecDepth 100000 in
theorem ji_30_1 : mj_ins 30 1 = some (.getfield 47) := by decide +kernel
set_option maxRecDepth 100000 in
theorem jf_30_47 : mj_fld 30 47 = some (9, 0, (.object "ForestOfPoles$Tape"), false) := by decide +kernel
set_option maxRecDepth 100000 in
theorem ji_30_4 : mj_ins 30 4 = some (.getfield 68) := by decide +kernel
set_option maxRecDepth 100000 in
theorem jf_30_68 : mj_fld 30 68 = some (8, 2, .int, true) := by decide +kernel
set_option maxRecDepth 100000 in
theorem ji_30_7 : mj_ins 30 7 = some (.ifCond .ne 13) := by decide +kernel
set_option maxRecDepth 100000 in
theorem ji_30_20 : mj_ins 30 20 = some (.iconst (-1)) := by decide +kernel
set_option maxRecDepth 100000 in
theorem ji_30_21 : mj_ins 30 21 = some (.istore_n 1) := by decide +kernel
set_option maxRecDepth 100000 in
theorem ji_30_22 : mj_ins 30 22 = some (.iload_n 1) := by decide +kernel
set_option maxRecDepth 100000 in
theorem ji_30_23 : mj_ins 30 23 = some (.ifCond .lt 9) := by decide +kernel
set_option maxRecDepth 100000 in
theorem ji_30_32 : mj_ins 30 32 = some (.aload_n 0) := by decide +kernel
set_option maxRecDepth 100000 in
theorem ji_30_33 : mj_ins 30 33 = some (.iconst 1) := by decide +kernel
set_option maxRecDepth 100000 in
theorem ji_30_34 : mj_ins 30 34 = some (.invokevirtual 80) := by decide +kernel
set_option maxRecDepth 100000 in
theorem jc_30_80 : mj_cal 30 80 = some (2, 31, 1) := by decide +kernel
set_option maxRecDepth 100000 in
theorem ji_30_37 : mj_ins 30 37 = some (.goto 66) := by decide +kernel
set_option maxRecDepth 100000 in
theorem ji_30_103 : mj_ins 30 103 = some (.return_) := by decide +kernel
set_option maxRecDepth 100000 in
theorem jr_30 : mj_ret 30 = none := by decide +kernel
set_option maxRecDepth 100000 in
theorem ji_30_26 : mj_ins 30 26 = some (.iload_n 1) := by decide +kernel
set_option maxRecDepth 100000 in
theorem ji_30_27 : mj_ins 30 27 = some (.bipush 9) := by decide +kernel
set_option maxRecDepth 100000 in
theorem ji_30_29 : mj_ins 30 29 = some (.if_icmp .le 11) := by decide +kernel
set_option maxRecDepth 100000 in
theorem ji_30_40 : mj_ins 30 40 = some (.iload_n 1) := by decide +kernel
set_option maxRecDepth 100000 in
theorem ji_30_41 : mj_ins 30 41 = some (.iconst 3) := by decide +kernel
set_option maxRecDepth 100000 in
theorem ji_30_42 : mj_ins 30 42 = some (.if_icmp .ge 22) := by decide +kernel
set_option maxRecDepth 100000 in
theorem ji_30_64 : mj_ins 30 64 = some (.aload_n 0) := by decide +kernel
set_option maxRecDepth 100000 in
theorem ji_30_65 : mj_ins 30 65 = some (.getfield 51) := by decide +kernel
set_option maxRecDepth 100000 in
theorem jf_30_51 : mj_fld 30 51 = some (9, 1, (.object "ForestOfPoles$Text"), true) := by decide +kernel
set_option maxRecDepth 100000 in
theorem ji_30_68 : mj_ins 30 68 = some (.getfield 88) := by decide +kernel
set_option maxRecDepth 100000 in
theorem jf_30_88 : mj_fld 30 88 = some (1, 7, .int, true) := by decide +kernel
set_option maxRecDepth 100000 in
theorem ji_30_71 : mj_ins 30 71 = some (.bipush 24) := by decide +kernel
set_option maxRecDepth 100000 in
theorem ji_30_73 : mj_ins 30 73 = some (.if_icmp .ne 12) := by decide +kernel
set_option maxRecDepth 100000 in
theorem ji_30_85 : mj_ins 30 85 = some (.iload_n 1) := by decide +kernel
set_option maxRecDepth 100000 in
theorem ji_30_86 : mj_ins 30 86 = some (.iconst 3) := by decide +kernel
set_option maxRecDepth 100000 in
theorem ji_30_87 : mj_ins 30 87 = some (.if_icmp .ge 11) := by decide +kernel
set_option maxRecDepth 100000 in
theorem ji_30_98 : mj_ins 30 98 = some (.aload_n 0) := by decide +kernel
set_option maxRecDepth 100000 in
theorem ji_30_99 : mj_ins 30 99 = some (.iload_n 1) := by decide +kernel
set_option maxRecDepth 100000 in
theorem ji_30_100 : mj_ins 30 100 = some (.invokevirtual 94) := by decide +kernel
set_option maxRecDepth 100000 in
theorem jc_30_94 : mj_cal 30 94 = some (2, 51, 1) := by decide +kernel
set_option maxRecDepth 100000 in
theorem ji_30_90 : mj_ins 30 90 = some (.aload_n 0) := by decide +kernel
set_option maxRecDepth 100000 in
theorem ji_30_91 : mj_ins 30 91 = some (.iload_n 1) := by decide +kernel
set_option maxRecDepth 100000 in
theorem ji_30_92 : mj_ins 30 92 = some (.invokevirtual 91) := by decide +kernel
set_option maxRecDepth 100000 in
theorem jc_30_91 : mj_cal 30 91 = some (2, 33, 1) := by decide +kernel
set_option maxRecDepth 100000 in
theorem ji_30_95 : mj_ins 30 95 = some (.goto 8) := by decide +kernel
set_option maxRecDepth 100000 in
theorem ji_30_76 : mj_ins 30 76 = some (.aload_n 0) := by decide +kernel
set_option maxRecDepth 100000 in
theorem ji_30_77 : mj_ins 30 77 = some (.bipush 6) := by decide +kernel
set_option maxRecDepth 100000 in
theorem ji_30_79 : mj_ins 30 79 = some (.invokevirtual 80) := by decide +kernel
set_option maxRecDepth 100000 in
theorem ji_30_82 : mj_ins 30 82 = some (.goto 21) := by decide +kernel
set_option maxRecDepth 100000 in
theorem ji_30_45 : mj_ins 30 45 = some (.aload_n 0) := by decide +kernel
set_option maxRecDepth 100000 in
theorem ji_30_46 : mj_ins 30 46 = some (.getfield 51) := by decide +kernel
set_option maxRecDepth 100000 in
theorem ji_30_49 : mj_ins 30 49 = some (.iload_n 1) := by decide +kernel
set_option maxRecDepth 100000 in
theorem ji_30_50 : mj_ins 30 50 = some (.invokevirtual 84) := by decide +kernel
set_option maxRecDepth 100000 in
theorem jc_30_84 : mj_cal 30 84 = some (2, 32, 1) := by decide +kernel
set_option maxRecDepth 100000 in
theorem ji_30_53 : mj_ins 30 53 = some (.ifCond .eq 11) := by decide +kernel
set_option maxRecDepth 100000 in
theorem ji_30_56 : mj_ins 30 56 = some (.aload_n 0) := by decide +kernel
set_option maxRecDepth 100000 in
theorem ji_30_57 : mj_ins 30 57 = some (.iconst 4) := by decide +kernel
set_option maxRecDepth 100000 in
theorem ji_30_58 : mj_ins 30 58 = some (.invokevirtual 80) := by decide +kernel
set_option maxRecDepth 100000 in
theorem ji_30_61 : mj_ins 30 61 = some (.goto 42) := by decide +kernel
set_option maxRecDepth 100000 in
theorem ji_30_10 : mj_ins 30 10 = some (.aload_n 0) := by decide +kernel
set_option maxRecDepth 100000 in
theorem ji_30_11 : mj_ins 30 11 = some (.getfield 47) := by decide +kernel
set_option maxRecDepth 100000 in
theorem ji_30_14 : mj_ins 30 14 = some (.getfield 77) := by decide +kernel
set_option maxRecDepth 100000 in
theorem jf_30_77 : mj_fld 30 77 = some (8, 3, .int, true) := by decide +kernel
set_option maxRecDepth 100000 in
theorem ji_30_17 : mj_ins 30 17 = some (.goto 4) := by decide +kernel
/-! a clause, by the class; laid by program (wp_cread7.py) -/
theorem wc_dd {n d : Nat} {h0 h : mj_H} {bl ws fr : List Value} {t : Nat} {L k v s p f q law st wn op br ls as_ cl : Int} (D : tB bl) (hL : 0 ≤ L ∧ L ≤ 300) (H8 : h0[8]? = some (900, tk_V)) (ht : 12 ≤ t ∧ t ≤ 33) (V : cL h0 h bl t L k v s p f q law st wn op br ls as_ cl ws fr) (hp : 0 ≤ p ∧ p ≤ L) (hf : f = 0) (HC : hC h0) (hcl : 0 ≤ cl ∧ cl ≤ 23) {x : Int} (hx : 3 ≤ x ∧ x ≤ 9) : wl_R n (d + 4) 51 0 [some (.ref 93), some (wp_i x), none, none] [] h (fun w h1 => w = none ∧ ∃ k' v' q' r' f', xr (bt bl L) (dl x) p s f' q' r' ∧ (p ≤ q' ∧ q' ≤ r' ∧ r' ≤ L) ∧ cL h0 h1 bl t L k' v' q' r' f' (if f' = 0 then q else q') law st wn op br ls as_ (cl + 1) ws fr) := by
  have hc : x = 3 ∨ x = 4 ∨ x = 5 ∨ x = 6 ∨ x = 7 ∨ x = 8 ∨ x = 9 := by omega
  rcases hc with rfl | rfl | rfl | rfl | rfl | rfl | rfl
  · exact wc_d3 D hL H8 ht V hp hf HC hcl
  · exact wc_d4 D hL H8 ht V hp hf HC hcl
  · exact wc_d5 D hL H8 ht V hp hf HC hcl
  · exact wc_d6 D hL H8 ht V hp hf HC hcl
  · exact wc_d7 D hL H8 ht V hp hf HC hcl
  · exact wc_d8 D hL H8 ht V hp hf HC hcl
  · exact wc_d9 D hL H8 ht V hp hf HC hcl
/-- which laws a text has -/
def onr (fr : List Value) (on : Nat → Bool) : Prop := fr.length = 3 ∧ ∀ j, j < 3 → fr[j]? = some (wp_i (sx_el fr j)) ∧ (on j = true ↔ ¬ sx_el fr j = -1)
def on1 (on : Nat → Bool) (x : Int) : Nat → Bool := fun j => on j || decide (j = x.toNat)
theorem onr_1 {fr : List Value} {on : Nat → Bool} (R : onr fr on) {x z : Int} (hx : 0 ≤ x ∧ x ≤ 2) (hz : 0 ≤ z ∧ z ≤ 300) : onr (fr.set x.toNat (wp_i z)) (on1 on x) := by
  refine ⟨by rw [List.length_set]; exact R.1, fun j hj => ?_⟩
  by_cases e : x.toNat = j
  · subst e
    have h1 : (fr.set x.toNat (wp_i z))[x.toNat]? = some (wp_i z) := List.getElem?_set_self (by have := R.1; omega)
    have h2 : sx_el (fr.set x.toNat (wp_i z)) x.toNat = z := by
      unfold sx_el
      rw [h1]
      exact wp_ti (by omega)
    rw [h1, h2]
    refine ⟨rfl, ?_⟩
    unfold on1
    rw [decide_eq_true rfl, Bool.or_true]
    exact ⟨fun _ => by omega, fun _ => rfl⟩
  · have h1 : (fr.set x.toNat (wp_i z))[j]? = fr[j]? := List.getElem?_set_ne e
    have h2 : sx_el (fr.set x.toNat (wp_i z)) j = sx_el fr j := by
      unfold sx_el
      rw [h1]
    rw [h1, h2]
    refine ⟨(R.2 j hj).1, ?_⟩
    unfold on1
    rw [decide_eq_false (fun q => e q.symm), Bool.or_false]
    exact (R.2 j hj).2
def wdo (k v : Int) : Int := if k = 0 then v else -1
/-- a clause whose first token is k, v at s, the place behind it p -/
def clr (B : Int → Int) (on : Nat → Bool) (cl ls k v s p f q r : Int) : Prop := ((wdo k v < 0 ∨ 9 < wdo k v) ∧ f = 1 ∧ q = s ∧ r = p) ∨ ((0 ≤ wdo k v ∧ wdo k v ≤ 9) ∧ (((wdo k v < 3 ∧ on (wdo k v).toNat = true) ∧ f = 4 ∧ q = s ∧ r = p) ∨ (¬ (wdo k v < 3 ∧ on (wdo k v).toNat = true) ∧ ((cl = 24 ∧ f = 6 ∧ q = s ∧ r = p) ∨ (¬ cl = 24 ∧ ((wdo k v < 3 ∧ ∃ m, lr B (wdo k v) m p (if wdo k v = 2 then 0 else 1) [] ls 0 f q r) ∨ (3 ≤ wdo k v ∧ xr B (dl (wdo k v)) p s f q r)))))))
theorem wc_rc {n d : Nat} {h0 h : mj_H} {bl ws fr : List Value} {t : Nat} {L k v s p f q law st wn op br ls as_ cl : Int} (D : tB bl) (hL : 0 ≤ L ∧ L ≤ 300) (H8 : h0[8]? = some (900, tk_V)) (ht : 12 ≤ t ∧ t ≤ 33) (V : cL h0 h bl t L k v s p f q law st wn op br ls as_ cl ws fr) (hp : (0 ≤ s ∧ s ≤ p) ∧ 1 ≤ p ∧ p ≤ L) (hf : f = 0) (HC : hC h0) (hcl : 0 ≤ cl ∧ cl ≤ 24) {on : Nat → Bool} (R0 : onr fr on) (hls : 0 ≤ ls ∧ ls ≤ 6) (hkv : wp_r k ∧ wp_r v ∧ (k = 0 → -1 ≤ v ∧ v ≤ 30)) : wl_R n (d + 5) 30 0 [some (.ref 93), none] [] h (fun v9 h1 => v9 = none ∧ ∃ (k' v' q' r' f' law' st' wn' op' br' ls' as' cl' : Int) (ws' fr' : List Value), clr (bt bl L) on cl ls k v s p f' q' r' ∧ (s ≤ q' ∧ q' ≤ r' ∧ p ≤ r' ∧ r' ≤ L) ∧ (f' = 0 → 0 ≤ ls' ∧ ls' ≤ 6) ∧ (f' = 0 → cl' = cl + 1 ∧ onr fr' (if wdo k v < 3 then on1 on (wdo k v) else on)) ∧ cL h0 h1 bl t L k' v' q' r' f' (if f' = 0 then q else q') law' st' wn' op' br' ls' as' cl' ws' fr') := by
  subst hf
  refine wl_s (pc' := 1) ji_30_0 rfl rfl rfl ?_
  refine cl_g V ji_30_1 jf_30_47 rfl ?_
  refine cl_t V ji_30_4 jf_30_68 rfl ?_
  refine wl_if (t := 20) ji_30_7 rfl (by omega) (fun (hb1 : ¬ (k : Int) = 0) => ?_) (fun (hb1 : ¬ (¬ (k : Int) = 0)) => ?_)
  · refine wl_s (pc' := 21) ji_30_20 rfl rfl rfl ?_
    refine wl_s (pc' := 22) (lv' := [some (.ref 93), some (wp_i (-1))]) ji_30_21 rfl rfl rfl ?_
    obtain ⟨x, hx⟩ : ∃ x : Int, x = -1 := ⟨_, rfl⟩
    have hwd : wdo k v = x := by rw [hx]; unfold wdo; exact if_neg (by omega)
    have hxr : -1 ≤ x ∧ x ≤ 30 := by rw [hx]; omega
    have hE : wp_i x = wp_i (-1) := by rw [hx]
    rw [← hE]
    show wl_R n (d + 5) 30 22 [some (.ref 93), some (wp_i x)] [] h _
    refine wl_s (pc' := 23) ji_30_22 rfl rfl rfl ?_
    refine wl_if (t := 32) ji_30_23 rfl (by omega) (fun (hb2 : (x : Int) < 0) => ?_) (fun (hb2 : ¬ ((x : Int) < 0)) => ?_)
    · refine wl_s (pc' := 33) ji_30_32 rfl rfl rfl ?_
      refine wl_s (pc' := 34) ji_30_33 rfl rfl rfl ?_
      refine wl_vc (d := d + 4) (as := [.ref 93, wp_i 1]) (rest := []) ji_30_34 jc_30_80 rfl (cl_93 V) jk_31.symm (Nat.le_of_ble_eq_true rfl) rfl (by rw [jn_31]; rfl) (wc_fail ht V) (fun v1 h2 R => ?_)
      obtain ⟨rfl, V⟩ := R
      show wl_R _ _ 30 37 [some (.ref 93), some (wp_i x)] [] h2 _
      refine wl_goto (t := 103) ji_30_37 rfl ?_
      exact wl_rv ji_30_103 jr_30 ⟨rfl, k, v, s, p, 1, _, _, _, _, _, ls, _, cl, _, _, by unfold clr; rw [hwd]; exact Or.inl ⟨by omega, rfl, rfl, rfl⟩, by omega, fun z => by omega, fun z => by omega, by rw [if_neg (by decide)]; exact V⟩
    · refine wl_s (pc' := 27) ji_30_26 rfl rfl rfl ?_
      refine wl_bp ji_30_27 rfl ?_
      refine wl_icmp (t := 40) ji_30_29 rfl (by omega) (by omega) (fun (hb3 : (x : Int) ≤ 9) => ?_) (fun (hb3 : ¬ ((x : Int) ≤ 9)) => ?_)
      · refine wl_s (pc' := 41) ji_30_40 rfl rfl rfl ?_
        refine wl_s (pc' := 42) ji_30_41 rfl rfl rfl ?_
        refine wl_icmp (t := 64) ji_30_42 rfl (by omega) (by omega) (fun (hb4 : (3 : Int) ≤ x) => ?_) (fun (hb4 : ¬ ((3 : Int) ≤ x)) => ?_)
        · refine wl_s (pc' := 65) ji_30_64 rfl rfl rfl ?_
          refine cl_g V ji_30_65 jf_30_51 rfl ?_
          refine tg_c V ji_30_68 jf_30_88 ?_
          refine wl_bp ji_30_71 rfl ?_
          refine wl_icmp (t := 85) ji_30_73 rfl (by omega) (by omega) (fun (hb5 : ¬ (cl : Int) = 24) => ?_) (fun (hb5 : ¬ (¬ (cl : Int) = 24)) => ?_)
          · refine wl_s (pc' := 86) ji_30_85 rfl rfl rfl ?_
            refine wl_s (pc' := 87) ji_30_86 rfl rfl rfl ?_
            refine wl_icmp (t := 98) ji_30_87 rfl (by omega) (by omega) (fun (hb6 : (3 : Int) ≤ x) => ?_) (fun (hb6 : ¬ ((3 : Int) ≤ x)) => ?_)
            · refine wl_s (pc' := 99) ji_30_98 rfl rfl rfl ?_
              refine wl_s (pc' := 100) ji_30_99 rfl rfl rfl ?_
              refine wl_vc (d := d + 4) (as := [.ref 93, wp_i x]) (rest := []) ji_30_100 jc_30_94 rfl (cl_93 V) jk_51.symm (Nat.le_of_ble_eq_true rfl) rfl (by rw [jn_51]; rfl) (wc_dd (d := d) D hL H8 ht V (by omega) rfl HC (by omega) (x := x) (by omega)) (fun v1 h2 R => ?_)
              obtain ⟨rfl, k', v', q', r', f', xrn, hq, V⟩ := R
              show wl_R _ _ 30 103 [some (.ref 93), some (wp_i x)] [] h2 _
              exact wl_rv ji_30_103 jr_30 ⟨rfl, k', v', q', r', f', _, _, _, _, _, ls, _, cl + 1, _, _, by unfold clr; rw [hwd]; exact Or.inr ⟨by omega, Or.inr ⟨fun z => by omega, Or.inr ⟨by omega, Or.inr ⟨by omega, xrn⟩⟩⟩⟩, by omega, fun _ => hls, fun _ => ⟨rfl, by rw [hwd, if_neg (by omega)]; exact R0⟩, V⟩
            · refine wl_s (pc' := 91) ji_30_90 rfl rfl rfl ?_
              refine wl_s (pc' := 92) ji_30_91 rfl rfl rfl ?_
              refine wl_vc (d := d + 4) (as := [.ref 93, wp_i x]) (rest := []) ji_30_92 jc_30_91 rfl (cl_93 V) jk_33.symm (Nat.le_of_ble_eq_true rfl) rfl (by rw [jn_33]; rfl) (wc_rl (d := d) D hL H8 ht V (x := x) (by omega) hls (by omega) (by omega)) (fun v1 h2 R => ?_)
              obtain ⟨rfl, k', v', q', r', f', st', w', ls', as', z, m, lrn, hz, hq, hl, ws2, e2, hlen2, V⟩ := R
              show wl_R _ _ 30 95 [some (.ref 93), some (wp_i x)] [] h2 _
              refine wl_goto (t := 103) ji_30_95 rfl ?_
              exact wl_rv ji_30_103 jr_30 ⟨rfl, k', v', q', r', f', _, _, _, _, _, ls', _, cl + 1, _, _, by unfold clr; rw [hwd]; exact Or.inr ⟨by omega, Or.inr ⟨fun z => by omega, Or.inr ⟨by omega, Or.inl ⟨by omega, m, lrn⟩⟩⟩⟩, by omega, hl, fun _ => ⟨rfl, by rw [hwd, if_pos (by omega)]; exact onr_1 R0 (by omega) hz⟩, V⟩
          · refine wl_s (pc' := 77) ji_30_76 rfl rfl rfl ?_
            refine wl_bp ji_30_77 rfl ?_
            refine wl_vc (d := d + 4) (as := [.ref 93, wp_i 6]) (rest := []) ji_30_79 jc_30_80 rfl (cl_93 V) jk_31.symm (Nat.le_of_ble_eq_true rfl) rfl (by rw [jn_31]; rfl) (wc_fail ht V) (fun v1 h2 R => ?_)
            obtain ⟨rfl, V⟩ := R
            show wl_R _ _ 30 82 [some (.ref 93), some (wp_i x)] [] h2 _
            refine wl_goto (t := 103) ji_30_82 rfl ?_
            exact wl_rv ji_30_103 jr_30 ⟨rfl, k, v, s, p, 6, _, _, _, _, _, ls, _, cl, _, _, by unfold clr; rw [hwd]; exact Or.inr ⟨by omega, Or.inr ⟨fun z => by omega, Or.inl ⟨by omega, rfl, rfl, rfl⟩⟩⟩, by omega, fun z => by omega, fun z => by omega, by rw [if_neg (by decide)]; exact V⟩
        · refine wl_s (pc' := 46) ji_30_45 rfl rfl rfl ?_
          refine cl_g V ji_30_46 jf_30_51 rfl ?_
          refine wl_s (pc' := 50) ji_30_49 rfl rfl rfl ?_
          obtain ⟨tfs, htc⟩ := cl_tc V
          refine wl_vc (d := d + 4) (as := [.ref t, wp_i x]) (rest := []) ji_30_50 jc_30_84 rfl htc jk_32.symm (Nat.le_of_ble_eq_true rfl) rfl (by rw [jn_32]; rfl) (wc_hs ht V (x := x) (by omega) (fun j hj => (R0.2 j hj).1)) (fun v1 h1 R => ?_)
          obtain ⟨e1, y, rfl, hya, hyb⟩ := R
          subst e1
          rw [← (R0.2 x.toNat (by omega)).2] at hyb
          show wl_R _ _ 30 53 [some (.ref 93), some (wp_i x)] [wp_i y] h1 _
          refine wl_if (t := 64) ji_30_53 rfl (by omega) (fun (hb7 : (y : Int) = 0) => ?_) (fun (hb7 : ¬ ((y : Int) = 0)) => ?_)
          · refine wl_s (pc' := 65) ji_30_64 rfl rfl rfl ?_
            refine cl_g V ji_30_65 jf_30_51 rfl ?_
            refine tg_c V ji_30_68 jf_30_88 ?_
            refine wl_bp ji_30_71 rfl ?_
            refine wl_icmp (t := 85) ji_30_73 rfl (by omega) (by omega) (fun (hb8 : ¬ (cl : Int) = 24) => ?_) (fun (hb8 : ¬ (¬ (cl : Int) = 24)) => ?_)
            · refine wl_s (pc' := 86) ji_30_85 rfl rfl rfl ?_
              refine wl_s (pc' := 87) ji_30_86 rfl rfl rfl ?_
              refine wl_icmp (t := 98) ji_30_87 rfl (by omega) (by omega) (fun (hb9 : (3 : Int) ≤ x) => ?_) (fun (hb9 : ¬ ((3 : Int) ≤ x)) => ?_)
              · refine wl_s (pc' := 99) ji_30_98 rfl rfl rfl ?_
                refine wl_s (pc' := 100) ji_30_99 rfl rfl rfl ?_
                refine wl_vc (d := d + 4) (as := [.ref 93, wp_i x]) (rest := []) ji_30_100 jc_30_94 rfl (cl_93 V) jk_51.symm (Nat.le_of_ble_eq_true rfl) rfl (by rw [jn_51]; rfl) (wc_dd (d := d) D hL H8 ht V (by omega) rfl HC (by omega) (x := x) (by omega)) (fun v1 h2 R => ?_)
                obtain ⟨rfl, k', v', q', r', f', xrn, hq, V⟩ := R
                show wl_R _ _ 30 103 [some (.ref 93), some (wp_i x)] [] h2 _
                exact wl_rv ji_30_103 jr_30 ⟨rfl, k', v', q', r', f', _, _, _, _, _, ls, _, cl + 1, _, _, by unfold clr; rw [hwd]; exact Or.inr ⟨by omega, Or.inr ⟨fun z => by omega, Or.inr ⟨by omega, Or.inr ⟨by omega, xrn⟩⟩⟩⟩, by omega, fun _ => hls, fun _ => ⟨rfl, by rw [hwd, if_neg (by omega)]; exact R0⟩, V⟩
              · refine wl_s (pc' := 91) ji_30_90 rfl rfl rfl ?_
                refine wl_s (pc' := 92) ji_30_91 rfl rfl rfl ?_
                refine wl_vc (d := d + 4) (as := [.ref 93, wp_i x]) (rest := []) ji_30_92 jc_30_91 rfl (cl_93 V) jk_33.symm (Nat.le_of_ble_eq_true rfl) rfl (by rw [jn_33]; rfl) (wc_rl (d := d) D hL H8 ht V (x := x) (by omega) hls (by omega) (by omega)) (fun v1 h2 R => ?_)
                obtain ⟨rfl, k', v', q', r', f', st', w', ls', as', z, m, lrn, hz, hq, hl, ws2, e2, hlen2, V⟩ := R
                show wl_R _ _ 30 95 [some (.ref 93), some (wp_i x)] [] h2 _
                refine wl_goto (t := 103) ji_30_95 rfl ?_
                exact wl_rv ji_30_103 jr_30 ⟨rfl, k', v', q', r', f', _, _, _, _, _, ls', _, cl + 1, _, _, by unfold clr; rw [hwd]; exact Or.inr ⟨by omega, Or.inr ⟨fun z => by have := hyb.mpr z.2; omega, Or.inr ⟨by omega, Or.inl ⟨by omega, m, lrn⟩⟩⟩⟩, by omega, hl, fun _ => ⟨rfl, by rw [hwd, if_pos (by omega)]; exact onr_1 R0 (by omega) hz⟩, V⟩
            · refine wl_s (pc' := 77) ji_30_76 rfl rfl rfl ?_
              refine wl_bp ji_30_77 rfl ?_
              refine wl_vc (d := d + 4) (as := [.ref 93, wp_i 6]) (rest := []) ji_30_79 jc_30_80 rfl (cl_93 V) jk_31.symm (Nat.le_of_ble_eq_true rfl) rfl (by rw [jn_31]; rfl) (wc_fail ht V) (fun v1 h2 R => ?_)
              obtain ⟨rfl, V⟩ := R
              show wl_R _ _ 30 82 [some (.ref 93), some (wp_i x)] [] h2 _
              refine wl_goto (t := 103) ji_30_82 rfl ?_
              exact wl_rv ji_30_103 jr_30 ⟨rfl, k, v, s, p, 6, _, _, _, _, _, ls, _, cl, _, _, by unfold clr; rw [hwd]; exact Or.inr ⟨by omega, Or.inr ⟨fun z => by have := hyb.mpr z.2; omega, Or.inl ⟨by omega, rfl, rfl, rfl⟩⟩⟩, by omega, fun z => by omega, fun z => by omega, by rw [if_neg (by decide)]; exact V⟩
          · refine wl_s (pc' := 57) ji_30_56 rfl rfl rfl ?_
            refine wl_s (pc' := 58) ji_30_57 rfl rfl rfl ?_
            refine wl_vc (d := d + 4) (as := [.ref 93, wp_i 4]) (rest := []) ji_30_58 jc_30_80 rfl (cl_93 V) jk_31.symm (Nat.le_of_ble_eq_true rfl) rfl (by rw [jn_31]; rfl) (wc_fail ht V) (fun v1 h2 R => ?_)
            obtain ⟨rfl, V⟩ := R
            show wl_R _ _ 30 61 [some (.ref 93), some (wp_i x)] [] h2 _
            refine wl_goto (t := 103) ji_30_61 rfl ?_
            exact wl_rv ji_30_103 jr_30 ⟨rfl, k, v, s, p, 4, _, _, _, _, _, ls, _, cl, _, _, by unfold clr; rw [hwd]; exact Or.inr ⟨by omega, Or.inl ⟨⟨by omega, hyb.mp (by omega)⟩, rfl, rfl, rfl⟩⟩, by omega, fun z => by omega, fun z => by omega, by rw [if_neg (by decide)]; exact V⟩
      · refine wl_s (pc' := 33) ji_30_32 rfl rfl rfl ?_
        refine wl_s (pc' := 34) ji_30_33 rfl rfl rfl ?_
        refine wl_vc (d := d + 4) (as := [.ref 93, wp_i 1]) (rest := []) ji_30_34 jc_30_80 rfl (cl_93 V) jk_31.symm (Nat.le_of_ble_eq_true rfl) rfl (by rw [jn_31]; rfl) (wc_fail ht V) (fun v1 h2 R => ?_)
        obtain ⟨rfl, V⟩ := R
        show wl_R _ _ 30 37 [some (.ref 93), some (wp_i x)] [] h2 _
        refine wl_goto (t := 103) ji_30_37 rfl ?_
        exact wl_rv ji_30_103 jr_30 ⟨rfl, k, v, s, p, 1, _, _, _, _, _, ls, _, cl, _, _, by unfold clr; rw [hwd]; exact Or.inl ⟨by omega, rfl, rfl, rfl⟩, by omega, fun z => by omega, fun z => by omega, by rw [if_neg (by decide)]; exact V⟩
  · refine wl_s (pc' := 11) ji_30_10 rfl rfl rfl ?_
    refine cl_g V ji_30_11 jf_30_47 rfl ?_
    refine cl_t V ji_30_14 jf_30_77 rfl ?_
    refine wl_goto (t := 21) ji_30_17 rfl ?_
    refine wl_s (pc' := 22) (lv' := [some (.ref 93), some (wp_i v)]) ji_30_21 rfl rfl rfl ?_
    obtain ⟨x, hx⟩ : ∃ x : Int, x = v := ⟨_, rfl⟩
    have hwd : wdo k v = x := by rw [hx]; unfold wdo; exact if_pos (by omega)
    have hxr : -1 ≤ x ∧ x ≤ 30 := by rw [hx]; omega
    have hE : wp_i x = wp_i v := by rw [hx]
    rw [← hE]
    show wl_R n (d + 5) 30 22 [some (.ref 93), some (wp_i x)] [] h _
    refine wl_s (pc' := 23) ji_30_22 rfl rfl rfl ?_
    refine wl_if (t := 32) ji_30_23 rfl (by omega) (fun (hb10 : (x : Int) < 0) => ?_) (fun (hb10 : ¬ ((x : Int) < 0)) => ?_)
    · refine wl_s (pc' := 33) ji_30_32 rfl rfl rfl ?_
      refine wl_s (pc' := 34) ji_30_33 rfl rfl rfl ?_
      refine wl_vc (d := d + 4) (as := [.ref 93, wp_i 1]) (rest := []) ji_30_34 jc_30_80 rfl (cl_93 V) jk_31.symm (Nat.le_of_ble_eq_true rfl) rfl (by rw [jn_31]; rfl) (wc_fail ht V) (fun v1 h2 R => ?_)
      obtain ⟨rfl, V⟩ := R
      show wl_R _ _ 30 37 [some (.ref 93), some (wp_i x)] [] h2 _
      refine wl_goto (t := 103) ji_30_37 rfl ?_
      exact wl_rv ji_30_103 jr_30 ⟨rfl, k, v, s, p, 1, _, _, _, _, _, ls, _, cl, _, _, by unfold clr; rw [hwd]; exact Or.inl ⟨by omega, rfl, rfl, rfl⟩, by omega, fun z => by omega, fun z => by omega, by rw [if_neg (by decide)]; exact V⟩
    · refine wl_s (pc' := 27) ji_30_26 rfl rfl rfl ?_
      refine wl_bp ji_30_27 rfl ?_
      refine wl_icmp (t := 40) ji_30_29 rfl (by omega) (by omega) (fun (hb11 : (x : Int) ≤ 9) => ?_) (fun (hb11 : ¬ ((x : Int) ≤ 9)) => ?_)
      · refine wl_s (pc' := 41) ji_30_40 rfl rfl rfl ?_
        refine wl_s (pc' := 42) ji_30_41 rfl rfl rfl ?_
        refine wl_icmp (t := 64) ji_30_42 rfl (by omega) (by omega) (fun (hb12 : (3 : Int) ≤ x) => ?_) (fun (hb12 : ¬ ((3 : Int) ≤ x)) => ?_)
        · refine wl_s (pc' := 65) ji_30_64 rfl rfl rfl ?_
          refine cl_g V ji_30_65 jf_30_51 rfl ?_
          refine tg_c V ji_30_68 jf_30_88 ?_
          refine wl_bp ji_30_71 rfl ?_
          refine wl_icmp (t := 85) ji_30_73 rfl (by omega) (by omega) (fun (hb13 : ¬ (cl : Int) = 24) => ?_) (fun (hb13 : ¬ (¬ (cl : Int) = 24)) => ?_)
          · refine wl_s (pc' := 86) ji_30_85 rfl rfl rfl ?_
            refine wl_s (pc' := 87) ji_30_86 rfl rfl rfl ?_
            refine wl_icmp (t := 98) ji_30_87 rfl (by omega) (by omega) (fun (hb14 : (3 : Int) ≤ x) => ?_) (fun (hb14 : ¬ ((3 : Int) ≤ x)) => ?_)
            · refine wl_s (pc' := 99) ji_30_98 rfl rfl rfl ?_
              refine wl_s (pc' := 100) ji_30_99 rfl rfl rfl ?_
              refine wl_vc (d := d + 4) (as := [.ref 93, wp_i x]) (rest := []) ji_30_100 jc_30_94 rfl (cl_93 V) jk_51.symm (Nat.le_of_ble_eq_true rfl) rfl (by rw [jn_51]; rfl) (wc_dd (d := d) D hL H8 ht V (by omega) rfl HC (by omega) (x := x) (by omega)) (fun v1 h2 R => ?_)
              obtain ⟨rfl, k', v', q', r', f', xrn, hq, V⟩ := R
              show wl_R _ _ 30 103 [some (.ref 93), some (wp_i x)] [] h2 _
              exact wl_rv ji_30_103 jr_30 ⟨rfl, k', v', q', r', f', _, _, _, _, _, ls, _, cl + 1, _, _, by unfold clr; rw [hwd]; exact Or.inr ⟨by omega, Or.inr ⟨fun z => by omega, Or.inr ⟨by omega, Or.inr ⟨by omega, xrn⟩⟩⟩⟩, by omega, fun _ => hls, fun _ => ⟨rfl, by rw [hwd, if_neg (by omega)]; exact R0⟩, V⟩
            · refine wl_s (pc' := 91) ji_30_90 rfl rfl rfl ?_
              refine wl_s (pc' := 92) ji_30_91 rfl rfl rfl ?_
              refine wl_vc (d := d + 4) (as := [.ref 93, wp_i x]) (rest := []) ji_30_92 jc_30_91 rfl (cl_93 V) jk_33.symm (Nat.le_of_ble_eq_true rfl) rfl (by rw [jn_33]; rfl) (wc_rl (d := d) D hL H8 ht V (x := x) (by omega) hls (by omega) (by omega)) (fun v1 h2 R => ?_)
              obtain ⟨rfl, k', v', q', r', f', st', w', ls', as', z, m, lrn, hz, hq, hl, ws2, e2, hlen2, V⟩ := R
              show wl_R _ _ 30 95 [some (.ref 93), some (wp_i x)] [] h2 _
              refine wl_goto (t := 103) ji_30_95 rfl ?_
              exact wl_rv ji_30_103 jr_30 ⟨rfl, k', v', q', r', f', _, _, _, _, _, ls', _, cl + 1, _, _, by unfold clr; rw [hwd]; exact Or.inr ⟨by omega, Or.inr ⟨fun z => by omega, Or.inr ⟨by omega, Or.inl ⟨by omega, m, lrn⟩⟩⟩⟩, by omega, hl, fun _ => ⟨rfl, by rw [hwd, if_pos (by omega)]; exact onr_1 R0 (by omega) hz⟩, V⟩
          · refine wl_s (pc' := 77) ji_30_76 rfl rfl rfl ?_
            refine wl_bp ji_30_77 rfl ?_
            refine wl_vc (d := d + 4) (as := [.ref 93, wp_i 6]) (rest := []) ji_30_79 jc_30_80 rfl (cl_93 V) jk_31.symm (Nat.le_of_ble_eq_true rfl) rfl (by rw [jn_31]; rfl) (wc_fail ht V) (fun v1 h2 R => ?_)
            obtain ⟨rfl, V⟩ := R
            show wl_R _ _ 30 82 [some (.ref 93), some (wp_i x)] [] h2 _
            refine wl_goto (t := 103) ji_30_82 rfl ?_
            exact wl_rv ji_30_103 jr_30 ⟨rfl, k, v, s, p, 6, _, _, _, _, _, ls, _, cl, _, _, by unfold clr; rw [hwd]; exact Or.inr ⟨by omega, Or.inr ⟨fun z => by omega, Or.inl ⟨by omega, rfl, rfl, rfl⟩⟩⟩, by omega, fun z => by omega, fun z => by omega, by rw [if_neg (by decide)]; exact V⟩
        · refine wl_s (pc' := 46) ji_30_45 rfl rfl rfl ?_
          refine cl_g V ji_30_46 jf_30_51 rfl ?_
          refine wl_s (pc' := 50) ji_30_49 rfl rfl rfl ?_
          obtain ⟨tfs, htc⟩ := cl_tc V
          refine wl_vc (d := d + 4) (as := [.ref t, wp_i x]) (rest := []) ji_30_50 jc_30_84 rfl htc jk_32.symm (Nat.le_of_ble_eq_true rfl) rfl (by rw [jn_32]; rfl) (wc_hs ht V (x := x) (by omega) (fun j hj => (R0.2 j hj).1)) (fun v1 h1 R => ?_)
          obtain ⟨e1, y, rfl, hya, hyb⟩ := R
          subst e1
          rw [← (R0.2 x.toNat (by omega)).2] at hyb
          show wl_R _ _ 30 53 [some (.ref 93), some (wp_i x)] [wp_i y] h1 _
          refine wl_if (t := 64) ji_30_53 rfl (by omega) (fun (hb15 : (y : Int) = 0) => ?_) (fun (hb15 : ¬ ((y : Int) = 0)) => ?_)
          · refine wl_s (pc' := 65) ji_30_64 rfl rfl rfl ?_
            refine cl_g V ji_30_65 jf_30_51 rfl ?_
            refine tg_c V ji_30_68 jf_30_88 ?_
            refine wl_bp ji_30_71 rfl ?_
            refine wl_icmp (t := 85) ji_30_73 rfl (by omega) (by omega) (fun (hb16 : ¬ (cl : Int) = 24) => ?_) (fun (hb16 : ¬ (¬ (cl : Int) = 24)) => ?_)
            · refine wl_s (pc' := 86) ji_30_85 rfl rfl rfl ?_
              refine wl_s (pc' := 87) ji_30_86 rfl rfl rfl ?_
              refine wl_icmp (t := 98) ji_30_87 rfl (by omega) (by omega) (fun (hb17 : (3 : Int) ≤ x) => ?_) (fun (hb17 : ¬ ((3 : Int) ≤ x)) => ?_)
              · refine wl_s (pc' := 99) ji_30_98 rfl rfl rfl ?_
                refine wl_s (pc' := 100) ji_30_99 rfl rfl rfl ?_
                refine wl_vc (d := d + 4) (as := [.ref 93, wp_i x]) (rest := []) ji_30_100 jc_30_94 rfl (cl_93 V) jk_51.symm (Nat.le_of_ble_eq_true rfl) rfl (by rw [jn_51]; rfl) (wc_dd (d := d) D hL H8 ht V (by omega) rfl HC (by omega) (x := x) (by omega)) (fun v1 h2 R => ?_)
                obtain ⟨rfl, k', v', q', r', f', xrn, hq, V⟩ := R
                show wl_R _ _ 30 103 [some (.ref 93), some (wp_i x)] [] h2 _
                exact wl_rv ji_30_103 jr_30 ⟨rfl, k', v', q', r', f', _, _, _, _, _, ls, _, cl + 1, _, _, by unfold clr; rw [hwd]; exact Or.inr ⟨by omega, Or.inr ⟨fun z => by omega, Or.inr ⟨by omega, Or.inr ⟨by omega, xrn⟩⟩⟩⟩, by omega, fun _ => hls, fun _ => ⟨rfl, by rw [hwd, if_neg (by omega)]; exact R0⟩, V⟩
              · refine wl_s (pc' := 91) ji_30_90 rfl rfl rfl ?_
                refine wl_s (pc' := 92) ji_30_91 rfl rfl rfl ?_
                refine wl_vc (d := d + 4) (as := [.ref 93, wp_i x]) (rest := []) ji_30_92 jc_30_91 rfl (cl_93 V) jk_33.symm (Nat.le_of_ble_eq_true rfl) rfl (by rw [jn_33]; rfl) (wc_rl (d := d) D hL H8 ht V (x := x) (by omega) hls (by omega) (by omega)) (fun v1 h2 R => ?_)
                obtain ⟨rfl, k', v', q', r', f', st', w', ls', as', z, m, lrn, hz, hq, hl, ws2, e2, hlen2, V⟩ := R
                show wl_R _ _ 30 95 [some (.ref 93), some (wp_i x)] [] h2 _
                refine wl_goto (t := 103) ji_30_95 rfl ?_
                exact wl_rv ji_30_103 jr_30 ⟨rfl, k', v', q', r', f', _, _, _, _, _, ls', _, cl + 1, _, _, by unfold clr; rw [hwd]; exact Or.inr ⟨by omega, Or.inr ⟨fun z => by have := hyb.mpr z.2; omega, Or.inr ⟨by omega, Or.inl ⟨by omega, m, lrn⟩⟩⟩⟩, by omega, hl, fun _ => ⟨rfl, by rw [hwd, if_pos (by omega)]; exact onr_1 R0 (by omega) hz⟩, V⟩
            · refine wl_s (pc' := 77) ji_30_76 rfl rfl rfl ?_
              refine wl_bp ji_30_77 rfl ?_
              refine wl_vc (d := d + 4) (as := [.ref 93, wp_i 6]) (rest := []) ji_30_79 jc_30_80 rfl (cl_93 V) jk_31.symm (Nat.le_of_ble_eq_true rfl) rfl (by rw [jn_31]; rfl) (wc_fail ht V) (fun v1 h2 R => ?_)
              obtain ⟨rfl, V⟩ := R
              show wl_R _ _ 30 82 [some (.ref 93), some (wp_i x)] [] h2 _
              refine wl_goto (t := 103) ji_30_82 rfl ?_
              exact wl_rv ji_30_103 jr_30 ⟨rfl, k, v, s, p, 6, _, _, _, _, _, ls, _, cl, _, _, by unfold clr; rw [hwd]; exact Or.inr ⟨by omega, Or.inr ⟨fun z => by have := hyb.mpr z.2; omega, Or.inl ⟨by omega, rfl, rfl, rfl⟩⟩⟩, by omega, fun z => by omega, fun z => by omega, by rw [if_neg (by decide)]; exact V⟩
          · refine wl_s (pc' := 57) ji_30_56 rfl rfl rfl ?_
            refine wl_s (pc' := 58) ji_30_57 rfl rfl rfl ?_
            refine wl_vc (d := d + 4) (as := [.ref 93, wp_i 4]) (rest := []) ji_30_58 jc_30_80 rfl (cl_93 V) jk_31.symm (Nat.le_of_ble_eq_true rfl) rfl (by rw [jn_31]; rfl) (wc_fail ht V) (fun v1 h2 R => ?_)
            obtain ⟨rfl, V⟩ := R
            show wl_R _ _ 30 61 [some (.ref 93), some (wp_i x)] [] h2 _
            refine wl_goto (t := 103) ji_30_61 rfl ?_
            exact wl_rv ji_30_103 jr_30 ⟨rfl, k, v, s, p, 4, _, _, _, _, _, ls, _, cl, _, _, by unfold clr; rw [hwd]; exact Or.inr ⟨by omega, Or.inl ⟨⟨by omega, hyb.mp (by omega)⟩, rfl, rfl, rfl⟩⟩, by omega, fun z => by omega, fun z => by omega, by rw [if_neg (by decide)]; exact V⟩
      · refine wl_s (pc' := 33) ji_30_32 rfl rfl rfl ?_
        refine wl_s (pc' := 34) ji_30_33 rfl rfl rfl ?_
        refine wl_vc (d := d + 4) (as := [.ref 93, wp_i 1]) (rest := []) ji_30_34 jc_30_80 rfl (cl_93 V) jk_31.symm (Nat.le_of_ble_eq_true rfl) rfl (by rw [jn_31]; rfl) (wc_fail ht V) (fun v1 h2 R => ?_)
        obtain ⟨rfl, V⟩ := R
        show wl_R _ _ 30 37 [some (.ref 93), some (wp_i x)] [] h2 _
        refine wl_goto (t := 103) ji_30_37 rfl ?_
        exact wl_rv ji_30_103 jr_30 ⟨rfl, k, v, s, p, 1, _, _, _, _, _, ls, _, cl, _, _, by unfold clr; rw [hwd]; exact Or.inl ⟨by omega, rfl, rfl, rfl⟩, by omega, fun z => by omega, fun z => by omega, by rw [if_neg (by decide)]; exact V⟩
