/-! -/
/-! -/
set_option maxRecDepth 100000 in
theorem ji_64_28 : mj_ins 64 28 = some (.iload 6) := by decide +kernel
set_option maxRecDepth 100000 in
theorem ji_64_30 : mj_ins 64 30 = some (.aload_n 0) := by decide +kernel
set_option maxRecDepth 100000 in
theorem ji_64_31 : mj_ins 64 31 = some (.getfield 24) := by decide +kernel
set_option maxRecDepth 100000 in
theorem jf_64_24 : mj_fld 64 24 = some (1, 3, (.array .int), false) := by decide +kernel
set_option maxRecDepth 100000 in
theorem ji_64_34 : mj_ins 64 34 = some (.iload_n 1) := by decide +kernel
set_option maxRecDepth 100000 in
theorem ji_64_35 : mj_ins 64 35 = some (.iaload) := by decide +kernel
set_option maxRecDepth 100000 in
theorem ji_64_36 : mj_ins 64 36 = some (.if_icmp .ge 82) := by decide +kernel
set_option maxRecDepth 100000 in
theorem ji_64_39 : mj_ins 64 39 = some (.aload_n 0) := by decide +kernel
set_option maxRecDepth 100000 in
theorem ji_64_40 : mj_ins 64 40 = some (.getfield 11) := by decide +kernel
set_option maxRecDepth 100000 in
theorem jf_64_11 : mj_fld 64 11 = some (1, 0, (.array .int), false) := by decide +kernel
set_option maxRecDepth 100000 in
theorem ji_64_43 : mj_ins 64 43 = some (.iload 6) := by decide +kernel
set_option maxRecDepth 100000 in
theorem ji_64_45 : mj_ins 64 45 = some (.iaload) := by decide +kernel
set_option maxRecDepth 100000 in
theorem ji_64_46 : mj_ins 64 46 = some (.istore 7) := by decide +kernel
set_option maxRecDepth 100000 in
theorem ji_64_48 : mj_ins 64 48 = some (.iload 7) := by decide +kernel
set_option maxRecDepth 100000 in
theorem ji_64_50 : mj_ins 64 50 = some (.sipush 20000) := by decide +kernel
set_option maxRecDepth 100000 in
theorem ji_64_53 : mj_ins 64 53 = some (.if_icmp .lt 16) := by decide +kernel
set_option maxRecDepth 100000 in
theorem ji_64_56 : mj_ins 64 56 = some (.aload_n 0) := by decide +kernel
set_option maxRecDepth 100000 in
theorem ji_64_57 : mj_ins 64 57 = some (.iload 7) := by decide +kernel
set_option maxRecDepth 100000 in
theorem ji_64_59 : mj_ins 64 59 = some (.iload 5) := by decide +kernel
set_option maxRecDepth 100000 in
theorem ji_64_61 : mj_ins 64 61 = some (.invokevirtual 52) := by decide +kernel
set_option maxRecDepth 100000 in
theorem jc_64_52 : mj_cal 64 52 = some (2, 66, 2) := by decide +kernel
set_option maxRecDepth 100000 in
theorem jn_66 : mj_nl 66 = 11 := by decide +kernel
set_option maxRecDepth 100000 in
theorem jk_66 : mj_cls 66 = 1 := by decide +kernel
set_option maxRecDepth 100000 in
theorem ji_64_64 : mj_ins 64 64 = some (.istore 5) := by decide +kernel
set_option maxRecDepth 100000 in
theorem ji_64_66 : mj_ins 64 66 = some (.goto 46) := by decide +kernel
set_option maxRecDepth 100000 in
theorem ji_64_112 : mj_ins 64 112 = some (.iinc 6 1) := by decide +kernel
set_option maxRecDepth 100000 in
theorem ji_64_115 : mj_ins 64 115 = some (.goto (-87)) := by decide +kernel
set_option maxRecDepth 100000 in
theorem ji_64_69 : mj_ins 64 69 = some (.iload 5) := by decide +kernel
set_option maxRecDepth 100000 in
theorem ji_64_71 : mj_ins 64 71 = some (.bipush 64) := by decide +kernel
set_option maxRecDepth 100000 in
theorem ji_64_73 : mj_ins 64 73 = some (.if_icmp .ge 39) := by decide +kernel
set_option maxRecDepth 100000 in
theorem ji_64_76 : mj_ins 64 76 = some (.aload_n 0) := by decide +kernel
set_option maxRecDepth 100000 in
theorem ji_64_77 : mj_ins 64 77 = some (.getfield 39) := by decide +kernel
set_option maxRecDepth 100000 in
theorem jf_64_39 : mj_fld 64 39 = some (1, 8, (.array .int), false) := by decide +kernel
set_option maxRecDepth 100000 in
theorem ji_64_80 : mj_ins 64 80 = some (.iload 5) := by decide +kernel
set_option maxRecDepth 100000 in
theorem ji_64_82 : mj_ins 64 82 = some (.iload 7) := by decide +kernel
set_option maxRecDepth 100000 in
theorem ji_64_84 : mj_ins 64 84 = some (.sipush 10000) := by decide +kernel
set_option maxRecDepth 100000 in
theorem ji_64_87 : mj_ins 64 87 = some (.if_icmp .ge 8) := by decide +kernel
set_option maxRecDepth 100000 in
theorem ji_64_90 : mj_ins 64 90 = some (.iload 7) := by decide +kernel
set_option maxRecDepth 100000 in
theorem ji_64_92 : mj_ins 64 92 = some (.goto 16) := by decide +kernel
set_option maxRecDepth 100000 in
theorem ji_64_108 : mj_ins 64 108 = some (.iastore) := by decide +kernel
set_option maxRecDepth 100000 in
theorem ji_64_109 : mj_ins 64 109 = some (.iinc 5 1) := by decide +kernel
set_option maxRecDepth 100000 in
theorem ji_64_95 : mj_ins 64 95 = some (.aload_n 2) := by decide +kernel
set_option maxRecDepth 100000 in
theorem ji_64_96 : mj_ins 64 96 = some (.iload 7) := by decide +kernel
set_option maxRecDepth 100000 in
theorem ji_64_98 : mj_ins 64 98 = some (.sipush 10000) := by decide +kernel
set_option maxRecDepth 100000 in
theorem ji_64_101 : mj_ins 64 101 = some (.isub) := by decide +kernel
set_option maxRecDepth 100000 in
theorem ji_64_102 : mj_ins 64 102 = some (.iload_n 3) := by decide +kernel
set_option maxRecDepth 100000 in
theorem ji_64_103 : mj_ins 64 103 = some (.iload 4) := by decide +kernel
set_option maxRecDepth 100000 in
theorem ji_64_105 : mj_ins 64 105 = some (.invokevirtual 56) := by decide +kernel
set_option maxRecDepth 100000 in
theorem jc_64_56 : mj_cal 64 56 = some (2, 68, 3) := by decide +kernel
set_option maxRecDepth 100000 in
theorem jn_68 : mj_nl 68 = 4 := by decide +kernel
set_option maxRecDepth 100000 in
theorem jk_68 : mj_cls 68 = 3 := by decide +kernel
set_option maxRecDepth 100000 in
theorem ji_64_118 : mj_ins 64 118 = some (.iload 5) := by decide +kernel
set_option maxRecDepth 100000 in
theorem ji_64_120 : mj_ins 64 120 = some (.ifCond .le 15) := by decide +kernel
set_option maxRecDepth 100000 in
theorem ji_64_135 : mj_ins 64 135 = some (.iconst 0) := by decide +kernel
set_option maxRecDepth 100000 in
theorem ji_64_136 : mj_ins 64 136 = some (.istore 6) := by decide +kernel
set_option maxRecDepth 100000 in
theorem ji_64_138 : mj_ins 64 138 = some (.getstatic 59) := by decide +kernel
set_option maxRecDepth 100000 in
theorem jst_64_59 : mj_stt 64 59 = some (.ref 6) := by decide +kernel
set_option maxRecDepth 100000 in
theorem ji_64_141 : mj_ins 64 141 = some (.iload_n 1) := by decide +kernel
set_option maxRecDepth 100000 in
theorem ji_64_142 : mj_ins 64 142 = some (.iaload) := by decide +kernel
set_option maxRecDepth 100000 in
theorem sq_6 : sh_T[6]? = some (1000, [], 3, 0) := by decide +kernel
set_option maxRecDepth 100000 in
theorem ji_64_143 : mj_ins 64 143 = some (.getstatic 62) := by decide +kernel
set_option maxRecDepth 100000 in
theorem jst_64_62 : mj_stt 64 62 = some (.ref 7) := by decide +kernel
set_option maxRecDepth 100000 in
theorem ji_64_146 : mj_ins 64 146 = some (.iload_n 1) := by decide +kernel
set_option maxRecDepth 100000 in
theorem ji_64_147 : mj_ins 64 147 = some (.iaload) := by decide +kernel
set_option maxRecDepth 100000 in
theorem sq_7 : sh_T[7]? = some (1000, [], 3, 0) := by decide +kernel
set_option maxRecDepth 100000 in
theorem ji_64_148 : mj_ins 64 148 = some (.iload 6) := by decide +kernel
set_option maxRecDepth 100000 in
theorem ji_64_150 : mj_ins 64 150 = some (.invokestatic 65) := by decide +kernel
set_option maxRecDepth 100000 in
theorem jc_64_65 : mj_cal 64 65 = some (11, 0, 0) := by decide +kernel
set_option maxRecDepth 100000 in
theorem ji_64_153 : mj_ins 64 153 = some (.invokestatic 70) := by decide +kernel
set_option maxRecDepth 100000 in
theorem jc_64_70 : mj_cal 64 70 = some (10, 0, 0) := by decide +kernel
set_option maxRecDepth 100000 in
theorem ji_64_156 : mj_ins 64 156 = some (.ireturn) := by decide +kernel
set_option maxRecDepth 100000 in
theorem jr_64 : mj_ret 64 = some .int := by decide +kernel
set_option maxRecDepth 100000 in
theorem ji_64_123 : mj_ins 64 123 = some (.aload_n 0) := by decide +kernel
set_option maxRecDepth 100000 in
theorem ji_64_124 : mj_ins 64 124 = some (.getfield 39) := by decide +kernel
set_option maxRecDepth 100000 in
theorem ji_64_127 : mj_ins 64 127 = some (.iload 5) := by decide +kernel
set_option maxRecDepth 100000 in
theorem ji_64_129 : mj_ins 64 129 = some (.iconst 1) := by decide +kernel
set_option maxRecDepth 100000 in
theorem ji_64_130 : mj_ins 64 130 = some (.isub) := by decide +kernel
set_option maxRecDepth 100000 in
theorem ji_64_131 : mj_ins 64 131 = some (.iaload) := by decide +kernel
set_option maxRecDepth 100000 in
theorem ji_64_132 : mj_ins 64 132 = some (.goto 4) := by decide +kernel
/-! says, in the class; laid by program (wp_u8.py) -/
theorem nmC_f {s s1 : sg_} (f : off s1 s) {F : Nat} (hF : isF F) (p w x : Int) : nmC s1 F p w x = nmC s F p w x := by
  have b := isF_b hF
  have e0 : ∀ j, s1 F j = s F j := fun j => f F j (by omega)
  have e2 : ∀ j, s1 (F + 2) j = s (F + 2) j := fun j => f _ j (by omega)
  have e3 : ∀ j, s1 (F + 3) j = s (F + 3) j := fun j => f _ j (by omega)
  have e4 : ∀ j, s1 (F + 4) j = s (F + 4) j := fun j => f _ j (by omega)
  have e6 : ∀ j, s1 (F + 6) j = s (F + 6) j := fun j => f _ j (by omega)
  have e7 : ∀ j, s1 (F + 7) j = s (F + 7) j := fun j => f _ j (by omega)
  unfold nmC
  simp only [e0, e2, e3, e4, e6, e7]
theorem IF_f {s s1 : sg_} {F : Nat} (e : ∀ (b : Nat) (j : Int), F ≤ b → b ≤ F + 7 → s1 b j = s b j) (I : IF s F) : IF s1 F := by
  have e0 : ∀ j, s1 F j = s F j := fun j => e F j (by omega) (by omega)
  have e2 : ∀ j, s1 (F + 2) j = s (F + 2) j := fun j => e _ j (by omega) (by omega)
  have e4 : ∀ j, s1 (F + 4) j = s (F + 4) j := fun j => e _ j (by omega) (by omega)
  have e6 : ∀ j, s1 (F + 6) j = s (F + 6) j := fun j => e _ j (by omega) (by omega)
  have e7 : ∀ j, s1 (F + 7) j = s (F + 7) j := fun j => e _ j (by omega) (by omega)
  unfold IF at I ⊢
  simp only [e0, e2, e4, e6, e7]
  exact I
theorem IF_off {s s1 : sg_} {F : Nat} (hF : isF F) (f : off s1 s) (I : IF s F) : IF s1 F := IF_f (fun b j h1 _ => f b j (by have := isF_b hF; omega)) I
theorem nmC_r {h : mj_H} {s : sg_} (C : CS0 h s) {F : Nat} (hF : isF F) (I : IF s F) {p w : Int} (hp : 0 ≤ p ∧ p < 8) (hw : 0 ≤ w ∧ w < 6) (x : Int) : wp_r (nmC s F p w x) := by
  have h3 : wp_r (s (F + 3) p) := c0_ri (k := p.toNat) C (by have := isF_b hF; omega) hF.2.2.2.2.1 (by omega) rfl (by show p.toNat < 0 + 8; omega)
  have h10 := I.2.2.2.2.2.2.2.1
  have h9 := I.2.2.2.2.2.2.1
  have h4 := I.2.2.2.1 w hw.1 hw.2
  have h2 := I.2.2.1 p hp.1 hp.2
  have h6 := I.2.2.2.2.1 (p * 6 + w) (by omega) (by omega)
  have h7 := I.2.2.2.2.2.1 (p * 6 + w) (by omega) (by omega)
  have hb := bcn_r (flg (fun j => s (F + 6) (p * 6 + j)) (s F 1).toNat)
  unfold nmC
  repeat' split
  all_goals (first | omega | (unfold fcn; omega) | exact h3)
theorem uc_64l {d : Nat} {s0 : sg_} {T : Nat} (hT : isT T) {F : Nat} (hF : isF F) (I0 : IF s0 F) {l p w up0 : Int} (hl : 0 ≤ l ∧ l < 3) (hp : 0 ≤ p ∧ p < 8) (hw : 0 ≤ w ∧ w < 6) (hu0 : s0 (T + 3) l = up0) {st3 : List Int} : ∀ (nn : Nat) (L st : List Int) (s : sg_) (h : mj_H) (i : Int) (l7 : Option Value), CS0 h s → off s s0 → stk s st → st.length ≤ 60 → (∀ k : Nat, k < L.length → L[k]? = some (s0 (T + 1) (i + k))) → (∀ it ∈ L, itm it) → evC (nmC s0 F p w) L st = some st3 → 0 ≤ i ∧ i + (L.length : Int) = up0 ∧ up0 ≤ 300 → wl_R nn (d + 2) 64 28 [some (.ref T), some (wp_i l), some (.ref F), some (wp_i p), some (wp_i w), some (wp_i ((st.length : Int))), some (wp_i i), l7] [] h (fun v1 h1 => v1 = some (wp_i (max (s0 6 l) (min (s0 7 l) (st3.headD 0)))) ∧ ∃ s1, CS0 h1 s1 ∧ off s1 s0) := by
  intro nn
  induction nn with
  | zero => intros; exact wl_0
  | succ nn ih =>
    intro L st s h i l7 C f hs h60 hL hI e hi
    have hTb := isT_b hT
    have hFb := isF_b hF
    have hup : s (T + 3) l = up0 := (f _ _ (by omega)).trans hu0
    cases L with
    | nil =>
      have hi : 0 ≤ i ∧ i + ((0 : Nat) : Int) = up0 ∧ up0 ≤ 300 := hi
      have e : some st = some st3 := e
      have e := Option.some.inj e
      rw [← e]
      have hd1 : 0 < st.length → st.headD 0 = s 10 (st.length - 1) := fun q => by
        cases st with
        | nil => exact absurd q (by decide)
        | cons b r =>
          show b = s 10 (((r.length + 1 : Nat) : Int) - 1)
          rw [show (((r.length + 1 : Nat) : Int) - 1) = (r.length : Int) by omega]
          exact hs.1.symm
      have hd0 : st.length = 0 → st.headD 0 = 0 := fun q => by
        cases st with
        | nil => rfl
        | cons b r => exact absurd q (by show ¬ r.length + 1 = 0; omega)
      refine wl_s1 (pc' := 30) ji_64_28 rfl rfl rfl ?_
      refine wl_s (pc' := 31) ji_64_30 rfl rfl rfl ?_
      refine c0_gr (r := T + 3) (k := 3) C (Nat.lt_of_lt_of_le (by decide) hT.1) hT.2.1 rfl ji_64_31 jf_64_24 ?_
      refine wl_s (pc' := 35) ji_64_34 rfl rfl rfl ?_
      refine c0_l (x := l) C (Nat.lt_of_lt_of_le (by decide) (Nat.le_trans hT.1 (Nat.le_add_right _ _))) hT.2.2.2.2.1 (by omega) ji_64_35 (fun ld10 ld11 ld12 => ?_)
      rw [hup] at ld12 ⊢
      refine wl_icmp (t := 118) ji_64_36 rfl (by omega) (by omega) (fun (hb2 : (up0 : Int) ≤ i) => ?_) (fun (hb2 : ¬ ((up0 : Int) ≤ i)) => (by exfalso; omega))
      refine wl_s (pc' := 120) ji_64_118 rfl rfl rfl ?_
      refine wl_if (t := 135) ji_64_120 rfl (by omega) (fun (hb3 : ((st.length : Int) : Int) ≤ 0) => ?_) (fun (hb3 : ¬ (((st.length : Int) : Int) ≤ 0)) => ?_)
      · refine wl_s (pc' := 136) ji_64_135 rfl rfl rfl ?_
        refine wl_s (pc' := 138) (lv' := [some (.ref T), some (wp_i l), some (.ref F), some (wp_i p), some (wp_i w), some (wp_i ((st.length : Int))), some (wp_i 0), l7]) ji_64_136 rfl rfl rfl ?_
        refine wl_gs ji_64_138 jst_64_59 ?_
        refine wl_s (pc' := 142) ji_64_141 rfl rfl rfl ?_
        refine c0_l (x := l) C (by decide) sq_6 (by omega) ji_64_142 (fun ld40 ld41 ld42 => ?_)
        refine wl_gs ji_64_143 jst_64_62 ?_
        refine wl_s (pc' := 147) ji_64_146 rfl rfl rfl ?_
        refine c0_l (x := l) C (by decide) sq_7 (by omega) ji_64_147 (fun ld50 ld51 ld52 => ?_)
        refine wl_s (pc' := 150) ji_64_148 rfl rfl rfl ?_
        refine wl_mn (a := s 7 l) (b := 0) ji_64_150 jc_64_65 (Nat.le_of_ble_eq_true rfl) (by omega) (by omega) ?_
        refine wl_mx (a := s 6 l) (b := min (s 7 l) 0) ji_64_153 jc_64_70 (Nat.le_of_ble_eq_true rfl) (by omega) (by omega) ?_
        exact wl_ri ji_64_156 jr_64 rfl (⟨by rw [f 6 l (by decide), f 7 l (by decide), show st.headD 0 = 0 by exact hd0 (by omega)], _, C, f⟩)
      · refine wl_s (pc' := 124) ji_64_123 rfl rfl rfl ?_
        refine c0_gr (r := 10) (k := 8) C (Nat.lt_of_lt_of_le (by decide) hT.1) hT.2.1 rfl ji_64_124 jf_64_39 ?_
        refine wl_s (pc' := 129) ji_64_127 rfl rfl rfl ?_
        refine wl_s (pc' := 130) ji_64_129 rfl rfl rfl ?_
        refine wl_isub (x := (st.length : Int)) (y := 1) (z := (st.length : Int) - 1) ji_64_130 (by omega) ?_
        refine c0_l (x := (st.length : Int) - 1) C (by decide) sq_10 (by omega) ji_64_131 (fun ld60 ld61 ld62 => ?_)
        refine wl_goto (t := 136) ji_64_132 rfl ?_
        refine wl_s (pc' := 138) (lv' := [some (.ref T), some (wp_i l), some (.ref F), some (wp_i p), some (wp_i w), some (wp_i ((st.length : Int))), some (wp_i (s 10 ((st.length : Int) - 1))), l7]) ji_64_136 rfl rfl rfl ?_
        refine wl_gs ji_64_138 jst_64_59 ?_
        refine wl_s (pc' := 142) ji_64_141 rfl rfl rfl ?_
        refine c0_l (x := l) C (by decide) sq_6 (by omega) ji_64_142 (fun ld70 ld71 ld72 => ?_)
        refine wl_gs ji_64_143 jst_64_62 ?_
        refine wl_s (pc' := 147) ji_64_146 rfl rfl rfl ?_
        refine c0_l (x := l) C (by decide) sq_7 (by omega) ji_64_147 (fun ld80 ld81 ld82 => ?_)
        refine wl_s (pc' := 150) ji_64_148 rfl rfl rfl ?_
        refine wl_mn (a := s 7 l) (b := s 10 ((st.length : Int) - 1)) ji_64_150 jc_64_65 (Nat.le_of_ble_eq_true rfl) (by omega) (by omega) ?_
        refine wl_mx (a := s 6 l) (b := min (s 7 l) (s 10 ((st.length : Int) - 1))) ji_64_153 jc_64_70 (Nat.le_of_ble_eq_true rfl) (by omega) (by omega) ?_
        exact wl_ri ji_64_156 jr_64 rfl (⟨by rw [f 6 l (by decide), f 7 l (by decide), show st.headD 0 = s 10 (st.length - 1) by exact hd1 (by omega)], _, C, f⟩)
    | cons x L =>
      have hi : 0 ≤ i ∧ i + ((L.length + 1 : Nat) : Int) = up0 ∧ up0 ≤ 300 := hi
      have hx0 : s (T + 1) i = x := by
        have := hL 0 (by show 0 < L.length + 1; omega)
        have this : some x = some (s0 (T + 1) (i + 0)) := this
        rw [Int.add_zero] at this
        exact (f _ _ (by omega)).trans (Option.some.inj this).symm
      have hL2 : ∀ k : Nat, k < L.length → L[k]? = some (s0 (T + 1) (i + 1 + k)) := fun k hk => by
        have := hL (k + 1) (by show k + 1 < L.length + 1; omega)
        rw [show i + ((k + 1 : Nat) : Int) = i + 1 + (k : Int) by omega] at this
        exact this
      have hit := hI x List.mem_cons_self
      have hI2 : ∀ it ∈ L, itm it := fun it q => hI it (List.mem_cons_of_mem _ q)
      have e : (stC (nmC s0 F p w) x st).bind (evC (nmC s0 F p w) L) = some st3 := e
      obtain ⟨st2, e1, e2⟩ := Option.bind_eq_some_iff.mp e
      clear e hL hI
      by_cases hx : 20000 ≤ x
      · 
        refine wl_s1 (pc' := 30) ji_64_28 rfl rfl rfl ?_
        refine wl_s (pc' := 31) ji_64_30 rfl rfl rfl ?_
        refine c0_gr (r := T + 3) (k := 3) C (Nat.lt_of_lt_of_le (by decide) hT.1) hT.2.1 rfl ji_64_31 jf_64_24 ?_
        refine wl_s (pc' := 35) ji_64_34 rfl rfl rfl ?_
        refine c0_l (x := l) C (Nat.lt_of_lt_of_le (by decide) (Nat.le_trans hT.1 (Nat.le_add_right _ _))) hT.2.2.2.2.1 (by omega) ji_64_35 (fun ld10 ld11 ld12 => ?_)
        rw [hup] at ld12 ⊢
        refine wl_icmp (t := 118) ji_64_36 rfl (by omega) (by omega) (fun (hb2 : (up0 : Int) ≤ i) => (by exfalso; omega)) (fun (hb2 : ¬ ((up0 : Int) ≤ i)) => ?_)
        refine wl_s (pc' := 40) ji_64_39 rfl rfl rfl ?_
        refine c0_gr (r := T + 1) (k := 0) C (Nat.lt_of_lt_of_le (by decide) hT.1) hT.2.1 rfl ji_64_40 jf_64_11 ?_
        refine wl_s (pc' := 45) ji_64_43 rfl rfl rfl ?_
        refine c0_l (x := i) C (Nat.lt_of_lt_of_le (by decide) (Nat.le_trans hT.1 (Nat.le_add_right _ _))) hT.2.2.1 (by omega) ji_64_45 (fun ld30 ld31 ld32 => ?_)
        rw [hx0] at ld32 ⊢
        refine wl_s (pc' := 48) (lv' := [some (.ref T), some (wp_i l), some (.ref F), some (wp_i p), some (wp_i w), some (wp_i ((st.length : Int))), some (wp_i i), some (wp_i x)]) ji_64_46 rfl rfl rfl ?_
        refine wl_s (pc' := 50) ji_64_48 rfl rfl rfl ?_
        refine wl_sp ji_64_50 rfl ?_
        refine wl_icmp (t := 69) ji_64_53 rfl (by omega) (by omega) (fun (hb4 : (x : Int) < 20000) => (by exfalso; omega)) (fun (hb4 : ¬ ((x : Int) < 20000)) => ?_)
        refine wl_s (pc' := 57) ji_64_56 rfl rfl rfl ?_
        refine wl_s (pc' := 59) ji_64_57 rfl rfl rfl ?_
        refine wl_s (pc' := 61) ji_64_59 rfl rfl rfl ?_
        obtain ⟨q6, hq6⟩ := c0_c C (Nat.lt_of_lt_of_le (by decide) hT.1) hT.2.1
        refine wl_vc (d := d + 1) (as := [.ref T, wp_i x, wp_i ((st.length : Int))]) (rest := []) ji_64_61 jc_64_52 rfl hq6 jk_66.symm (Nat.le_of_ble_eq_true rfl) rfl (by rw [jn_66]; rfl) (uc_66 (d := d) C hT hx hit hs h60 e1) (fun v1 h5 R => ?_)
        obtain ⟨rfl, s1, C, f1, k1⟩ := R
        show wl_R _ _ 64 64 [some (.ref T), some (wp_i l), some (.ref F), some (wp_i p), some (wp_i w), some (wp_i ((st.length : Int))), some (wp_i i), some (wp_i x)] [wp_i ((st2.length : Int))] h5 _
        refine wl_s (pc' := 66) (lv' := [some (.ref T), some (wp_i l), some (.ref F), some (wp_i p), some (wp_i w), some (wp_i ((st2.length : Int))), some (wp_i i), some (wp_i x)]) ji_64_64 rfl rfl rfl ?_
        refine wl_goto (t := 112) ji_64_66 rfl ?_
        refine wl_iinc (x := i) (z := i + 1) (lv' := [some (.ref T), some (wp_i l), some (.ref F), some (wp_i p), some (wp_i w), some (wp_i ((st2.length : Int))), some (wp_i (i + 1)), some (wp_i x)]) ji_64_112 rfl (Nat.le_of_ble_eq_true rfl) (by omega) rfl ?_
        refine wl_goto (t := 28) ji_64_115 rfl ?_
        exact ih L st2 s1 _ (i + 1) _ C (fun b j q => (f1 b j (fun e => q (Or.inl e))).trans (f b j q)) k1 (stC_l e1 h60) hL2 hI2 e2 (by omega)
      · have e1 : (if x < 20000 then (if st.length < 60 then some ((if x < 10000 then x else nmC s0 F p w (x - 10000)) :: st) else none) else _) = some st2 := e1
        rw [if_pos (by omega)] at e1
        by_cases h59 : st.length < 60
        · rw [if_pos h59] at e1
          have eu := Option.some.inj e1
          by_cases hx1 : x < 10000
          · rw [if_pos hx1] at eu
            have hx2 : 0 ≤ x := by
              rcases hit with c | c | c | c
              · exact c.1
              · omega
              · clear e1 eu; omega
              · omega
            clear hit
            refine wl_s1 (pc' := 30) ji_64_28 rfl rfl rfl ?_
            refine wl_s (pc' := 31) ji_64_30 rfl rfl rfl ?_
            refine c0_gr (r := T + 3) (k := 3) C (Nat.lt_of_lt_of_le (by decide) hT.1) hT.2.1 rfl ji_64_31 jf_64_24 ?_
            refine wl_s (pc' := 35) ji_64_34 rfl rfl rfl ?_
            refine c0_l (x := l) C (Nat.lt_of_lt_of_le (by decide) (Nat.le_trans hT.1 (Nat.le_add_right _ _))) hT.2.2.2.2.1 (by omega) ji_64_35 (fun ld10 ld11 ld12 => ?_)
            rw [hup] at ld12 ⊢
            refine wl_icmp (t := 118) ji_64_36 rfl (by omega) (by omega) (fun (hb2 : (up0 : Int) ≤ i) => (by exfalso; omega)) (fun (hb2 : ¬ ((up0 : Int) ≤ i)) => ?_)
            refine wl_s (pc' := 40) ji_64_39 rfl rfl rfl ?_
            refine c0_gr (r := T + 1) (k := 0) C (Nat.lt_of_lt_of_le (by decide) hT.1) hT.2.1 rfl ji_64_40 jf_64_11 ?_
            refine wl_s (pc' := 45) ji_64_43 rfl rfl rfl ?_
            refine c0_l (x := i) C (Nat.lt_of_lt_of_le (by decide) (Nat.le_trans hT.1 (Nat.le_add_right _ _))) hT.2.2.1 (by omega) ji_64_45 (fun ld30 ld31 ld32 => ?_)
            rw [hx0] at ld32 ⊢
            refine wl_s (pc' := 48) (lv' := [some (.ref T), some (wp_i l), some (.ref F), some (wp_i p), some (wp_i w), some (wp_i ((st.length : Int))), some (wp_i i), some (wp_i x)]) ji_64_46 rfl rfl rfl ?_
            refine wl_s (pc' := 50) ji_64_48 rfl rfl rfl ?_
            refine wl_sp ji_64_50 rfl ?_
            refine wl_icmp (t := 69) ji_64_53 rfl (by omega) (by omega) (fun (hb4 : (x : Int) < 20000) => ?_) (fun (hb4 : ¬ ((x : Int) < 20000)) => (by exfalso; omega))
            refine wl_s (pc' := 71) ji_64_69 rfl rfl rfl ?_
            refine wl_bp ji_64_71 rfl ?_
            refine wl_icmp (t := 112) ji_64_73 rfl (by omega) (by omega) (fun (hb5 : (64 : Int) ≤ ((st.length : Int))) => (by exfalso; omega)) (fun (hb5 : ¬ ((64 : Int) ≤ ((st.length : Int)))) => ?_)
            refine wl_s (pc' := 77) ji_64_76 rfl rfl rfl ?_
            refine c0_gr (r := 10) (k := 8) C (Nat.lt_of_lt_of_le (by decide) hT.1) hT.2.1 rfl ji_64_77 jf_64_39 ?_
            refine wl_s (pc' := 82) ji_64_80 rfl rfl rfl ?_
            refine wl_s (pc' := 84) ji_64_82 rfl rfl rfl ?_
            refine wl_sp ji_64_84 rfl ?_
            refine wl_icmp (t := 95) ji_64_87 rfl (by omega) (by omega) (fun (hb6 : (10000 : Int) ≤ x) => (by exfalso; omega)) (fun (hb6 : ¬ ((10000 : Int) ≤ x)) => ?_)
            refine wl_s (pc' := 92) ji_64_90 rfl rfl rfl ?_
            refine wl_goto (t := 108) ji_64_92 rfl ?_
            refine c0_s (x := (st.length : Int)) (y := x) C (by decide) sq_10 (by omega) (by omega) ji_64_108 (fun h st70 st71 C => ?_)
            obtain ⟨s8, es8⟩ : ∃ z9_, up s 10 ((st.length : Int)) x = z9_ := ⟨_, rfl⟩
            rw [es8] at C
            refine wl_iinc (x := (st.length : Int)) (z := (st.length : Int) + 1) (lv' := [some (.ref T), some (wp_i l), some (.ref F), some (wp_i p), some (wp_i w), some (wp_i ((st.length : Int) + 1)), some (wp_i i), some (wp_i x)]) ji_64_109 rfl (Nat.le_of_ble_eq_true rfl) (by omega) rfl ?_
            refine wl_iinc (x := i) (z := i + 1) (lv' := [some (.ref T), some (wp_i l), some (.ref F), some (wp_i p), some (wp_i w), some (wp_i ((st.length : Int) + 1)), some (wp_i (i + 1)), some (wp_i x)]) ji_64_112 rfl (Nat.le_of_ble_eq_true rfl) (by omega) rfl ?_
            refine wl_goto (t := 28) ji_64_115 rfl ?_
            have C := c0_mono C (show s8 = up s 10 (st.length : Int) (x) by rw [← es8])
            exact ih L ((x) :: st) _ _ (i + 1) _ C (fun b j q => (up_10 b j (fun e => q (Or.inl e))).trans (f b j q)) ⟨up_e _ _ _ _, stk_up (Int.le_refl _) hs⟩ (by show st.length + 1 ≤ 60; omega) hL2 hI2 (by rw [← e2, ← eu]) (by omega)
          · rw [if_neg hx1, ← nmC_f f hF] at eu
            have hnm : nmv (x - 10000) := by
              rcases hit with c | c | c | c
              · omega
              · exact c.2.2
              · clear e1 eu; omega
              · omega
            clear hit
            have Is := IF_off hF f I0
            have hnr := nmC_r C hF Is hp hw (x - 10000)
            refine wl_s1 (pc' := 30) ji_64_28 rfl rfl rfl ?_
            refine wl_s (pc' := 31) ji_64_30 rfl rfl rfl ?_
            refine c0_gr (r := T + 3) (k := 3) C (Nat.lt_of_lt_of_le (by decide) hT.1) hT.2.1 rfl ji_64_31 jf_64_24 ?_
            refine wl_s (pc' := 35) ji_64_34 rfl rfl rfl ?_
            refine c0_l (x := l) C (Nat.lt_of_lt_of_le (by decide) (Nat.le_trans hT.1 (Nat.le_add_right _ _))) hT.2.2.2.2.1 (by omega) ji_64_35 (fun ld10 ld11 ld12 => ?_)
            rw [hup] at ld12 ⊢
            refine wl_icmp (t := 118) ji_64_36 rfl (by omega) (by omega) (fun (hb2 : (up0 : Int) ≤ i) => (by exfalso; omega)) (fun (hb2 : ¬ ((up0 : Int) ≤ i)) => ?_)
            refine wl_s (pc' := 40) ji_64_39 rfl rfl rfl ?_
            refine c0_gr (r := T + 1) (k := 0) C (Nat.lt_of_lt_of_le (by decide) hT.1) hT.2.1 rfl ji_64_40 jf_64_11 ?_
            refine wl_s (pc' := 45) ji_64_43 rfl rfl rfl ?_
            refine c0_l (x := i) C (Nat.lt_of_lt_of_le (by decide) (Nat.le_trans hT.1 (Nat.le_add_right _ _))) hT.2.2.1 (by omega) ji_64_45 (fun ld30 ld31 ld32 => ?_)
            rw [hx0] at ld32 ⊢
            refine wl_s (pc' := 48) (lv' := [some (.ref T), some (wp_i l), some (.ref F), some (wp_i p), some (wp_i w), some (wp_i ((st.length : Int))), some (wp_i i), some (wp_i x)]) ji_64_46 rfl rfl rfl ?_
            refine wl_s (pc' := 50) ji_64_48 rfl rfl rfl ?_
            refine wl_sp ji_64_50 rfl ?_
            refine wl_icmp (t := 69) ji_64_53 rfl (by omega) (by omega) (fun (hb4 : (x : Int) < 20000) => ?_) (fun (hb4 : ¬ ((x : Int) < 20000)) => (by exfalso; omega))
            refine wl_s (pc' := 71) ji_64_69 rfl rfl rfl ?_
            refine wl_bp ji_64_71 rfl ?_
            refine wl_icmp (t := 112) ji_64_73 rfl (by omega) (by omega) (fun (hb5 : (64 : Int) ≤ ((st.length : Int))) => (by exfalso; omega)) (fun (hb5 : ¬ ((64 : Int) ≤ ((st.length : Int)))) => ?_)
            refine wl_s (pc' := 77) ji_64_76 rfl rfl rfl ?_
            refine c0_gr (r := 10) (k := 8) C (Nat.lt_of_lt_of_le (by decide) hT.1) hT.2.1 rfl ji_64_77 jf_64_39 ?_
            refine wl_s (pc' := 82) ji_64_80 rfl rfl rfl ?_
            refine wl_s (pc' := 84) ji_64_82 rfl rfl rfl ?_
            refine wl_sp ji_64_84 rfl ?_
            refine wl_icmp (t := 95) ji_64_87 rfl (by omega) (by omega) (fun (hb6 : (10000 : Int) ≤ x) => ?_) (fun (hb6 : ¬ ((10000 : Int) ≤ x)) => (by exfalso; omega))
            refine wl_s (pc' := 96) ji_64_95 rfl rfl rfl ?_
            refine wl_s (pc' := 98) ji_64_96 rfl rfl rfl ?_
            refine wl_sp ji_64_98 rfl ?_
            refine wl_isub (x := x) (y := 10000) (z := x - 10000) ji_64_101 (by omega) ?_
            refine wl_s (pc' := 103) ji_64_102 rfl rfl rfl ?_
            refine wl_s (pc' := 105) ji_64_103 rfl rfl rfl ?_
            obtain ⟨q8, hq8⟩ := c0_c C (Nat.lt_of_lt_of_le (by decide) hF.1) hF.2.1
            refine wl_vc (d := d + 1) (as := [.ref F, wp_i (x - 10000), wp_i p, wp_i w]) (rest := [wp_i ((st.length : Int)), .ref 10]) ji_64_105 jc_64_56 rfl hq8 jk_68.symm (Nat.le_of_ble_eq_true rfl) rfl (by rw [jn_68]; rfl) (uc_68 (d := d) (cs_of C) hF Is hnm hp hw) (fun v1 h7 R => ?_)
            obtain ⟨ee, rfl⟩ := R
            rw [ee]
            clear ee
            show wl_R _ _ 64 108 [some (.ref T), some (wp_i l), some (.ref F), some (wp_i p), some (wp_i w), some (wp_i ((st.length : Int))), some (wp_i i), some (wp_i x)] [wp_i (nmC s F p w (x - 10000)), wp_i ((st.length : Int)), .ref 10] _ _
            refine c0_s (x := (st.length : Int)) (y := nmC s F p w (x - 10000)) C (by decide) sq_10 (by omega) (by omega) ji_64_108 (fun h st90 st91 C => ?_)
            obtain ⟨s10, es10⟩ : ∃ z9_, up s 10 ((st.length : Int)) (nmC s F p w (x - 10000)) = z9_ := ⟨_, rfl⟩
            rw [es10] at C
            refine wl_iinc (x := (st.length : Int)) (z := (st.length : Int) + 1) (lv' := [some (.ref T), some (wp_i l), some (.ref F), some (wp_i p), some (wp_i w), some (wp_i ((st.length : Int) + 1)), some (wp_i i), some (wp_i x)]) ji_64_109 rfl (Nat.le_of_ble_eq_true rfl) (by omega) rfl ?_
            refine wl_iinc (x := i) (z := i + 1) (lv' := [some (.ref T), some (wp_i l), some (.ref F), some (wp_i p), some (wp_i w), some (wp_i ((st.length : Int) + 1)), some (wp_i (i + 1)), some (wp_i x)]) ji_64_112 rfl (Nat.le_of_ble_eq_true rfl) (by omega) rfl ?_
            refine wl_goto (t := 28) ji_64_115 rfl ?_
            have C := c0_mono C (show s10 = up s 10 (st.length : Int) (nmC s F p w (x - 10000)) by rw [← es10])
            exact ih L ((nmC s F p w (x - 10000)) :: st) _ _ (i + 1) _ C (fun b j q => (up_10 b j (fun e => q (Or.inl e))).trans (f b j q)) ⟨up_e _ _ _ _, stk_up (Int.le_refl _) hs⟩ (by show st.length + 1 ≤ 60; omega) hL2 hI2 (by rw [← e2, ← eu]) (by omega)
        · rw [if_neg h59] at e1
          cases e1
