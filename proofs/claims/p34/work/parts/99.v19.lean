/-! -/
/-! the reference's weigh, exactly; laid by program (wp_v19.py) -/
section RVX
variable {M : List Nat} {h0 h : mj_H} {a R X A : Nat} {P : Int} {rl tl : List Value} {d m pc : Nat} {lv : mj_L} {st : List Value} {Q : Option Value → mj_H → Prop}
theorem rv_lax (V : rv M h0 h a R X A P rl tl) (hA : 10021 ∉ M) {as : List Value} (HA : h0[A]? = some (1000, as)) {x y : Int} (hi : mj_ins m pc = some .iaload) (hx : 16 ≤ x) (hl : x < 6044) (hy : as[x.toNat]? = some (wp_i y)) (hr : wp_R d m (pc + 1) lv (wp_i y :: st) h Q) : wp_R d m pc lv (wp_i x :: .ref A :: st) h Q := by
  obtain ⟨hH, ef, -, -, -, -, tA, -⟩ := V
  obtain ⟨vs, v1, v2⟩ := ef.2.1 A 21 1000 as tA (by decide) HA hA
  obtain ⟨-, ws, c1, c2, -⟩ := hH A 21 sx_y21 tA rfl
  have c1 : h[A]? = some (1000, ws) := c1
  rw [v1] at c1
  cases c1
  have c2 : vs.length = 6044 := c2
  exact wp_ial hi v1 (by omega) (by omega) (by omega) (by rw [v2 x.toNat (fun _ => by omega)]; exact hy) hr
end RVX
theorem ws_handsX {d : Nat} {M : List Nat} (hA : 10021 ∉ M) {h0 h : mj_H} {a R X A PN : Nat} {rl tl : List Value} (V : rv M h0 h a R X A (PN : Int) rl tl) {as : List Value} (HA : h0[A]? = some (1000, as)) {g : Int → Int} (Hg : ∀ w : Int, 0 ≤ w → w < 6 → as[(40 + 2 * w).toNat]? = some (wp_i (g w)) ∧ 0 ≤ g w ∧ g w ≤ 9) {w : Int} (hw : 0 ≤ w ∧ w ≤ 5) : wp_R d 227 0 [some (.ref a), some (wp_i w)] [] h (fun v h1 => h1 = h ∧ v = some (wp_i (g w))) := by
  refine wp_s (pc' := 1) ji_227_0 rfl rfl rfl ?_
  refine rv_gA V ji_227_1 jf_227_7 ?_
  refine wp_bp ji_227_4 rfl ?_
  refine wp_s (pc' := 7) ji_227_6 rfl rfl rfl ?_
  refine wp_s (pc' := 8) ji_227_7 rfl rfl rfl ?_
  refine wp_imul (x := 2) (y := w) (z := 2 * w) ji_227_8 (by omega) ?_
  refine wp_iadd (x := 40) (y := 2 * w) (z := 40 + 2 * w) ji_227_9 (by omega) ?_
  refine rv_lax V hA HA (x := 40 + 2 * w) ji_227_10 (by omega) (by omega) (Hg w hw.1 (by omega)).1 ?_
  exact wp_ri ji_227_11 jr_227 rfl ⟨rfl, rfl⟩
/-- hands of the first k of a row; who decides there -/
def sgK (g : Int → Int) (q : List Int) : Nat → Int
  | 0 => 0
  | k + 1 => sgK g q k + g (q.getD k 0)
def pvK (g : Int → Int) (q0 : Int) (q : List Int) (w : Nat) : Nat → Int
  | 0 => 0
  | k + 1 => pvK g q0 q w k + (if q.getD k 0 = (w : Int) ∧ sgK g q k < q0 ∧ q0 ≤ sgK g q (k + 1) then 1 else 0)
def rwS (g : Int → Int) (q0 : Int) (P w : Nat) : Nat → List Int → Int
  | 0, _ => 0
  | n + 1, q => pvK g q0 q w P + match nr P q with
    | none => 0
    | some q' => rwS g q0 P w n q'
def rwN (P : Nat) : Nat → List Int → Int
  | 0, _ => 0
  | n + 1, q => 1 + match nr P q with
    | none => 0
    | some q' => rwN P n q'
theorem sgK_b {g : Int → Int} {q : List Int} {P : Nat} (h : ∀ k, k < P → 0 ≤ g (q.getD k 0) ∧ g (q.getD k 0) ≤ 9) : ∀ k : Nat, k ≤ P → 0 ≤ sgK g q k ∧ sgK g q k ≤ 9 * (k : Int)
  | 0, _ => by show (0 : Int) ≤ 0 ∧ (0 : Int) ≤ 9 * 0; decide
  | k + 1, hk => by
    have a := sgK_b h k (by omega)
    have b := h k (by omega)
    show 0 ≤ sgK g q k + g (q.getD k 0) ∧ sgK g q k + g (q.getD k 0) ≤ 9 * ((k + 1 : Nat) : Int)
    omega
theorem pvK_b {g : Int → Int} {q0 : Int} {q : List Int} {w P : Nat} (h : ∀ k, k < P → 0 ≤ g (q.getD k 0) ∧ g (q.getD k 0) ≤ 9) : ∀ k : Nat, k ≤ P → (sgK g q k < q0 → pvK g q0 q w k = 0) ∧ 0 ≤ pvK g q0 q w k ∧ pvK g q0 q w k ≤ 1
  | 0, _ => ⟨fun _ => rfl, Int.le_refl _, by show (0 : Int) ≤ 1; decide⟩
  | k + 1, hk => by
    obtain ⟨a1, a2, a3⟩ := pvK_b (q0 := q0) (w := w) h k (by omega)
    have b := h k (by omega)
    have e : sgK g q (k + 1) = sgK g q k + g (q.getD k 0) := rfl
    show (sgK g q (k + 1) < q0 → pvK g q0 q w k + _ = 0) ∧ 0 ≤ pvK g q0 q w k + _ ∧ pvK g q0 q w k + _ ≤ 1
    by_cases c : q.getD k 0 = (w : Int) ∧ sgK g q k < q0 ∧ q0 ≤ sgK g q (k + 1)
    · rw [if_pos c]
      have := a1 c.2.1
      omega
    · rw [if_neg c]
      refine ⟨fun z => ?_, by omega, by omega⟩
      have := a1 (by omega)
      omega
theorem wx39 {d : Nat} {M : List Nat} (hA : 10021 ∉ M) (hMX : 10070 ∈ M) {h0 : mj_H} {a R X A PN : Nat} {rl : List Value} {q : List Int} {q0 all : Int} (hq0 : 1 ≤ q0 ∧ q0 ≤ 99) (hall : 0 ≤ all ∧ all ≤ 719) (hr : rr rl q) {as : List Value} (HA : h0[A]? = some (1000, as)) {g : Int → Int} (Hg : ∀ w : Int, 0 ≤ w → w < 6 → as[(40 + 2 * w).toNat]? = some (wp_i (g w)) ∧ 0 ≤ g w ∧ g w ≤ 9) {T : Nat → Int} (hT : ∀ w, w < 6 → 0 ≤ T w ∧ T w ≤ all) {Q : Option Value → mj_H → Prop} (hQ : ∀ (h : mj_H) (tl : List Value) (sum k : Int) (x6 : Option Value), rv M h0 h a R X A (PN : Int) rl tl → (∀ w, w < 6 → sx_el tl w = T w + pvK g q0 q w PN) → wp_R (d + 1) 294 104 [some (.ref a), some (wp_i q0), some (wp_i all), some (wp_i 1), some (wp_i sum), some (wp_i k), x6] [] h Q) : ∀ (n k : Nat) (h : mj_H) (tl : List Value) (x6 : Option Value), rv M h0 h a R X A (PN : Int) rl tl → k + n = 7 → k ≤ PN → (∀ w, w < 6 → sx_el tl w = T w + pvK g q0 q w k) → wp_R (d + 1) 294 39 [some (.ref a), some (wp_i q0), some (wp_i all), some (wp_i 1), some (wp_i (sgK g q k)), some (wp_i ((k : Int))), x6] [] h Q := by
  intro n
  induction n with
  | zero => intro k h tl x6 V h1 h2; have hP : (0 : Int) ≤ (PN : Int) ∧ (PN : Int) ≤ 6 := V.2.2.2.2.2.2.2.1; omega
  | succ n ih =>
    intro k h tl x6 V hn hk hB
    have hP : (0 : Int) ≤ (PN : Int) ∧ (PN : Int) ≤ 6 := V.2.2.2.2.2.2.2.1
    have hlt := (rv_len V).2
    have hg9 : ∀ j, j < PN → 0 ≤ g (q.getD j 0) ∧ g (q.getD j 0) ≤ 9 := fun j hj => by
      have qb := rv_qb V hr (j := j) (by omega)
      exact (Hg (q.getD j 0) qb.1 (by omega)).2
    have hs := sgK_b hg9 k hk
    by_cases hk6 : k = 6
    · subst hk6
      refine wp_s (pc' := 41) ji_294_39 rfl rfl rfl ?_
      refine wp_s (pc' := 42) ji_294_41 rfl rfl rfl ?_
      refine rv_gA V ji_294_42 jf_294_7 ?_
      refine wp_s (pc' := 46) ji_294_45 rfl rfl rfl ?_
      refine rv_P V ji_294_46 ?_
      refine wp_icmp (t := 104) ji_294_47 rfl (by omega) (by omega) (fun (hb3 : ((PN : Int) : Int) ≤ (((6 : Nat) : Int))) => ?_) (fun (hb3 : ¬ (((PN : Int) : Int) ≤ (((6 : Nat) : Int)))) => (by exfalso; omega))
      have ek : 6 = PN := by omega
      subst ek
      exact hQ h tl _ _ x6 V hB
    · have qb := rv_qb V hr (j := k) (by omega)
      have gk := (Hg (q.getD k 0) qb.1 (by omega)).2
      have es : sgK g q (k + 1) = sgK g q k + g (q.getD k 0) := rfl
      refine wp_s (pc' := 41) ji_294_39 rfl rfl rfl ?_
      refine wp_s (pc' := 42) ji_294_41 rfl rfl rfl ?_
      refine rv_gA V ji_294_42 jf_294_7 ?_
      refine wp_s (pc' := 46) ji_294_45 rfl rfl rfl ?_
      refine rv_P V ji_294_46 ?_
      refine wp_icmp (t := 104) ji_294_47 rfl (by omega) (by omega) (fun (hb3 : ((PN : Int) : Int) ≤ ((k : Int))) => ?_) (fun (hb3 : ¬ (((PN : Int) : Int) ≤ ((k : Int)))) => ?_)
      · have ek : k = PN := by omega
        subst ek
        exact hQ h tl _ _ x6 V hB
      · refine wp_s (pc' := 52) ji_294_50 rfl rfl rfl ?_
        refine wp_s (pc' := 54) (lv' := [some (.ref a), some (wp_i q0), some (wp_i all), some (wp_i 1), some (wp_i (sgK g q k)), some (wp_i ((k : Int))), some (wp_i (sgK g q k))]) ji_294_52 rfl rfl rfl ?_
        refine wp_s (pc' := 56) ji_294_54 rfl rfl rfl ?_
        refine wp_s (pc' := 57) ji_294_56 rfl rfl rfl ?_
        refine wp_s (pc' := 58) ji_294_57 rfl rfl rfl ?_
        refine rv_gR V ji_294_58 jf_294_50 ?_
        refine wp_s (pc' := 63) ji_294_61 rfl rfl rfl ?_
        refine rv_lr V (x := (k : Int)) (y := q.getD k 0) ji_294_63 (by omega) (by omega) (hr.2 k (by omega)) (fun l4 u5 => ?_)
        refine rv_vc V ji_294_64 jc_294_286 jk_227 (rest := [wp_i (sgK g q k)]) rfl (Nat.le_of_ble_eq_true rfl) rfl (by rw [jn_227]; rfl) (ws_handsX hA V HA Hg qb) (fun v h R => ?_)
        obtain ⟨rfl, rfl⟩ := R
        show wp_R (d + 1) 294 67 [some (.ref a), some (wp_i q0), some (wp_i all), some (wp_i 1), some (wp_i (sgK g q k)), some (wp_i ((k : Int))), some (wp_i (sgK g q k))] [wp_i (g (q.getD k 0)), wp_i (sgK g q k)] h _
        refine wp_iadd (x := sgK g q k) (y := g (q.getD k 0)) (z := sgK g q k + (g (q.getD k 0))) ji_294_67 (by omega) ?_
        refine wp_s (pc' := 70) (lv' := [some (.ref a), some (wp_i q0), some (wp_i all), some (wp_i 1), some (wp_i (sgK g q k + (g (q.getD k 0)))), some (wp_i ((k : Int))), some (wp_i (sgK g q k))]) ji_294_68 rfl rfl rfl ?_
        refine wp_s (pc' := 72) ji_294_70 rfl rfl rfl ?_
        refine wp_s (pc' := 73) ji_294_72 rfl rfl rfl ?_
        refine wp_icmp (t := 98) ji_294_73 rfl (by omega) (by omega) (fun (hb6 : (q0 : Int) ≤ (sgK g q k)) => ?_) (fun (hb6 : ¬ ((q0 : Int) ≤ (sgK g q k))) => ?_)
        · refine wp_iinc (x := (k : Int)) (z := ((k + 1 : Nat) : Int)) (lv' := [some (.ref a), some (wp_i q0), some (wp_i all), some (wp_i 1), some (wp_i (sgK g q k + (g (q.getD k 0)))), some (wp_i (((k + 1 : Nat) : Int))), some (wp_i (sgK g q k))]) ji_294_98 rfl (Nat.le_of_ble_eq_true rfl) (by omega) rfl ?_
          refine wp_goto (t := 39) ji_294_101 rfl ?_
          refine ih (k + 1) h tl _ V (by omega) (by omega) (fun w hw => ?_)
          show sx_el tl w = T w + (pvK g q0 q w k + (if q.getD k 0 = (w : Int) ∧ sgK g q k < q0 ∧ q0 ≤ sgK g q (k + 1) then (1 : Int) else 0))
          rw [if_neg (show ¬ (q.getD k 0 = (w : Int) ∧ sgK g q k < q0 ∧ q0 ≤ sgK g q (k + 1)) by omega), hB w hw]
          omega
        · refine wp_s (pc' := 78) ji_294_76 rfl rfl rfl ?_
          refine wp_s (pc' := 79) ji_294_78 rfl rfl rfl ?_
          refine wp_icmp (t := 98) ji_294_79 rfl (by omega) (by omega) (fun (hb7 : (sgK g q k + (g (q.getD k 0)) : Int) < q0) => ?_) (fun (hb7 : ¬ ((sgK g q k + (g (q.getD k 0)) : Int) < q0)) => ?_)
          · refine wp_iinc (x := (k : Int)) (z := ((k + 1 : Nat) : Int)) (lv' := [some (.ref a), some (wp_i q0), some (wp_i all), some (wp_i 1), some (wp_i (sgK g q k + (g (q.getD k 0)))), some (wp_i (((k + 1 : Nat) : Int))), some (wp_i (sgK g q k))]) ji_294_98 rfl (Nat.le_of_ble_eq_true rfl) (by omega) rfl ?_
            refine wp_goto (t := 39) ji_294_101 rfl ?_
            refine ih (k + 1) h tl _ V (by omega) (by omega) (fun w hw => ?_)
            show sx_el tl w = T w + (pvK g q0 q w k + (if q.getD k 0 = (w : Int) ∧ sgK g q k < q0 ∧ q0 ≤ sgK g q (k + 1) then (1 : Int) else 0))
            rw [if_neg (show ¬ (q.getD k 0 = (w : Int) ∧ sgK g q k < q0 ∧ q0 ≤ sgK g q (k + 1)) by omega), hB w hw]
            omega
          · refine wp_s (pc' := 83) ji_294_82 rfl rfl rfl ?_
            refine rv_gX V ji_294_83 jf_294_53 ?_
            refine wp_s (pc' := 87) ji_294_86 rfl rfl rfl ?_
            refine rv_gR V ji_294_87 jf_294_50 ?_
            refine wp_s (pc' := 92) ji_294_90 rfl rfl rfl ?_
            refine rv_lr V (x := (k : Int)) (y := q.getD k 0) ji_294_92 (by omega) (by omega) (hr.2 k (by omega)) (fun l8 u9 => ?_)
            refine wp_s (pc' := 94) ji_294_93 rfl rfl rfl ?_
            have htb := hB (q.getD k 0).toNat (by omega)
            have hT0 := hT (q.getD k 0).toNat (by omega)
            have hz0 := (pvK_b (q0 := q0) (w := (q.getD k 0).toNat) hg9 k (by omega)).1 (by omega)
            refine rv_lx V (x := q.getD k 0) (y := sx_el tl (q.getD k 0).toNat) ji_294_94 (by omega) (by omega) rfl (fun l10 u11 => ?_)
            refine wp_s (pc' := 96) ji_294_95 rfl rfl rfl ?_
            refine wp_iadd (x := sx_el tl (q.getD k 0).toNat) (y := 1) (z := sx_el tl (q.getD k 0).toNat + 1) ji_294_96 (by omega) ?_
            refine rv_sx hMX V (x := q.getD k 0) (y := sx_el tl (q.getD k 0).toNat + 1) ji_294_97 (by omega) (by omega) (by omega) (fun h V => ?_)
            refine wp_iinc (x := (k : Int)) (z := ((k + 1 : Nat) : Int)) (lv' := [some (.ref a), some (wp_i q0), some (wp_i all), some (wp_i 1), some (wp_i (sgK g q k + (g (q.getD k 0)))), some (wp_i (((k + 1 : Nat) : Int))), some (wp_i (sgK g q k))]) ji_294_98 rfl (Nat.le_of_ble_eq_true rfl) (by omega) rfl ?_
            refine wp_goto (t := 39) ji_294_101 rfl ?_
            refine ih (k + 1) h _ _ V (by omega) (by omega) (fun w hw => ?_)
            show sx_el (tl.set (q.getD k 0).toNat (wp_i (sx_el tl (q.getD k 0).toNat + 1))) w = T w + (pvK g q0 q w k + (if q.getD k 0 = (w : Int) ∧ sgK g q k < q0 ∧ q0 ≤ sgK g q (k + 1) then (1 : Int) else 0))
            rw [pv_el_set (by omega) (by omega)]
            by_cases c : w = (q.getD k 0).toNat
            · rw [if_pos (show q.getD k 0 = (w : Int) ∧ sgK g q k < q0 ∧ q0 ≤ sgK g q (k + 1) by omega), if_pos (by omega), c, htb]
              omega
            · rw [if_neg (show ¬ (q.getD k 0 = (w : Int) ∧ sgK g q k < q0 ∧ q0 ≤ sgK g q (k + 1)) by omega), if_neg (by omega), hB w hw]
              omega
theorem wx29 {d : Nat} {M : List Nat} (hA : 10021 ∉ M) (hM : 10069 ∈ M) (hMX : 10070 ∈ M) {h0 : mj_H} {a R X A PN : Nat} {q0 : Int} (hq0 : 1 ≤ q0 ∧ q0 ≤ 99) {as : List Value} (HA : h0[A]? = some (1000, as)) {g : Int → Int} (Hg : ∀ w : Int, 0 ≤ w → w < 6 → as[(40 + 2 * w).toNat]? = some (wp_i (g w)) ∧ 0 ≤ g w ∧ g w ≤ 9) : ∀ (n : Nat) (q : List Int) (rl tl : List Value) (h : mj_H) (all : Int) (x4 x5 x6 : Option Value) (T : Nat → Int), nr_ok PN n q = true → rv M h0 h a R X A (PN : Int) rl tl → rr rl q → 0 ≤ all → all + n ≤ 720 → (∀ w, w < 6 → sx_el tl w = T w ∧ 0 ≤ T w ∧ T w ≤ all) → wp_R (d + 1) 294 29 [some (.ref a), some (wp_i q0), some (wp_i all), some (wp_i 1), x4, x5, x6] [] h (fun v h1 => v = some (wp_i (all + rwN PN n q)) ∧ ∃ rl' tl', rv M h0 h1 a R X A (PN : Int) rl' tl' ∧ ∀ w, w < 6 → sx_el tl' w = T w + rwS g q0 PN w n q) := by
  intro n
  induction n with
  | zero =>
    intro q rl tl h all x4 x5 x6 T hok
    unfold nr_ok at hok
    cases hok
  | succ n ih =>
    intro q rl tl h all x4 x5 x6 T hok V hr ha0 ha1 hB
    have V0 := V
    unfold nr_ok at hok
    rw [Bool.and_eq_true] at hok
    obtain ⟨hg, hok2⟩ := hok
    refine wp_s (pc' := 30) ji_294_29 rfl rfl rfl ?_
    refine wp_if (t := 115) ji_294_30 rfl (by omega) (fun (hb2 : (1 : Int) = 0) => (by exfalso; omega)) (fun (hb2 : ¬ ((1 : Int) = 0)) => ?_)
    refine wp_s (pc' := 34) ji_294_33 rfl rfl rfl ?_
    refine wp_s (pc' := 36) (lv' := [some (.ref a), some (wp_i q0), some (wp_i all), some (wp_i 1), some (wp_i 0), x5, x6]) ji_294_34 rfl rfl rfl ?_
    refine wp_s (pc' := 37) ji_294_36 rfl rfl rfl ?_
    refine wp_s (pc' := 39) (lv' := [some (.ref a), some (wp_i q0), some (wp_i all), some (wp_i 1), some (wp_i 0), some (wp_i 0), x6]) ji_294_37 rfl rfl rfl ?_
    refine wx39 hA hMX hq0 (by omega) hr HA Hg (fun w hw => (hB w hw).2) (fun h tl sum k x6 V hB2 => ?_) 7 0 h tl x6 V rfl (by omega) (fun w hw => by show sx_el tl w = T w + 0; rw [(hB w hw).1]; omega)
    refine wp_iinc (x := all) (z := all + 1) (lv' := [some (.ref a), some (wp_i q0), some (wp_i (all + 1)), some (wp_i 1), some (wp_i sum), some (wp_i k), x6]) ji_294_104 rfl (Nat.le_of_ble_eq_true rfl) (by omega) rfl ?_
    refine wp_s (pc' := 108) ji_294_107 rfl rfl rfl ?_
    refine rv_vc V ji_294_108 jc_294_443 jk_296 (rest := []) rfl (Nat.le_of_ble_eq_true rfl) rfl (by rw [jn_296]; rfl) (ws_nextRow hM V hr) (fun v h R => ?_)
    rcases R with ⟨hno, rfl, rfl⟩ | ⟨q1, hq1, rfl, rl1, V, hr1⟩
    · show wp_R (d + 1) 294 111 [some (.ref a), some (wp_i q0), some (wp_i (all + 1)), some (wp_i 1), some (wp_i sum), some (wp_i k), x6] [wp_i 0] h _
      refine wp_s (pc' := 112) (lv' := [some (.ref a), some (wp_i q0), some (wp_i (all + 1)), some (wp_i 0), some (wp_i sum), some (wp_i k), x6]) ji_294_111 rfl rfl rfl ?_
      refine wp_goto (t := 29) ji_294_112 rfl ?_
      refine wp_s (pc' := 30) ji_294_29 rfl rfl rfl ?_
      refine wp_if (t := 115) ji_294_30 rfl (by omega) (fun (hb1 : (0 : Int) = 0) => ?_) (fun (hb1 : ¬ ((0 : Int) = 0)) => (by exfalso; omega))
      refine wp_s (pc' := 116) ji_294_115 rfl rfl rfl ?_
      have en : rwN PN (n + 1) q = 1 + 0 := by show 1 + _ = _; rw [hno]
      refine wp_ri ji_294_116 jr_294 rfl ⟨by rw [en]; rfl, _, _, V, fun w hw => ?_⟩
      have ew : rwS g q0 PN w (n + 1) q = pvK g q0 q w PN + 0 := by show _ + _ = _; rw [hno]
      rw [hB2 w hw, ew]
      omega
    · show wp_R (d + 1) 294 111 [some (.ref a), some (wp_i q0), some (wp_i (all + 1)), some (wp_i 1), some (wp_i sum), some (wp_i k), x6] [wp_i 1] h _
      refine wp_s (pc' := 112) (lv' := [some (.ref a), some (wp_i q0), some (wp_i (all + 1)), some (wp_i 1), some (wp_i sum), some (wp_i k), x6]) ji_294_111 rfl rfl rfl ?_
      refine wp_goto (t := 29) ji_294_112 rfl ?_
      have hok3 : nr_ok PN n q1 = true := by rw [hq1] at hok2; exact hok2
      have hPN : (0 : Int) ≤ (PN : Int) ∧ (PN : Int) ≤ 6 := V0.2.2.2.2.2.2.2.1
      have pb := fun w => pvK_b (g := g) (q0 := q0) (w := w) (fun j (hj : j < PN) => (Hg (q.getD j 0) (rv_qb V0 hr (j := j) (by omega)).1 (by have := (rv_qb V0 hr (j := j) (by omega)).2; omega)).2) PN (Nat.le_refl _)
      refine wp_mono (ih q1 rl1 tl h (all + 1) _ _ _ (fun w => T w + pvK g q0 q w PN) hok3 V hr1 (by omega) (by omega) (fun w hw => ⟨hB2 w hw, by have := (pb w).2; have := (hB w hw).2; (try dsimp only); omega⟩)) ?_
      rintro v h1 ⟨rfl, rl2, tl2, V2, e2⟩
      have en : rwN PN (n + 1) q = 1 + rwN PN n q1 := by show 1 + _ = _; rw [hq1]
      refine ⟨by rw [en, Int.add_assoc], rl2, tl2, V2, fun w hw => ?_⟩
      have ew : rwS g q0 PN w (n + 1) q = pvK g q0 q w PN + rwS g q0 PN w n q1 := by show _ + _ = _; rw [hq1]
      rw [e2 w hw, ew]
      (try dsimp only)
      omega
theorem ws_weighX {d : Nat} {M : List Nat} (hA : 10021 ∉ M) (hM : 10069 ∈ M) (hMX : 10070 ∈ M) {h0 h : mj_H} {a R X A PN : Nat} {rl tl : List Value} {q0 : Int} (hq0 : 1 ≤ q0 ∧ q0 ≤ 99) {as : List Value} (HA : h0[A]? = some (1000, as)) {g : Int → Int} (Hg : ∀ w : Int, 0 ≤ w → w < 6 → as[(40 + 2 * w).toNat]? = some (wp_i (g w)) ∧ 0 ≤ g w ∧ g w ≤ 9) (V : rv M h0 h a R X A (PN : Int) rl tl) : wp_R (d + 1) 294 0 [some (.ref a), some (wp_i q0), none, none, none, none, none] [] h (fun v h1 => v = some (wp_i (rwN PN 720 [0, 1, 2, 3, 4, 5])) ∧ ∃ rl' tl', rv M h0 h1 a R X A (PN : Int) rl' tl' ∧ ∀ w, w < 6 → sx_el tl' w = rwS g q0 PN w 720 [0, 1, 2, 3, 4, 5]) := by
  have hP : (0 : Int) ≤ (PN : Int) ∧ (PN : Int) ≤ 6 := V.2.2.2.2.2.2.2.1
  have hlt := (rv_len V).2
  have hz : ∀ w, w < 6 → sx_el ((((((tl.set 0 (wp_i 0)).set 1 (wp_i 0)).set 2 (wp_i 0)).set 3 (wp_i 0)).set 4 (wp_i 0)).set 5 (wp_i 0)) w = 0 := by
    intro w hw
    rw [pv_el_set (by simp only [List.length_set]; omega) (by omega), pv_el_set (by simp only [List.length_set]; omega) (by omega), pv_el_set (by simp only [List.length_set]; omega) (by omega), pv_el_set (by simp only [List.length_set]; omega) (by omega), pv_el_set (by simp only [List.length_set]; omega) (by omega), pv_el_set (by omega) (by omega)]
    have hc : w = 0 ∨ w = 1 ∨ w = 2 ∨ w = 3 ∨ w = 4 ∨ w = 5 := by omega
    rcases hc with e | e | e | e | e | e <;> (subst e; simp)
  refine wp_s (pc' := 1) ji_294_0 rfl rfl rfl ?_
  refine wp_s (pc' := 2) (lv' := [some (.ref a), some (wp_i q0), some (wp_i 0), none, none, none, none]) ji_294_1 rfl rfl rfl ?_
  refine wp_s (pc' := 3) ji_294_2 rfl rfl rfl ?_
  refine wp_bp ji_294_3 rfl ?_
  refine wp_icmp (t := 21) ji_294_5 rfl (by omega) (by omega) (fun (hb1 : (6 : Int) ≤ 0) => (by exfalso; omega)) (fun (hb1 : ¬ ((6 : Int) ≤ 0)) => ?_)
  refine wp_s (pc' := 9) ji_294_8 rfl rfl rfl ?_
  refine rv_gX V ji_294_9 jf_294_53 ?_
  refine wp_s (pc' := 13) ji_294_12 rfl rfl rfl ?_
  refine wp_s (pc' := 14) ji_294_13 rfl rfl rfl ?_
  refine rv_sx hMX V (x := 0) (y := 0) ji_294_14 (by omega) (by omega) (by omega) (fun h V => ?_)
  have V : rv M h0 h a R X A (PN : Int) rl (tl.set 0 (wp_i 0)) := V
  refine wp_iinc (x := 0) (z := 1) (lv' := [some (.ref a), some (wp_i q0), some (wp_i 1), none, none, none, none]) ji_294_15 rfl (Nat.le_of_ble_eq_true rfl) (by omega) rfl ?_
  refine wp_goto (t := 2) ji_294_18 rfl ?_
  refine wp_s (pc' := 3) ji_294_2 rfl rfl rfl ?_
  refine wp_bp ji_294_3 rfl ?_
  refine wp_icmp (t := 21) ji_294_5 rfl (by omega) (by omega) (fun (hb2 : (6 : Int) ≤ 1) => (by exfalso; omega)) (fun (hb2 : ¬ ((6 : Int) ≤ 1)) => ?_)
  refine wp_s (pc' := 9) ji_294_8 rfl rfl rfl ?_
  refine rv_gX V ji_294_9 jf_294_53 ?_
  refine wp_s (pc' := 13) ji_294_12 rfl rfl rfl ?_
  refine wp_s (pc' := 14) ji_294_13 rfl rfl rfl ?_
  refine rv_sx hMX V (x := 1) (y := 0) ji_294_14 (by omega) (by omega) (by omega) (fun h V => ?_)
  have V : rv M h0 h a R X A (PN : Int) rl ((tl.set 0 (wp_i 0)).set 1 (wp_i 0)) := V
  refine wp_iinc (x := 1) (z := 2) (lv' := [some (.ref a), some (wp_i q0), some (wp_i 2), none, none, none, none]) ji_294_15 rfl (Nat.le_of_ble_eq_true rfl) (by omega) rfl ?_
  refine wp_goto (t := 2) ji_294_18 rfl ?_
  refine wp_s (pc' := 3) ji_294_2 rfl rfl rfl ?_
  refine wp_bp ji_294_3 rfl ?_
  refine wp_icmp (t := 21) ji_294_5 rfl (by omega) (by omega) (fun (hb3 : (6 : Int) ≤ 2) => (by exfalso; omega)) (fun (hb3 : ¬ ((6 : Int) ≤ 2)) => ?_)
  refine wp_s (pc' := 9) ji_294_8 rfl rfl rfl ?_
  refine rv_gX V ji_294_9 jf_294_53 ?_
  refine wp_s (pc' := 13) ji_294_12 rfl rfl rfl ?_
  refine wp_s (pc' := 14) ji_294_13 rfl rfl rfl ?_
  refine rv_sx hMX V (x := 2) (y := 0) ji_294_14 (by omega) (by omega) (by omega) (fun h V => ?_)
  have V : rv M h0 h a R X A (PN : Int) rl (((tl.set 0 (wp_i 0)).set 1 (wp_i 0)).set 2 (wp_i 0)) := V
  refine wp_iinc (x := 2) (z := 3) (lv' := [some (.ref a), some (wp_i q0), some (wp_i 3), none, none, none, none]) ji_294_15 rfl (Nat.le_of_ble_eq_true rfl) (by omega) rfl ?_
  refine wp_goto (t := 2) ji_294_18 rfl ?_
  refine wp_s (pc' := 3) ji_294_2 rfl rfl rfl ?_
  refine wp_bp ji_294_3 rfl ?_
  refine wp_icmp (t := 21) ji_294_5 rfl (by omega) (by omega) (fun (hb4 : (6 : Int) ≤ 3) => (by exfalso; omega)) (fun (hb4 : ¬ ((6 : Int) ≤ 3)) => ?_)
  refine wp_s (pc' := 9) ji_294_8 rfl rfl rfl ?_
  refine rv_gX V ji_294_9 jf_294_53 ?_
  refine wp_s (pc' := 13) ji_294_12 rfl rfl rfl ?_
  refine wp_s (pc' := 14) ji_294_13 rfl rfl rfl ?_
  refine rv_sx hMX V (x := 3) (y := 0) ji_294_14 (by omega) (by omega) (by omega) (fun h V => ?_)
  have V : rv M h0 h a R X A (PN : Int) rl ((((tl.set 0 (wp_i 0)).set 1 (wp_i 0)).set 2 (wp_i 0)).set 3 (wp_i 0)) := V
  refine wp_iinc (x := 3) (z := 4) (lv' := [some (.ref a), some (wp_i q0), some (wp_i 4), none, none, none, none]) ji_294_15 rfl (Nat.le_of_ble_eq_true rfl) (by omega) rfl ?_
  refine wp_goto (t := 2) ji_294_18 rfl ?_
  refine wp_s (pc' := 3) ji_294_2 rfl rfl rfl ?_
  refine wp_bp ji_294_3 rfl ?_
  refine wp_icmp (t := 21) ji_294_5 rfl (by omega) (by omega) (fun (hb5 : (6 : Int) ≤ 4) => (by exfalso; omega)) (fun (hb5 : ¬ ((6 : Int) ≤ 4)) => ?_)
  refine wp_s (pc' := 9) ji_294_8 rfl rfl rfl ?_
  refine rv_gX V ji_294_9 jf_294_53 ?_
  refine wp_s (pc' := 13) ji_294_12 rfl rfl rfl ?_
  refine wp_s (pc' := 14) ji_294_13 rfl rfl rfl ?_
  refine rv_sx hMX V (x := 4) (y := 0) ji_294_14 (by omega) (by omega) (by omega) (fun h V => ?_)
  have V : rv M h0 h a R X A (PN : Int) rl (((((tl.set 0 (wp_i 0)).set 1 (wp_i 0)).set 2 (wp_i 0)).set 3 (wp_i 0)).set 4 (wp_i 0)) := V
  refine wp_iinc (x := 4) (z := 5) (lv' := [some (.ref a), some (wp_i q0), some (wp_i 5), none, none, none, none]) ji_294_15 rfl (Nat.le_of_ble_eq_true rfl) (by omega) rfl ?_
  refine wp_goto (t := 2) ji_294_18 rfl ?_
  refine wp_s (pc' := 3) ji_294_2 rfl rfl rfl ?_
  refine wp_bp ji_294_3 rfl ?_
  refine wp_icmp (t := 21) ji_294_5 rfl (by omega) (by omega) (fun (hb6 : (6 : Int) ≤ 5) => (by exfalso; omega)) (fun (hb6 : ¬ ((6 : Int) ≤ 5)) => ?_)
  refine wp_s (pc' := 9) ji_294_8 rfl rfl rfl ?_
  refine rv_gX V ji_294_9 jf_294_53 ?_
  refine wp_s (pc' := 13) ji_294_12 rfl rfl rfl ?_
  refine wp_s (pc' := 14) ji_294_13 rfl rfl rfl ?_
  refine rv_sx hMX V (x := 5) (y := 0) ji_294_14 (by omega) (by omega) (by omega) (fun h V => ?_)
  have V : rv M h0 h a R X A (PN : Int) rl ((((((tl.set 0 (wp_i 0)).set 1 (wp_i 0)).set 2 (wp_i 0)).set 3 (wp_i 0)).set 4 (wp_i 0)).set 5 (wp_i 0)) := V
  refine wp_iinc (x := 5) (z := 6) (lv' := [some (.ref a), some (wp_i q0), some (wp_i 6), none, none, none, none]) ji_294_15 rfl (Nat.le_of_ble_eq_true rfl) (by omega) rfl ?_
  refine wp_goto (t := 2) ji_294_18 rfl ?_
  refine wp_s (pc' := 3) ji_294_2 rfl rfl rfl ?_
  refine wp_bp ji_294_3 rfl ?_
  refine wp_icmp (t := 21) ji_294_5 rfl (by omega) (by omega) (fun (hb7 : (6 : Int) ≤ 6) => ?_) (fun (hb7 : ¬ ((6 : Int) ≤ 6)) => (by exfalso; omega))
  refine wp_s (pc' := 22) ji_294_21 rfl rfl rfl ?_
  refine wp_s (pc' := 23) (lv' := [some (.ref a), some (wp_i q0), some (wp_i 0), none, none, none, none]) ji_294_22 rfl rfl rfl ?_
  refine wp_s (pc' := 24) ji_294_23 rfl rfl rfl ?_
  refine rv_vc V ji_294_24 jc_294_440 jk_295 (rest := []) rfl (Nat.le_of_ble_eq_true rfl) rfl (by rw [jn_295]; rfl) (ws_firstRow hM V) (fun v h R => ?_)
  obtain ⟨rfl, rl1, V, hr1⟩ := R
  show wp_R (d + 1) 294 27 [some (.ref a), some (wp_i q0), some (wp_i 0), none, none, none, none] [] h _
  refine wp_s (pc' := 28) ji_294_27 rfl rfl rfl ?_
  refine wp_s (pc' := 29) (lv' := [some (.ref a), some (wp_i q0), some (wp_i 0), some (wp_i 1), none, none, none]) ji_294_28 rfl rfl rfl ?_
  refine wp_mono (wx29 hA hM hMX hq0 HA Hg 720 [0, 1, 2, 3, 4, 5] rl1 _ h 0 none none none (fun _ => 0) (List.all_eq_true.mp nr_all PN (List.mem_range.mpr (by omega))) V hr1 (by omega) (by omega) (fun w hw => ⟨hz w hw, Int.le_refl _, Int.le_refl _⟩)) ?_
  rintro v h1 ⟨rfl, rl2, tl2, V2, e2⟩
  exact ⟨congrArg (fun z => some (wp_i z)) (Int.zero_add _), rl2, tl2, V2, fun w hw => (e2 w hw).trans (Int.zero_add _)⟩
