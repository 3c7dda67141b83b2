/-! -/
set_option maxRecDepth 100000 in
theorem ji_134_0 : mj_ins 134 0 = some (.aload_n 0) := by decide +kernel
set_option maxRecDepth 100000 in
theorem ji_134_1 : mj_ins 134 1 = some (.getfield 19) := by decide +kernel
set_option maxRecDepth 100000 in
theorem jf_134_19 : mj_fld 134 19 = some (0, 0, (.object "ForestOfPoles$State"), false) := by decide +kernel
set_option maxRecDepth 100000 in
theorem ji_134_4 : mj_ins 134 4 = some (.getfield 49) := by decide +kernel
set_option maxRecDepth 100000 in
theorem jf_134_49 : mj_fld 134 49 = some (2, 0, (.object "ForestOfPoles$Forest"), false) := by decide +kernel
set_option maxRecDepth 100000 in
theorem ji_134_7 : mj_ins 134 7 = some (.astore 4) := by decide +kernel
set_option maxRecDepth 100000 in
theorem ji_134_9 : mj_ins 134 9 = some (.aload 4) := by decide +kernel
set_option maxRecDepth 100000 in
theorem ji_134_11 : mj_ins 134 11 = some (.iload_n 1) := by decide +kernel
set_option maxRecDepth 100000 in
theorem ji_134_12 : mj_ins 134 12 = some (.invokevirtual 177) := by decide +kernel
set_option maxRecDepth 100000 in
theorem jc_134_177 : mj_cal 134 177 = some (2, 80, 1) := by decide +kernel
set_option maxRecDepth 100000 in
theorem ji_134_15 : mj_ins 134 15 = some (.ifCond .eq 14) := by decide +kernel
set_option maxRecDepth 100000 in
theorem ji_134_29 : mj_ins 134 29 = some (.iconst (-1)) := by decide +kernel
set_option maxRecDepth 100000 in
theorem ji_134_30 : mj_ins 134 30 = some (.ireturn) := by decide +kernel
set_option maxRecDepth 100000 in
theorem jr_134 : mj_ret 134 = some .int := by decide +kernel
set_option maxRecDepth 100000 in
theorem ji_134_18 : mj_ins 134 18 = some (.iload_n 2) := by decide +kernel
set_option maxRecDepth 100000 in
theorem ji_134_19 : mj_ins 134 19 = some (.iconst 1) := by decide +kernel
set_option maxRecDepth 100000 in
theorem ji_134_20 : mj_ins 134 20 = some (.if_icmp .lt 9) := by decide +kernel
set_option maxRecDepth 100000 in
theorem ji_134_23 : mj_ins 134 23 = some (.iload_n 2) := by decide +kernel
set_option maxRecDepth 100000 in
theorem ji_134_24 : mj_ins 134 24 = some (.bipush 99) := by decide +kernel
set_option maxRecDepth 100000 in
theorem ji_134_26 : mj_ins 134 26 = some (.if_icmp .le 5) := by decide +kernel
set_option maxRecDepth 100000 in
theorem ji_134_31 : mj_ins 134 31 = some (.aload 4) := by decide +kernel
set_option maxRecDepth 100000 in
theorem ji_134_33 : mj_ins 134 33 = some (.iload_n 1) := by decide +kernel
set_option maxRecDepth 100000 in
theorem ji_134_34 : mj_ins 134 34 = some (.iload_n 2) := by decide +kernel
set_option maxRecDepth 100000 in
theorem ji_134_35 : mj_ins 134 35 = some (.invokestatic 268) := by decide +kernel
set_option maxRecDepth 100000 in
theorem jc_134_268 : mj_cal 134 268 = some (1, 135, 3) := by decide +kernel
set_option maxRecDepth 100000 in
theorem jn_135 : mj_nl 135 = 7 := by decide +kernel
set_option maxRecDepth 100000 in
theorem ji_134_38 : mj_ins 134 38 = some (.aload 4) := by decide +kernel
set_option maxRecDepth 100000 in
theorem ji_134_40 : mj_ins 134 40 = some (.getfield 139) := by decide +kernel
set_option maxRecDepth 100000 in
theorem jf_134_139 : mj_fld 134 139 = some (3, 1, .int, true) := by decide +kernel
set_option maxRecDepth 100000 in
theorem ji_134_43 : mj_ins 134 43 = some (.invokestatic 272) := by decide +kernel
set_option maxRecDepth 100000 in
theorem jc_134_272 : mj_cal 134 272 = some (1, 137, 1) := by decide +kernel
set_option maxRecDepth 100000 in
theorem ji_134_46 : mj_ins 134 46 = some (.iload_n 3) := by decide +kernel
set_option maxRecDepth 100000 in
theorem ji_134_47 : mj_ins 134 47 = some (.invokestatic 237) := by decide +kernel
set_option maxRecDepth 100000 in
theorem jc_134_237 : mj_cal 134 237 = some (1, 117, 3) := by decide +kernel
set_option maxRecDepth 100000 in
theorem ji_134_50 : mj_ins 134 50 = some (.ireturn) := by decide +kernel
set_option maxRecDepth 100000 in
theorem jk_294 : mj_cls 294 = 11 := by decide +kernel
set_option maxRecDepth 100000 in
theorem ji_293_0 : mj_ins 293 0 = some (.aload_n 0) := by decide +kernel
set_option maxRecDepth 100000 in
theorem ji_293_1 : mj_ins 293 1 = some (.iload_n 1) := by decide +kernel
set_option maxRecDepth 100000 in
theorem ji_293_2 : mj_ins 293 2 = some (.invokevirtual 345) := by decide +kernel
set_option maxRecDepth 100000 in
theorem jc_293_345 : mj_cal 293 345 = some (2, 247, 1) := by decide +kernel
set_option maxRecDepth 100000 in
theorem ji_293_5 : mj_ins 293 5 = some (.ifCond .eq 13) := by decide +kernel
set_option maxRecDepth 100000 in
theorem ji_293_18 : mj_ins 293 18 = some (.iconst (-1)) := by decide +kernel
set_option maxRecDepth 100000 in
theorem ji_293_19 : mj_ins 293 19 = some (.ireturn) := by decide +kernel
set_option maxRecDepth 100000 in
theorem jr_293 : mj_ret 293 = some .int := by decide +kernel
set_option maxRecDepth 100000 in
theorem ji_293_8 : mj_ins 293 8 = some (.iload_n 2) := by decide +kernel
set_option maxRecDepth 100000 in
theorem ji_293_9 : mj_ins 293 9 = some (.iconst 1) := by decide +kernel
set_option maxRecDepth 100000 in
theorem ji_293_10 : mj_ins 293 10 = some (.bipush 99) := by decide +kernel
set_option maxRecDepth 100000 in
theorem ji_293_12 : mj_ins 293 12 = some (.invokestatic 66) := by decide +kernel
set_option maxRecDepth 100000 in
theorem jc_293_66 : mj_cal 293 66 = some (1, 171, 3) := by decide +kernel
set_option maxRecDepth 100000 in
theorem ji_293_15 : mj_ins 293 15 = some (.ifCond .ne 5) := by decide +kernel
set_option maxRecDepth 100000 in
theorem ji_293_20 : mj_ins 293 20 = some (.aload_n 0) := by decide +kernel
set_option maxRecDepth 100000 in
theorem ji_293_21 : mj_ins 293 21 = some (.iload_n 2) := by decide +kernel
set_option maxRecDepth 100000 in
theorem ji_293_22 : mj_ins 293 22 = some (.invokevirtual 446) := by decide +kernel
set_option maxRecDepth 100000 in
theorem jc_293_446 : mj_cal 293 446 = some (2, 294, 1) := by decide +kernel
set_option maxRecDepth 100000 in
theorem ji_293_25 : mj_ins 293 25 = some (.istore 4) := by decide +kernel
set_option maxRecDepth 100000 in
theorem ji_293_27 : mj_ins 293 27 = some (.aload_n 0) := by decide +kernel
set_option maxRecDepth 100000 in
theorem ji_293_28 : mj_ins 293 28 = some (.getfield 53) := by decide +kernel
set_option maxRecDepth 100000 in
theorem jf_293_53 : mj_fld 293 53 = some (11, 28, (.array .int), false) := by decide +kernel
set_option maxRecDepth 100000 in
theorem ji_293_31 : mj_ins 293 31 = some (.iload_n 1) := by decide +kernel
set_option maxRecDepth 100000 in
theorem ji_293_32 : mj_ins 293 32 = some (.iaload) := by decide +kernel
set_option maxRecDepth 100000 in
theorem ji_293_33 : mj_ins 293 33 = some (.i2l) := by decide +kernel
set_option maxRecDepth 100000 in
theorem ji_293_34 : mj_ins 293 34 = some (.iload 4) := by decide +kernel
set_option maxRecDepth 100000 in
theorem ji_293_36 : mj_ins 293 36 = some (.i2l) := by decide +kernel
set_option maxRecDepth 100000 in
theorem ji_293_37 : mj_ins 293 37 = some (.iload_n 3) := by decide +kernel
set_option maxRecDepth 100000 in
theorem ji_293_38 : mj_ins 293 38 = some (.invokestatic 418) := by decide +kernel
set_option maxRecDepth 100000 in
theorem jc_293_418 : mj_cal 293 418 = some (1, 279, 3) := by decide +kernel
set_option maxRecDepth 100000 in
theorem ji_293_41 : mj_ins 293 41 = some (.l2i) := by decide +kernel
set_option maxRecDepth 100000 in
theorem ji_293_42 : mj_ins 293 42 = some (.ireturn) := by decide +kernel
/-! might, in both; laid by program (wp_v21.py) -/
theorem cs_el {h : mj_H} {s : sg_} (C : CS h s) {a : Nat} {q : sh_Q} (ha : 0 < a) (h10 : ¬ scr a) (hq : sh_T[a]? = some q) : ∃ vs, h[a]? = some (q.1, vs) ∧ vs.length = q.2.1.length + q.2.2.1 ∧ ∀ k : Nat, k < vs.length → vs[k]? = some (sh_v (sh_k q k) (s a (k : Int))) ∧ (sh_k q k = 0 → wp_r (s a (k : Int))) := by
  obtain ⟨s1, C, f⟩ := C
  obtain ⟨vs, a1, a2, a3⟩ := C a q ha hq
  refine ⟨vs, a1, a2, fun k hk => ?_⟩
  have := a3 k hk
  rw [f a (k : Int) h10] at this
  exact this
/-- the reference's rows and hands, at the law -/
theorem rv_CS {sl : List Value} {h : mj_H} {B : Int} {s : sg_} (W : WS sl h B s) (i1 : 0 ≤ s 139 1 ∧ s 139 1 ≤ 6) (M : List Nat) : ∃ rl tl, rv M h h 138 148 149 139 (((s 139 1).toNat : Nat) : Int) rl tl ∧ ∃ as, h[139]? = some (1000, as) ∧ ∀ w : Int, 0 ≤ w → w < 6 → as[(40 + 2 * w).toNat]? = some (wp_i (s 139 (40 + 2 * w))) := by
  obtain ⟨I, -, -, C⟩ := W
  obtain ⟨fs, f1, fl, f2⟩ := cs_el C (by decide) (by decide) sq_138
  obtain ⟨as, a1, al, a2⟩ := cs_el C (by decide) (by decide) sq_139
  have fl : fs.length = 31 := fl
  have al : as.length = 6044 := al
  obtain ⟨R, X, A, P, rl, tl, V⟩ := rv_init (M := M) I.1 (a := 138) rfl
  obtain ⟨v1, v2, v3, v4, v5, v6, v7, v8, fs', as', g1, g2, g3, g4, g5, g6, g7, g8, g9⟩ := V
  have f1 : h[138]? = some (11, fs) := f1
  have a1 : h[139]? = some (1000, as) := a1
  rw [f1] at g1
  cases g1
  have h27 : fs[27]? = some (.ref 148) := (f2 27 (by omega)).1
  have h28 : fs[28]? = some (.ref 149) := (f2 28 (by omega)).1
  have h0 : fs[0]? = some (.ref 139) := (f2 0 (by omega)).1
  rw [h27] at g2
  cases g2
  rw [h28] at g3
  cases g3
  rw [h0] at g4
  cases g4
  rw [a1] at g7
  cases g7
  have e1 : as[1]? = some (wp_i (s 139 1)) := (a2 1 (by omega)).1
  have eP : P = s 139 1 := wp_inj (by omega) (by omega) (Option.some.inj (g9.symm.trans e1))
  subst eP
  rw [show (((s 139 1).toNat : Nat) : Int) = s 139 1 by omega]
  refine ⟨rl, tl, ⟨v1, v2, v3, v4, v5, v6, v7, v8, fs, as, f1, h27, h28, h0, g5, g6, a1, g8, g9⟩, as, a1, fun w w0 w6 => ?_⟩
  have e := (a2 (40 + 2 * w).toNat (by omega)).1
  rw [show (((40 + 2 * w).toNat : Nat) : Int) = 40 + 2 * w by omega] at e
  rw [e]
  have : sh_k (1000, [], 6044, 0) (40 + 2 * w).toNat = 0 := by
    unfold sh_k
    rw [List.getElem?_nil]
  rw [show sh_k _ _ = 0 from this]
  rfl
def miC (s : sg_) (w q z : Int) : Int := if (0 ≤ w ∧ w < s 48 1) ∧ 1 ≤ q ∧ q ≤ 99 then ltC (tot (deT (fun j => s 52 j) (s 48 1).toNat q w.toNat) (2 ^ (s 48 1).toNat)) (fct (s 48 1).toNat) z else -1
def q_134 (s : sg_) (w q z : Int) : Int := if (0 ≤ w ∧ w < s 139 1) ∧ 1 ≤ q ∧ q ≤ 99 then ltR (rwS (fun j => s 139 (40 + 2 * j)) q (s 139 1).toNat w.toNat 720 [0, 1, 2, 3, 4, 5]).toNat (fct (s 139 1).toNat).toNat z else -1
theorem fct_6 : ∀ n : Fin 7, 1 ≤ fct n.val ∧ fct n.val ≤ 720 := by decide +kernel
theorem deT_c {g k : Int → Int} {n w : Nat} {q : Int} (hw : w < n) (e : ∀ j : Int, 0 ≤ j → j < n → g j = k j) (b : Int) : deT g n q w b = deT k n q w b := by
  have eh : ∀ m : Nat, m ≤ n → hdM g b m = hdM k b m := by
    intro m
    induction m with
    | zero => intro _; rfl
    | succ m ih =>
      intro hm
      show hdM g b m + (if b / 2 ^ m % 2 = 1 then g (m : Int) else 0) = hdM k b m + (if b / 2 ^ m % 2 = 1 then k (m : Int) else 0)
      rw [ih (by omega), e (m : Int) (by omega) (by omega)]
  unfold deT
  rw [eh n (Nat.le_refl _), e (w : Int) (by omega) (by omega)]
theorem eq_might {tc : tcs} {tr : Int → crs} {s : sg_} {M : Int} (L : LAWS tc tr s M) {w q z : Int} (hz : z = 0 ∨ z = 1) : miC s w q z = q_134 s w q z := by
  have H := L.1.1.2.1
  have dm := dm_ L
  have e : ∀ j : Int, 0 ≤ j → j < 6 → s 139 (40 + 2 * j) = s 52 j := fun j a b => (H.2.2.1 j ⟨a, b⟩).1
  unfold miC q_134
  rw [dm.2.1]
  by_cases c : (0 ≤ w ∧ w < s 48 1) ∧ 1 ≤ q ∧ q ≤ 99
  · rw [if_pos c, if_pos c]
    obtain ⟨n, hn⟩ : ∃ n, (s 48 1).toNat = n := ⟨_, rfl⟩
    rw [hn]
    have o := ord_all (g := (fun j => s 139 (40 + 2 * j))) (q0 := q) (P := n) (w := w.toNat) (by omega) (by omega)
    have ec : tot (deT (fun j => s 52 j) n q w.toNat) (2 ^ n) = rwS (fun j => s 139 (40 + 2 * j)) q n w.toNat 720 [0, 1, 2, 3, 4, 5] := by
      rw [o.1]
      exact tot_c _ (fun b _ _ => deT_c (by omega) (fun j a d => (e j a (by omega)).symm) b)
    have f := fct_6 ⟨n, by omega⟩
    have f : 1 ≤ fct n ∧ fct n ≤ 720 := f
    rw [ec, ← lt_eq (by omega), show (((rwS (fun j => s 139 (40 + 2 * j)) q n w.toNat 720 [0, 1, 2, 3, 4, 5]).toNat : Nat) : Int) = rwS (fun j => s 139 (40 + 2 * j)) q n w.toNat 720 [0, 1, 2, 3, 4, 5] by omega, show (((fct n).toNat : Nat) : Int) = fct n by omega]
  · rw [if_neg c, if_neg c]
theorem uc_134 {nn d : Nat} {h : mj_H} {s : sg_} (C : CS h s) {n : Nat} (hn : n ≤ 6) (en : s 48 1 = (n : Int)) (hg : ∀ j : Int, 0 ≤ j → j < n → 0 ≤ s 52 j ∧ s 52 j ≤ 9) {w q z : Int} (hw : wp_r w) (hq : wp_r q) (hz : z = 0 ∨ z = 1) (hT : ∀ w : Int, 0 ≤ w ∧ w < s 48 1 → 0 ≤ tot (deT (fun j => s 52 j) n q w.toNat) (2 ^ n) ∧ tot (deT (fun j => s 52 j) n q w.toNat) (2 ^ n) ≤ 720) : wl_R nn (d + 2) 134 0 [some (.ref 9), some (wp_i w), some (wp_i q), some (wp_i z), none] [] h (fun v1 h1 => h1 = h ∧ v1 = some (wp_i (miC s w q z))) := by
  refine wl_s (pc' := 1) ji_134_0 rfl rfl rfl ?_
  refine cs_gr (r := 47) (k := 0) C (by decide) sq_9 rfl ji_134_1 jf_134_19 ?_
  refine cs_gr (r := 48) (k := 0) C (by decide) sq_47 rfl ji_134_4 jf_134_49 ?_
  refine wl_s (pc' := 9) (lv' := [some (.ref 9), some (wp_i w), some (wp_i q), some (wp_i z), some (.ref 48)]) ji_134_7 rfl rfl rfl ?_
  refine wl_s (pc' := 11) ji_134_9 rfl rfl rfl ?_
  refine wl_s (pc' := 12) ji_134_11 rfl rfl rfl ?_
  obtain ⟨q2, hq2⟩ := cs_c C (by decide) sq_48
  refine wl_vc (d := d + 1) (as := [.ref 48, wp_i w]) (rest := []) ji_134_12 jc_134_177 rfl hq2 jk_80.symm (Nat.le_of_ble_eq_true rfl) rfl (by rw [jn_80]; rfl) (uc_80 (d := d + 1) C isF_48 (p := w) hw) (fun v1 h1 R => ?_)
  obtain ⟨ee, y3, rfl, hy3a, hy3b⟩ := R
  rw [ee]
  clear ee
  show wl_R _ _ 134 15 [some (.ref 9), some (wp_i w), some (wp_i q), some (wp_i z), some (.ref 48)] [wp_i y3] _ _
  refine wl_if (t := 29) ji_134_15 rfl (by omega) (fun (hb4 : (y3 : Int) = 0) => ?_) (fun (hb4 : ¬ ((y3 : Int) = 0)) => ?_)
  · refine wl_s (pc' := 30) ji_134_29 rfl rfl rfl ?_
    exact wl_ri ji_134_30 jr_134 rfl (⟨rfl, congrArg (fun x => some (wp_i x)) (by unfold miC; rw [show (s 48 1).toNat = n by omega]; exact (if_neg (by omega)).symm)⟩)
  · refine wl_s (pc' := 19) ji_134_18 rfl rfl rfl ?_
    refine wl_s (pc' := 20) ji_134_19 rfl rfl rfl ?_
    refine wl_icmp (t := 29) ji_134_20 rfl (by omega) (by omega) (fun (hb5 : (q : Int) < 1) => ?_) (fun (hb5 : ¬ ((q : Int) < 1)) => ?_)
    · refine wl_s (pc' := 30) ji_134_29 rfl rfl rfl ?_
      exact wl_ri ji_134_30 jr_134 rfl (⟨rfl, congrArg (fun x => some (wp_i x)) (by unfold miC; rw [show (s 48 1).toNat = n by omega]; exact (if_neg (by omega)).symm)⟩)
    · refine wl_s (pc' := 24) ji_134_23 rfl rfl rfl ?_
      refine wl_bp ji_134_24 rfl ?_
      refine wl_icmp (t := 31) ji_134_26 rfl (by omega) (by omega) (fun (hb6 : (q : Int) ≤ 99) => ?_) (fun (hb6 : ¬ ((q : Int) ≤ 99)) => ?_)
      · refine wl_s (pc' := 33) ji_134_31 rfl rfl rfl ?_
        refine wl_s (pc' := 34) ji_134_33 rfl rfl rfl ?_
        refine wl_s (pc' := 35) ji_134_34 rfl rfl rfl ?_
        refine wl_sc (d := d + 1) (as := [.ref 48, wp_i w, wp_i q]) (rest := []) ji_134_35 jc_134_268 (Nat.le_of_ble_eq_true rfl) rfl (Nat.le_of_ble_eq_true rfl) rfl (by rw [jn_135]; rfl) ((by have k := uc_135 (nn := nn) (d := d) C (N := 2 ^ n) hn rfl en hg hq (w := w.toNat) (by omega); rw [show ((w.toNat : Nat) : Int) = w by omega] at k; exact k)) (fun v1 h7 R => ?_)
        obtain ⟨ee, rfl⟩ := R
        rw [ee]
        clear ee
        have tb := hT w (by omega)
        show wl_R _ _ 134 38 [some (.ref 9), some (wp_i w), some (wp_i q), some (wp_i z), some (.ref 48)] [wp_i (tot (deT (fun j => s 52 j) n q w.toNat) (2 ^ n))] _ _
        refine wl_s (pc' := 40) ji_134_38 rfl rfl rfl ?_
        refine cs_gi (k := 1) (kI := 1) C (by decide) (by decide) sq_48 rfl rfl ji_134_40 jf_134_139 ?_
        have bd8 : wp_r (s 48 1) := cs_ri (k := 1) (kI := 1) C (by decide) (by decide) sq_48 rfl rfl (show 1 < 13 by decide)
        refine wl_sc (d := d + 1) (as := [wp_i (s 48 1)]) (rest := [wp_i (tot (deT (fun j => s 52 j) n q w.toNat) (2 ^ n))]) ji_134_43 jc_134_272 (Nat.le_of_ble_eq_true rfl) rfl (Nat.le_of_ble_eq_true rfl) rfl (by rw [jn_137]; rfl) (uc_137 (d := d + 1) (x := s 48 1) (by omega)) (fun v1 h9 R => ?_)
        obtain ⟨ee, rfl⟩ := R
        rw [ee, show (s 48 1).toNat = n by omega]
        clear ee
        have f6 := fct_6 ⟨n, by omega⟩
        have f6 : 1 ≤ fct n ∧ fct n ≤ 720 := f6
        show wl_R _ _ 134 46 [some (.ref 9), some (wp_i w), some (wp_i q), some (wp_i z), some (.ref 48)] [wp_i (fct n), wp_i (tot (deT (fun j => s 52 j) n q w.toNat) (2 ^ n))] _ _
        refine wl_s (pc' := 47) ji_134_46 rfl rfl rfl ?_
        refine wl_sc (d := d + 1) (as := [wp_i (tot (deT (fun j => s 52 j) n q w.toNat) (2 ^ n)), wp_i (fct n), wp_i z]) (rest := []) ji_134_47 jc_134_237 (Nat.le_of_ble_eq_true rfl) rfl (Nat.le_of_ble_eq_true rfl) rfl (by rw [jn_117]; rfl) (uc_117 (d := d + 1) (a := tot (deT (fun j => s 52 j) n q w.toNat) (2 ^ n)) (b := fct n) (z := z) (by omega) (by omega) hz) (fun v1 h10 R => ?_)
        obtain ⟨ee, rfl⟩ := R
        rw [ee]
        clear ee
        show wl_R _ _ 134 50 [some (.ref 9), some (wp_i w), some (wp_i q), some (wp_i z), some (.ref 48)] [wp_i (ltC (tot (deT (fun j => s 52 j) n q w.toNat) (2 ^ n)) (fct n) z)] _ _
        exact wl_ri ji_134_50 jr_134 rfl (⟨rfl, congrArg (fun x => some (wp_i x)) (by unfold miC; rw [show (s 48 1).toNat = n by omega]; exact (if_pos (by omega)).symm)⟩)
      · refine wl_s (pc' := 30) ji_134_29 rfl rfl rfl ?_
        exact wl_ri ji_134_30 jr_134 rfl (⟨rfl, congrArg (fun x => some (wp_i x)) (by unfold miC; rw [show (s 48 1).toNat = n by omega]; exact (if_neg (by omega)).symm)⟩)
theorem uc_293 {nn d : Nat} {sl : List Value} {h : mj_H} {B : Int} {s : sg_} (W : WS sl h B s) (i1 : 0 ≤ s 139 1 ∧ s 139 1 ≤ 6) (hg : ∀ u : Int, 0 ≤ u → u < 6 → 0 ≤ s 139 (40 + 2 * u) ∧ s 139 (40 + 2 * u) ≤ 9) {w q z : Int} (hw : wp_r w) (hq : wp_r q) (hz : z = 0 ∨ z = 1) : wl_R nn (d + 2) 293 0 [some (.ref 138), some (wp_i w), some (wp_i q), some (wp_i z), none] [] h (fun v1 _ => v1 = some (wp_i (q_134 s w q z))) := by
  have C := W.2.2.2
  refine wl_s (pc' := 1) ji_293_0 rfl rfl rfl ?_
  refine wl_s (pc' := 2) ji_293_1 rfl rfl rfl ?_
  obtain ⟨q2, hq2⟩ := cs_c C (by decide) sq_138
  refine wl_vc (d := d + 1) (as := [.ref 138, wp_i w]) (rest := []) ji_293_2 jc_293_345 rfl hq2 jk_247.symm (Nat.le_of_ble_eq_true rfl) rfl (by rw [jn_247]; rfl) (uc_247 (d := d) C i1 (w := w) hw) (fun v1 h1 R => ?_)
  obtain ⟨ee, y3, rfl, hy3a, hy3b⟩ := R
  rw [ee]
  clear ee
  show wl_R _ _ 293 5 [some (.ref 138), some (wp_i w), some (wp_i q), some (wp_i z), none] [wp_i y3] _ _
  refine wl_if (t := 18) ji_293_5 rfl (by omega) (fun (hb4 : (y3 : Int) = 0) => ?_) (fun (hb4 : ¬ ((y3 : Int) = 0)) => ?_)
  · refine wl_s (pc' := 19) ji_293_18 rfl rfl rfl ?_
    exact wl_ri ji_293_19 jr_293 rfl (congrArg (fun x => some (wp_i x)) (show -1 = q_134 s w q z from (if_neg (by omega)).symm))
  · refine wl_s (pc' := 9) ji_293_8 rfl rfl rfl ?_
    refine wl_s (pc' := 10) ji_293_9 rfl rfl rfl ?_
    refine wl_bp ji_293_10 rfl ?_
    refine wl_sc (d := d + 1) (as := [wp_i q, wp_i 1, wp_i 99]) (rest := []) ji_293_12 jc_293_66 (Nat.le_of_ble_eq_true rfl) rfl (Nat.le_of_ble_eq_true rfl) rfl (by rw [jn_171]; rfl) (uc_171 (d := d + 1) (x := q) (a := 1) (b := 99) (by omega) (by omega) (by omega)) (fun v1 h5 R => ?_)
    obtain ⟨ee, y6, rfl, hy6a, hy6b⟩ := R
    rw [ee]
    clear ee
    show wl_R _ _ 293 15 [some (.ref 138), some (wp_i w), some (wp_i q), some (wp_i z), none] [wp_i y6] _ _
    refine wl_if (t := 20) ji_293_15 rfl (by omega) (fun (hb7 : ¬ (y6 : Int) = 0) => ?_) (fun (hb7 : ¬ (¬ (y6 : Int) = 0)) => ?_)
    · have q1 : (0 ≤ w ∧ w < s 139 1) ∧ 1 ≤ q ∧ q ≤ 99 := by omega
      obtain ⟨n, hn⟩ : ∃ n, (s 139 1).toNat = n := ⟨_, rfl⟩
      obtain ⟨rl, tl, V, as, HA, Hg⟩ := rv_CS W i1 [10069, 10070]
      rw [hn] at V
      refine wl_s (pc' := 21) ji_293_20 rfl rfl rfl ?_
      refine wl_s (pc' := 22) ji_293_21 rfl rfl rfl ?_
      obtain ⟨qf, hqf⟩ := cs_c C (by decide) sq_138
      refine wl_vc (d := d + 1) (as := [.ref 138, wp_i q]) (rest := []) ji_293_22 jc_293_446 rfl hqf jk_294.symm (Nat.le_of_ble_eq_true rfl) rfl (by rw [jn_294]; rfl) (wp_wl (ws_weighX (d := d) (by decide) (by decide) (by decide) (q0 := q) q1.2 HA (g := (fun j => s 139 (40 + 2 * j))) (fun u u0 u6 => ⟨Hg u u0 u6, hg u u0 u6⟩) V)) (fun v1 h1 R => ?_)
      obtain ⟨rfl, rl', tl', V1, ht⟩ := R
      have eN : rwN n 720 [0, 1, 2, 3, 4, 5] = fct n := of_decide_eq_true (List.all_eq_true.mp rwN_f n (List.mem_range.mpr (by omega)))
      rw [eN]
      show wl_R _ _ 293 25 [some (.ref 138), some (wp_i w), some (wp_i q), some (wp_i z), none] [wp_i (fct n)] h1 _
      refine wl_s (pc' := 27) (lv' := [some (.ref 138), some (wp_i w), some (wp_i q), some (wp_i z), some (wp_i (fct n))]) ji_293_25 rfl rfl rfl ?_
      refine wl_s (pc' := 28) ji_293_27 rfl rfl rfl ?_
      obtain ⟨vH, -, -, -, -, vX, -, -, fs, as2, g1, g2, g3, -, -, g6, -⟩ := V1
      refine wl_gf ji_293_28 jf_293_53 g1 g3 ?_
      refine wl_s (pc' := 32) ji_293_31 rfl rfl rfl ?_
      obtain ⟨e1, e2⟩ := rv_el vH vX (n := 6) (lo := 0) (hi := 720) rfl g6
      obtain ⟨e3, -, -⟩ := e2 w.toNat (by omega)
      refine wl_ial (x := w) ji_293_32 g6 (by omega) (by omega) (by omega) e3 ?_
      rw [ht w.toNat (by omega)]
      have o := ord_all (g := (fun j => s 139 (40 + 2 * j))) (q0 := q) (P := n) (w := w.toNat) (by omega) (by omega)
      have f6 := fct_6 ⟨n, by omega⟩
      have f6 : 1 ≤ fct n ∧ fct n ≤ 720 := f6
      obtain ⟨m, hm⟩ : ∃ m, (rwS (fun j => s 139 (40 + 2 * j)) q n w.toNat 720 [0, 1, 2, 3, 4, 5]).toNat = m := ⟨_, rfl⟩
      obtain ⟨k, hk⟩ : ∃ k, (fct n).toNat = k := ⟨_, rfl⟩
      rw [show rwS (fun j => s 139 (40 + 2 * j)) q n w.toNat 720 [0, 1, 2, 3, 4, 5] = (m : Int) by omega, show fct n = (k : Int) by omega]
      refine wl_i2g (x := (m : Int)) ji_293_33 (by omega) ?_
      refine wl_s (pc' := 36) ji_293_34 rfl rfl rfl ?_
      refine wl_i2g (x := (k : Int)) ji_293_36 (by omega) ?_
      refine wl_s (pc' := 38) ji_293_37 rfl rfl rfl ?_
      refine wl_sc (d := d + 1) (as := [wl_L (m : Int), wl_L (k : Int), wp_i z]) (rest := []) ji_293_38 jc_293_418 (Nat.le_of_ble_eq_true rfl) rfl (Nat.le_of_ble_eq_true rfl) rfl (by rw [jn_279]; rfl) (uc_279 (d := d) (m := m) (k := k) (by omega) (by omega) hz) (fun v1 h2 R => ?_)
      obtain ⟨rfl, rfl⟩ := R
      show wl_R _ _ 293 41 [some (.ref 138), some (wp_i w), some (wp_i q), some (wp_i z), some (wp_i (k : Int))] [wl_L (ltR m k z)] _ _
      have lb : 0 ≤ ltR m k z ∧ ltR m k z ≤ 1000 := by rw [← lt_eq (by omega)]; exact ltC_b (B := 1000) ⟨by omega, by omega⟩ (by decide) ⟨by omega, by omega⟩
      refine wl_l2g (x := ltR m k z) ji_293_41 (by unfold wl_q; omega) ?_
      exact wl_ri ji_293_42 jr_293 rfl (congrArg (fun x => some (wp_i x)) (by unfold q_134; rw [if_pos q1, hn, hm, hk]))
    · refine wl_s (pc' := 19) ji_293_18 rfl rfl rfl ?_
      exact wl_ri ji_293_19 jr_293 rfl (congrArg (fun x => some (wp_i x)) (show -1 = q_134 s w q z from (if_neg (by omega)).symm))
theorem tq_134 (AM : lw_AM) {sl : List Value} {h : mj_H} {B : Int} {s : sg_} {tc : tcs} {tr : Int → crs} {M : Int} (L : LAWS tc tr s M) {a b c : Int} (hc : c = 0 ∨ c = 1) (ra : wp_r a) (rb : wp_r b) (hMM : M ≤ 900000000) (W : WS sl h B s) (hB : 0 ≤ B ∧ B ≤ 130000000) : wp_R 1199 134 0 [some (.ref 9), some (wp_i a), some (wp_i b), some (wp_i c), none] [] h (fun v h1 => ∃ s1, v = some (wp_i (q_134 s1 a b c)) ∧ WS sl h1 (B + (0 : Nat)) s1 ∧ LAWS tc tr s1 M) := by
  have dm := dm_ L
  have H := L.1.1.2.1
  have e : ∀ j : Int, 0 ≤ j → j < 6 → s 139 (40 + 2 * j) = s 52 j := fun j x y => (H.2.2.1 j ⟨x, y⟩).1
  have hT : ∀ w : Int, 0 ≤ w ∧ w < s 48 1 → 0 ≤ tot (deT (fun j => s 52 j) (s 48 1).toNat b w.toNat) (2 ^ (s 48 1).toNat) ∧ tot (deT (fun j => s 52 j) (s 48 1).toNat b w.toNat) (2 ^ (s 48 1).toNat) ≤ 720 := fun w hw => by
    have o := ord_all (g := (fun j => s 52 j)) (q0 := b) (P := (s 48 1).toNat) (w := w.toNat) (by omega) (by omega)
    rw [o.1] at o
    exact o.2
  have C := W.2.2.2
  refine wp_mono (ws_g (n := 0) (P := fun v t => v = some (wp_i (q_134 t a b c)) ∧ LAWS tc tr t M) W (AM 1199 134 sx_K134 rfl) (vs := [.ref 9, wp_i a, wp_i b, wp_i c]) ⟨⟨9, rfl, rfl⟩, ⟨_, rfl, (sx_r32 _).1, (sx_r32 _).2⟩, ⟨_, rfl, (sx_r32 _).1, (sx_r32 _).2⟩, ⟨_, rfl, (by rcases hc with rfl | rfl <;> decide), (by rcases hc with rfl | rfl <;> decide)⟩, trivial⟩ (show (2 : Int) + 0 ≤ ((1199 : Nat) : Int) by decide) (by decide) (by omega) (by rw [jn_134]; rfl) (by decide +kernel) (fun nn => wl_mono (uc_134 (d := 1197) C (n := (s 48 1).toNat) (by omega) (by omega) (fun j x y => (INV_NV L.1).g.1.2.2.2.1 j x (by omega)) ra rb hc hT) (fun v h1 R => ?_))) ?_
  · obtain ⟨rfl, rfl⟩ := R
    exact ⟨s, C, congrArg (fun x => some (wp_i x)) (eq_might L hc), L⟩
  · rintro v h1 ⟨-, s1, W1, e1, L1⟩
    exact ⟨s1, e1, W1, L1⟩
theorem tq_293 (AM : lw_AM) {sl : List Value} {h : mj_H} {B : Int} {s : sg_} {tc : tcs} {tr : Int → crs} {M : Int} (L : LAWS tc tr s M) {a b c : Int} (hc : c = 0 ∨ c = 1) (ra : wp_r a) (rb : wp_r b) (hMM : M ≤ 900000000) (W : WS sl h B s) (hB : 0 ≤ B ∧ B ≤ 130000000) : wp_R 1199 293 0 [some (.ref 138), some (wp_i a), some (wp_i b), some (wp_i c), none] [] h (fun v h1 => v = some (wp_i (q_134 s a b c)) ∧ ∃ s1, WS sl h1 (B + (0 : Nat)) s1 ∧ LAWS tc tr s1 M) := by
  have R := (INV_RT L.1).1.rs.g
  refine wp_mono (ws_qv (n := 0) W (AM 1199 293 sx_K293 rfl) (vs := [.ref 138, wp_i a, wp_i b, wp_i c]) ⟨⟨138, rfl, rfl⟩, ⟨_, rfl, (sx_r32 _).1, (sx_r32 _).2⟩, ⟨_, rfl, (sx_r32 _).1, (sx_r32 _).2⟩, ⟨_, rfl, (by rcases hc with rfl | rfl <;> decide), (by rcases hc with rfl | rfl <;> decide)⟩, trivial⟩ (show (10 : Int) + 0 ≤ ((1199 : Nat) : Int) by decide) (by decide) (by omega) (by rw [jn_293]; rfl) (by decide +kernel) (by decide) (fun nn => uc_293 (d := 1197) W R.w0 (fun u x y => R.n u ⟨x, y⟩) ra rb hc)) ?_
  rintro v h1 ⟨e, s1, W1, f⟩
  exact ⟨e, s1, W1, LAWS_q L f⟩
