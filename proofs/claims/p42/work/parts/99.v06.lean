/-! -/
set_option maxRecDepth 100000 in
theorem ji_272_6 : mj_ins 272 6 = some (.iload_n 3) := by decide +kernel
set_option maxRecDepth 100000 in
theorem ji_272_7 : mj_ins 272 7 = some (.iload_n 1) := by decide +kernel
set_option maxRecDepth 100000 in
theorem ji_272_8 : mj_ins 272 8 = some (.if_icmp .ge 13) := by decide +kernel
set_option maxRecDepth 100000 in
theorem ji_272_21 : mj_ins 272 21 = some (.aload_n 0) := by decide +kernel
set_option maxRecDepth 100000 in
theorem ji_272_22 : mj_ins 272 22 = some (.getfield 7) := by decide +kernel
set_option maxRecDepth 100000 in
theorem jf_272_7 : mj_fld 272 7 = some (11, 0, (.array .int), false) := by decide +kernel
set_option maxRecDepth 100000 in
theorem ji_272_25 : mj_ins 272 25 = some (.iload_n 2) := by decide +kernel
set_option maxRecDepth 100000 in
theorem ji_272_26 : mj_ins 272 26 = some (.iaload) := by decide +kernel
set_option maxRecDepth 100000 in
theorem ji_272_27 : mj_ins 272 27 = some (.istore_n 3) := by decide +kernel
set_option maxRecDepth 100000 in
theorem ji_272_28 : mj_ins 272 28 = some (.aload_n 0) := by decide +kernel
set_option maxRecDepth 100000 in
theorem ji_272_29 : mj_ins 272 29 = some (.invokevirtual 403) := by decide +kernel
set_option maxRecDepth 100000 in
theorem jc_272_403 : mj_cal 272 403 = some (2, 274, 0) := by decide +kernel
set_option maxRecDepth 100000 in
theorem jn_274 : mj_nl 274 = 2 := by decide +kernel
set_option maxRecDepth 100000 in
theorem jk_274 : mj_cls 274 = 11 := by decide +kernel
set_option maxRecDepth 100000 in
theorem ji_272_32 : mj_ins 272 32 = some (.iload_n 3) := by decide +kernel
set_option maxRecDepth 100000 in
theorem ji_272_33 : mj_ins 272 33 = some (.ireturn) := by decide +kernel
set_option maxRecDepth 100000 in
theorem jr_272 : mj_ret 272 = some .int := by decide +kernel
set_option maxRecDepth 100000 in
theorem ji_272_11 : mj_ins 272 11 = some (.aload_n 0) := by decide +kernel
set_option maxRecDepth 100000 in
theorem ji_272_12 : mj_ins 272 12 = some (.invokevirtual 339) := by decide +kernel
set_option maxRecDepth 100000 in
theorem jc_272_339 : mj_cal 272 339 = some (2, 221, 0) := by decide +kernel
set_option maxRecDepth 100000 in
theorem ji_272_15 : mj_ins 272 15 = some (.iinc 3 1) := by decide +kernel
set_option maxRecDepth 100000 in
theorem ji_272_18 : mj_ins 272 18 = some (.goto (-12)) := by decide +kernel
set_option maxRecDepth 100000 in
theorem ji_272_0 : mj_ins 272 0 = some (.aload_n 0) := by decide +kernel
set_option maxRecDepth 100000 in
theorem ji_272_1 : mj_ins 272 1 = some (.invokevirtual 400) := by decide +kernel
set_option maxRecDepth 100000 in
theorem jc_272_400 : mj_cal 272 400 = some (2, 273, 0) := by decide +kernel
set_option maxRecDepth 100000 in
theorem jn_273 : mj_nl 273 = 2 := by decide +kernel
set_option maxRecDepth 100000 in
theorem jk_273 : mj_cls 273 = 11 := by decide +kernel
set_option maxRecDepth 100000 in
theorem ji_272_4 : mj_ins 272 4 = some (.iconst 0) := by decide +kernel
set_option maxRecDepth 100000 in
theorem ji_272_5 : mj_ins 272 5 = some (.istore_n 3) := by decide +kernel
set_option maxRecDepth 100000 in
theorem ji_271_0 : mj_ins 271 0 = some (.iload_n 1) := by decide +kernel
set_option maxRecDepth 100000 in
theorem ji_271_1 : mj_ins 271 1 = some (.iconst 1) := by decide +kernel
set_option maxRecDepth 100000 in
theorem ji_271_2 : mj_ins 271 2 = some (.bipush 60) := by decide +kernel
set_option maxRecDepth 100000 in
theorem ji_271_4 : mj_ins 271 4 = some (.invokestatic 66) := by decide +kernel
set_option maxRecDepth 100000 in
theorem jc_271_66 : mj_cal 271 66 = some (1, 171, 3) := by decide +kernel
set_option maxRecDepth 100000 in
theorem ji_271_7 : mj_ins 271 7 = some (.ifCond .eq 13) := by decide +kernel
set_option maxRecDepth 100000 in
theorem ji_271_20 : mj_ins 271 20 = some (.bipush (-2)) := by decide +kernel
set_option maxRecDepth 100000 in
theorem ji_271_22 : mj_ins 271 22 = some (.ireturn) := by decide +kernel
set_option maxRecDepth 100000 in
theorem jr_271 : mj_ret 271 = some .int := by decide +kernel
set_option maxRecDepth 100000 in
theorem ji_271_10 : mj_ins 271 10 = some (.aload_n 0) := by decide +kernel
set_option maxRecDepth 100000 in
theorem ji_271_11 : mj_ins 271 11 = some (.iload_n 1) := by decide +kernel
set_option maxRecDepth 100000 in
theorem ji_271_12 : mj_ins 271 12 = some (.bipush 10) := by decide +kernel
set_option maxRecDepth 100000 in
theorem ji_271_14 : mj_ins 271 14 = some (.invokevirtual 406) := by decide +kernel
set_option maxRecDepth 100000 in
theorem jc_271_406 : mj_cal 271 406 = some (2, 272, 2) := by decide +kernel
set_option maxRecDepth 100000 in
theorem jn_272 : mj_nl 272 = 4 := by decide +kernel
set_option maxRecDepth 100000 in
theorem jk_272 : mj_cls 272 = 11 := by decide +kernel
set_option maxRecDepth 100000 in
theorem ji_271_17 : mj_ins 271 17 = some (.goto 5) := by decide +kernel
set_option maxRecDepth 100000 in
theorem ji_276_0 : mj_ins 276 0 = some (.iload_n 1) := by decide +kernel
set_option maxRecDepth 100000 in
theorem ji_276_1 : mj_ins 276 1 = some (.iconst 1) := by decide +kernel
set_option maxRecDepth 100000 in
theorem ji_276_2 : mj_ins 276 2 = some (.bipush 60) := by decide +kernel
set_option maxRecDepth 100000 in
theorem ji_276_4 : mj_ins 276 4 = some (.invokestatic 66) := by decide +kernel
set_option maxRecDepth 100000 in
theorem jc_276_66 : mj_cal 276 66 = some (1, 171, 3) := by decide +kernel
set_option maxRecDepth 100000 in
theorem ji_276_7 : mj_ins 276 7 = some (.ifCond .eq 13) := by decide +kernel
set_option maxRecDepth 100000 in
theorem ji_276_20 : mj_ins 276 20 = some (.bipush (-2)) := by decide +kernel
set_option maxRecDepth 100000 in
theorem ji_276_22 : mj_ins 276 22 = some (.ireturn) := by decide +kernel
set_option maxRecDepth 100000 in
theorem jr_276 : mj_ret 276 = some .int := by decide +kernel
set_option maxRecDepth 100000 in
theorem ji_276_10 : mj_ins 276 10 = some (.aload_n 0) := by decide +kernel
set_option maxRecDepth 100000 in
theorem ji_276_11 : mj_ins 276 11 = some (.iload_n 1) := by decide +kernel
set_option maxRecDepth 100000 in
theorem ji_276_12 : mj_ins 276 12 = some (.bipush 9) := by decide +kernel
set_option maxRecDepth 100000 in
theorem ji_276_14 : mj_ins 276 14 = some (.invokevirtual 406) := by decide +kernel
set_option maxRecDepth 100000 in
theorem jc_276_406 : mj_cal 276 406 = some (2, 272, 2) := by decide +kernel
set_option maxRecDepth 100000 in
theorem ji_276_17 : mj_ins 276 17 = some (.goto 5) := by decide +kernel
set_option maxRecDepth 100000 in
theorem ji_275_0 : mj_ins 275 0 = some (.iload_n 1) := by decide +kernel
set_option maxRecDepth 100000 in
theorem ji_275_1 : mj_ins 275 1 = some (.iconst 1) := by decide +kernel
set_option maxRecDepth 100000 in
theorem ji_275_2 : mj_ins 275 2 = some (.bipush 60) := by decide +kernel
set_option maxRecDepth 100000 in
theorem ji_275_4 : mj_ins 275 4 = some (.invokestatic 66) := by decide +kernel
set_option maxRecDepth 100000 in
theorem jc_275_66 : mj_cal 275 66 = some (1, 171, 3) := by decide +kernel
set_option maxRecDepth 100000 in
theorem ji_275_7 : mj_ins 275 7 = some (.ifCond .eq 38) := by decide +kernel
set_option maxRecDepth 100000 in
theorem ji_275_45 : mj_ins 275 45 = some (.bipush (-2)) := by decide +kernel
set_option maxRecDepth 100000 in
theorem ji_275_47 : mj_ins 275 47 = some (.ireturn) := by decide +kernel
set_option maxRecDepth 100000 in
theorem jr_275 : mj_ret 275 = some .int := by decide +kernel
set_option maxRecDepth 100000 in
theorem ji_275_10 : mj_ins 275 10 = some (.aload_n 0) := by decide +kernel
set_option maxRecDepth 100000 in
theorem ji_275_11 : mj_ins 275 11 = some (.iload_n 2) := by decide +kernel
set_option maxRecDepth 100000 in
theorem ji_275_12 : mj_ins 275 12 = some (.invokevirtual 345) := by decide +kernel
set_option maxRecDepth 100000 in
theorem jc_275_345 : mj_cal 275 345 = some (2, 247, 1) := by decide +kernel
set_option maxRecDepth 100000 in
theorem ji_275_15 : mj_ins 275 15 = some (.ifCond .eq 30) := by decide +kernel
set_option maxRecDepth 100000 in
theorem ji_275_18 : mj_ins 275 18 = some (.aload_n 0) := by decide +kernel
set_option maxRecDepth 100000 in
theorem ji_275_19 : mj_ins 275 19 = some (.iload_n 3) := by decide +kernel
set_option maxRecDepth 100000 in
theorem ji_275_20 : mj_ins 275 20 = some (.invokevirtual 348) := by decide +kernel
set_option maxRecDepth 100000 in
theorem jc_275_348 : mj_cal 275 348 = some (2, 248, 1) := by decide +kernel
set_option maxRecDepth 100000 in
theorem ji_275_23 : mj_ins 275 23 = some (.ifCond .eq 22) := by decide +kernel
set_option maxRecDepth 100000 in
theorem ji_275_26 : mj_ins 275 26 = some (.aload_n 0) := by decide +kernel
set_option maxRecDepth 100000 in
theorem ji_275_27 : mj_ins 275 27 = some (.iload_n 1) := by decide +kernel
set_option maxRecDepth 100000 in
theorem ji_275_28 : mj_ins 275 28 = some (.bipush 52) := by decide +kernel
set_option maxRecDepth 100000 in
theorem ji_275_30 : mj_ins 275 30 = some (.iconst 2) := by decide +kernel
set_option maxRecDepth 100000 in
theorem ji_275_31 : mj_ins 275 31 = some (.bipush 8) := by decide +kernel
set_option maxRecDepth 100000 in
theorem ji_275_33 : mj_ins 275 33 = some (.iload_n 2) := by decide +kernel
set_option maxRecDepth 100000 in
theorem ji_275_34 : mj_ins 275 34 = some (.imul) := by decide +kernel
set_option maxRecDepth 100000 in
theorem ji_275_35 : mj_ins 275 35 = some (.iload_n 3) := by decide +kernel
set_option maxRecDepth 100000 in
theorem ji_275_36 : mj_ins 275 36 = some (.iadd) := by decide +kernel
set_option maxRecDepth 100000 in
theorem ji_275_37 : mj_ins 275 37 = some (.imul) := by decide +kernel
set_option maxRecDepth 100000 in
theorem ji_275_38 : mj_ins 275 38 = some (.iadd) := by decide +kernel
set_option maxRecDepth 100000 in
theorem ji_275_39 : mj_ins 275 39 = some (.invokevirtual 406) := by decide +kernel
set_option maxRecDepth 100000 in
theorem jc_275_406 : mj_cal 275 406 = some (2, 272, 2) := by decide +kernel
set_option maxRecDepth 100000 in
theorem ji_275_42 : mj_ins 275 42 = some (.goto 5) := by decide +kernel
/-! the reference's hours to come, put aside and back; laid by program (wp_v06.py) -/
theorem bgR_fr {s : sg_} {b : Nat} {j : Int} (h1 : ¬ b = 147) (h2 : ¬ (b = 138 ∧ j = 25)) : bgR s b j = s b j := by
  unfold bgR
  rw [up_n h2]
  exact if_neg (fun z => h1 z.1)
theorem bgR_25 {s : sg_} : bgR s 138 25 = 0 := up_e _ _ _ _
theorem bgR_147 {s : sg_} {j : Int} (h : 8 ≤ j ∧ j < 148) : bgR s 147 j = s 139 j := by
  unfold bgR
  rw [up_a (by decide)]
  unfold cpy
  rw [if_pos ⟨rfl, by omega, by omega⟩]
  rw [show j - 8 + 8 = j by omega]
theorem endR_z {cr : crs} {t : sg_} (h : t 138 25 = 0) : endR cr t = up (up t 139 10 (holdR t cr)) 139 8 (t 139 8 + 1) := by
  unfold endR
  rw [if_pos (Or.inr h)]
/-- what an hour that isn't written down changes -/
theorem hour_z {cr : crs} {s : sg_} (G : RG s) (h : s 138 25 = 0) {b : Nat} {j : Int} (hb : ¬ (b = 139 ∧ 8 ≤ j ∧ j < 148)) : hourR cr s b j = s b j := by
  have e : flA cr s b j = s b j := by
    by_cases q : b = 139
    · subst q
      by_cases q2 : j < 52
      · exact flA_j (Or.inr q2)
      · exact flA_k G (by omega)
    · exact flA_j (Or.inl q)
  unfold hourR
  (try dsimp only)
  rw [up_n (by omega), up_n (by omega), endR_z ((flA_j (Or.inl (by decide))).trans h), up_n (by omega), up_n (by omega), e]
theorem hour_12z {cr : crs} {s : sg_} (h : s 138 25 = 0) : hourR cr s 139 12 = s 139 12 := by
  unfold hourR
  (try dsimp only)
  rw [up_k (by decide), up_k (by decide), endR_z ((flA_j (Or.inl (by decide))).trans h), up_k (by decide), up_k (by decide)]
  exact flA_j (Or.inr (by decide))
/-- so many hours -/
def hiR (cr : crs) (s : sg_) : Nat → sg_
  | 0 => s
  | n + 1 => hourR cr (hiR cr s n)
theorem hiR_ok {cr : crs} {s : sg_} (H : RS s cr) (h12 : 0 ≤ s 139 12) (h : s 138 25 = 0) : ∀ n : Nat, s 139 8 + n ≤ 20000 → RS (hiR cr s n) cr ∧ (∀ (b : Nat) (j : Int), ¬ (b = 139 ∧ 8 ≤ j ∧ j < 148) → hiR cr s n b j = s b j) ∧ hiR cr s n 139 8 = s 139 8 + n ∧ hiR cr s n 139 12 = s 139 12
  | 0, _ => ⟨H, fun _ _ _ => rfl, by show s 139 8 = s 139 8 + ((0 : Nat) : Int); omega, rfl⟩
  | n + 1, q => by
    obtain ⟨a, b, c, d⟩ := hiR_ok H h12 h n (by omega)
    have e : (hiR cr s n) 138 25 = 0 := (b 138 25 (by omega)).trans h
    exact ⟨hourR_RS a (by omega) (by omega), fun b' j hb => (hour_z a.g e hb).trans (b b' j hb), by show hourR cr (hiR cr s n) 139 8 = _; rw [hourR_8, c]; omega, (hour_12z e).trans d⟩
theorem RS_bg {cr : crs} {s : sg_} (H : RS s cr) : RS (bgR s) cr := by
  have e : ∀ j, bgR s 139 j = s 139 j := fun j => bgR_fr (by omega) (by omega)
  exact RS_f H (RG_e H.g (fun j _ _ => e j) (e 0) (e 1) (by rw [e]; exact H.g.w) (by rw [e]; exact H.g.o) (by rw [e]; exact H.g.x) (by rw [e]; exact H.g.d)) (e 3) (fun j => bgR_fr (by omega) (by omega))
/-- put back: as it was -/
theorem pb_ok {s t : sg_} (f : ∀ (b : Nat) (j : Int), ¬ (b = 139 ∧ 8 ≤ j ∧ j < 148) → t b j = bgR s b j) (b : Nat) (j : Int) (h1 : ¬ (b = 147 ∧ 8 ≤ j ∧ j < 148)) (h2 : ¬ (b = 138 ∧ j = 25)) : pbR t b j = s b j := by
  by_cases q : b = 147
  · subst q
    unfold pbR
    rw [up_n h2]
    unfold cpy
    rw [if_neg (by omega), f 147 j (by omega)]
    unfold bgR
    rw [up_n h2]
    unfold cpy
    exact if_neg (by omega)
  · exact pb_bg (fun j a c => (f 147 j (by omega)).trans (bgR_147 ⟨a, c⟩)) (fun b j c1 c2 c3 => (f b j c2).trans (bgR_fr c1 c3)) b j q h2
/-- put aside again: the same -/
theorem bg_same {s t : sg_} (f : ∀ (b : Nat) (j : Int), ¬ (b = 147 ∧ 8 ≤ j ∧ j < 148) → ¬ (b = 138 ∧ j = 25) → t b j = s b j) : bgR t = bgR s := by
  funext b j
  by_cases q : b = 138 ∧ j = 25
  · rw [q.1, q.2, bgR_25, bgR_25]
  · by_cases q2 : b = 147 ∧ 8 ≤ j ∧ j < 148
    · rw [q2.1, bgR_147 q2.2, bgR_147 q2.2]
      exact f 139 j (by omega) (by omega)
    · unfold bgR cpy
      rw [up_n q, up_n q, if_neg (by omega), if_neg (by omega)]
      exact f b j q2 q
theorem RT_q {s t : sg_} {cr : crs} {M : Int} (H : RT s cr M) (e : ∀ (b : Nat) (j : Int), b = 139 ∨ b = 141 → t b j = s b j) : RT t cr M := by
  have G : RG t := RG_e H.rs.g (fun j _ _ => e _ j (by omega)) (e _ _ (by omega)) (e _ _ (by omega)) (by rw [e _ _ (by omega)]; exact H.rs.g.w) (by rw [e _ _ (by omega)]; exact H.rs.g.o) (by rw [e _ _ (by omega)]; exact H.rs.g.x) (by rw [e _ _ (by omega)]; exact H.rs.g.d)
  exact ⟨RS_f H.rs G (e _ _ (by omega)) (fun j => e _ _ (by omega)), by rw [e _ _ (by omega)]; exact H.k, by rw [e _ _ (by omega)]; exact H.b, by rw [e _ _ (by omega)]; exact H.o9⟩
theorem uc_272l {d : Nat} {s u : sg_} {cr : crs} (eu : bgR s = u) (H : RS u cr) (h12 : 0 ≤ u 139 12 ∧ u 139 12 ≤ 2000000000) (h25 : u 138 25 = 0) {n x : Int} (hn : 0 ≤ n ∧ n ≤ 60) (h8 : u 139 8 ≤ 9999) (hx : 8 ≤ x ∧ x < 148) : ∀ (nn i : Nat) (h : mj_H), CS h (hiR cr u i) → (i : Int) ≤ n → wl_R nn (d + 9) 272 6 [some (.ref 138), some (wp_i n), some (wp_i x), some (wp_i ((i : Int)))] [] h (fun v1 h1 => v1 = some (wp_i (hiR cr u n.toNat 139 x)) ∧ ∃ t, CS h1 t ∧ ∀ (b : Nat) (j : Int), ¬ (b = 147 ∧ 8 ≤ j ∧ j < 148) → ¬ (b = 138 ∧ j = 25) → t b j = s b j) := by
  intro nn
  induction nn with
  | zero => intros; exact wl_0
  | succ nn ih =>
    intro i h C hi
    have K := hiR_ok H h12.1 h25 i (by omega)
    refine wl_s1 (pc' := 7) ji_272_6 rfl rfl rfl ?_
    refine wl_s (pc' := 8) ji_272_7 rfl rfl rfl ?_
    refine wl_icmp (t := 21) ji_272_8 rfl (by omega) (by omega) (fun (hb1 : (n : Int) ≤ ((i : Int))) => ?_) (fun (hb1 : ¬ ((n : Int) ≤ ((i : Int)))) => ?_)
    · refine wl_s (pc' := 22) ji_272_21 rfl rfl rfl ?_
      refine cs_gr (r := 139) (k := 0) C (by decide) sq_138 rfl ji_272_22 jf_272_7 ?_
      refine wl_s (pc' := 26) ji_272_25 rfl rfl rfl ?_
      refine cs_l (x := x) C (by decide) (by decide) sq_139 (by omega) ji_272_26 (fun ld20 ld21 ld22 => ?_)
      refine wl_s (pc' := 28) (lv' := [some (.ref 138), some (wp_i n), some (wp_i x), some (wp_i ((hiR cr u i) 139 x))]) ji_272_27 rfl rfl rfl ?_
      refine wl_s (pc' := 29) ji_272_28 rfl rfl rfl ?_
      obtain ⟨q4, hq4⟩ := cs_c C (by decide) sq_138
      refine wl_vc (d := d + 8) (as := [.ref 138]) (rest := []) ji_272_29 jc_272_403 rfl hq4 jk_274.symm (Nat.le_of_ble_eq_true rfl) rfl (by rw [jn_274]; rfl) (uc_274 (d := d + 8) C) (fun v1 h3 R => ?_)
      obtain ⟨rfl, C⟩ := R
      show wl_R _ _ 272 32 [some (.ref 138), some (wp_i n), some (wp_i x), some (wp_i ((hiR cr u i) 139 x))] [] h3 _
      refine wl_s (pc' := 33) ji_272_32 rfl rfl rfl ?_
      exact wl_ri ji_272_33 jr_272 rfl (⟨congrArg (fun z => some (wp_i z)) (by rw [show i = n.toNat by omega]), _, C, fun b j h1 h2 => pb_ok (fun b j hb => eu ▸ K.2.1 b j hb) b j h1 h2⟩)
    · refine wl_s (pc' := 12) ji_272_11 rfl rfl rfl ?_
      obtain ⟨q6, hq6⟩ := cs_c C (by decide) sq_138
      refine wl_vc (d := d + 8) (as := [.ref 138]) (rest := []) ji_272_12 jc_272_339 rfl hq6 jk_221.symm (Nat.le_of_ble_eq_true rfl) rfl (by rw [jn_221]; rfl) (uc_221 (d := d) C K.1 (by rw [K.2.2.2]; omega)) (fun v1 h5 R => ?_)
      obtain ⟨rfl, C⟩ := R
      show wl_R _ _ 272 15 [some (.ref 138), some (wp_i n), some (wp_i x), some (wp_i ((i : Int)))] [] h5 _
      refine wl_iinc (x := (i : Int)) (z := (i : Int) + 1) (lv' := [some (.ref 138), some (wp_i n), some (wp_i x), some (wp_i ((i : Int) + 1))]) ji_272_15 rfl (Nat.le_of_ble_eq_true rfl) (by omega) rfl ?_
      refine wl_goto (t := 6) ji_272_18 rfl ?_
      rw [show (i : Int) + 1 = ((i + 1 : Nat) : Int) by omega]
      exact ih (i + 1) _ C (by omega)
theorem uc_272 {nn d : Nat} {h : mj_H} {s : sg_} (C : CS h s) {cr : crs} {M : Int} (hM : M ≤ 2000000000) (T : RT s cr M) {n x : Int} (hn : 0 ≤ n ∧ n ≤ 60) (hx : 8 ≤ x ∧ x < 148) : wl_R nn (d + 9) 272 0 [some (.ref 138), some (wp_i n), some (wp_i x), none] [] h (fun v1 h1 => v1 = some (wp_i (hiR cr (bgR s) n.toNat 139 x)) ∧ ∃ t, CS h1 t ∧ ∀ (b : Nat) (j : Int), ¬ (b = 147 ∧ 8 ≤ j ∧ j < 148) → ¬ (b = 138 ∧ j = 25) → t b j = s b j) := by
  refine wl_s (pc' := 1) ji_272_0 rfl rfl rfl ?_
  obtain ⟨q2, hq2⟩ := cs_c C (by decide) sq_138
  refine wl_vc (d := d + 8) (as := [.ref 138]) (rest := []) ji_272_1 jc_272_400 rfl hq2 jk_273.symm (Nat.le_of_ble_eq_true rfl) rfl (by rw [jn_273]; rfl) (uc_273 (d := d + 8) C) (fun v1 h1 R => ?_)
  obtain ⟨rfl, C⟩ := R
  have H := RS_bg T.rs
  have e12 : bgR s 139 12 = s 139 12 := bgR_fr (by omega) (by omega)
  have e8 : bgR s 139 8 = s 139 8 := bgR_fr (by omega) (by omega)
  show wl_R _ _ 272 4 [some (.ref 138), some (wp_i n), some (wp_i x), none] [] h1 _
  refine wl_s (pc' := 5) ji_272_4 rfl rfl rfl ?_
  refine wl_s (pc' := 6) (lv' := [some (.ref 138), some (wp_i n), some (wp_i x), some (wp_i 0)]) ji_272_5 rfl rfl rfl ?_
  have tb := T.b
  have o9 := T.o9
  rw [show (0 : Int) = ((0 : Nat) : Int) from rfl]
  exact uc_272l rfl H (by omega) bgR_25 hn (by omega) hx nn 0 _ C (by omega)
theorem uc_271 {nn d : Nat} {h : mj_H} {s : sg_} (C : CS h s) {cr : crs} {M : Int} (hM : M ≤ 2000000000) (T : RT s cr M) {n : Int} (hn : wp_r n) : wl_R nn (d + 10) 271 0 [some (.ref 138), some (wp_i n)] [] h (fun v1 h1 => (¬ (1 ≤ n ∧ n ≤ 60) ∧ v1 = some (wp_i (-2)) ∧ CS h1 s) ∨ ((1 ≤ n ∧ n ≤ 60) ∧ v1 = some (wp_i (hiR cr (bgR s) n.toNat 139 10)) ∧ ∃ t, CS h1 t ∧ ∀ (b : Nat) (j : Int), ¬ (b = 147 ∧ 8 ≤ j ∧ j < 148) → ¬ (b = 138 ∧ j = 25) → t b j = s b j)) := by
  refine wl_s (pc' := 1) ji_271_0 rfl rfl rfl ?_
  refine wl_s (pc' := 2) ji_271_1 rfl rfl rfl ?_
  refine wl_bp ji_271_2 rfl ?_
  refine wl_sc (d := d + 9) (as := [wp_i n, wp_i 1, wp_i 60]) (rest := []) ji_271_4 jc_271_66 (Nat.le_of_ble_eq_true rfl) rfl (Nat.le_of_ble_eq_true rfl) rfl (by rw [jn_171]; rfl) (uc_171 (d := d + 9) (x := n) (a := 1) (b := 60) (by omega) (by omega) (by omega)) (fun v1 h1 R => ?_)
  obtain ⟨ee, y2, rfl, hy2a, hy2b⟩ := R
  rw [ee]
  clear ee
  show wl_R _ _ 271 7 [some (.ref 138), some (wp_i n)] [wp_i y2] _ _
  refine wl_if (t := 20) ji_271_7 rfl (by omega) (fun (hb3 : (y2 : Int) = 0) => ?_) (fun (hb3 : ¬ ((y2 : Int) = 0)) => ?_)
  · refine wl_bp ji_271_20 rfl ?_
    exact wl_ri ji_271_22 jr_271 rfl (Or.inl ⟨by omega, rfl, C⟩)
  · refine wl_s (pc' := 11) ji_271_10 rfl rfl rfl ?_
    refine wl_s (pc' := 12) ji_271_11 rfl rfl rfl ?_
    refine wl_bp ji_271_12 rfl ?_
    obtain ⟨q5, hq5⟩ := cs_c C (by decide) sq_138
    refine wl_vc (d := d + 9) (as := [.ref 138, wp_i n, wp_i 10]) (rest := []) ji_271_14 jc_271_406 rfl hq5 jk_272.symm (Nat.le_of_ble_eq_true rfl) rfl (by rw [jn_272]; rfl) (uc_272 (d := d) C hM T (n := n) (x := 10) (by omega) (by omega)) (fun v1 h4 R => ?_)
    obtain ⟨rfl, t, C, ft⟩ := R
    obtain ⟨va, eva⟩ : ∃ z9_, hiR cr (bgR s) n.toNat 139 (10) = z9_ := ⟨_, rfl⟩
    rw [eva]
    have vr : wp_r va ∨ True := Or.inr trivial
    show wl_R _ _ 271 17 [some (.ref 138), some (wp_i n)] [wp_i va] h4 _
    refine wl_goto (t := 22) ji_271_17 rfl ?_
    exact wl_ri ji_271_22 jr_271 rfl (Or.inr ⟨by omega, rfl, t, C, ft⟩)
theorem uc_276 {nn d : Nat} {h : mj_H} {s : sg_} (C : CS h s) {cr : crs} {M : Int} (hM : M ≤ 2000000000) (T : RT s cr M) {n : Int} (hn : wp_r n) : wl_R nn (d + 10) 276 0 [some (.ref 138), some (wp_i n)] [] h (fun v1 h1 => (¬ (1 ≤ n ∧ n ≤ 60) ∧ v1 = some (wp_i (-2)) ∧ CS h1 s) ∨ ((1 ≤ n ∧ n ≤ 60) ∧ v1 = some (wp_i (hiR cr (bgR s) n.toNat 139 9)) ∧ ∃ t, CS h1 t ∧ ∀ (b : Nat) (j : Int), ¬ (b = 147 ∧ 8 ≤ j ∧ j < 148) → ¬ (b = 138 ∧ j = 25) → t b j = s b j)) := by
  refine wl_s (pc' := 1) ji_276_0 rfl rfl rfl ?_
  refine wl_s (pc' := 2) ji_276_1 rfl rfl rfl ?_
  refine wl_bp ji_276_2 rfl ?_
  refine wl_sc (d := d + 9) (as := [wp_i n, wp_i 1, wp_i 60]) (rest := []) ji_276_4 jc_276_66 (Nat.le_of_ble_eq_true rfl) rfl (Nat.le_of_ble_eq_true rfl) rfl (by rw [jn_171]; rfl) (uc_171 (d := d + 9) (x := n) (a := 1) (b := 60) (by omega) (by omega) (by omega)) (fun v1 h1 R => ?_)
  obtain ⟨ee, y2, rfl, hy2a, hy2b⟩ := R
  rw [ee]
  clear ee
  show wl_R _ _ 276 7 [some (.ref 138), some (wp_i n)] [wp_i y2] _ _
  refine wl_if (t := 20) ji_276_7 rfl (by omega) (fun (hb3 : (y2 : Int) = 0) => ?_) (fun (hb3 : ¬ ((y2 : Int) = 0)) => ?_)
  · refine wl_bp ji_276_20 rfl ?_
    exact wl_ri ji_276_22 jr_276 rfl (Or.inl ⟨by omega, rfl, C⟩)
  · refine wl_s (pc' := 11) ji_276_10 rfl rfl rfl ?_
    refine wl_s (pc' := 12) ji_276_11 rfl rfl rfl ?_
    refine wl_bp ji_276_12 rfl ?_
    obtain ⟨q5, hq5⟩ := cs_c C (by decide) sq_138
    refine wl_vc (d := d + 9) (as := [.ref 138, wp_i n, wp_i 9]) (rest := []) ji_276_14 jc_276_406 rfl hq5 jk_272.symm (Nat.le_of_ble_eq_true rfl) rfl (by rw [jn_272]; rfl) (uc_272 (d := d) C hM T (n := n) (x := 9) (by omega) (by omega)) (fun v1 h4 R => ?_)
    obtain ⟨rfl, t, C, ft⟩ := R
    obtain ⟨va, eva⟩ : ∃ z9_, hiR cr (bgR s) n.toNat 139 (9) = z9_ := ⟨_, rfl⟩
    rw [eva]
    have vr : wp_r va ∨ True := Or.inr trivial
    show wl_R _ _ 276 17 [some (.ref 138), some (wp_i n)] [wp_i va] h4 _
    refine wl_goto (t := 22) ji_276_17 rfl ?_
    exact wl_ri ji_276_22 jr_276 rfl (Or.inr ⟨by omega, rfl, t, C, ft⟩)
theorem uc_275 {nn d : Nat} {h : mj_H} {s : sg_} (C : CS h s) {cr : crs} {M : Int} (hM : M ≤ 2000000000) (T : RT s cr M) {n w p : Int} (hn : wp_r n) (hw : wp_r w) (hp : wp_r p) : wl_R nn (d + 10) 275 0 [some (.ref 138), some (wp_i n), some (wp_i w), some (wp_i p)] [] h (fun v1 h1 => (¬ ((1 ≤ n ∧ n ≤ 60) ∧ (0 ≤ w ∧ w < s 139 1) ∧ 0 ≤ p ∧ p < s 139 0) ∧ v1 = some (wp_i (-2)) ∧ CS h1 s) ∨ (((1 ≤ n ∧ n ≤ 60) ∧ (0 ≤ w ∧ w < s 139 1) ∧ 0 ≤ p ∧ p < s 139 0) ∧ v1 = some (wp_i (hiR cr (bgR s) n.toNat 139 (52 + 2 * (8 * w + p)))) ∧ ∃ t, CS h1 t ∧ ∀ (b : Nat) (j : Int), ¬ (b = 147 ∧ 8 ≤ j ∧ j < 148) → ¬ (b = 138 ∧ j = 25) → t b j = s b j)) := by
  have p0 := T.rs.g.p0
  have w0 := T.rs.g.w0
  refine wl_s (pc' := 1) ji_275_0 rfl rfl rfl ?_
  refine wl_s (pc' := 2) ji_275_1 rfl rfl rfl ?_
  refine wl_bp ji_275_2 rfl ?_
  refine wl_sc (d := d + 9) (as := [wp_i n, wp_i 1, wp_i 60]) (rest := []) ji_275_4 jc_275_66 (Nat.le_of_ble_eq_true rfl) rfl (Nat.le_of_ble_eq_true rfl) rfl (by rw [jn_171]; rfl) (uc_171 (d := d + 9) (x := n) (a := 1) (b := 60) (by omega) (by omega) (by omega)) (fun v1 h1 R => ?_)
  obtain ⟨ee, y2, rfl, hy2a, hy2b⟩ := R
  rw [ee]
  clear ee
  show wl_R _ _ 275 7 [some (.ref 138), some (wp_i n), some (wp_i w), some (wp_i p)] [wp_i y2] _ _
  refine wl_if (t := 45) ji_275_7 rfl (by omega) (fun (hb3 : (y2 : Int) = 0) => ?_) (fun (hb3 : ¬ ((y2 : Int) = 0)) => ?_)
  · refine wl_bp ji_275_45 rfl ?_
    exact wl_ri ji_275_47 jr_275 rfl (Or.inl ⟨by omega, rfl, C⟩)
  · refine wl_s (pc' := 11) ji_275_10 rfl rfl rfl ?_
    refine wl_s (pc' := 12) ji_275_11 rfl rfl rfl ?_
    obtain ⟨q5, hq5⟩ := cs_c C (by decide) sq_138
    refine wl_vc (d := d + 9) (as := [.ref 138, wp_i w]) (rest := []) ji_275_12 jc_275_345 rfl hq5 jk_247.symm (Nat.le_of_ble_eq_true rfl) rfl (by rw [jn_247]; rfl) (uc_247 (d := d + 8) C T.rs.g.w0 (w := w) (by omega)) (fun v1 h4 R => ?_)
    obtain ⟨ee, y6, rfl, hy6a, hy6b⟩ := R
    rw [ee]
    clear ee
    show wl_R _ _ 275 15 [some (.ref 138), some (wp_i n), some (wp_i w), some (wp_i p)] [wp_i y6] _ _
    refine wl_if (t := 45) ji_275_15 rfl (by omega) (fun (hb7 : (y6 : Int) = 0) => ?_) (fun (hb7 : ¬ ((y6 : Int) = 0)) => ?_)
    · refine wl_bp ji_275_45 rfl ?_
      exact wl_ri ji_275_47 jr_275 rfl (Or.inl ⟨by omega, rfl, C⟩)
    · refine wl_s (pc' := 19) ji_275_18 rfl rfl rfl ?_
      refine wl_s (pc' := 20) ji_275_19 rfl rfl rfl ?_
      obtain ⟨q9, hq9⟩ := cs_c C (by decide) sq_138
      refine wl_vc (d := d + 9) (as := [.ref 138, wp_i p]) (rest := []) ji_275_20 jc_275_348 rfl hq9 jk_248.symm (Nat.le_of_ble_eq_true rfl) rfl (by rw [jn_248]; rfl) (uc_248 (d := d + 8) C T.rs.g.p0 (p := p) (by omega)) (fun v1 h8 R => ?_)
      obtain ⟨ee, y10, rfl, hy10a, hy10b⟩ := R
      rw [ee]
      clear ee
      show wl_R _ _ 275 23 [some (.ref 138), some (wp_i n), some (wp_i w), some (wp_i p)] [wp_i y10] _ _
      refine wl_if (t := 45) ji_275_23 rfl (by omega) (fun (hb11 : (y10 : Int) = 0) => ?_) (fun (hb11 : ¬ ((y10 : Int) = 0)) => ?_)
      · refine wl_bp ji_275_45 rfl ?_
        exact wl_ri ji_275_47 jr_275 rfl (Or.inl ⟨by omega, rfl, C⟩)
      · refine wl_s (pc' := 27) ji_275_26 rfl rfl rfl ?_
        refine wl_s (pc' := 28) ji_275_27 rfl rfl rfl ?_
        refine wl_bp ji_275_28 rfl ?_
        refine wl_s (pc' := 31) ji_275_30 rfl rfl rfl ?_
        refine wl_bp ji_275_31 rfl ?_
        refine wl_s (pc' := 34) ji_275_33 rfl rfl rfl ?_
        refine wl_imul (x := 8) (y := w) (z := 8 * w) ji_275_34 (by omega) ?_
        refine wl_s (pc' := 36) ji_275_35 rfl rfl rfl ?_
        refine wl_iadd (x := 8 * w) (y := p) (z := 8 * w + p) ji_275_36 (by omega) ?_
        refine wl_imul (x := 2) (y := 8 * w + p) (z := 2 * (8 * w + p)) ji_275_37 (by omega) ?_
        refine wl_iadd (x := 52) (y := 2 * (8 * w + p)) (z := 52 + (2 * (8 * w + p))) ji_275_38 (by omega) ?_
        obtain ⟨q13, hq13⟩ := cs_c C (by decide) sq_138
        refine wl_vc (d := d + 9) (as := [.ref 138, wp_i n, wp_i (52 + (2 * (8 * w + p)))]) (rest := []) ji_275_39 jc_275_406 rfl hq13 jk_272.symm (Nat.le_of_ble_eq_true rfl) rfl (by rw [jn_272]; rfl) (uc_272 (d := d) C hM T (n := n) (x := 52 + (2 * (8 * w + p))) (by omega) (by omega)) (fun v1 h12 R => ?_)
        obtain ⟨rfl, t, C, ft⟩ := R
        obtain ⟨va, eva⟩ : ∃ z9_, hiR cr (bgR s) n.toNat 139 (52 + (2 * (8 * w + p))) = z9_ := ⟨_, rfl⟩
        rw [eva]
        have vr : wp_r va ∨ True := Or.inr trivial
        show wl_R _ _ 275 42 [some (.ref 138), some (wp_i n), some (wp_i w), some (wp_i p)] [wp_i va] h12 _
        refine wl_goto (t := 47) ji_275_42 rfl ?_
        exact wl_ri ji_275_47 jr_275 rfl (Or.inr ⟨by omega, by rw [← eva], t, C, ft⟩)
