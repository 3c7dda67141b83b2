/-! -/
set_option maxRecDepth 100000 in
theorem ji_255_21 : mj_ins 255 21 = some (.iload_n 2) := by decide +kernel
set_option maxRecDepth 100000 in
theorem ji_255_22 : mj_ins 255 22 = some (.aload_n 0) := by decide +kernel
set_option maxRecDepth 100000 in
theorem ji_255_23 : mj_ins 255 23 = some (.getfield 16) := by decide +kernel
set_option maxRecDepth 100000 in
theorem jf_255_16 : mj_fld 255 16 = some (11, 2, (.array .int), false) := by decide +kernel
set_option maxRecDepth 100000 in
theorem ji_255_26 : mj_ins 255 26 = some (.sipush 705) := by decide +kernel
set_option maxRecDepth 100000 in
theorem ji_255_29 : mj_ins 255 29 = some (.iload_n 1) := by decide +kernel
set_option maxRecDepth 100000 in
theorem ji_255_30 : mj_ins 255 30 = some (.imul) := by decide +kernel
set_option maxRecDepth 100000 in
theorem ji_255_31 : mj_ins 255 31 = some (.iaload) := by decide +kernel
set_option maxRecDepth 100000 in
theorem ji_255_32 : mj_ins 255 32 = some (.if_icmp .ge 29) := by decide +kernel
set_option maxRecDepth 100000 in
theorem ji_255_61 : mj_ins 255 61 = some (.iconst (-1)) := by decide +kernel
set_option maxRecDepth 100000 in
theorem ji_255_62 : mj_ins 255 62 = some (.ireturn) := by decide +kernel
set_option maxRecDepth 100000 in
theorem jr_255 : mj_ret 255 = some .int := by decide +kernel
set_option maxRecDepth 100000 in
theorem ji_255_35 : mj_ins 255 35 = some (.aload_n 0) := by decide +kernel
set_option maxRecDepth 100000 in
theorem ji_255_36 : mj_ins 255 36 = some (.sipush 705) := by decide +kernel
set_option maxRecDepth 100000 in
theorem ji_255_39 : mj_ins 255 39 = some (.iload_n 1) := by decide +kernel
set_option maxRecDepth 100000 in
theorem ji_255_40 : mj_ins 255 40 = some (.imul) := by decide +kernel
set_option maxRecDepth 100000 in
theorem ji_255_41 : mj_ins 255 41 = some (.iconst 1) := by decide +kernel
set_option maxRecDepth 100000 in
theorem ji_255_42 : mj_ins 255 42 = some (.iadd) := by decide +kernel
set_option maxRecDepth 100000 in
theorem ji_255_43 : mj_ins 255 43 = some (.iconst 4) := by decide +kernel
set_option maxRecDepth 100000 in
theorem ji_255_44 : mj_ins 255 44 = some (.iload_n 2) := by decide +kernel
set_option maxRecDepth 100000 in
theorem ji_255_45 : mj_ins 255 45 = some (.imul) := by decide +kernel
set_option maxRecDepth 100000 in
theorem ji_255_46 : mj_ins 255 46 = some (.iadd) := by decide +kernel
set_option maxRecDepth 100000 in
theorem ji_255_47 : mj_ins 255 47 = some (.invokevirtual 378) := by decide +kernel
set_option maxRecDepth 100000 in
theorem jc_255_378 : mj_cal 255 378 = some (2, 256, 1) := by decide +kernel
set_option maxRecDepth 100000 in
theorem jn_256 : mj_nl 256 = 4 := by decide +kernel
set_option maxRecDepth 100000 in
theorem jk_256 : mj_cls 256 = 11 := by decide +kernel
set_option maxRecDepth 100000 in
theorem ji_255_50 : mj_ins 255 50 = some (.ifCond .ne 5) := by decide +kernel
set_option maxRecDepth 100000 in
theorem ji_255_55 : mj_ins 255 55 = some (.iinc 2 1) := by decide +kernel
set_option maxRecDepth 100000 in
theorem ji_255_58 : mj_ins 255 58 = some (.goto (-37)) := by decide +kernel
set_option maxRecDepth 100000 in
theorem ji_255_53 : mj_ins 255 53 = some (.iload_n 2) := by decide +kernel
set_option maxRecDepth 100000 in
theorem ji_255_54 : mj_ins 255 54 = some (.ireturn) := by decide +kernel
set_option maxRecDepth 100000 in
theorem ji_255_0 : mj_ins 255 0 = some (.iload_n 1) := by decide +kernel
set_option maxRecDepth 100000 in
theorem ji_255_1 : mj_ins 255 1 = some (.iconst 0) := by decide +kernel
set_option maxRecDepth 100000 in
theorem ji_255_2 : mj_ins 255 2 = some (.aload_n 0) := by decide +kernel
set_option maxRecDepth 100000 in
theorem ji_255_3 : mj_ins 255 3 = some (.getfield 7) := by decide +kernel
set_option maxRecDepth 100000 in
theorem jf_255_7 : mj_fld 255 7 = some (11, 0, (.array .int), false) := by decide +kernel
set_option maxRecDepth 100000 in
theorem ji_255_6 : mj_ins 255 6 = some (.iconst 2) := by decide +kernel
set_option maxRecDepth 100000 in
theorem ji_255_7 : mj_ins 255 7 = some (.iaload) := by decide +kernel
set_option maxRecDepth 100000 in
theorem ji_255_8 : mj_ins 255 8 = some (.iconst 1) := by decide +kernel
set_option maxRecDepth 100000 in
theorem ji_255_9 : mj_ins 255 9 = some (.isub) := by decide +kernel
set_option maxRecDepth 100000 in
theorem ji_255_10 : mj_ins 255 10 = some (.invokestatic 66) := by decide +kernel
set_option maxRecDepth 100000 in
theorem jc_255_66 : mj_cal 255 66 = some (1, 171, 3) := by decide +kernel
set_option maxRecDepth 100000 in
theorem ji_255_13 : mj_ins 255 13 = some (.ifCond .ne 6) := by decide +kernel
set_option maxRecDepth 100000 in
theorem ji_255_19 : mj_ins 255 19 = some (.iconst 0) := by decide +kernel
set_option maxRecDepth 100000 in
theorem ji_255_20 : mj_ins 255 20 = some (.istore_n 2) := by decide +kernel
set_option maxRecDepth 100000 in
theorem ji_255_16 : mj_ins 255 16 = some (.bipush (-2)) := by decide +kernel
set_option maxRecDepth 100000 in
theorem ji_255_18 : mj_ins 255 18 = some (.ireturn) := by decide +kernel
/-! a text played, in the reference; laid by program (wp_u55.py) -/
theorem plR_v {s : sg_} (h0 : 0 ≤ s 139 0) {x z : Int} : plR s x z 139 0 = s 139 0 + 1 ∧ plR s x z 139 (16 + 3 * s 139 0) = x ∧ plR s x z 139 (16 + 3 * s 139 0 + 1) = z ∧ plR s x z 139 (16 + 3 * s 139 0 + 2) = x := by
  unfold plR
  refine ⟨up_e _ _ _ _, ?_, ?_, ?_⟩
  · rw [up_k (by omega), up_k (by omega), up_k (by omega), up_e]
  · rw [up_k (by omega), up_k (by omega), up_e]
  · rw [up_k (by omega), up_e]
theorem plR_j {s : sg_} {x z : Int} {b : Nat} {j : Int} (h : ¬ b = 139 ∨ (¬ j = 0 ∧ ¬ j = 16 + 3 * s 139 0 ∧ ¬ j = 16 + 3 * s 139 0 + 1 ∧ ¬ j = 16 + 3 * s 139 0 + 2)) : plR s x z b j = s b j := by
  unfold plR
  rcases h with h | h
  · rw [up_a h, up_a h, up_a h, up_a h]
  · rw [up_k h.1, up_k h.2.2.2, up_k h.2.2.1, up_k h.2.1]
theorem pwR_v {s : sg_} (h0 : 0 ≤ s 139 1) {x z : Int} : pwR s x z 139 1 = s 139 1 + 1 ∧ pwR s x z 139 (40 + 2 * s 139 1) = x ∧ pwR s x z 139 (40 + 2 * s 139 1 + 1) = z := by
  unfold pwR
  refine ⟨up_e _ _ _ _, ?_, ?_⟩
  · rw [up_k (by omega), up_k (by omega), up_e]
  · rw [up_k (by omega), up_e]
theorem pwR_j {s : sg_} {x z : Int} {b : Nat} {j : Int} (h : ¬ b = 139 ∨ (¬ j = 1 ∧ ¬ j = 40 + 2 * s 139 1 ∧ ¬ j = 40 + 2 * s 139 1 + 1)) : pwR s x z b j = s b j := by
  unfold pwR
  rcases h with h | h
  · rw [up_a h, up_a h, up_a h]
  · rw [up_k h.1, up_k h.2.2, up_k h.2.1]
theorem plR_RG {s : sg_} (G : RG s) (hc : s 139 0 < 8) {x z : Int} (hx : 1 ≤ x ∧ x ≤ 99) (hz : 0 ≤ z ∧ z ≤ 99) : RG (plR s x z) := by
  have p0 := G.p0
  have V := plR_v (s := s) p0.1 (x := x) (z := z)
  exact RG_mk
    (a_ := fun q hq => by
      by_cases c : q = s 139 0
      · rw [c, V.2.1]; omega
      · rw [plR_j (by omega)]; exact G.a q hq)
    (pl_ := fun q hq => by
      by_cases c : q = s 139 0
      · rw [c, V.2.2.1]; omega
      · rw [plR_j (by omega)]; exact G.pl q hq)
    (n_ := fun q hq => by rw [plR_j (by omega)]; exact G.n q hq)
    (h_ := fun u q hu hq => by
      show -1 ≤ plR s x z 139 (52 + 2 * (8 * u + q) + 0) ∧ plR s x z 139 (52 + 2 * (8 * u + q) + 0) ≤ 99
      rw [plR_j (by omega)]
      exact G.h u q hu hq)
    (e_ := fun u q hu hq => by rw [plR_j (by omega)]; exact G.e u q hu hq)
    (f_ := fun u q hu hq => by
      show ¬ plR s x z 139 (52 + 2 * (8 * u + q) + 0) = -1 → plR s x z 139 (52 + 2 * (8 * u + q) + 1) ≤ 99
      rw [plR_j (by omega), plR_j (by omega)]
      exact G.f u q hu hq)
    (w_ := by rw [plR_j (by omega)]; exact G.w)
    (o_ := by rw [plR_j (by omega)]; exact G.o)
    (x_ := by rw [plR_j (by omega)]; exact G.x)
    (d_ := by rw [plR_j (by omega)]; exact G.d)
    (p0_ := by rw [V.1]; omega)
    (w0_ := by rw [plR_j (by omega)]; exact G.w0)
theorem pwR_RG {s : sg_} (G : RG s) (hc : s 139 1 < 6) {x z : Int} (hx : 1 ≤ x ∧ x ≤ 9) : RG (pwR s x z) := by
  have p0 := G.w0
  have V := pwR_v (s := s) p0.1 (x := x) (z := z)
  exact RG_mk
    (a_ := fun q hq => by rw [pwR_j (by omega)]; exact G.a q hq)
    (pl_ := fun q hq => by rw [pwR_j (by omega)]; exact G.pl q hq)
    (n_ := fun q hq => by
      by_cases c : q = s 139 1
      · rw [c, V.2.1]; omega
      · rw [pwR_j (by omega)]; exact G.n q hq)
    (h_ := fun u q hu hq => by
      show -1 ≤ pwR s x z 139 (52 + 2 * (8 * u + q) + 0) ∧ pwR s x z 139 (52 + 2 * (8 * u + q) + 0) ≤ 99
      rw [pwR_j (by omega)]
      exact G.h u q hu hq)
    (e_ := fun u q hu hq => by rw [pwR_j (by omega)]; exact G.e u q hu hq)
    (f_ := fun u q hu hq => by
      show ¬ pwR s x z 139 (52 + 2 * (8 * u + q) + 0) = -1 → pwR s x z 139 (52 + 2 * (8 * u + q) + 1) ≤ 99
      rw [pwR_j (by omega), pwR_j (by omega)]
      exact G.f u q hu hq)
    (w_ := by rw [pwR_j (by omega)]; exact G.w)
    (o_ := by rw [pwR_j (by omega)]; exact G.o)
    (x_ := by rw [pwR_j (by omega)]; exact G.x)
    (d_ := by rw [pwR_j (by omega)]; exact G.d)
    (p0_ := by rw [pwR_j (by omega)]; exact G.p0)
    (w0_ := by rw [V.1]; omega)
/-- all but the forest stays -/
theorem RT_h {s s1 : sg_} {cr : crs} {M : Int} (H : RT s cr M) (g : RG s1) (e : ∀ (b : Nat) (j : Int), ¬ b = 139 ∨ j = 3 ∨ j = 4 ∨ j = 12 ∨ j = 8 → s1 b j = s b j) : RT s1 cr M := ⟨RS_f H.rs g (e _ _ (by omega)) (fun j => e _ _ (by omega)), by rw [e _ _ (by omega)]; exact H.k, by rw [e _ _ (by omega)]; exact H.b, by rw [e _ _ (by omega)]; exact H.o9⟩
theorem RG_9 {s : sg_} (G : RG s) {y : Int} (hy : 0 ≤ y ∧ y ≤ 9) : RG (up s 139 9 y) := RG_e G (fun j a b => up_k (by omega)) (up_k (by decide)) (up_k (by decide)) (by rw [up_e]; exact hy) (by rw [up_k (by decide)]; exact G.o) (by rw [up_k (by decide)]; exact G.x) (by rw [up_k (by decide)]; exact G.d)
theorem RT_9 {s : sg_} {cr : crs} {M : Int} (H : RT s cr M) {y : Int} (hy : 0 ≤ y ∧ y ≤ 9) : RT (up s 139 9 y) cr M := RT_h H (RG_9 H.rs.g hy) (fun b j h => by
  unfold up
  exact if_neg (by omega))
theorem hrsR_RT {s : sg_} {cr : crs} {M : Int} (H : RT s cr M) : ∀ n : Nat, s 139 8 + n ≤ 9999 → RT (hrsR cr s n) cr (M + n) ∧ hrsR cr s n 139 8 = s 139 8 + n
  | 0, _ => ⟨RT_m H (by omega), (Int.add_zero _).symm⟩
  | n + 1, hn => by
    have ih := hrsR_RT H n (by omega)
    have q8 : keepR (hrsR cr s n) 139 8 = hrsR cr s n 139 8 := keepR_fr ih.1.k.1 (Or.inr ⟨by decide, by decide⟩)
    refine ⟨?_, ?_⟩
    · rw [show M + ((n + 1 : Nat) : Int) = M + (n : Int) + 1 by omega]
      exact hourR_RT (keepR_RT ih.1) (by omega)
    · show hourR cr (keepR (hrsR cr s n)) 139 8 = _
      rw [hourR_8, q8]
      omega
theorem hrsR_b {s : sg_} {cr : crs} {M : Int} (H : RT s cr M) {b : Nat} {j : Int} (h : ¬ b = 139 ∨ (j < 4)) : ∀ n : Nat, s 139 8 + n ≤ 9999 → hrsR cr s n b j = s b j
  | 0, _ => rfl
  | n + 1, hn => by
    have ih := hrsR_RT H n (by omega)
    show hourR cr (keepR (hrsR cr s n)) b j = _
    have h12 : 0 ≤ keepR (hrsR cr s n) 139 12 := (keepR_RT ih.1).b.1
    have e : hourR cr (keepR (hrsR cr s n)) b j = keepR (hrsR cr s n) b j := by
      rcases h with h | h
      · exact hourR_b h
      · by_cases hb : b = 139
        · rw [hb, hourR_j (by omega) (by omega) h12, flA_j (Or.inr (by omega))]
        · exact hourR_b hb
    rw [e, keepR_fr ih.1.k.1 (by omega)]
    exact hrsR_b H h n (by omega)
/-- what a clause does keeps the reference's invariants, its texts and its ruler -/
theorem doR_RT {s : sg_} {cr : crs} {M : Int} (H : RT s cr M) {k v w : Int} (h9 : k = 9 → 0 ≤ v ∧ v ≤ 60) : RT (doR cr s k v w).2 cr (M + 60) ∧ ∀ (b : Nat) (j : Int), ¬ b = 139 ∨ j = 2 ∨ j = 3 → (doR cr s k v w).2 b j = s b j := by
  have p0 := H.rs.g.p0
  have w0 := H.rs.g.w0
  have K := keepR_RT H
  have Ks : RT s cr (M + 60) := RT_m H (by omega)
  have Kk : RT (keepR s) cr (M + 60) := RT_m K (by omega)
  have kf : ∀ (b : Nat) (j : Int), ¬ b = 139 ∨ j = 2 ∨ j = 3 → keepR s b j = s b j := fun b j h => keepR_fr H.k.1 (by omega)
  unfold doR
  split
  · split
    · rename_i c
      exact ⟨RT_h Ks (plR_RG Ks.rs.g c.1 c.2.1 c.2.2) (fun b j h => plR_j (by omega)), fun b j h => plR_j (by omega)⟩
    · exact ⟨Ks, fun _ _ _ => rfl⟩
  · split
    · split
      · rename_i c
        exact ⟨RT_h Ks (pwR_RG Ks.rs.g c.1 c.2) (fun b j h => pwR_j (by omega)), fun b j h => pwR_j (by omega)⟩
      · exact ⟨Ks, fun _ _ _ => rfl⟩
    · split
      · split
        · rename_i c
          have c1 := c.1
          have c2 := c.2.1
          exact ⟨rsR_RT Kk (by omega) (by omega), fun b j h => by show rsR (keepR s) v w b j = _; rw [rsR_j (by omega) (by omega) (by omega)]; exact kf b j h⟩
        · exact ⟨Ks, fun _ _ _ => rfl⟩
      · split
        · split
          · rename_i c
            have c1 := c.1
            have c2 := c.2.1
            exact ⟨gnR_RT Kk (by omega) (by omega), fun b j h => by show gnR (keepR s) v w b j = _; rw [gnR_j (by omega) (by omega) (by omega)]; exact kf b j h⟩
          · exact ⟨Ks, fun _ _ _ => rfl⟩
        · split
          · split
            · rename_i c
              have c1 := c.1
              have k5 : keepR s 139 (16 + 3 * v) = s 139 (16 + 3 * v) := keepR_fr H.k.1 (by omega)
              exact ⟨prR_RT Kk (by omega) (by omega) (by omega), fun b j h => by show prR (keepR s) v w b j = _; rw [prR_j (by omega) (by omega)]; exact kf b j h⟩
            · exact ⟨Ks, fun _ _ _ => rfl⟩
          · split
            · split
              · rename_i c
                exact ⟨RT_9 Kk c.1, fun b j h => by
                  show up (keepR s) 139 9 v b j = _
                  rw [← kf b j h]
                  exact if_neg (by omega)⟩
              · exact ⟨Ks, fun _ _ _ => rfl⟩
            · split
              · rename_i c
                have hv := h9 c
                have o := H.rs.g.o
                have hn : s 139 8 + ((min v (9999 - s 139 8)).toNat : Int) ≤ 9999 := by have := H.o9; omega
                exact ⟨RT_m (hrsR_RT H _ hn).1 (by omega), fun b j h => hrsR_b H (by omega) _ hn⟩
              · exact ⟨Ks, fun _ _ _ => rfl⟩
abbrev cls : Type := Nat → Int × Int × Int
def pyR (cr : crs) (cl : cls) : Nat → Nat → sg_ → Int × sg_
  | 0, _, s => (-1, s)
  | f + 1, k, s => if (doR cr s (cl k).1 (cl k).2.1 (cl k).2.2).1 = 0 then ((k : Int), (doR cr s (cl k).1 (cl k).2.1 (cl k).2.2).2) else pyR cr cl f (k + 1) (doR cr s (cl k).1 (cl k).2.1 (cl k).2.2).2
/-- the clauses of a text, in the reference -/
def clsR (s : sg_) (t : Int) : cls := fun k => (s 141 (705 * t + 1 + 4 * k), s 141 (705 * t + 1 + 4 * k + 1), s 141 (705 * t + 1 + 4 * k + 2))
/-- clauses as they are written -/
def clsO (cl : cls) (n : Nat) : Prop := ∀ k : Nat, k < n → (0 ≤ (cl k).1 ∧ (cl k).1 ≤ 9) ∧ ((cl k).1 = 9 → 0 ≤ (cl k).2.1 ∧ (cl k).2.1 ≤ 60)
theorem doR_01 {cr : crs} {s : sg_} {k v w : Int} : (doR cr s k v w).1 = 0 ∨ (doR cr s k v w).1 = 1 := by
  unfold doR
  repeat' split
  all_goals first
    | exact Or.inl rfl
    | exact Or.inr rfl
theorem uc_255l {d : Nat} {cr : crs} {M tx : Int} {n : Nat} {cl : cls} {s0 : sg_} (hM : M ≤ 999990000) (htx : 0 ≤ tx ∧ tx < 4) (hn : n ≤ 24) (hn0 : s0 141 (705 * tx) = (n : Int)) (hcl : ∀ k, cl k = clsR s0 tx k) (O : clsO cl n) : ∀ (nn k : Nat) (t : sg_) (h : mj_H), CS h t → RT t cr (M + 60 * (k : Int)) → (∀ j : Int, t 141 j = s0 141 j) → k ≤ n → wl_R nn (d + 11) 255 21 [some (.ref 138), some (wp_i tx), some (wp_i ((k : Int)))] [] h (fun v1 h1 => v1 = some (wp_i (pyR cr cl (n - k) k t).1) ∧ CS h1 (pyR cr cl (n - k) k t).2) := by
  intro nn
  induction nn with
  | zero => intros; exact wl_0
  | succ nn ih =>
    intro k t h C T E hk
    have en : t 141 (705 * tx) = (n : Int) := by rw [E]; exact hn0
    refine wl_s1 (pc' := 22) ji_255_21 rfl rfl rfl ?_
    refine wl_s (pc' := 23) ji_255_22 rfl rfl rfl ?_
    refine cs_gr (r := 141) (k := 2) C (by decide) sq_138 rfl ji_255_23 jf_255_16 ?_
    refine wl_sp ji_255_26 rfl ?_
    refine wl_s (pc' := 30) ji_255_29 rfl rfl rfl ?_
    refine wl_imul (x := 705) (y := tx) (z := 705 * tx) ji_255_30 (by omega) ?_
    refine cs_l (x := 705 * tx) C (by decide) (by decide) sq_141 (by omega) ji_255_31 (fun ld10 ld11 ld12 => ?_)
    rw [en] at ld12 ⊢
    refine wl_icmp (t := 61) ji_255_32 rfl (by omega) (by omega) (fun (hb2 : ((n : Int) : Int) ≤ ((k : Int))) => ?_) (fun (hb2 : ¬ (((n : Int) : Int) ≤ ((k : Int)))) => ?_)
    · refine wl_s (pc' := 62) ji_255_61 rfl rfl rfl ?_
      exact wl_ri ji_255_62 jr_255 rfl (⟨congrArg (fun z => some (wp_i z)) (by rw [show n - k = 0 by omega]; rfl), cs_mono C (by rw [show n - k = 0 by omega]; rfl)⟩)
    · refine wl_s (pc' := 36) ji_255_35 rfl rfl rfl ?_
      refine wl_sp ji_255_36 rfl ?_
      refine wl_s (pc' := 40) ji_255_39 rfl rfl rfl ?_
      refine wl_imul (x := 705) (y := tx) (z := 705 * tx) ji_255_40 (by omega) ?_
      refine wl_s (pc' := 42) ji_255_41 rfl rfl rfl ?_
      refine wl_iadd (x := 705 * tx) (y := 1) (z := 705 * tx + 1) ji_255_42 (by omega) ?_
      refine wl_s (pc' := 44) ji_255_43 rfl rfl rfl ?_
      refine wl_s (pc' := 45) ji_255_44 rfl rfl rfl ?_
      refine wl_imul (x := 4) (y := (k : Int)) (z := 4 * ((k : Int))) ji_255_45 (by omega) ?_
      refine wl_iadd (x := 705 * tx + 1) (y := 4 * ((k : Int))) (z := 705 * tx + 1 + 4 * (k : Int)) ji_255_46 (by omega) ?_
      obtain ⟨q4, hq4⟩ := cs_c C (by decide) sq_138
      refine wl_vc (d := d + 10) (as := [.ref 138, wp_i (705 * tx + 1 + 4 * (k : Int))]) (rest := []) ji_255_47 jc_255_378 rfl hq4 jk_256.symm (Nat.le_of_ble_eq_true rfl) rfl (by rw [jn_256]; rfl) (uc_256 (d := d) C (M := M + 60 * (k : Int)) (by omega) T (x := 705 * tx + 1 + 4 * (k : Int)) (k := (cl k).1) (v := (cl k).2.1) (w := (cl k).2.2) (by omega) (by rw [E]; exact (congrArg (fun z => z.1) (hcl k)).symm) (by rw [E]; exact (congrArg (fun z => z.2.1) (hcl k)).symm) (by rw [E]; exact (congrArg (fun z => z.2.2) (hcl k)).symm) (O k (by omega)).1 (O k (by omega)).2) (fun v1 h3 R => ?_)
      obtain ⟨ee, C⟩ := R
      rw [ee]
      obtain ⟨y, ey⟩ : ∃ z9_, (doR cr t (cl k).1 (cl k).2.1 (cl k).2.2).1 = z9_ := ⟨_, rfl⟩
      rw [ey]
      have y0 : y = 0 ∨ y = 1 := ey ▸ doR_01
      show wl_R _ _ 255 50 [some (.ref 138), some (wp_i tx), some (wp_i ((k : Int)))] [wp_i y] h3 _
      refine wl_if (t := 55) ji_255_50 rfl (by omega) (fun (hb5 : ¬ (y : Int) = 0) => ?_) (fun (hb5 : ¬ (¬ (y : Int) = 0)) => ?_)
      · refine wl_iinc (x := (k : Int)) (z := (k : Int) + 1) (lv' := [some (.ref 138), some (wp_i tx), some (wp_i ((k : Int) + 1))]) ji_255_55 rfl (Nat.le_of_ble_eq_true rfl) (by omega) rfl ?_
        refine wl_goto (t := 21) ji_255_58 rfl ?_
        rw [show (k : Int) + 1 = ((k + 1 : Nat) : Int) by omega]
        have D := doR_RT T (O k (by omega)).2 (w := (cl k).2.2)
        have eR : pyR cr cl (n - k) k t = pyR cr cl (n - (k + 1)) (k + 1) (doR cr t (cl k).1 (cl k).2.1 (cl k).2.2).2 := by { rw [show n - k = (n - (k + 1)) + 1 by omega]; exact if_neg (by rw [ey]; omega) }
        rw [eR]
        exact ih (k + 1) _ _ C (by rw [show M + 60 * ((k + 1 : Nat) : Int) = M + 60 * (k : Int) + 60 by omega]; exact D.1) (fun j => by rw [D.2 141 j (Or.inl (by decide))]; exact E j) (by omega)
      · refine wl_s (pc' := 54) ji_255_53 rfl rfl rfl ?_
        exact wl_ri ji_255_54 jr_255 rfl ((by have eR : pyR cr cl (n - k) k t = ((k : Int), (doR cr t (cl k).1 (cl k).2.1 (cl k).2.2).2) := by { rw [show n - k = (n - (k + 1)) + 1 by omega]; exact if_pos (by rw [ey]; omega) }; rw [eR]; exact ⟨rfl, C⟩))
theorem uc_255 {nn d : Nat} {h : mj_H} {s : sg_} (C : CS h s) {cr : crs} {M tx : Int} (hM : M ≤ 999990000) (T : RT s cr M) (i2 : 0 ≤ s 139 2 ∧ s 139 2 ≤ 4) (htx : wp_r tx) {n : Nat} {cl : cls} (hn : n ≤ 24) (hn0 : 0 ≤ tx ∧ tx < s 139 2 → s 141 (705 * tx) = (n : Int)) (hcl : ∀ k, cl k = clsR s tx k) (O : clsO cl n) : wl_R nn (d + 11) 255 0 [some (.ref 138), some (wp_i tx), none] [] h (fun v1 h1 => ((0 ≤ tx ∧ tx < s 139 2) ∧ v1 = some (wp_i (pyR cr cl n 0 s).1) ∧ CS h1 (pyR cr cl n 0 s).2) ∨ (¬ (0 ≤ tx ∧ tx < s 139 2) ∧ v1 = some (wp_i (-2)) ∧ CS h1 s)) := by
  refine wl_s (pc' := 1) ji_255_0 rfl rfl rfl ?_
  refine wl_s (pc' := 2) ji_255_1 rfl rfl rfl ?_
  refine wl_s (pc' := 3) ji_255_2 rfl rfl rfl ?_
  refine cs_gr (r := 139) (k := 0) C (by decide) sq_138 rfl ji_255_3 jf_255_7 ?_
  refine wl_s (pc' := 7) ji_255_6 rfl rfl rfl ?_
  refine cs_l (x := 2) C (by decide) (by decide) sq_139 (by omega) ji_255_7 (fun ld10 ld11 ld12 => ?_)
  refine wl_s (pc' := 9) ji_255_8 rfl rfl rfl ?_
  refine wl_isub (x := s 139 2) (y := 1) (z := s 139 2 - 1) ji_255_9 (by omega) ?_
  refine wl_sc (d := d + 10) (as := [wp_i tx, wp_i 0, wp_i (s 139 2 - 1)]) (rest := []) ji_255_10 jc_255_66 (Nat.le_of_ble_eq_true rfl) rfl (Nat.le_of_ble_eq_true rfl) rfl (by rw [jn_171]; rfl) (uc_171 (d := d + 10) (x := tx) (a := 0) (b := s 139 2 - 1) (by omega) (by omega) (by omega)) (fun v1 h2 R => ?_)
  obtain ⟨ee, y3, rfl, hy3a, hy3b⟩ := R
  rw [ee]
  clear ee
  show wl_R _ _ 255 13 [some (.ref 138), some (wp_i tx), none] [wp_i y3] _ _
  refine wl_if (t := 19) ji_255_13 rfl (by omega) (fun (hb4 : ¬ (y3 : Int) = 0) => ?_) (fun (hb4 : ¬ (¬ (y3 : Int) = 0)) => ?_)
  · refine wl_s (pc' := 20) ji_255_19 rfl rfl rfl ?_
    refine wl_s (pc' := 21) (lv' := [some (.ref 138), some (wp_i tx), some (wp_i 0)]) ji_255_20 rfl rfl rfl ?_
    exact wl_mono (uc_255l (s0 := s) hM (by omega) hn (hn0 (by omega)) hcl O nn 0 s _ C (by rw [show M + 60 * ((0 : Nat) : Int) = M by omega]; exact T) (fun _ => rfl) (by omega)) (fun v1 h1 R => Or.inl ⟨by omega, R.1, R.2⟩)
  · refine wl_bp ji_255_16 rfl ?_
    exact wl_ri ji_255_18 jr_255 rfl (Or.inr ⟨by omega, rfl, C⟩)
