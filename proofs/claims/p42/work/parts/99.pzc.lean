/-! -/
/-! the reference's parsed: its loop -/
section PLL
variable {d : Nat} {h0 : mj_H} {fs0 bl : List Value} {L x0 oc cn law ei : Int}
theorem pQ_m {nn d m pc : Nat} {lv : mj_L} {st9 : List Value} {h1 : mj_H} {p k v q r st st2 : Int} {w w2 : List Int} {ls as_ l2 a2 : Int} (tk : tok (bt bl L) p k v q r) (c : cstep law k v st w ls as_ = .inr (st2, w2, l2, a2)) (h5 : ¬ st2 = 5) (hr : wl_R nn d m pc lv st9 h1 (pQ h0 fs0 bl L x0 oc cn law r st2 w2 l2 a2 ei)) : wl_R nn d m pc lv st9 h1 (pQ h0 fs0 bl L x0 oc cn law p st w ls as_ ei) := wl_mono hr (fun v9 h2 ⟨f, e1, e2, e3⟩ => ⟨f, e1, e2, pF_s tk c h5 e3⟩)
theorem RL_4 {law st : Int} {w : List Int} {ls as_ : Int} {u : List Int} {op am wi ei : Int} (R : RL law st w ls as_ u op am wi ei) (h : st = 4) : brn w = 0 := by
  obtain ⟨-, -, -, -, -, -, -, -, h9⟩ := R
  rcases h9 with z | ⟨z, -⟩ | z | ⟨-, z⟩
  · omega
  · omega
  · omega
  · exact z
theorem wr_pl (D : tB bl) (hL : 0 ≤ L ∧ L ≤ 300) (hx0 : 0 ≤ x0 ∧ x0 ≤ 3000) (hlaw : 0 ≤ law ∧ law ≤ 2) : ∀ (nn : Nat) (h : mj_H) (l2 : Option Value) (p k v q r st : Int) (w : List Int) (ls as_ : Int), pZz h0 h fs0 bl L x0 oc cn law p k v q r st w ls as_ ei → wl_R nn (d + 7) 194 20 [some (.ref 138), some (wp_i ei), l2] [] h (pQ h0 fs0 bl L x0 oc cn law p st w ls as_ ei) := by
  intro nn
  induction nn with
  | zero => intros; exact wl_0
  | succ nn ih =>
    intro h l2 p k v q r st w ls as_ Z
    obtain ⟨t, n, wr, op, am, wi, w9, u, pl, ts, tk, T, hb, hw9, R, e, hwr, ham, V⟩ := Z
    have htr := tk_tr tk T
    have hRb := RL_b R
    have hta := tok_adv tk
    have hei2 := ei_2 R
    have has := as_01 R
    have hv24 := tk_24 T
    obtain ⟨cs5, hcs5⟩ := rp_c V
    have loop : ∀ {h1 : mj_H} {st2 : Int} {w2 : List Int} {l3 a2 k2 v2 q2 r2 : Int} {v1 : Option Value}, v1 = some (wp_i 0) → cstep law k v st w ls as_ = .inr (st2, w2, l3, a2) → ¬ st2 = 5 → pZz h0 h1 fs0 bl L x0 oc cn law r k2 v2 q2 r2 st2 w2 l3 a2 ei → wl_R nn (d + 7) 194 38 [some (.ref 138), some (wp_i ei), l2] (v1.toList ++ []) h1 (pQ h0 fs0 bl L x0 oc cn law p st w ls as_ ei) := by
      intro h1 st2 w2 l3 a2 k2 v2 q2 r2 v1 e1 c h5 Z2
      subst e1
      exact pQ_z (pQ_m tk c h5 (ih h1 _ r k2 v2 q2 r2 st2 w2 l3 a2 Z2))
    have flt : ∀ {y : Int} {v1 : Option Value}, v1 = some (wp_i y) → cstep law k v st w ls as_ = .inl y → wl_R nn (d + 7) 194 38 [some (.ref 138), some (wp_i ei), l2] (v1.toList ++ []) h (pQ h0 fs0 bl L x0 oc cn law p st w ls as_ ei) := by
      intro y v1 e1 c
      subst e1
      exact pQ_p (cstep_f c) (pF_f tk T hb hw9 (by omega) ham V (pz_f tk c))
    refine wl_s1 (pc' := 21) ji_194_20 rfl rfl rfl ?_
    refine rp_g19 V ji_194_21 jf_194_180 ?_
    rcases RL_st R with hs | hs
    · have h01 := RL_01 R hs
      have hah := RL_ah R hs
      obtain ⟨hu, hop, hwi, hasr⟩ := h01
      subst hwi
      refine wl_if (t := 34) ji_194_24 rfl (x := 0) (by omega) (fun _ => ?_) (fun (c : ¬ ((0 : Int) = 0)) => (by exfalso; omega))
      refine wl_s (pc' := 35) ji_194_34 rfl rfl rfl ?_
      refine wl_vc (d := d + 6) (as := [.ref 138]) (rest := []) ji_194_35 jc_194_220 rfl hcs5 jk_208.symm (Nat.le_of_ble_eq_true rfl) rfl (by rw [jn_208]; rfl) (wr_b1 (d := d) V e (by omega) rfl (by omega) ham D hL (by omega) hw9 hx0 (by omega) hRb.2.2.1 (by omega) T (by omega)) (fun v1 h1 P => ?_)
      have opn9 : ∀ (c : Int) (P : Prop), (c = 40 ∨ c = 110 ∨ (c = 33 ∧ st = 0)) → cstep law k v st w ls as_ = c_op c w ls as_ → ((op = 8 ∧ h1 = h ∧ v1 = some (wp_i 3)) ∨ (¬ op = 8 ∧ v1 = some (wp_i 0) ∧ ∃ (k2 v2 q' r' t' n' : Int) (w' : Nat) (pl' : List Value), tok (bt bl L) r k2 v2 q' r' ∧ tkr k2 v2 t' n' w' ∧ (0 ≤ q' ∧ r' ≤ L) ∧ w' ≤ 2 ^ 60 ∧ pn pl' (mo c :: u) ∧ rP h0 h1 fs0 bl L r' q' t' n' x0 wr law ((u.length : Int) + 1) (op + 1) am 0 ei oc cn w' pl' ts)) → wl_R nn (d + 7) 194 38 [some (.ref 138), some (wp_i ei), l2] (v1.toList ++ []) h1 (pQ h0 fs0 bl L x0 oc cn law p st w ls as_ ei) := by
        intro c P hc cs P2
        rcases P2 with ⟨h8, rfl, ev⟩ | ⟨h8, ev, k2, v2, q', r', t', n', w', pl', tk2, T2, hb2, hw2, e2, V2⟩
        · exact flt ev (cs.trans (if_pos (by omega)))
        · have cs2 : cstep law k v st w ls as_ = .inr (if c = 33 then 0 else 1, c :: w, ls, as_) := cs.trans (if_neg (by omega))
          have hk3 := k3_r cs2
          have h3 := hta.2.2 hk3
          have I2 := cI_step R.1 cs2
          refine loop ev cs2 (by split <;> omega) (k2 := k2) (v2 := v2) (q2 := q') (r2 := r') ⟨t', n', wr, op + 1, am, 0, w', mo c :: u, pl', ts, tk2, T2, by omega, hw2, ?_, e2, by omega, ham, V2⟩
          by_cases h33 : c = 33
          · have hs0 : st = 0 := by omega
            rw [if_pos h33] at I2 ⊢
            subst h33
            exact RL_n R hs0 I2
          · rw [if_neg h33] at I2 ⊢
            exact RL_o R hs (by omega) I2
      rcases P with ⟨a, ev, rfl⟩ | ⟨g1, ⟨a, ev, rfl⟩ | ⟨g2, ⟨a, ev, k2, v2, q', r', t', n', wr', w', ts', hT, hwr', V2⟩ | ⟨g3, ⟨a, P⟩ | ⟨a, P⟩ | ⟨a, b, P⟩ | ⟨a, ev, rfl⟩⟩⟩⟩
      · exact flt ev (cs_1 hs a)
      · exact flt ev (cs_2 hs a)
      · have cs2 := cs_3 (law := law) (w := w) (ls := ls) (as_ := as_) hs g1 g2 a
        have hk3 := k3_r cs2
        have h3 := hta.2.2 hk3
        have R2 := RL_2 R hs (cI_step R.1 cs2)
        exact loop ev cs2 (by decide) (k2 := k2) (v2 := v2) (q2 := q') (r2 := r') ⟨t', n', wr', _, am, 1, w', _, pl, ts', hT.1, hT.2.1, by omega, hT.2.2.2, R2, stl_pn e, by omega, ham, V2⟩
      · exact opn9 40 True (Or.inl rfl) (cs_4 hs a) P
      · exact opn9 110 True (Or.inr (Or.inl rfl)) (cs_5 hs a) P
      · have hs0 := hah.mp b
        exact opn9 33 True (Or.inr (Or.inr ⟨rfl, hs0⟩)) (cs_6 hs0 a) P
      · exact flt ev (cs_7 hs hv24 g3 a.1 a.2.1 (fun z => a.2.2 ⟨z.1, hah.mpr z.2⟩))
    · have c1 := RL_24 R hs
      have hwi := c1.1
      subst hwi
      have hg := cs_g (law := law) (k := k) (v := v) (w := w) (ls := ls) (as_ := as_) hs
      refine wl_if (t := 34) ji_194_24 rfl (x := 1) (by omega) (fun (c : (1 : Int) = 0) => (by exfalso; omega)) (fun _ => ?_)
      refine wl_s (pc' := 28) ji_194_27 rfl rfl rfl ?_
      refine wl_vc (d := d + 6) (as := [.ref 138]) (rest := []) ji_194_28 jc_194_217 rfl hcs5 jk_195.symm (Nat.le_of_ble_eq_true rfl) rfl (by rw [jn_195]; rfl) (wr_b2 (d := d) V e (by omega) rfl (by omega) ham D hL (by omega) hw9 hx0 (by omega) hRb.2.2.1 T (by omega)) (fun v1 h1 P => ?_)
      refine wl_goto (t := 38) ji_194_31 rfl ?_
      rcases P with ⟨hx, ev, k2, v2, q', r', t', n', wr', w', pl', ts', hT, hwr', e', V'⟩ | ⟨hx, ⟨hI, k', v', q', r', tk2, P⟩ | ⟨hI, ⟨hcm, P⟩ | ⟨hcm, ⟨hc1, ev, rfl⟩ | ⟨hc1, ev, u2, hu2, k2, v2, q', r', t', n', w', tk2, T2, hb2, hw2, P⟩⟩⟩⟩
      · obtain ⟨st2, w2, l3, a2, cs, h5, Z2⟩ := pZ_A tk T hb R hs hwr ham hx hT hwr' e' V'
        exact loop ev cs h5 Z2
      · have law2 := hei2.mp hI.1.1
        have hb0 := c1.2.2.1.mp hI.1.2
        have ha0 : as_ = 0 := by
          rcases has with z | z
          · exact z
          · have h9 := (c1.2.2.2.2.1 hb0).mpr z
            rw [hI.2.1] at h9
            cases h9
        have hs2 : st = 2 := by
          rcases hs with z | z
          · exact z
          · have h9 := R.2.2.2.2.2.2.2.1.mpr (Or.inr z)
            omega
        have hsh : sh k v = 91 := by
          rw [hI.2.2.1, hI.2.2.2]
          rfl
        have cs2 : cstep law k v st w ls as_ = .inr (3, jwt 5 w, ls, 1) := hg.trans (cg_4 hsh ⟨law2, hb0⟩ ha0)
        have hk3 := k3_r cs2
        have h3 := hta.2.2 hk3
        have I2 := cI_step R.1 cs2
        have h7 := c1.2.1 5 (by decide) (Or.inr hs2) (by decide)
        have htk2 := tok_adv tk2
        have hrL := tok_L (by omega) tk2
        rcases P with ⟨ng, ev, t', n', wr', w', pl', ts', T2, hw2, hwr', V2⟩ | ⟨g40, ⟨h8, ev, t', n', wr', w', pl', ts', T2, hw2, hwr', V2⟩ | ⟨h8, ev, k2, v2, q2, r2, t2, n2, wr', w2, pl', ts', hT, hwr', e2, V2⟩⟩
        · subst ev
          refine pQ_p (by omega) (pF_s tk cs2 (by decide) ?_)
          have cs3 : cstep law k' v' 3 (jwt 5 w) ls 1 = .inl 1 := by
            unfold cstep
            rw [if_neg (by decide), if_pos rfl]
            exact if_neg ng
          exact pF_f tk2 T2 ⟨by omega, by omega, hrL⟩ hw2 (by omega) ham V2 (pz_f tk2 cs3)
        · subst ev
          refine pQ_p (by omega) (pF_s tk cs2 (by decide) ?_)
          have cs3 : cstep law k' v' 3 (jwt 5 w) ls 1 = .inl 3 := by
            unfold cstep
            rw [if_neg (by decide), if_pos rfl]
            exact (if_pos g40).trans (if_pos (by omega))
          exact pF_f tk2 T2 ⟨by omega, by omega, hrL⟩ hw2 (by omega) ⟨by decide, by decide⟩ V2 (pz_f tk2 cs3)
        · subst ev
          have cs3 : cstep law k' v' 3 (jwt 5 w) ls 1 = .inr (1, 91 :: jwt 5 w, 1, 1) := by
            unfold cstep
            rw [if_neg (by decide), if_pos rfl]
            exact (if_pos g40).trans (if_neg (by omega))
          have I3 := cI_step I2 cs3
          exact pQ_z (pQ_m tk cs2 (by decide) (pQ_m tk2 cs3 (by decide) (ih h1 _ r' k2 v2 q2 r2 1 _ 1 1 ⟨t2, n2, wr', _, 1, 0, w2, _, pl', ts', hT.1, hT.2.1, by omega, hT.2.2.2, RL_l R hs2 hb0 I3, e2, by omega, ⟨by decide, by decide⟩, V2⟩)))
      · have h91 := c1.2.2.2.1.mp hcm.1
        have hbn := brn_0 w
        have hbq : ¬ brn w = 0 := fun z => by
          have h7 := c1.2.2.1.mpr z
          rw [h7] at hcm
          exact absurd hcm.1 (by decide)
        have hbp : 0 < brn w := by omega
        have hs2 : st = 2 := hs.resolve_right (fun z => by have := RL_4 R z; omega)
        obtain ⟨w1, hj⟩ : ∃ w1, jwt 5 w = 91 :: w1 := by
          cases hq : jwt 5 w with
          | nil => rw [hq] at h91; cases h91
          | cons x y => rw [hq] at h91; cases h91; exact ⟨y, rfl⟩
        have hb1 : brn w = 1 := by
          have h5 := brn_jw (r := 5) (by decide) w
          have h6 := o91_jw (r := 5) R.2.1
          rw [hj] at h5 h6
          have h5 : brn w1 + 1 = brn w := h5
          have := h6.2 rfl
          omega
        have ha1 : as_ = 1 := by
          refine R.2.2.2.2.2.2.2.1.mpr (Or.inl ?_)
          rw [← asr_jw (r := 5) (by decide), hj]
          rfl
        have hsh : sh k v = 44 := by
          rcases tk_gs tk T with ⟨ek, h⟩ | ⟨ek, et, h⟩ | ⟨-, -, -, h⟩
          · have : sh k v = v := by unfold sh; rw [if_pos ek]
            omega
          · omega
          · omega
        have hme : am = ls := R.2.2.2.2.2.2.1 (jwt_mem (r := 5) (by rw [hj]; exact List.mem_cons_self))
        have cs := hg.trans (cg_5 (law := law) (ls := ls) (st := st) hsh hb1 ha1 h91)
        rcases P with ⟨h6, rfl, ev⟩ | ⟨h6, ev, k2, v2, q', r', t', n', wr', w', pl', ts', hT, hwr', e2, V2⟩
        · exact flt ev (cs.trans (if_pos (by omega)))
        · have cs2 := cs.trans (if_neg (by omega))
          have hk3 := k3_r cs2
          have h3 := hta.2.2 hk3
          have R2 := RL_c R hs2 hbp h91 (cI_step R.1 cs2)
          exact loop ev cs2 (by decide) (k2 := k2) (v2 := v2) (q2 := q') (r2 := r') ⟨t', n', wr', _, am + 1, 0, w', _, pl', ts', hT.1, hT.2.1, by omega, hT.2.2.2, R2.2, e2, by omega, by have := R.1.2.2.2.2.1; omega, V2⟩
      · subst ev
        exact pQ_n hx0 hL tk T hb hw9 R hs e hwr ham V hx hI hcm hc1
      · have hbn := brn_0 w
        have hbq : ¬ brn w = 0 := fun z => by
          have h7 := c1.2.2.1.mpr z
          exact hc1.1 h7
        have hbp : 0 < brn w := by omega
        have hs2 : st = 2 := hs.resolve_right (fun z => by have := RL_4 R z; omega)
        have hsh : sh k v = 41 := by
          rcases tk_gs tk T with ⟨ek, h⟩ | ⟨ek, et, h⟩ | ⟨-, -, -, h⟩
          · have : sh k v = v := by unfold sh; rw [if_pos ek]
            omega
          · omega
          · omega
        obtain ⟨c, w1, hj, hc⟩ := shp_cok R.1.1 hbp
        have cs := hg.trans (cg_6 (law := law) (ls := ls) (as_ := as_) (st := st) hsh hbp hj)
        have hk3 := k3_r cs
        have h3 := hta.2.2 hk3
        obtain ⟨x1, x2, x3⟩ := RL_x R hs2 hbp hj hu2 (cI_step R.1 cs)
        rcases P with ⟨h41, wr', pl', ts', hwr', e2, V2⟩ | ⟨h41, wr', pl', ts', hwr', e2, V2⟩
        · have c91 := x1.mp h41
          rw [if_pos c91] at cs
          exact loop ev cs (by decide) (k2 := k2) (v2 := v2) (q2 := q') (r2 := r') ⟨t', n', wr', _, am, 1, w', _, pl', ts', tk2, T2, by omega, hw2, x2 c91, e2, by omega, ham, V2⟩
        · have c91 : ¬ c = 91 := fun z => h41 (x1.mpr z)
          rw [if_neg c91] at cs
          exact loop ev cs (by decide) (k2 := k2) (v2 := v2) (q2 := q') (r2 := r') ⟨t', n', wr', _, am, 1, w', _, pl', ts', tk2, T2, by omega, hw2, x3 c91, e2, by omega, ham, V2⟩
end PLL
