/-! -/
/-! the reference's parsed, from a token on -/
section PLS
variable {d : Nat} {h0 : mj_H} {fs0 bl : List Value} {L x0 oc cn law ei : Int}
def pQ (h0 : mj_H) (fs0 bl : List Value) (L x0 oc cn law p st : Int) (w : List Int) (ls as_ ei : Int) : Option Value → mj_H → Prop := fun v9 h1 => ∃ f, v9 = some (wp_i f) ∧ (0 ≤ f ∧ f ≤ 7) ∧ pF h0 h1 fs0 bl L x0 oc cn law p st w ls as_ ei f
theorem pQ_p {nn : Nat} {l2 : Option Value} {h1 : mj_H} {p st : Int} {w : List Int} {ls as_ y : Int} (hy : 1 ≤ y ∧ y ≤ 7) (F : pF h0 h1 fs0 bl L x0 oc cn law p st w ls as_ ei y) : wl_R nn (d + 7) 194 38 [some (.ref 138), some (wp_i ei), l2] [wp_i y] h1 (pQ h0 fs0 bl L x0 oc cn law p st w ls as_ ei) := by
  refine wl_s (pc' := 39) (lv' := [some (.ref 138), some (wp_i ei), some (wp_i y)]) ji_194_38 rfl rfl rfl ?_
  refine wl_s (pc' := 40) ji_194_39 rfl rfl rfl ?_
  refine wl_if (t := 45) ji_194_40 rfl (x := y) (by omega) (fun (c : y ≤ 0) => (by exfalso; omega)) (fun _ => ?_)
  refine wl_s (pc' := 44) ji_194_43 rfl rfl rfl ?_
  exact wl_ri ji_194_44 jr_194 rfl ⟨y, rfl, by omega, F⟩
theorem pQ_z {nn : Nat} {l2 : Option Value} {h1 : mj_H} {Q : Option Value → mj_H → Prop} (hl : wl_R nn (d + 7) 194 20 [some (.ref 138), some (wp_i ei), some (wp_i 0)] [] h1 Q) : wl_R nn (d + 7) 194 38 [some (.ref 138), some (wp_i ei), l2] [wp_i 0] h1 Q := by
  refine wl_s (pc' := 39) (lv' := [some (.ref 138), some (wp_i ei), some (wp_i 0)]) ji_194_38 rfl rfl rfl ?_
  refine wl_s (pc' := 40) ji_194_39 rfl rfl rfl ?_
  refine wl_if (t := 45) ji_194_40 rfl (x := 0) (by omega) (fun _ => ?_) (fun (c : ¬ ((0 : Int) ≤ 0)) => (by exfalso; omega))
  refine wl_s (pc' := 46) ji_194_45 rfl rfl rfl ?_
  refine wl_if (t := 52) ji_194_46 rfl (x := 0) (by omega) (fun (c : ¬ ((0 : Int) = 0)) => (by exfalso; omega)) (fun _ => ?_)
  exact wl_goto (t := 20) ji_194_49 rfl hl
theorem k_56 {g : Int} (a : ck g = 5 ∨ ck g = 6) : ¬ ck g = 0 := by omega
theorem k_45 {g : Int} (a : ck g = 4) : ¬ (ck g = 5 ∨ ck g = 6) := by omega
theorem k_4 {g : Int} (a : ck g = 4) : ¬ ck g = 0 := by omega
theorem k_125 {g : Int} (a : ck g = 1 ∨ ck g = 2) : ¬ (ck g = 5 ∨ ck g = 6) := by omega
theorem k_12 {g : Int} (a : ck g = 1 ∨ ck g = 2) : ¬ ck g = 0 := by omega
/-- nothing more belongs to the law -/
theorem pQ_n {nn : Nat} {l2 : Option Value} {h : mj_H} {p k v q r st : Int} {w : List Int} {ls as_ : Int} {t n wr op am : Int} {w9 : Nat} {u : List Int} {pl ts : List Value} (hx0 : 0 ≤ x0 ∧ x0 ≤ 3000) (hL : 0 ≤ L ∧ L ≤ 300) (tk : tok (bt bl L) p k v q r) (T : tkr k v t n w9) (hb : 0 ≤ p ∧ 0 ≤ q ∧ r ≤ L) (hw9 : w9 ≤ 2 ^ 60) (R : RL law st w ls as_ u op am 1 ei) (hs : st = 2 ∨ st = 4) (e : pn pl u) (hwr : 0 ≤ wr ∧ wr ≤ 1000 * (p + 1)) (ham : 0 ≤ am ∧ am ≤ 100) (V : rP h0 h fs0 bl L r q t n x0 wr law (u.length : Int) op am 1 ei oc cn w9 pl ts) (hx : bto k v t ei u < 0) (hI : ¬ ((ei = 1 ∧ opw u = -1) ∧ cmd u = false ∧ (k = 0 ∧ v = 16))) (hc4 : ¬ (opw u = 41 ∧ t = 44)) (hc1 : opw u = -1 ∨ ¬ t = 41) : wl_R nn (d + 7) 194 38 [some (.ref 138), some (wp_i ei), l2] [wp_i (-1)] h (pQ h0 fs0 bl L x0 oc cn law p st w ls as_ ei) := by
  have c1 := RL_24 R hs
  have hRb := RL_b R
  have hta := tok_adv tk
  have hei2 := ei_2 R
  have has := as_01 R
  have cs : cstep law k v st w ls as_ = c6 law (sh k v) w ls as_ := by
    rw [cs_g hs]
    have hbt := btg_e (ei := ei) (u := u) tk T
    have hv2 := tok_2 tk
    have hgs := tk_gs tk T
    have hg16 : sh k v = 91 ↔ (k = 0 ∧ v = 16) := by
      unfold sh
      constructor
      · intro z
        repeat' split at z
        all_goals omega
      · rintro ⟨rfl, rfl⟩
        rfl
    have hg41 : sh k v = 41 → t = 41 := by
      intro z
      rcases hgs with ⟨ek, h⟩ | ⟨ek, et, h⟩ | ⟨h, -⟩
      · have : sh k v = v := by unfold sh; rw [if_pos ek]
        omega
      · subst ek
        rcases h with e | e | e <;> (subst e; exact absurd z (by decide))
      · omega
    have hg44 : sh k v = 44 → t = 44 := by
      intro z
      rcases hgs with ⟨ek, h⟩ | ⟨ek, et, h⟩ | ⟨h, -⟩
      · have : sh k v = v := by unfold sh; rw [if_pos ek]
        omega
      · subst ek
        rcases h with e | e | e <;> (subst e; exact absurd z (by decide))
      · omega
    clear hgs hv2
    obtain ⟨g, hgd⟩ : ∃ g, sh k v = g := ⟨_, rfl⟩
    rw [hgd] at hbt hg16 hg41 hg44 ⊢
    have hmo : ∀ z : ¬ ck g = 0, 0 ≤ mo g := fun z => (mo_f (c := g) (fun y => absurd y z)).2.1.1
    rw [hbt] at hx
    unfold btg at hx
    have n0 : as_ = 0 → ¬ as_ = 1 := fun e => by rw [e]; decide
    have n1 : ¬ as_ = 0 → as_ = 1 := fun e => has.resolve_left e
    have hcm0 : brn w = 0 → as_ = 0 → cmd u = false := fun b e => by
      cases hc : cmd u with
      | false => rfl
      | true => exact absurd ((c1.2.2.2.2.1 b).mp hc) (n0 e)
    refine cg_7 ?_ ?_ ?_ ?_ ?_ ?_
    · rintro ⟨a, b⟩
      rw [if_pos ⟨c1.2.2.2.2.2.mpr (hs.resolve_right b), a⟩] at hx
      exact absurd (hmo (k_56 a)) (Int.not_le.mpr hx)
    · rintro ⟨a, ⟨b1, b2⟩, b3⟩
      rw [if_neg (fun z => k_45 a z.2), if_neg (fun z => z ⟨hei2.mpr b1, c1.2.2.1.mpr b2⟩), if_pos (hcm0 b2 b3), if_pos a] at hx
      exact absurd (hmo (k_4 a)) (Int.not_le.mpr hx)
    · rintro ⟨a, ⟨b1, b2⟩, b3⟩
      exact hI ⟨⟨hei2.mpr b1, c1.2.2.1.mpr b2⟩, hcm0 b2 b3, hg16.mp a⟩
    · rintro ⟨a, ⟨b1, b2⟩, b3⟩
      have hcm := (c1.2.2.2.2.1 b2).mpr (n1 b3)
      rw [if_neg (fun z => k_125 a z.2), if_neg (fun z => z ⟨hei2.mpr b1, c1.2.2.1.mpr b2⟩), hcm, if_neg (by decide), if_pos a] at hx
      exact absurd (hmo (k_12 a)) (Int.not_le.mpr hx)
    · rintro ⟨a, b⟩
      rcases hc1 with z | z
      · exact absurd (c1.2.2.1.mp z) (fun e => by rw [e] at b; exact absurd b (by decide))
      · exact z (hg41 a)
    · rintro ⟨a, b1, b2, b3⟩
      exact hc4 ⟨c1.2.2.2.1.mpr b3, hg44 a⟩
  refine wl_s (pc' := 39) (lv' := [some (.ref 138), some (wp_i ei), some (wp_i (-1))]) ji_194_38 rfl rfl rfl ?_
  refine wl_s (pc' := 40) ji_194_39 rfl rfl rfl ?_
  refine wl_if (t := 45) ji_194_40 rfl (x := -1) (by omega) (fun _ => ?_) (fun (c : ¬ ((-1 : Int) ≤ 0)) => (by exfalso; omega))
  refine wl_s (pc' := 46) ji_194_45 rfl rfl rfl ?_
  refine wl_if (t := 52) ji_194_46 rfl (x := -1) (by omega) (fun _ => ?_) (fun (c : ¬ ¬ ((-1 : Int) = 0)) => (by exfalso; omega))
  refine wl_s (pc' := 53) ji_194_52 rfl rfl rfl ?_
  obtain ⟨cs5, hcs5⟩ := rp_c V
  refine wl_vc (d := d + 6) (as := [.ref 138]) (rest := []) ji_194_53 jc_194_163 rfl hcs5 jk_198.symm (Nat.le_of_ble_eq_true rfl) rfl (by rw [jn_198]; rfl) (wr_on (d := d + 6) V e (by omega) rfl) (fun v1 h1 R1 => ?_)
  obtain ⟨ee1, rfl⟩ := R1
  rw [ee1]
  clear ee1
  have hor := opw_r e
  have cI1 := c1.2.2.1
  have cI2 := c1.2.2.2.2.1
  clear c1 hI hc4 hc1 hx
  have bad : (0 ≤ opw u ∨ (ei = 1 ∧ cmd u = false)) → pF h0 h fs0 bl L x0 oc cn law p st w ls as_ ei 1 := by
    intro z
    refine pF_f tk T hb hw9 (by omega) ham V (pz_f tk (cs.trans (if_neg ?_)))
    rintro ⟨-, y1, y2⟩
    rcases z with z | z
    · have := cI1.mpr y1
      omega
    · have h3 := hei2.mp z.1
      have h4 := cI2 y1
      have h5 : as_ = 1 := by omega
      rw [h4.mpr h5] at z
      exact absurd z.2 (by decide)
  have bd : (0 ≤ opw u ∨ (ei = 1 ∧ cmd u = false)) → wl_R nn (d + 7) 194 70 [some (.ref 138), some (wp_i ei), some (wp_i (-1))] [] h (pQ h0 fs0 bl L x0 oc cn law p st w ls as_ ei) := by
    intro z
    refine wl_s (pc' := 71) ji_194_70 rfl rfl rfl ?_
    exact wl_ri ji_194_71 jr_194 rfl ⟨1, rfl, by omega, bad z⟩
  have gd : opw u = -1 → ¬ (ei = 1 ∧ cmd u = false) → wl_R nn (d + 7) 194 72 [some (.ref 138), some (wp_i ei), some (wp_i (-1))] [] h (pQ h0 fs0 bl L x0 oc cn law p st w ls as_ ei) := by
    intro y1 y2
    refine wl_s (pc' := 73) ji_194_72 rfl rfl rfl ?_
    refine wl_s (pc' := 74) ji_194_73 rfl rfl rfl ?_
    refine wl_vc (d := d + 6) (as := [.ref 138, wp_i 1]) (rest := []) ji_194_74 jc_194_183 rfl hcs5 jk_202.symm (Nat.le_of_ble_eq_true rfl) rfl (by rw [jn_202]; rfl) (wr_st (d := d + 5) (r := 1) hx0 (by omega) nn u _ wr _ _ e V (by omega)) (fun v1 h1 R1 => ?_)
    obtain ⟨rfl, wr', ts', hwr', V'⟩ := R1
    refine wl_s (pc' := 78) ji_194_77 rfl rfl rfl ?_
    have hb0 := cI1.mp y1
    have hc6 : ¬ law = 2 ∨ ¬ as_ = 0 := by
      by_cases l2 : law = 2
      · have h3 := hei2.mpr l2
        have h4 := cI2 hb0
        cases hc : cmd u with
        | false => exact absurd ⟨h3, hc⟩ y2
        | true => have := h4.mp hc; exact Or.inr (by omega)
      · exact Or.inl l2
    refine wl_ri ji_194_78 jr_194 rfl ⟨0, rfl, by omega, pF_f tk T hb hw9 (by omega) ham V' (pz_e (w2 := jwt 1 w) (l2 := ls) (a2 := as_) tk (fun y => ?_) (fun y => ?_))⟩
    · rw [cs]
      exact if_neg (fun z => y (sh_59.mp z.1))
    · rw [cs]
      exact if_pos ⟨sh_59.mpr y, hb0, hc6⟩
  refine wl_if (t := 70) ji_194_56 rfl (x := opw u) (by omega) (fun (c : 0 ≤ opw u) => bd (Or.inl c)) (fun (c : ¬ (0 ≤ opw u)) => ?_)
  refine wl_s (pc' := 60) ji_194_59 rfl rfl rfl ?_
  refine wl_if (t := 72) ji_194_60 rfl (x := ei) (by omega) (fun (c2 : ei = 0) => gd (by omega) (by omega)) (fun (c2 : ¬ ei = 0) => ?_)
  refine wl_s (pc' := 64) ji_194_63 rfl rfl rfl ?_
  refine wl_vc (d := d + 6) (as := [.ref 138]) (rest := []) ji_194_64 jc_194_196 rfl hcs5 jk_199.symm (Nat.le_of_ble_eq_true rfl) rfl (by rw [jn_199]; rfl) (wr_cm (d := d + 5) V e (by omega) rfl) (fun v1 h1 R1 => ?_)
  obtain ⟨ee1, rfl⟩ := R1
  rw [ee1]
  clear ee1
  have hbi := bi_01 (cmd u)
  refine wl_if (t := 72) ji_194_67 rfl (x := bi (cmd u)) (by omega) (fun (c3 : ¬ bi (cmd u) = 0) => gd (by omega) (fun z => by rw [z.2] at c3; exact c3 rfl)) (fun (c3 : ¬ ¬ bi (cmd u) = 0) => ?_)
  refine bd (Or.inr ⟨by omega, ?_⟩)
  cases hc : cmd u with
  | false => rfl
  | true => rw [hc] at c3; exact absurd (fun z => by cases z) c3
end PLS
