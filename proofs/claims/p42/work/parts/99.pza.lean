/-! -/
/-! a law's tokens, by class and reference together -/
theorem tk_tr {B : Int → Int} {p k v q r t n : Int} {w : Nat} (tk : tok B p k v q r) (T : tkr k v t n w) : 0 ≤ t ∧ t ≤ 125 := by
  rcases tk_gs tk T with ⟨-, h⟩ | ⟨-, h, -⟩ | ⟨-, -, -, h⟩
  · rcases h with e | e | e | e | e | e | e | e | e | e | e | e | e | e <;> omega
  · omega
  · omega
theorem tok_L {bl : List Value} {L p k v q r : Int} (hp : p ≤ L) (h : tok (bt bl L) p k v q r) : r ≤ L := by
  obtain ⟨⟨a1, a2, a3⟩, h⟩ := h
  have hq : q ≤ L := by
    by_cases c : q ≤ L
    · exact c
    · have h1 := a2 L hp (by omega)
      rw [bt_e (Int.le_refl L)] at h1
      unfold tk_b at h1
      omega
  have run : ∀ {C : Int → Prop}, wh C (bt bl L) q r → ¬ C (-1) → r ≤ L := by
    intro C ⟨b1, b2, b3⟩ hC
    by_cases c : r ≤ L
    · exact c
    · have h1 := b2 L hq (by omega)
      rw [bt_e (Int.le_refl L)] at h1
      exact absurd h1 hC
  rcases h with ⟨-, -, -, e⟩ | ⟨-, -, e, -⟩ | ⟨-, -, e, -⟩ | ⟨c1, -, -, -, -, e⟩
  · omega
  · exact run e (by unfold tk_l; omega)
  · exact run e (by unfold tk_d; omega)
  · have hq2 : q < L := by
      by_cases c : q < L
      · exact c
      · exact absurd (bt_e (bl := bl) (by omega)) c1
    by_cases c2 : q + 1 < L
    · have h2 : (tk_s (bt bl L q) (bt bl L (q + 1))).2.2 ≤ 2 := by
        unfold tk_s
        repeat' split
        all_goals (dsimp only; omega)
      omega
    · have h2 : (tk_s (bt bl L q) (bt bl L (q + 1))).2.2 = 1 := by
        rw [bt_e (L := L) (k := q + 1) (by omega)]
        unfold tk_s
        repeat' split
        all_goals first
          | rfl
          | omega
      omega
/-- what both say of a law from p on: its fault at that token; 0: no fault, if that token is the ; -/
def pz (B : Int → Int) (law p st : Int) (w : List Int) (ls as_ f k1 v1 q1 r1 : Int) : Prop := (1 ≤ f ∧ f ≤ 7 ∧ ∃ m, lr B law m p st w ls as_ f q1 r1) ∨ (f = 0 ∧ (¬ (k1 = 2 ∧ v1 = 59) → ∃ m, lr B law m p st w ls as_ 1 q1 r1) ∧ ((k1 = 2 ∧ v1 = 59) → ∃ m, lr B law m p st w ls as_ 0 q1 r1))
section PZS
variable {B : Int → Int} {law p k v q r st : Int} {w : List Int} {ls as_ f k1 v1 q1 r1 : Int}
theorem pz_s {st2 : Int} {w2 : List Int} {l2 a2 : Int} (tk : tok B p k v q r) (c : cstep law k v st w ls as_ = .inr (st2, w2, l2, a2)) (h5 : ¬ st2 = 5) (h : pz B law r st2 w2 l2 a2 f k1 v1 q1 r1) : pz B law p st w ls as_ f k1 v1 q1 r1 := by
  have up : ∀ {m : Nat} {f : Int}, lr B law m r st2 w2 l2 a2 f q1 r1 → lr B law (m + 1) p st w ls as_ f q1 r1 := fun x => ⟨k, v, q, r, tk, by rw [c]; exact Or.inr ⟨h5, x⟩⟩
  rcases h with ⟨a, a7, m, b⟩ | ⟨a, b, d⟩
  · exact Or.inl ⟨a, a7, m + 1, up b⟩
  · refine Or.inr ⟨a, fun x => ?_, fun x => ?_⟩
    · obtain ⟨m, y⟩ := b x
      exact ⟨m + 1, up y⟩
    · obtain ⟨m, y⟩ := d x
      exact ⟨m + 1, up y⟩
theorem pz_f {n : Int} (tk : tok B p k v q r) (c : cstep law k v st w ls as_ = .inl n) : pz B law p st w ls as_ n k v q r := by
  have h7 := cstep_f c
  exact Or.inl ⟨h7.1, h7.2, 1, k, v, q, r, tk, by rw [c]; exact ⟨rfl, rfl, rfl⟩⟩
theorem pz_e {w2 : List Int} {l2 a2 : Int} (tk : tok B p k v q r) (c1 : ¬ (k = 2 ∧ v = 59) → cstep law k v st w ls as_ = .inl 1) (c2 : (k = 2 ∧ v = 59) → cstep law k v st w ls as_ = .inr (5, w2, l2, a2)) : pz B law p st w ls as_ 0 k v q r := by
  refine Or.inr ⟨rfl, fun x => ⟨1, k, v, q, r, tk, ?_⟩, fun x => ⟨1, k, v, q, r, tk, ?_⟩⟩
  · rw [c1 x]
    exact ⟨rfl, rfl, rfl⟩
  · rw [c2 x]
    exact Or.inl ⟨rfl, rfl, rfl, rfl⟩
end PZS
/-- the reference in a law, at a token from p on -/
def pZz (h0 h : mj_H) (fs0 bl : List Value) (L x0 oc cn law p k v q r st : Int) (w : List Int) (ls as_ ei : Int) : Prop := ∃ (t n wr op am wi : Int) (w9 : Nat) (u : List Int) (pl ts : List Value), tok (bt bl L) p k v q r ∧ tkr k v t n w9 ∧ (0 ≤ p ∧ 0 ≤ q ∧ r ≤ L) ∧ w9 ≤ 2 ^ 60 ∧ RL law st w ls as_ u op am wi ei ∧ pn pl u ∧ (0 ≤ wr ∧ wr ≤ 1000 * (p + 1)) ∧ (0 ≤ am ∧ am ≤ 100) ∧ rP h0 h fs0 bl L r q t n x0 wr law (u.length : Int) op am wi ei oc cn w9 pl ts
/-- the reference where it stops in a law: what it answers (f), at which token -/
def pF (h0 h : mj_H) (fs0 bl : List Value) (L x0 oc cn law p st : Int) (w : List Int) (ls as_ ei f : Int) : Prop := ∃ (p1 k1 v1 q1 r1 t1 n1 wr pd op am wi : Int) (w9 : Nat) (pl ts : List Value), pz (bt bl L) law p st w ls as_ f k1 v1 q1 r1 ∧ tok (bt bl L) p1 k1 v1 q1 r1 ∧ tkr k1 v1 t1 n1 w9 ∧ (p ≤ p1 ∧ 0 ≤ q1 ∧ r1 ≤ L) ∧ w9 ≤ 2 ^ 60 ∧ (0 ≤ wr ∧ wr ≤ 1000 * (p1 + 2)) ∧ (0 ≤ am ∧ am ≤ 100) ∧ rP h0 h fs0 bl L r1 q1 t1 n1 x0 wr law pd op am wi ei oc cn w9 pl ts
theorem pF_s {h0 h : mj_H} {fs0 bl : List Value} {L x0 oc cn law p k v q r st : Int} {w : List Int} {ls as_ ei f : Int} {st2 : Int} {w2 : List Int} {l2 a2 : Int} (tk : tok (bt bl L) p k v q r) (c : cstep law k v st w ls as_ = .inr (st2, w2, l2, a2)) (h5 : ¬ st2 = 5) (hF : pF h0 h fs0 bl L x0 oc cn law r st2 w2 l2 a2 ei f) : pF h0 h fs0 bl L x0 oc cn law p st w ls as_ ei f := by
  have ha := tok_adv tk
  obtain ⟨p1, k1, v1, q1, r1, t1, n1, wr, pd, op, am, wi, w9, pl, ts, z, a1, a2, a3, a4⟩ := hF
  exact ⟨p1, k1, v1, q1, r1, t1, n1, wr, pd, op, am, wi, w9, pl, ts, pz_s tk c h5 z, a1, a2, by omega, a4⟩
theorem RL_st {law st : Int} {w : List Int} {ls as_ : Int} {u : List Int} {op am wi ei : Int} (R : RL law st w ls as_ u op am wi ei) : (st = 0 ∨ st = 1) ∨ (st = 2 ∨ st = 4) := by
  obtain ⟨-, -, -, -, -, -, -, -, h⟩ := R
  omega
theorem as_01 {law st : Int} {w : List Int} {ls as_ : Int} {u : List Int} {op am wi ei : Int} (R : RL law st w ls as_ u op am wi ei) : as_ = 0 ∨ as_ = 1 := R.1.2.2.1
theorem ei_2 {law st : Int} {w : List Int} {ls as_ : Int} {u : List Int} {op am wi ei : Int} (R : RL law st w ls as_ u op am wi ei) : ei = 1 ↔ law = 2 := by
  have h := R.2.2.2.2.2.1
  rw [h]
  split <;> omega
theorem sh_59 {k v : Int} : sh k v = 59 ↔ (k = 2 ∧ v = 59) := by
  unfold sh
  repeat' split
  all_goals omega
theorem k3_r {law k v st : Int} {w : List Int} {ls as_ : Int} {x : Int × List Int × Int × Int} (h : cstep law k v st w ls as_ = .inr x) : ¬ k = 3 := fun e => by
  rw [e, cstep_3] at h
  cases h
theorem asr_4 {g : Int} {w : List Int} (h : ck g = 4) : asr (g :: w) = true := by
  have h1 : ¬ g = 91 := fun e => by rw [e] at h; exact absurd h (by decide)
  have h2 : ¬ g = 40 := fun e => by rw [e] at h; exact absurd h (by decide)
  show (if g = 91 then true else if g = 40 then asr w else if 4 < ck g then asr w else decide (ck g = 4)) = true
  rw [if_neg h1, if_neg h2, if_neg (by omega)]
  exact decide_eq_true h
theorem asr_12 {g : Int} {w : List Int} (h : ck g = 1 ∨ ck g = 2) : asr (g :: w) = false := by
  have h1 : ¬ g = 91 := fun e => by rw [e] at h; exact absurd h (by decide)
  have h2 : ¬ g = 40 := fun e => by rw [e] at h; exact absurd h (by decide)
  show (if g = 91 then true else if g = 40 then asr w else if 4 < ck g then asr w else decide (ck g = 4)) = false
  rw [if_neg h1, if_neg h2, if_neg (by omega)]
  exact decide_eq_false (by omega)
theorem asr_56 {g : Int} {w : List Int} (h : ck g = 5 ∨ ck g = 6) : asr (g :: w) = asr w := by
  have h1 : ¬ g = 91 := fun e => by rw [e] at h; exact absurd h (by decide)
  have h2 : ¬ g = 40 := fun e => by rw [e] at h; exact absurd h (by decide)
  show (if g = 91 then true else if g = 40 then asr w else if 4 < ck g then asr w else decide (ck g = 4)) = asr w
  rw [if_neg h1, if_neg h2, if_pos (by omega)]
section PFS
variable {h0 h h1 : mj_H} {fs0 bl pl pl' ts ts' : List Value} {L x0 oc cn law p k v q r st : Int} {w : List Int} {ls as_ ei : Int} {t n wr op am wi : Int} {w9 w' : Nat} {u : List Int} {k2 v2 q' r' t' n' wr' : Int}
theorem pF_f {f : Int} {pd : Int} (tk : tok (bt bl L) p k v q r) (T : tkr k v t n w9) (hb : 0 ≤ p ∧ 0 ≤ q ∧ r ≤ L) (hw9 : w9 ≤ 2 ^ 60) (hwr : 0 ≤ wr ∧ wr ≤ 1000 * (p + 2)) (ham : 0 ≤ am ∧ am ≤ 100) (V : rP h0 h fs0 bl L r q t n x0 wr law pd op am wi ei oc cn w9 pl ts) (c : pz (bt bl L) law p st w ls as_ f k v q r) : pF h0 h fs0 bl L x0 oc cn law p st w ls as_ ei f := ⟨p, k, v, q, r, t, n, wr, pd, op, am, wi, w9, pl, ts, c, tk, T, by omega, hw9, hwr, ham, V⟩
/-- a sign between two -/
theorem pZ_A (tk : tok (bt bl L) p k v q r) (T : tkr k v t n w9) (hb : 0 ≤ p ∧ 0 ≤ q ∧ r ≤ L) (R : RL law st w ls as_ u op am wi ei) (hs : st = 2 ∨ st = 4) (hwr : 0 ≤ wr ∧ wr ≤ 1000 * (p + 1)) (ham : 0 ≤ am ∧ am ≤ 100) (hx : 0 ≤ bto k v t ei u) (hT : tok (bt bl L) r k2 v2 q' r' ∧ tkr k2 v2 t' n' w' ∧ (0 ≤ q' ∧ r' ≤ L) ∧ w' ≤ 2 ^ 60) (hwr' : wr ≤ wr' ∧ wr' ≤ wr + (u.length : Int)) (e : pn pl' ((bto k v t ei u) :: stl (pr_rank (bto k v t ei u)) u)) (V : rP h0 h1 fs0 bl L r' q' t' n' x0 wr' law (((stl (pr_rank (bto k v t ei u)) u).length : Int) + 1) (op - stn (pr_rank (bto k v t ei u)) u) am 0 ei oc cn w' pl' ts') : ∃ st2 w2 l2 a2, cstep law k v st w ls as_ = .inr (st2, w2, l2, a2) ∧ ¬ st2 = 5 ∧ pZz h0 h1 fs0 bl L x0 oc cn law r k2 v2 q' r' st2 w2 l2 a2 ei := by
  have c1 := RL_24 R hs
  have hRb := RL_b R
  have hta := tok_adv tk
  have hg := cs_g (law := law) (k := k) (v := v) (w := w) (ls := ls) (as_ := as_) hs
  have hbt := btg_e (ei := ei) (u := u) tk T
  obtain ⟨g, hgd⟩ : ∃ g, sh k v = g := ⟨_, rfl⟩
  rw [hgd] at hg hbt
  obtain ⟨x, hxd⟩ : ∃ x, bto k v t ei u = x := ⟨_, rfl⟩
  rw [hxd] at hbt hx e V
  unfold btg at hbt
  have fin : ∀ {r0 st2 as2 : Int} {w2 : List Int}, x = mo g → ck g = r0 → cstep law k v st w ls as_ = .inr (st2, g :: w2, ls, as2) → ¬ st2 = 5 → w2 = jwt r0 w → (r0 ≤ 4 ∨ st = 2) → (1 ≤ r0 ∧ r0 ≤ 6 ∧ ¬ r0 = 3) → ((st2 = 0 ∧ ck g ≤ 2) ∨ (st2 = 1 ∧ 4 ≤ ck g)) → (as2 = 1 ↔ asr (g :: w2) = true) → ∃ st2 w2 l2 a2, cstep law k v st w ls as_ = .inr (st2, w2, l2, a2) ∧ ¬ st2 = 5 ∧ pZz h0 h1 fs0 bl L x0 oc cn law r k2 v2 q' r' st2 w2 l2 a2 ei := by
    intro r0 st2 as2 w2 hxm hck cs h5 hw2 h4 h6 h2 ha
    have hk3 := k3_r cs
    have hr : pr_rank x = r0 := by rw [hxm, (mo_f (c := g) (fun z => by omega)).1]; exact hck
    rw [hr, hxm] at e
    rw [hr] at V
    have h3 := hta.2.2 hk3
    exact ⟨st2, g :: w2, ls, as2, cs, h5, t', n', wr', _, am, 0, w', _, pl', ts', hT.1, hT.2.1, by omega, hT.2.2.2, RL_s R hs h6.1 h4 (by omega) hw2 (by omega) (cI_step R.1 cs) h2 ha, e, by omega, ham, V⟩
  by_cases c5 : iso u = 0 ∧ (ck g = 5 ∨ ck g = 6)
  · rw [if_pos c5] at hbt
    have s2 : st = 2 := c1.2.2.2.2.2.mp c5.1
    refine fin hbt rfl (hg.trans (cg_1 c5.2 (by omega))) (by decide) rfl (Or.inr s2) (by omega) (Or.inr ⟨rfl, by omega⟩) ?_
    rw [asr_56 c5.2, asr_jw (by omega), R.2.2.2.2.2.2.2.1]
    exact ⟨fun z => z.elim id (fun y => by omega), Or.inl⟩
  · rw [if_neg c5] at hbt
    by_cases c4 : ei = 1 ∧ opw u = -1
    · rw [if_neg (fun z => z c4)] at hbt
      have law2 := (ei_2 R).mp c4.1
      have hb0 := c1.2.2.1.mp c4.2
      have has := c1.2.2.2.2.1 hb0
      cases hc : cmd u with
      | false =>
        rw [hc, if_pos rfl] at hbt
        by_cases h4 : ck g = 4
        · rw [if_pos h4] at hbt
          have ha0 : as_ = 0 := by
            rcases as_01 R with z | z
            · exact z
            · rw [has.mpr z] at hc
              cases hc
          refine fin hbt h4 (hg.trans (cg_2 h4 ⟨law2, hb0⟩ ha0)) (by decide) (jwt_45 (R.1.2.2.2.1 ha0)).symm (Or.inl (by decide)) (by decide) (Or.inr ⟨rfl, by omega⟩) ?_
          rw [asr_4 h4]
          exact ⟨fun _ => rfl, fun _ => rfl⟩
        · rw [if_neg h4] at hbt
          omega
      | true =>
        rw [hc, if_neg (by decide)] at hbt
        by_cases h4 : ck g = 1 ∨ ck g = 2
        · rw [if_pos h4] at hbt
          refine fin hbt rfl (hg.trans (cg_3 h4 ⟨law2, hb0⟩ (has.mp hc))) (by decide) rfl (Or.inl (by omega)) (by omega) (Or.inl ⟨rfl, by omega⟩) ?_
          rw [asr_12 h4]
          exact ⟨fun z => by omega, fun z => by cases z⟩
        · rw [if_neg h4] at hbt
          omega
    · rw [if_pos c4] at hbt
      omega
end PFS
