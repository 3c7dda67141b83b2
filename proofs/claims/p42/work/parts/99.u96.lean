/-! -/
/-! a law that is read says something -/
/-- what a step of the class's can be, with what it writes -/
theorem cs_inv {law k v st : Int} {w : List Int} {ls as_ st2 : Int} {w2 : List Int} {l2 a2 : Int} (e : cstep law k v st w ls as_ = .inr (st2, w2, l2, a2)) :
  ((st = 0 ∨ st = 1) ∧ k = 1 ∧ v ≤ 9999 ∧ (st2 = 2 ∧ w2 = w ∧ l2 = ls ∧ a2 = as_) ∧ estep law k v st w ls as_ = [v]) ∨
  ((st = 0 ∨ st = 1) ∧ k = 0 ∧ (v = 4 ∨ v = 9 ∨ 17 ≤ v) ∧ (st2 = 2 ∧ w2 = w ∧ l2 = ls ∧ a2 = as_) ∧ estep law k v st w ls as_ = [10000 + v]) ∨
  ((st = 0 ∨ st = 1) ∧ ∃ c, (c = 40 ∨ c = 110 ∨ (c = 33 ∧ st = 0)) ∧ (st2 = (if c = 33 then 0 else 1) ∧ w2 = c :: w ∧ l2 = ls ∧ a2 = as_) ∧ estep law k v st w ls as_ = []) ∨
  (st = 3 ∧ (st2 = 1 ∧ w2 = 91 :: w ∧ l2 = 1 ∧ a2 = as_) ∧ estep law k v st w ls as_ = []) ∨
  ((¬ (st = 0 ∨ st = 1) ∧ ¬ st = 3) ∧ ∃ g,
    ((ck g = 5 ∨ ck g = 6) ∧ ¬ st = 4 ∧ (st2 = 1 ∧ w2 = g :: jwt (ck g) w ∧ l2 = ls ∧ a2 = as_) ∧ estep law k v st w ls as_ = jE (ck g) w) ∨
    (ck g = 4 ∧ (law = 2 ∧ brn w = 0) ∧ as_ = 0 ∧ (st2 = 1 ∧ w2 = g :: jwt 5 w ∧ l2 = ls ∧ a2 = 1) ∧ estep law k v st w ls as_ = jE 5 w) ∨
    ((law = 2 ∧ brn w = 0) ∧ as_ = 0 ∧ (st2 = 3 ∧ w2 = jwt 5 w ∧ l2 = ls ∧ a2 = 1) ∧ estep law k v st w ls as_ = jE 5 w) ∨
    ((ck g = 1 ∨ ck g = 2) ∧ (law = 2 ∧ brn w = 0) ∧ ¬ as_ = 0 ∧ (st2 = 0 ∧ w2 = g :: jwt (ck g) w ∧ l2 = ls ∧ a2 = 0) ∧ estep law k v st w ls as_ = jE (ck g) w) ∨
    (0 < brn w ∧ ∃ c w1, jwt 5 w = c :: w1 ∧ (st2 = (if c = 91 then 4 else 2) ∧ w2 = w1 ∧ l2 = ls ∧ a2 = as_) ∧ estep law k v st w ls as_ = jE 5 w ++ (if c = 91 then [30000 + ls] else [])) ∨
    (brn w = 1 ∧ ¬ as_ = 0 ∧ (jwt 5 w).head? = some 91 ∧ (st2 = 1 ∧ w2 = jwt 5 w ∧ l2 = ls + 1 ∧ a2 = as_) ∧ estep law k v st w ls as_ = jE 5 w) ∨
    (brn w = 0 ∧ (¬ law = 2 ∨ ¬ as_ = 0) ∧ (st2 = 5 ∧ w2 = jwt 1 w ∧ l2 = ls ∧ a2 = as_) ∧ estep law k v st w ls as_ = jE 1 w)) := by
  have op : ∀ {c l : Int}, c_op c w l as_ = .inr (st2, w2, l2, a2) → st2 = (if c = 33 then 0 else 1) ∧ w2 = c :: w ∧ l2 = l ∧ a2 = as_ := fun z => by
    unfold c_op at z
    split at z
    · cases z
    · cases z
      exact ⟨rfl, rfl, rfl, rfl⟩
  unfold cstep at e
  unfold estep
  by_cases h0 : st = 0 ∨ st = 1
  · rw [if_pos h0] at e ⊢
    unfold c_one at e
    unfold e_one
    by_cases k1 : k = 1
    · rw [if_pos k1]
      by_cases h9 : k = 1 ∧ 9999 < v
      · rw [if_pos h9] at e
        cases e
      · rw [if_neg h9, if_pos k1] at e
        cases e
        exact Or.inl ⟨h0, k1, by omega, ⟨rfl, rfl, rfl, rfl⟩, rfl⟩
    · rw [if_neg (fun z => k1 z.1), if_neg k1] at e
      rw [if_neg k1]
      by_cases k0 : k = 0
      · rw [if_pos k0] at e ⊢
        unfold c_wd at e
        unfold e_wd
        by_cases h15 : v = 15 ∧ st = 0
        · rw [if_pos h15] at e ⊢
          exact Or.inr (Or.inr (Or.inl ⟨h0, 33, Or.inr (Or.inr ⟨rfl, h15.2⟩), op e, rfl⟩))
        · rw [if_neg h15] at e ⊢
          split at e
          · cases e
          · split at e
            · cases e
            · cases e
              exact Or.inr (Or.inl ⟨h0, k0, by omega, ⟨rfl, rfl, rfl, rfl⟩, rfl⟩)
      · rw [if_neg k0] at e ⊢
        split at e
        · exact Or.inr (Or.inr (Or.inl ⟨h0, 40, Or.inl rfl, op e, rfl⟩))
        · split at e
          · exact Or.inr (Or.inr (Or.inl ⟨h0, 110, Or.inr (Or.inl rfl), op e, rfl⟩))
          · cases e
  · rw [if_neg h0] at e ⊢
    by_cases h3 : st = 3
    · rw [if_pos h3] at e ⊢
      unfold c_bk at e
      split at e
      · exact Or.inr (Or.inr (Or.inr (Or.inl ⟨h3, op e, rfl⟩)))
      · cases e
    · rw [if_neg h3] at e ⊢
      refine Or.inr (Or.inr (Or.inr (Or.inr ⟨⟨h0, h3⟩, sh k v, ?_⟩)))
      obtain ⟨g, hg⟩ : ∃ g, sh k v = g := ⟨_, rfl⟩
      rw [hg] at e ⊢
      unfold c_sg at e
      unfold e_sg
      by_cases a : (ck g = 5 ∨ ck g = 6) ∧ ¬ st = 4
      · rw [if_pos a] at e ⊢
        cases e
        exact Or.inl ⟨a.1, a.2, ⟨rfl, rfl, rfl, rfl⟩, rfl⟩
      · rw [if_neg a] at e ⊢
        unfold c1 at e
        unfold eg1
        by_cases a : ck g = 4 ∧ (law = 2 ∧ brn w = 0) ∧ as_ = 0
        · rw [if_pos a] at e ⊢
          cases e
          exact Or.inr (Or.inl ⟨a.1, a.2.1, a.2.2, ⟨rfl, rfl, rfl, rfl⟩, rfl⟩)
        · rw [if_neg a] at e ⊢
          unfold c2 at e
          unfold eg2
          by_cases a : g = 91 ∧ (law = 2 ∧ brn w = 0) ∧ as_ = 0
          · rw [if_pos a] at e ⊢
            cases e
            exact Or.inr (Or.inr (Or.inl ⟨a.2.1, a.2.2, ⟨rfl, rfl, rfl, rfl⟩, rfl⟩))
          · rw [if_neg a] at e ⊢
            unfold c3 at e
            unfold eg3
            by_cases a : (ck g = 1 ∨ ck g = 2) ∧ (law = 2 ∧ brn w = 0) ∧ ¬ as_ = 0
            · rw [if_pos a] at e ⊢
              cases e
              exact Or.inr (Or.inr (Or.inr (Or.inl ⟨a.1, a.2.1, a.2.2, ⟨rfl, rfl, rfl, rfl⟩, rfl⟩)))
            · rw [if_neg a] at e ⊢
              unfold c4 at e
              unfold eg4
              by_cases a : g = 41 ∧ 0 < brn w
              · rw [if_pos a] at e ⊢
                unfold c_cl at e
                unfold e_cl
                cases hj : jwt 5 w with
                | nil =>
                  rw [hj] at e
                  cases e
                | cons c r =>
                  rw [hj] at e
                  cases e
                  exact Or.inr (Or.inr (Or.inr (Or.inr (Or.inl ⟨a.2, c, w2, rfl, ⟨rfl, rfl, rfl, rfl⟩, rfl⟩))))
              · rw [if_neg a] at e ⊢
                unfold c5 at e
                unfold eg5
                by_cases a : g = 44 ∧ brn w = 1 ∧ ¬ as_ = 0 ∧ (jwt 5 w).head? = some 91
                · rw [if_pos a] at e ⊢
                  split at e
                  · cases e
                  · cases e
                    exact Or.inr (Or.inr (Or.inr (Or.inr (Or.inr (Or.inl ⟨a.2.1, a.2.2.1, a.2.2.2, ⟨rfl, rfl, rfl, rfl⟩, rfl⟩)))))
                · rw [if_neg a] at e ⊢
                  unfold c6 at e
                  unfold eg6
                  by_cases a : g = 59 ∧ brn w = 0 ∧ (¬ law = 2 ∨ ¬ as_ = 0)
                  · rw [if_pos a] at e ⊢
                    cases e
                    exact Or.inr (Or.inr (Or.inr (Or.inr (Or.inr (Or.inr ⟨a.2.1, a.2.2, ⟨rfl, rfl, rfl, rfl⟩, rfl⟩)))))
                  · rw [if_neg a] at e
                    cases e
/-- what holds of the class's machine in a law -/
def WI (law st : Int) (w : List Int) (ls as_ : Int) : Prop := cI law st w ls as_ ∧ g91 w ∧ (as_ = 1 → asr w = true ∨ st = 4 ∨ st = 3) ∧ (¬ law = 2 → ∀ c ∈ w, ck c = 0 ∨ 5 ≤ ck c) ∧ ((st = 3 ∨ st = 4) → law = 2 ∧ brn w = 0 ∧ 3 ≤ sl w ∧ as_ = 1) ∧ (st = 0 → as_ = 0) ∧ (91 ∈ w → 1 ≤ ls ∧ as_ = 1 ∧ law = 2)
theorem mem_c {P : Int → Prop} {g : Int} {w : List Int} (hg : P g) (h : ∀ c ∈ w, P c) : ∀ c ∈ g :: w, P c := fun c hc => (List.mem_cons.mp hc).elim (fun z => by rw [z]; exact hg) (fun z => h c z)
theorem g_91 {g : Int} (h : 1 ≤ ck g) : ¬ g = 91 ∧ ¬ (91 : Int) = g := ⟨fun z => by rw [z] at h; have := ck_91.1; omega, fun z => by rw [← z] at h; have := ck_91.1; omega⟩
theorem WI_s {law k v st : Int} {w : List Int} {ls as_ st2 : Int} {w2 : List Int} {l2 a2 : Int} (W : WI law st w ls as_) (h5 : ¬ st = 5) (e : cstep law k v st w ls as_ = .inr (st2, w2, l2, a2)) (h52 : ¬ st2 = 5) : WI law st2 w2 l2 a2 := by
  obtain ⟨I, G, A, V, Z, O, L⟩ := W
  have I2 := cI_step I e
  have hs := I.1
  have h6 := I.2.2.2.2.2.1
  have jm : ∀ {r : Int}, 91 ∈ jwt r w → 91 ∈ w := fun z => jwt_mem z
  have vj : ∀ {r : Int}, ¬ law = 2 → ∀ c ∈ jwt r w, ck c = 0 ∨ 5 ≤ ck c := fun h c hc => V h c (jwt_mem hc)
  rcases cs_inv e with ⟨h0, -, -, ⟨rfl, rfl, rfl, rfl⟩, -⟩ | ⟨h0, -, -, ⟨rfl, rfl, rfl, rfl⟩, -⟩ | ⟨h0, c, hc, ⟨hst, rfl, rfl, rfl⟩, -⟩ | ⟨h3, ⟨rfl, rfl, rfl, rfl⟩, -⟩ | ⟨hn, g, C⟩
  · exact ⟨I2, G, fun z => (A z).elim Or.inl (fun q => by omega), V, fun z => by omega, fun z => by omega, L⟩
  · exact ⟨I2, G, fun z => (A z).elim Or.inl (fun q => by omega), V, fun z => by omega, fun z => by omega, L⟩
  · have n91 : ¬ c = 91 := by omega
    have n19 : ¬ (91 : Int) = c := by omega
    refine ⟨I2, ⟨G, fun z => absurd z n91⟩, fun z => ?_, fun h => ?_, fun z => ?_, fun z => ?_, fun z => ?_⟩
    · rcases hc with q | q | q
      · subst q
        exact (A z).elim (fun y => Or.inl y) (fun q => by omega)
      · subst q
        exact (A z).elim (fun y => Or.inl y) (fun q => by omega)
      · have := O q.2
        omega
    · refine mem_c ?_ (V h)
      rcases hc with q | q | q
      · subst q
        exact Or.inl (by decide)
      · subst q
        exact Or.inr (by decide)
      · exact absurd (I.2.2.2.2.2.2 q.2).1 h
    · exfalso
      split at hst <;> omega
    · rcases hc with q | q | q
      · rw [q, if_neg (by decide)] at hst
        omega
      · rw [q, if_neg (by decide)] at hst
        omega
      · exact O q.2
    · exact L ((List.mem_cons.mp z).elim (fun q => absurd q n19) id)
  · obtain ⟨z1, z2, z3, z4⟩ := Z (Or.inl h3)
    exact ⟨I2, ⟨G, fun _ => ⟨z2, z3⟩⟩, fun _ => Or.inl rfl, fun h => absurd z1 h, fun z => by omega, fun z => by omega, fun _ => ⟨by decide, z4, z1⟩⟩
  · rcases C with ⟨hg, n4, ⟨rfl, rfl, rfl, rfl⟩, -⟩ | ⟨hg, hl, ha, ⟨rfl, rfl, rfl, rfl⟩, -⟩ | ⟨hl, ha, ⟨rfl, rfl, rfl, rfl⟩, -⟩ | ⟨hg, hl, ha, ⟨rfl, rfl, rfl, rfl⟩, -⟩ | ⟨hb, c, w1, hj, ⟨hst, rfl, rfl, rfl⟩, -⟩ | ⟨hb, ha, hh, ⟨rfl, rfl, rfl, rfl⟩, -⟩ | ⟨-, -, ⟨rfl, -⟩, -⟩
    · obtain ⟨n91, n19⟩ := g_91 (g := g) (by omega)
      refine ⟨I2, ⟨g91_jw G, fun z => absurd z n91⟩, fun z => Or.inl ?_, fun h => mem_c (Or.inr (by omega)) (vj h), fun z => by omega, fun z => by omega, fun z => L ((List.mem_cons.mp z).elim (fun q => absurd q n19) jm)⟩
      rw [asr_56 hg, asr_jw (by omega)]
      exact (A z).elim id (fun q => by omega)
    · obtain ⟨n91, n19⟩ := g_91 (g := g) (by omega)
      refine ⟨I2, ⟨g91_jw G, fun z => absurd z n91⟩, fun z => Or.inl (asr_4 hg), fun h => absurd hl.1 h, fun z => by omega, fun z => by omega, fun z => ?_⟩
      have := L ((List.mem_cons.mp z).elim (fun q => absurd q n19) jm)
      omega
    · have hbj := brn_jw (r := 5) (by decide) w
      have h3 : 3 ≤ sl (jwt 5 w) := by
        refine (sl_g (r := 4) (shp_jw hs) (by omega) (fun c w1 x => ?_)).1 (by omega)
        have h4 := jwt_top x
        have h5 := no4_jw (r := 5) (I.2.2.2.1 ha) c (by rw [x]; exact List.mem_cons_self)
        omega
      exact ⟨I2, g91_jw G, fun _ => Or.inr (Or.inr rfl), fun h => absurd hl.1 h, fun _ => ⟨hl.1, by omega, h3, rfl⟩, fun z => by omega, fun z => by have := L (jm z); omega⟩
    · obtain ⟨n91, n19⟩ := g_91 (g := g) (by omega)
      refine ⟨I2, ⟨g91_jw G, fun z => absurd z n91⟩, fun z => by omega, fun h => absurd hl.1 h, fun z => by omega, fun _ => rfl, fun z => ?_⟩
      exfalso
      have h9 := jm ((List.mem_cons.mp z).elim (fun q => absurd q n19) id)
      exact n91_b hl.2 h9
    · have n4 : ¬ st = 4 := fun z => by have := (Z (Or.inr z)).2.1; omega
      have hgj := g91_jw (r := 5) G
      rw [hj] at hgj
      have hm : ∀ x ∈ w2, x ∈ w := fun x hx => jwt_mem (r := 5) (by rw [hj]; exact List.mem_cons_of_mem _ hx)
      by_cases c91 : c = 91
      · subst c91
        have h9 := hgj.2 rfl
        have hL := L (jwt_mem (r := 5) (by rw [hj]; exact List.mem_cons_self))
        rw [if_pos rfl] at hst
        subst hst
        exact ⟨I2, hgj.1, fun _ => Or.inr (Or.inl rfl), fun h => absurd hL.2.2 h, fun _ => ⟨hL.2.2, h9.1, h9.2, hL.2.1⟩, fun z => by omega, fun z => L (hm _ z)⟩
      · rw [if_neg c91] at hst
        subst hst
        have hc40 : c = 40 := by
          obtain ⟨c2, w3, q1, q2⟩ := shp_cok hs hb
          rw [hj] at q1
          cases q1
          omega
        refine ⟨I2, hgj.1, fun z => Or.inl ?_, fun h c hc => V h c (hm c hc), fun z => by omega, fun z => by omega, fun z => L (hm _ z)⟩
        have h1 : asr w = true := (A z).elim id (fun q => by omega)
        rw [← asr_jw (r := 5) (by decide), hj, hc40] at h1
        exact h1
    · have n4 : ¬ st = 4 := fun z => by have := (Z (Or.inr z)).2.1; omega
      refine ⟨I2, g91_jw G, fun z => Or.inl ?_, fun h => vj h, fun z => by omega, fun z => by omega, fun z => ?_⟩
      · rw [asr_jw (by decide)]
        exact (A z).elim id (fun q => by omega)
      · have := L (jm z)
        omega
    · exact absurd rfl h52
/-- what is written is an item -/
theorem jE_i {r : Int} (hr : 1 ≤ r) : ∀ {w : List Int}, ∀ it ∈ jE r w, itm it
  | [], it, h => by cases h
  | c :: w, it, h => by
    by_cases hc : r ≤ ck c
    · rw [show jE r (c :: w) = (20000 + c) :: jE r w from if_pos hc] at h
      rcases List.mem_cons.mp h with e | e
      · rw [e]
        have hk := ck_r c
        unfold ck at hc
        unfold itm
        repeat' split at hc
        all_goals omega
      · exact jE_i hr it e
    · rw [show jE r (c :: w) = [] from if_neg hc] at h
      cases h
theorem es_i {law k v st : Int} {w : List Int} {ls as_ st2 : Int} {w2 : List Int} {l2 a2 : Int} (W : WI law st w ls as_) (hk : (k = 0 → v ≤ 24) ∧ (k = 1 → 0 ≤ v)) (e : cstep law k v st w ls as_ = .inr (st2, w2, l2, a2)) : ∀ it ∈ estep law k v st w ls as_, itm it := by
  obtain ⟨I, G, A, V, Z, O, L⟩ := W
  rcases cs_inv e with ⟨h0, k1, hv, -, es⟩ | ⟨h0, k0, hv, -, es⟩ | ⟨h0, c, hc, -, es⟩ | ⟨h3, -, es⟩ | ⟨hn, g, C⟩
  · rw [es]
    intro it h
    rw [List.mem_singleton.mp h]
    have := hk.2 k1
    exact Or.inl (by omega)
  · rw [es]
    intro it h
    rw [List.mem_singleton.mp h]
    have := hk.1 k0
    refine Or.inr (Or.inl ⟨by omega, by omega, ?_⟩)
    unfold nmv
    omega
  · rw [es]
    intro it h
    cases h
  · rw [es]
    intro it h
    cases h
  · rcases C with ⟨hg, n4, -, es⟩ | ⟨hg, hl, ha, -, es⟩ | ⟨hl, ha, -, es⟩ | ⟨hg, hl, ha, -, es⟩ | ⟨hb, c, w1, hj, -, es⟩ | ⟨hb, ha, hh, -, es⟩ | ⟨-, -, -, es⟩
    · rw [es]
      exact jE_i (by omega)
    · rw [es]
      exact jE_i (by omega)
    · rw [es]
      exact jE_i (by omega)
    · rw [es]
      exact jE_i (by omega)
    · rw [es]
      intro it h
      rcases List.mem_append.mp h with h | h
      · exact jE_i (by decide) it h
      · by_cases c91 : c = 91
        · rw [if_pos c91] at h
          rw [List.mem_singleton.mp h]
          have hL := L (jwt_mem (r := 5) (by rw [hj, c91]; exact List.mem_cons_self))
          have := I.2.2.2.2.1
          exact Or.inr (Or.inr (Or.inr (by omega)))
        · rw [if_neg c91] at h
          cases h
    · rw [es]
      exact jE_i (by omega)
    · rw [es]
      exact jE_i (by omega)
/-- without signs of asks all of a law's signs are arithmetic -/
theorem jE_v {w : List Int} (h : ∀ c ∈ w, ck c = 0 ∨ 5 ≤ ck c) : jE 1 w = jE 5 w ∧ jwt 1 w = jwt 5 w := by
  induction w with
  | nil => exact ⟨rfl, rfl⟩
  | cons c w ih =>
    obtain ⟨i1, i2⟩ := ih (fun x hx => h x (List.mem_cons_of_mem _ hx))
    rcases h c List.mem_cons_self with q | q
    · rw [show jE 1 (c :: w) = [] from if_neg (by omega), show jE 5 (c :: w) = [] from if_neg (by omega), show jwt 1 (c :: w) = c :: w from if_neg (by omega), show jwt 5 (c :: w) = c :: w from if_neg (by omega)]
      exact ⟨rfl, rfl⟩
    · rw [show jE 1 (c :: w) = (20000 + c) :: jE 1 w from if_pos (by omega), show jE 5 (c :: w) = (20000 + c) :: jE 5 w from if_pos (by omega), show jwt 1 (c :: w) = jwt 1 w from if_pos (by omega), show jwt 5 (c :: w) = jwt 5 w from if_pos (by omega), i1, i2]
      exact ⟨rfl, rfl⟩
def SIs (P : Prop) (st ls : Int) (w vs ts : List Int) : Prop := SI P (if st = 2 ∨ st = 3 then 1 else 0) (if st = 4 then 1 else 0) ls w vs ts
theorem SI_w {P : Prop} {a b a2 b2 : Nat} {ls ls2 : Int} {w w2 vs ts : List Int} (h : SI P a b ls w vs ts) (e1 : bv ls2 w2 + a2 = bv ls w + a) (e2 : btr w2 + b2 = btr w + b) : SI P a2 b2 ls2 w2 vs ts := ⟨h.1.trans e1.symm, h.2.1.trans e2.symm, h.2.2⟩
section STP
variable {N M : Int → Int} {P : Prop}
theorem SIs_01 {st ls : Int} {w vs ts : List Int} (h : st = 0 ∨ st = 1) : SIs P st ls w vs ts = SI P 0 0 ls w vs ts := by
  unfold SIs
  rw [if_neg (by omega), if_neg (by omega)]
theorem SIs_23 {st ls : Int} {w vs ts : List Int} (h : st = 2 ∨ st = 3) : SIs P st ls w vs ts = SI P 1 0 ls w vs ts := by
  unfold SIs
  rw [if_pos h, if_neg (by omega)]
theorem SIs_4 {ls : Int} {w vs ts : List Int} : SIs P 4 ls w vs ts = SI P 0 1 ls w vs ts := by
  unfold SIs
  rw [if_neg (by decide), if_pos rfl]
theorem SI_e {ls : Int} {w vs ts : List Int} {b : Nat} (h : SI P 0 b ls w vs ts) (hw : ∀ c ∈ w, 1 ≤ ck c ∧ ck c ≤ 3) : vs = [] := by
  have h1 := h.1
  rw [bv_0 hw] at h1
  exact List.eq_nil_of_length_eq_zero h1
theorem st_ok {law k v st : Int} {w : List Int} {ls as_ st2 : Int} {w2 : List Int} {l2 a2 : Int} (W : WI law st w ls as_) (h5 : ¬ st = 5) (hk : (k = 0 → v ≤ 24) ∧ (k = 1 → 0 ≤ v)) (e : cstep law k v st w ls as_ = .inr (st2, w2, l2, a2)) (hP : P → ∀ k, 0 ≤ k ∧ k < 10 → M k = N (nmk k) ∧ B6 (M k)) {vs ts : List Int} (S : SIs P st ls w vs ts) :
    (¬ st2 = 5 → ∃ v2 t2, EV N M P (estep law k v st w ls as_) vs ts v2 t2 ∧ SIs P st2 l2 w2 v2 t2) ∧ (st2 = 5 → (law = 2 → ∃ z, EV N M P (estep law k v st w ls as_) vs ts [] [z] ∧ (z = 0 ∨ z = 1)) ∧ (¬ law = 2 → ∃ x, EV N M P (estep law k v st w ls as_) vs ts [x] [] ∧ (P → B6 x))) := by
  obtain ⟨I, G, A, V, Z, O, L⟩ := W
  have hs := I.1
  have h6 := I.2.2.2.2.2.1
  have hls := I.2.2.2.2.1
  have h29 := shp_39 hs I.2.1
  have hbb := bv_b hls G
  have hbv5 : ∀ {w3 : List Int} {g : Int}, ¬ g = 91 → 4 ≤ ck g ∧ ck g ≤ 6 → bv ls (g :: w3) = bv ls w3 + 1 := fun a b => by rw [bv_c a, if_pos b]
  have hbt5 : ∀ {w3 : List Int} {g : Int}, 4 ≤ ck g → btr (g :: w3) = btr w3 := fun {w3 g} b => by
    show btr w3 + (if ck g = 1 ∨ ck g = 2 then 1 else 0) = _
    rw [if_neg (by omega)]
    rfl
  have v1 : ¬ (st = 0 ∨ st = 1) ∧ ¬ st = 3 → ¬ st = 4 → SI P 1 0 ls w vs ts := fun a b => by rw [SIs_23 (by omega)] at S; exact S
  rcases cs_inv e with ⟨h0, k1, hv, ⟨rfl, rfl, rfl, rfl⟩, es⟩ | ⟨h0, k0, hv, ⟨rfl, rfl, rfl, rfl⟩, es⟩ | ⟨h0, c, hc, ⟨hst, rfl, rfl, rfl⟩, es⟩ | ⟨h3, ⟨rfl, rfl, rfl, rfl⟩, es⟩ | ⟨hn, g, C⟩
  · refine ⟨fun _ => ?_, fun z => absurd z (by decide)⟩
    rw [SIs_01 h0] at S
    have := hk.2 k1
    have hl1 := S.1
    have hl2 := S.2.1
    rw [es]
    refine ⟨v :: vs, ts, ev_num (by omega) (by omega), ?_⟩
    rw [SIs_23 (Or.inl rfl)]
    exact ⟨by show vs.length + 1 = _; omega, S.2.1, S.2.2.1, fun p => mem_c (by constructor <;> omega) (S.2.2.2 p)⟩
  · refine ⟨fun _ => ?_, fun z => absurd z (by decide)⟩
    rw [SIs_01 h0] at S
    have := hk.1 k0
    have hn : nmv v := by
      unfold nmv
      omega
    have hl1 := S.1
    have hl2 := S.2.1
    rw [es]
    refine ⟨N v :: vs, ts, ev_nm hn (by omega) hP, ?_⟩
    rw [SIs_23 (Or.inl rfl)]
    refine ⟨by show vs.length + 1 = _; omega, S.2.1, S.2.2.1, fun p => mem_c ?_ (S.2.2.2 p)⟩
    have hq := nmk_o hn
    have h9 := hP p _ hq.2
    rw [hq.1] at h9
    rw [← h9.1]
    exact h9.2
  · have h2 : st2 = 0 ∨ st2 = 1 := by
      split at hst
      · exact Or.inl hst
      · exact Or.inr hst
    refine ⟨fun _ => ⟨vs, ts, by rw [es]; exact EV_0, ?_⟩, fun z => by omega⟩
    rw [SIs_01 h0] at S
    rw [SIs_01 h2]
    have hc2 : ¬ c = 91 ∧ ¬ (4 ≤ ck c ∧ ck c ≤ 6) ∧ ¬ (ck c = 1 ∨ ck c = 2) := by
      rcases hc with q | q | ⟨q, -⟩ <;> (subst q; decide)
    refine SI_w S ?_ ?_
    · rw [bv_c hc2.1, if_neg hc2.2.1]
    · show btr w + (if ck c = 1 ∨ ck c = 2 then 1 else 0) + 0 = _
      rw [if_neg hc2.2.2]
  · refine ⟨fun _ => ⟨vs, ts, by rw [es]; exact EV_0, ?_⟩, fun z => by omega⟩
    rw [SIs_23 (Or.inr h3)] at S
    rw [SIs_01 (Or.inr rfl)]
    have n9 := n91_b (Z (Or.inl h3)).2.1
    refine SI_w S ?_ rfl
    show bv 1 w + (1 : Int).toNat + 0 = _
    rw [(bv_n (ls := 1) (ls2 := ls) n9).1]
    rfl
  · rcases C with ⟨hg, n4, ⟨rfl, rfl, rfl, rfl⟩, es⟩ | ⟨hg, hl, ha, ⟨rfl, rfl, rfl, rfl⟩, es⟩ | ⟨hl, ha, ⟨rfl, rfl, rfl, rfl⟩, es⟩ | ⟨hg, hl, ha, ⟨rfl, rfl, rfl, rfl⟩, es⟩ | ⟨hb, c, w1, hj, ⟨hst, rfl, rfl, rfl⟩, es⟩ | ⟨hb, ha, hh, ⟨rfl, rfl, rfl, rfl⟩, es⟩ | ⟨hb, ha, ⟨rfl, rfl, rfl, rfl⟩, es⟩
    · refine ⟨fun _ => ?_, fun z => absurd z (by decide)⟩
      obtain ⟨v2, a, b⟩ := popV (N := N) (M := M) (r := ck g) (by omega) (v1 hn n4)
      refine ⟨v2, ts, by rw [es]; exact a, ?_⟩
      rw [SIs_01 (Or.inr rfl)]
      exact SI_w b (by rw [hbv5 (g_91 (by omega)).1 (by omega)]) (by rw [hbt5 (by omega)])
    · have n4 : ¬ st = 4 := fun z => by have := (Z (Or.inr z)).2.2.2; omega
      refine ⟨fun _ => ?_, fun z => absurd z (by decide)⟩
      obtain ⟨v2, a, b⟩ := popV (N := N) (M := M) (r := 5) (by omega) (v1 hn n4)
      refine ⟨v2, ts, by rw [es]; exact a, ?_⟩
      rw [SIs_01 (Or.inr rfl)]
      exact SI_w b (by rw [hbv5 (g_91 (by omega)).1 (by omega)]) (by rw [hbt5 (by omega)])
    · have n4 : ¬ st = 4 := fun z => by have := (Z (Or.inr z)).2.2.2; omega
      refine ⟨fun _ => ?_, fun z => absurd z (by decide)⟩
      obtain ⟨v2, a, b⟩ := popV (N := N) (M := M) (r := 5) (by omega) (v1 hn n4)
      refine ⟨v2, ts, by rw [es]; exact a, ?_⟩
      rw [SIs_23 (Or.inr rfl)]
      exact b
    · refine ⟨fun _ => ?_, fun z => absurd z (by decide)⟩
      have ha1 : as_ = 1 := I.2.2.1.resolve_left ha
      have key : ∃ t2, EV N M P (jE (ck g) w) vs ts [] t2 ∧ SI P 0 1 l2 (jwt (ck g) w) [] t2 := by
        by_cases n4 : st = 4
        · subst n4
          rw [SIs_4] at S
          have hw := sl_3 hs hl.2 (Z (Or.inr rfl)).2.2.1
          have hv := SI_e S hw
          subst hv
          exact popT hw S
        · exact popV4 (by omega) hs hl.2 ((A ha1).elim id (fun q => by omega)) (by omega) (v1 hn n4)
      obtain ⟨t2, a, b⟩ := key
      refine ⟨[], t2, by rw [es]; exact a, ?_⟩
      rw [SIs_01 (Or.inl rfl)]
      refine SI_w b ?_ ?_
      · rw [bv_c (g_91 (by omega)).1, if_neg (by omega)]
      · show btr (jwt (ck g) w) + (if ck g = 1 ∨ ck g = 2 then 1 else 0) + 0 = _
        rw [if_pos hg]
    · have n4 : ¬ st = 4 := fun z => by have := (Z (Or.inr z)).2.1; omega
      obtain ⟨v2, a, b⟩ := popV (N := N) (M := M) (r := 5) (by omega) (v1 hn n4)
      rw [hj] at b
      by_cases c91 : c = 91
      · subst c91
        rw [if_pos rfl] at hst es
        subst hst
        refine ⟨fun _ => ?_, fun z => absurd z (by decide)⟩
        have hgj := g91_jw (r := 5) G
        rw [hj] at hgj
        have h9 := hgj.2 rfl
        have hL := L (jwt_mem (r := 5) (by rw [hj]; exact List.mem_cons_self))
        have hsj := shp_jw (r := 5) hs
        rw [hj] at hsj
        have hw := sl_3 hsj.1 h9.1 h9.2
        have b1 : v2.length = bv l2 w2 + l2.toNat + 1 := b.1
        have b2 : ts.length = btr w2 + 0 + 0 := b.2.1
        rw [bv_0 hw] at b1
        have hbt := (bv_n (ls := l2) (ls2 := l2) (n91_b h9.1)).2
        have hjl := jwt_len (r := 5) w
        rw [hj] at hjl
        have hjl : w2.length + 1 ≤ w.length := hjl
        obtain ⟨z, hz, ez⟩ := ev_li (N := N) (M := M) (P := P) (n := l2) (vs := v2) (ts := ts) (by omega) (by omega) (by omega)
        refine ⟨[], z :: ts, by rw [es]; exact EV_t a ez, ?_⟩
        rw [SIs_4]
        exact ⟨by rw [bv_0 hw]; rfl, by show ts.length + 1 = _; omega, mem_c hz b.2.2.1, fun _ y hy => by cases hy⟩
      · rw [if_neg c91] at hst es
        subst hst
        refine ⟨fun _ => ?_, fun z => absurd z (by decide)⟩
        have hc40 : c = 40 := by
          obtain ⟨c2, w3, q1, q2⟩ := shp_cok hs hb
          rw [hj] at q1
          cases q1
          omega
        subst hc40
        refine ⟨v2, ts, by rw [es, List.append_nil]; exact a, ?_⟩
        rw [SIs_23 (Or.inl rfl)]
        exact b
    · have n4 : ¬ st = 4 := fun z => by have := (Z (Or.inr z)).2.1; omega
      refine ⟨fun _ => ?_, fun z => absurd z (by decide)⟩
      obtain ⟨v2, a, b⟩ := popV (N := N) (M := M) (r := 5) (by omega) (v1 hn n4)
      refine ⟨v2, ts, by rw [es]; exact a, ?_⟩
      rw [SIs_01 (Or.inr rfl)]
      obtain ⟨w1, hj⟩ : ∃ w1, jwt 5 w = 91 :: w1 := by
        cases hq : jwt 5 w with
        | nil => rw [hq] at hh; cases hh
        | cons x y => rw [hq] at hh; cases hh; exact ⟨y, rfl⟩
      have hgj := g91_jw (r := 5) G
      rw [hj] at hgj b ⊢
      have n9 := n91_b (hgj.2 rfl).1
      refine SI_w b ?_ rfl
      show bv (ls + 1) w1 + (ls + 1).toNat + 0 = bv ls w1 + ls.toNat + 1
      rw [(bv_n (ls := ls + 1) (ls2 := ls) n9).1]
      omega
    · refine ⟨fun z => absurd rfl z, fun _ => ⟨fun hl => ?_, fun hl => ?_⟩⟩
      · have ha1 : a2 = 1 := I.2.2.1.resolve_left (by omega)
        have hj := (shp_g hs hb).2
        have key : ∃ t2, EV N M P (jE 1 w) vs ts [] t2 ∧ SI P 0 1 l2 (jwt 1 w) [] t2 := by
          by_cases n4 : st = 4
          · subst n4
            rw [SIs_4] at S
            have hw := sl_3 hs hb (Z (Or.inr rfl)).2.2.1
            have hv := SI_e S hw
            subst hv
            exact popT hw S
          · exact popV4 (by omega) hs hb ((A ha1).elim id (fun q => by omega)) (by omega) (v1 hn n4)
        obtain ⟨t2, a, b⟩ := key
        rw [hj] at b
        match t2, b, a with
        | [z], b, a => exact ⟨z, by rw [es]; exact a, b.2.2.1 z List.mem_cons_self⟩
        | [], b, a => exact absurd b.2.1 (by decide)
        | _ :: _ :: u, b, a =>
          have h1 : u.length + 1 + 1 = 0 + 1 := b.2.1
          omega
      · have n4 : ¬ st = 4 := fun z => hl (Z (Or.inr z)).1
        have hj := (shp_g hs hb).2
        obtain ⟨q1, q2⟩ := jE_v (V hl)
        obtain ⟨v2, a, b⟩ := popV (N := N) (M := M) (r := 5) (by omega) (v1 hn n4)
        rw [← q1] at a
        rw [← q2, hj] at b
        have ht : ts = [] := List.eq_nil_of_length_eq_zero b.2.1
        subst ht
        match v2, b, a with
        | [x], b, a => exact ⟨x, by rw [es]; exact a, fun p => b.2.2.2 p x List.mem_cons_self⟩
        | [], b, a =>
          have h1 : 0 = 0 + 1 := b.1
          omega
        | _ :: _ :: u, b, a =>
          have h1 : u.length + 1 + 1 = 0 + 1 := b.1
          omega
end STP
/-! a law, whole -/
theorem tok_24 {B : Int → Int} {p k v q r : Int} (h : tok B p k v q r) : (k = 0 → v ≤ 24) ∧ (k = 1 → 0 ≤ v) := by
  obtain ⟨a1, a2⟩ := h
  have h1 := a1.1
  rcases a2 with ⟨x0, x1, x2, x3⟩ | ⟨x0, x1, x2, x3⟩ | ⟨x0, x1, x2, x3⟩ | ⟨x0, x1, x2, x3, x4, x5⟩
  · omega
  · refine ⟨fun _ => ?_, fun z => by omega⟩
    have hr := wix_r (l := tk_ls B q r) (Ks := tk_W) (n := 0) (by decide)
    have hlen : ((tk_W.length : Nat) : Int) = 25 := by decide
    by_cases h25 : v = 25
    · exfalso
      have := wix_1 (l := tk_ls B q r) (Ks := tk_W) (n := 0) (j := 25) (by decide) (by rw [← x3, h25]; rfl)
      have h0 : tk_W[25]? = none := by decide
      rw [h0] at this
      cases this
    · omega
  · refine ⟨fun z => by omega, fun _ => ?_⟩
    have h2 := tk_n0 (B := B) (q := q) (r - q).toNat (fun j a b => x2.2.1 j a (by omega))
    omega
  · have h4 := tk_s2 (B q) (B (q + 1))
    exact ⟨fun z => by omega, fun z => by omega⟩
theorem lre_ev {B : Int → Int} {N M : Int → Int} {P : Prop} (hP : P → ∀ k, 0 ≤ k ∧ k < 10 → M k = N (nmk k) ∧ B6 (M k)) {law : Int} : ∀ {m : Nat} {p st : Int} {w : List Int} {ls as_ : Int} {E : List Int} {q r : Int} {vs ts : List Int}, lre B law m p st w ls as_ E 0 q r → WI law st w ls as_ → ¬ st = 5 → SIs P st ls w vs ts → (∀ it ∈ E, itm it) ∧ (law = 2 → ∃ z, EV N M P E vs ts [] [z] ∧ (z = 0 ∨ z = 1)) ∧ (¬ law = 2 → ∃ x, EV N M P E vs ts [x] [] ∧ (P → B6 x))
  | 0, _, _, _, _, _, _, _, _, _, _, h, _, _, _ => h.elim
  | m + 1, p, st, w, ls, as_, E, q, r, vs, ts, h, W, h5, S => by
    obtain ⟨k, v, q1, r1, tk, h⟩ := h
    have hk := tok_24 tk
    cases hc : cstep law k v st w ls as_ with
    | inl n =>
      rw [hc] at h
      have := cstep_f hc
      have := h.1
      omega
    | inr x =>
      obtain ⟨st2, w2, l2, a2⟩ := x
      rw [hc] at h
      have hi := es_i W hk hc
      have ho := st_ok (N := N) (M := M) (P := P) W h5 hk hc hP S
      rcases h with ⟨h1, h2, h4, h6, h7⟩ | ⟨h1, E2, h2, h4⟩
      · rw [h7]
        exact ⟨hi, (ho.2 h1).1, (ho.2 h1).2⟩
      · obtain ⟨v2, t2, a, b⟩ := ho.1 h1
        obtain ⟨i1, i2, i3⟩ := lre_ev hP h4 (WI_s W h5 hc h1) h1 b
        rw [h2]
        refine ⟨fun it hit => (List.mem_append.mp hit).elim (hi it) (i1 it), fun hl => ?_, fun hl => ?_⟩
        · obtain ⟨z, c, d⟩ := i2 hl
          exact ⟨z, EV_t a c, d⟩
        · obtain ⟨z, c, d⟩ := i3 hl
          exact ⟨z, EV_t a c, d⟩
theorem WI_0 {law ls : Int} (hls : 0 ≤ ls ∧ ls ≤ 6) : WI law (if law = 2 then 0 else 1) [] ls 0 := by
  refine ⟨⟨trivial, by decide, Or.inl rfl, fun _ c hc => (by cases hc), hls, by split <;> omega, fun z => ?_⟩, trivial, fun z => absurd z (by decide), fun _ c hc => (by cases hc), fun z => ?_, fun _ => rfl, fun z => (by cases z)⟩
  · by_cases l2 : law = 2
    · exact ⟨l2, rfl, by decide⟩
    · rw [if_neg l2] at z
      omega
  · exfalso
    split at z <;> omega
/-- the code of a law that was read -/
theorem law_ok {B : Int → Int} {law : Int} {m : Nat} {p ls : Int} {E : List Int} {q r : Int} (hls : 0 ≤ ls ∧ ls ≤ 6) (h : lre B law m p (if law = 2 then 0 else 1) [] ls 0 E 0 q r) : codeC E ∧ (law = 2 → askR (some (E.map cvt)) ∧ sameT E (E.map cvt)) ∧ (¬ law = 2 → valR (some (E.map cvt)) ∧ sameV E (E.map cvt)) := by
  have h5 : ¬ (if law = 2 then (0 : Int) else 1) = 5 := by split <;> omega
  have h01 : (if law = 2 then (0 : Int) else 1) = 0 ∨ (if law = 2 then (0 : Int) else 1) = 1 := by split <;> omega
  have S : ∀ P : Prop, SIs P (if law = 2 then 0 else 1) ls [] [] [] := fun P => by
    rw [SIs_01 h01]
    exact ⟨rfl, rfl, fun z hz => (by cases hz), fun _ z hz => (by cases hz)⟩
  have X := fun (N M : Int → Int) (P : Prop) (hP : P → ∀ k, 0 ≤ k ∧ k < 10 → M k = N (nmk k) ∧ B6 (M k)) => lre_ev (N := N) (M := M) (P := P) hP h (WI_0 hls) h5 (S P)
  have inv : ∀ M : Int → Int, ∃ N : Int → Int, ∀ k, 0 ≤ k ∧ k < 10 → M k = N (nmk k) := fun M => by
    refine ⟨fun x => M (nmo 0 x), fun k hk => ?_⟩
    have hq : k = 0 ∨ k = 1 ∨ k = 2 ∨ k = 3 ∨ k = 4 ∨ k = 5 ∨ k = 6 ∨ k = 7 ∨ k = 8 ∨ k = 9 := by omega
    rcases hq with e | e | e | e | e | e | e | e | e | e <;> (subst e; rfl)
  refine ⟨⟨(X (fun _ => 0) (fun _ => 0) False (fun z => z.elim)).1, fun N => ?_⟩, fun hl => ⟨?_, ?_⟩, fun hl => ⟨?_, ?_⟩⟩
  · obtain ⟨-, a, b⟩ := X N (fun _ => 0) False (fun z => z.elim)
    by_cases hl : law = 2
    · obtain ⟨z, c, -⟩ := a hl
      exact ⟨_, c.1⟩
    · obtain ⟨z, c, -⟩ := b hl
      exact ⟨_, c.1⟩
  · intro L hL M hM
    cases hL
    obtain ⟨N, hN⟩ := inv M
    obtain ⟨-, a, -⟩ := X N M True (fun _ k hk => ⟨hN k hk, hM k hk⟩)
    obtain ⟨z, c, d⟩ := a hl
    exact ⟨z, c.2 trivial, d⟩
  · intro N M hM
    obtain ⟨-, a, -⟩ := X N M True (fun _ => hM)
    obtain ⟨z, c, d⟩ := a hl
    have c1 : evC N E [] = some [z] := c.1
    have c2 := c.2 trivial
    unfold vtR
    rw [c1, c2]
    rfl
  · intro L hL M hM
    cases hL
    obtain ⟨N, hN⟩ := inv M
    obtain ⟨-, -, b⟩ := X N M True (fun _ k hk => ⟨hN k hk, hM k hk⟩)
    obtain ⟨x, c, d⟩ := b hl
    exact ⟨x, [], c.2 trivial, d trivial⟩
  · intro N M hM
    obtain ⟨-, -, b⟩ := X N M True (fun _ => hM)
    obtain ⟨x, c, d⟩ := b hl
    have c1 : evC N E [] = some [x] := c.1
    have c2 := c.2 trivial
    unfold vaR
    rw [c1, c2]
    rfl
