/-! an array's element goes into an array: where each may stand, it may -/
def sx_sbl (u : Nat) (c : Int) : List (Int × Nat) → Int × List (Int × Nat)
  | [] => (0, [])
  | (a, i) :: l => if i = u then ((sx_sbl u c l).1 + a * c, (sx_sbl u c l).2) else ((sx_sbl u c l).1, (a, i) :: (sx_sbl u c l).2)
/-- an unknown is c -/
def sx_sb (u : Nat) (c : Int) (x : sx_X) : sx_X := (x.1 + (sx_sbl u c x.2).1, (sx_sbl u c x.2).2)
theorem sx_sbl_ev {r : Nat → Int} {u : Nat} {c : Int} (h : r u = c) : ∀ l : List (Int × Nat), (sx_sbl u c l).1 + sx_sum r (sx_sbl u c l).2 = sx_sum r l
  | [] => rfl
  | (a, i) :: l => by
    have ih := sx_sbl_ev h l
    unfold sx_sbl
    split
    · rename_i e
      subst e
      simp only [sx_sum]
      rw [h]
      omega
    · simp only [sx_sum]
      omega
theorem sx_sb_ev {r : Nat → Int} {u : Nat} {c : Int} (h : r u = c) (x : sx_X) : sx_ev r (sx_sb u c x) = sx_ev r x := by
  have := sx_sbl_ev h x.2
  unfold sx_ev sx_sb
  dsimp only
  omega
/-- the index is surely that of a place that counts -/
def sx_sur (E : sx_E) (t : Nat) (i : sx_X) : Bool := ((t == 21 || t == 22 || t == 23) && (decide (i.1 = 12) && i.2.isEmpty)) || ((t == 21 || t == 22) && (match sx_b E i with
  | some (lo, hi) => decide (184 ≤ lo) && (decide (hi < 3484) && ((i.2.all fun q => decide (q.1 % 110 = 0)) && decide ((i.1 - 184) % 110 = 5)))
  | none => false))
theorem sx_sur_ok {E : sx_E} {r : Nat → Int} (h : sx_in E r) {t : Nat} {i : sx_X} {k : Nat} (hi : sx_ev r i = (k : Int)) (hn : sx_sur E t i = true) : sx_sens t k = true := by
  unfold sx_sur at hn
  rw [Bool.or_eq_true] at hn
  rcases hn with hn | hn
  · rw [Bool.and_eq_true, Bool.and_eq_true] at hn
    obtain ⟨n1, n2, n3⟩ := hn
    have e1 : i.1 = 12 := of_decide_eq_true n2
    have e2 : i.2 = [] := List.isEmpty_iff.mp n3
    have e3 : k = 12 := by
      unfold sx_ev at hi
      rw [e1, e2] at hi
      simp only [sx_sum] at hi
      omega
    unfold sx_sens
    rw [n1, e3]
    rfl
  · rw [Bool.and_eq_true] at hn
    obtain ⟨n1, n2⟩ := hn
    split at n2
    · rename_i lo hi2 hb
      obtain ⟨b1, b2⟩ := sx_b_ok h hb
      simp only [Bool.and_eq_true, decide_eq_true_eq] at n2
      obtain ⟨n2, n3, n4, n5⟩ := n2
      have hs := sx_sum_mod (r := r) n4
      have hk : 184 ≤ k := by omega
      have e : ((k - 184) % 110 == 5) = true := by
        rw [beq_iff_eq]
        have e2 : i.1 - 184 = ((k - 184 : Nat) : Int) - sx_sum r i.2 := by
          unfold sx_ev at hi
          omega
        omega
      unfold sx_sens
      rw [n1, e, show decide (184 ≤ k) = true from decide_eq_true (by omega), show decide (k < 3484) = true from decide_eq_true (by omega)]
      simp
    · cases n2
def sx_cp1 (E : sx_E) (t0 t1 : Nat) (l0 l1 : List (Nat × Nat × List sx_D)) (i j : sx_X) : Bool := (match sx_dl E i l0, sx_dl E j l1 with
    | some a, some b => a.all fun d => b.all fun q => match d, q with
      | (0, lo, hi), (0, lo2, hi2) => decide (lo2 ≤ lo) && decide (hi ≤ hi2)
      | _, _ => false
    | _, _ => false) && (sx_nos E t1 j || sx_sur E t0 i)
def sx_cpn (E : sx_E) (t0 t1 : Nat) (l0 l1 : List (Nat × Nat × List sx_D)) (i j : sx_X) (u : Nat) (lo : Int) : Nat → Bool
  | 0 => true
  | n + 1 => sx_cp1 E t0 t1 l0 l1 (sx_sb u (lo + n) i) (sx_sb u (lo + n) j) && sx_cpn E t0 t1 l0 l1 i j u lo n
def sx_cpc (E : sx_E) (t0 t1 : Nat) (l0 l1 : List (Nat × Nat × List sx_D)) (i j : sx_X) : Bool := match j.2.find? (fun q => decide (q.1 = 1)) with
  | some (_, u) => match E[u]? with
    | some (lo, hi, _) => sx_cpn E t0 t1 l0 l1 i j u lo (hi - lo + 1).toNat
    | none => false
  | none => sx_cp1 E t0 t1 l0 l1 i j
theorem sx_cp1_ok {E : sx_E} {r : Nat → Int} (h : sx_in E r) {t0 t1 : Nat} {l0 l1 : List (Nat × Nat × List sx_D)} {i j : sx_X} {a b : Nat} (ha : sx_ev r i = (a : Int)) (hb : sx_ev r j = (b : Int)) (hc : sx_cp1 E t0 t1 l0 l1 i j = true) : (∀ d q tau v, sx_fd l0 a = some d → sx_fd l1 b = some q → sx_dr tau d v → (∃ z, v = .int z) ∧ sx_dr tau q v) ∧ (sx_sens t1 b = true → sx_sens t0 a = true) := by
  unfold sx_cp1 at hc
  rw [Bool.and_eq_true, Bool.or_eq_true] at hc
  obtain ⟨h1, h2⟩ := hc
  refine ⟨fun d q tau v hd hq hv => ?_, fun hs => ?_⟩
  · split at h1
    · rename_i da db e1 e2
      have m1 := sx_dl_ok h ha hd e1
      have m2 := sx_dl_ok h hb hq e2
      have h3 := List.all_eq_true.mp (List.all_eq_true.mp h1 d m1) q m2
      split at h3
      · rename_i lo hi lo2 hi2
        rw [Bool.and_eq_true] at h3
        have b1 : lo2 ≤ lo := of_decide_eq_true h3.1
        have b2 : hi ≤ hi2 := of_decide_eq_true h3.2
        obtain ⟨z, rfl, c1, c2⟩ := hv
        exact ⟨⟨z, rfl⟩, z, rfl, by omega, by omega⟩
      · cases h3
    · cases h1
  · rcases h2 with h2 | h2
    · rw [sx_nos_ok h hb h2] at hs
      cases hs
    · exact sx_sur_ok h ha h2
theorem sx_cpn_ok {E : sx_E} {t0 t1 : Nat} {l0 l1 : List (Nat × Nat × List sx_D)} {i j : sx_X} {u : Nat} {lo : Int} : ∀ {n : Nat}, sx_cpn E t0 t1 l0 l1 i j u lo n = true → ∀ k, k < n → sx_cp1 E t0 t1 l0 l1 (sx_sb u (lo + k) i) (sx_sb u (lo + k) j) = true
  | 0, _, k, hk => by omega
  | n + 1, hc, k, hk => by
    unfold sx_cpn at hc
    rw [Bool.and_eq_true] at hc
    by_cases e : k = n
    · subst e
      exact hc.1
    · exact sx_cpn_ok hc.2 k (by omega)
theorem sx_cpc_ok {E : sx_E} {r : Nat → Int} (h : sx_in E r) {t0 t1 : Nat} {l0 l1 : List (Nat × Nat × List sx_D)} {i j : sx_X} {a b : Nat} (ha : sx_ev r i = (a : Int)) (hb : sx_ev r j = (b : Int)) (hc : sx_cpc E t0 t1 l0 l1 i j = true) : (∀ d q tau v, sx_fd l0 a = some d → sx_fd l1 b = some q → sx_dr tau d v → (∃ z, v = .int z) ∧ sx_dr tau q v) ∧ (sx_sens t1 b = true → sx_sens t0 a = true) := by
  unfold sx_cpc at hc
  split at hc
  · rename_i q u hf
    split at hc
    · rename_i lo hi cs hu
      obtain ⟨u1, u2, -⟩ := h u _ hu
      dsimp only at u1 u2
      have hk := sx_cpn_ok hc (r u - lo).toNat (by omega)
      have e : r u = lo + ((r u - lo).toNat : Int) := by omega
      exact sx_cp1_ok h (by rw [sx_sb_ev e]; exact ha) (by rw [sx_sb_ev e]; exact hb) hk
    · cases hc
  · exact sx_cp1_ok h ha hb hc
def sx_mac (P : sx_P) (m : Nat) (mods : List Nat) (S : sx_S) : Option (List sx_S) := match S with
  | (pc, ls, (0, i) :: (2, (t0, [(_, _)])) :: (0, j) :: (2, (t1, [(_, _)])) :: st, E, nr, C) => match mj_ins m pc, mj_ins m (pc + 1) with
    | some .iaload, some .iastore => match sx_ty P t0, sx_ty P t1 with
      | some (k0, len0, l0), some (k1, len1, l1) => if k0 = 1000 ∧ k1 = 1000 ∧ P.2.1 ≤ t1.toNat ∧ ¬ t1.toNat = sx_tg ∧ (sx_ge E i 0 && sx_le E i ((len0 : Int) - 1)) = true ∧ (sx_ge E j 0 && sx_le E j ((len1 : Int) - 1)) = true ∧ sx_kys E mods t1.toNat j = true ∧ sx_cpc E t0.toNat t1.toNat l0 l1 i j = true then
          some [(pc + 2, ls, st, E, nr, if t1.toNat = 21 then match sx_b E j with
            | some (lo, hi) => C.filter fun z => !(decide (20000 + lo ≤ (z.2.1 : Int)) && decide ((z.2.1 : Int) ≤ 20000 + hi))
            | none => []
            else C)]
        else none
      | _, _ => none
    | _, _ => none
  | _ => none
theorem sx_ef_aw {tau mods : List Nat} {h : mj_H} {b t kd : Nat} {vs ws : List Value} (hb : h[b]? = some (kd, vs)) (ht : tau[b]? = some t) (hk1 : ∀ key, key ∉ mods → sx_at tau b (kd, ws) key = sx_at tau b (kd, vs) key) (hk2 : 900 ≤ kd → 10000 + t ∉ mods → ∀ j, (t = 21 → 16 ≤ j) → ws[j]? = vs[j]?) (hw : ∀ B, sx_W tau h B → sx_W tau (h.set b (kd, ws)) B) : sx_ef tau mods h (h.set b (kd, ws)) := by
  have hlb := (List.getElem?_eq_some_iff.mp hb).1
  refine ⟨fun a ka us ha => ?_, fun a u ka us hu hka ha hm2 => ?_, fun _ B hW => hw B hW⟩
  · by_cases e : b = a
    · subst e
      rw [hb] at ha
      cases ha
      exact ⟨ws, List.getElem?_set_self hlb, hk1⟩
    · exact ⟨us, by rw [List.getElem?_set_ne e]; exact ha, fun _ _ => rfl⟩
  · by_cases e : b = a
    · subst e
      rw [hb] at ha
      cases ha
      rw [ht] at hu
      cases hu
      exact ⟨ws, List.getElem?_set_self hlb, hk2 hka hm2⟩
    · exact ⟨us, by rw [List.getElem?_set_ne e]; exact ha, fun _ _ => rfl⟩
theorem sx_mac_ok {P : sx_P} {m d : Nat} {mods : List Nat} {S : sx_S} {L : List sx_S} {r : Nat → Int} {g : Nat → Nat} {lv : mj_L} {st : List Value} {h : mj_H} (hp : sx_mac P m mods S = some L) (hg : sx_g P.1 P.2.1 P.2.2.1 r g S lv st h) : ∃ st' h', (∀ f v h2, mj_run f d m (S.1 + 2) lv st' h' = some (v, h2) → ∃ f', mj_run f' d m S.1 lv st h = some (v, h2)) ∧ h'.length = h.length ∧ sx_to P r g S.2.2.2.2.1 S.2.2.2.1.length mods h L (S.1 + 2) lv st' h' ∧ ∀ B, sx_W P.2.2.1 h B → sx_W P.2.2.1 h' B := by
  unfold sx_mac at hp
  split at hp
  · rename_i pc ls i t0 q0 a0 j t1 q1 a1 ss E nr C
    split at hp
    · rename_i hi1 hi2
      split at hp
      · rename_i k0 len0 l0 k1 len1 l1 hT0 hT1
        split at hp
        · rename_i hb
          obtain ⟨rfl, rfl, b1, b2, b3, b4, b5, b6⟩ := hb
          cases hp
          obtain ⟨hl, hs, hE, hC, hH⟩ := hg
          obtain ⟨v, u1, rfl, ⟨zi, rfl, hzi⟩, hs1⟩ := sx_sr1 hs
          obtain ⟨v, u2, rfl, ⟨rfl, ht0⟩, hs2⟩ := sx_sr1 hs1
          obtain ⟨v, u3, rfl, ⟨zj, rfl, hzj⟩, hs3⟩ := sx_sr1 hs2
          obtain ⟨v, u4, rfl, ⟨rfl, ht1⟩, hs4⟩ := sx_sr1 hs3
          obtain ⟨-, vs0, c1, c2, c3, -⟩ := sx_cell hH ht0 hT0
          obtain ⟨d0, vs1, d1, d2, d3, -⟩ := sx_cell hH ht1 hT1
          dsimp only at c1 c2 c3 d1 d2 d3
          obtain ⟨x1, x2, x3⟩ := sx_ixok hE hzi b3
          obtain ⟨y1, y2, y3⟩ := sx_ixok hE hzj b4
          have hlt0 : zi.toInt.toNat < vs0.length := by omega
          have hlt1 : zj.toInt.toNat < vs1.length := by omega
          have hv0 : vs0[zi.toInt.toNat]? = some vs0[zi.toInt.toNat] := List.getElem?_eq_getElem hlt0
          have hv1 : vs1[zj.toInt.toNat]? = some vs1[zj.toInt.toNat] := List.getElem?_eq_getElem hlt1
          obtain ⟨p0, p1, p2⟩ := c3 _ _ hv0
          obtain ⟨o0, o1, o2⟩ := d3 _ _ hv1
          obtain ⟨w1, w2⟩ := sx_cpc_ok hE x2 y2 b6
          obtain ⟨⟨zv, hzv⟩, w3⟩ := w1 p0 o0 P.2.2.1 _ p1 o1 p2
          have hla := sx_lt_of d1
          obtain ⟨m1, m2, m3⟩ := sx_kys_ok (mods := mods) hE y2 b5
          rw [hzv] at hv0 w3
          refine ⟨u4, h.set (g a1) (1000, vs1.set zj.toInt.toNat (.int zv)), fun f v h2 q => ⟨f + 2, ?_⟩, List.length_set .., ?_, ?_⟩
          · have e1 : mj_el h (g a0) 1000 zi = some (.int zv) := by
              unfold mj_el
              rw [c1]
              dsimp only
              rw [if_pos rfl, c2, x1]
              exact hv0
            have e2 : mj_es mj_n0 h (g a1) 1000 zj (.int zv) = some (h.set (g a1) (1000, vs1.set zj.toInt.toNat (.int zv))) := by
              unfold mj_es
              rw [d1]
              dsimp only
              rw [if_pos ⟨rfl, d0 b1⟩, d2, y1]
            dsimp only at q ⊢
            unfold mj_run
            rw [hi1]
            simp only [mj_end, mj_call, mj_st, e1, Option.map_some]
            unfold mj_run
            rw [hi2]
            simp only [mj_end, mj_call, mj_st, e2, Option.map_some]
            exact q
          · have hH' : sx_H P.1 P.2.1 P.2.2.1 (h.set (g a1) (1000, vs1.set zj.toInt.toNat (.int zv))) := by
              refine sx_H_set hH ht1 hT1 (by rw [List.length_set]; exact d2) hla (fun k w hw => ?_) (fun e => absurd e b2)
              by_cases e : zj.toInt.toNat = k
              · subst e
                rw [List.getElem?_set_self hlt1] at hw
                cases hw
                exact ⟨o0, o1, w3⟩
              · rw [List.getElem?_set_ne e] at hw
                exact d3 k w hw
            have hW' : ∀ B, sx_W P.2.2.1 h B → sx_W P.2.2.1 (h.set (g a1) (1000, vs1.set zj.toInt.toNat (.int zv))) B := by
              intro B hW b u kb us k z h1 h2 h3 h4
              by_cases e : g a1 = b
              · subst e
                rw [ht1] at h1
                cases h1
                rw [List.getElem?_set_self hla] at h2
                cases h2
                by_cases e2 : zj.toInt.toNat = k
                · subst e2
                  rw [List.getElem?_set_self hlt1] at h4
                  cases h4
                  exact hW (g a0) _ _ vs0 _ zv ht0 c1 (w2 h3) hv0
                · rw [List.getElem?_set_ne e2] at h4
                  exact hW (g a1) _ _ vs1 k z ht1 d1 h3 h4
              · rw [List.getElem?_set_ne e] at h2
                exact hW b u kb us k z h1 h2 h3 h4
            have hef : sx_ef P.2.2.1 mods h (h.set (g a1) (1000, vs1.set zj.toInt.toNat (.int zv))) := by
              refine sx_ef_aw d1 ht1 (fun key hk => sx_at_as (by omega) (fun e1 e2 e3 => hk ?_)) (fun _ hn k hk => ?_) hW'
              · rw [ht1] at e1
                rw [e3]
                exact m1 (Option.some.inj e1) (by omega)
              · refine List.getElem?_set_ne (fun e => hn ?_)
                subst e
                by_cases h21 : t1.toNat = 21
                · exact m2 h21 (hk h21)
                · exact m3 h21
            refine ⟨_, List.mem_cons_self, r, g, rfl, ⟨hl, hs4, hE, fun u hu => ?_, hH'⟩, fun _ _ => rfl, Nat.le_refl _, fun _ _ => rfl, Nat.le_refl _, hef⟩
            have old : u ∈ C → (t1.toNat = 21 → u.2.1 < 20016 → u.2.1 ≠ 20000 + zj.toInt.toNat) → ∃ (kd' : Nat) (vs' : List Value) (w : Value), (h.set (g a1) (1000, vs1.set zj.toInt.toNat (.int zv)))[g u.1]? = some (kd', vs') ∧ sx_at P.2.2.1 (g u.1) (kd', vs') u.2.1 = some w ∧ sx_vr r g P.2.2.1 u.2.2 w := by
              intro hu hne
              obtain ⟨kb, ws, w, e1, e3, e4⟩ := hC u hu
              by_cases e : g a1 = g u.1
              · rw [← e] at e1 e3 ⊢
                rw [d1] at e1
                cases e1
                exact ⟨1000, _, w, List.getElem?_set_self hla, by rw [sx_at_as (by omega) (fun q1 q2 => hne (by rw [ht1] at q1; exact Option.some.inj q1) q2)]; exact e3, e4⟩
              · exact ⟨kb, ws, w, by rw [List.getElem?_set_ne e]; exact e1, e3, e4⟩
            split at hu
            · rename_i h21
              split at hu
              · rename_i lo hi2 hb2
                have bz := sx_b_ok hE hb2
                obtain ⟨u1, u2⟩ := List.mem_filter.mp hu
                refine old u1 (fun _ _ e => ?_)
                rw [Bool.not_eq_true', Bool.and_eq_false_iff, decide_eq_false_iff_not, decide_eq_false_iff_not] at u2
                omega
              · cases hu
            · rename_i h21
              exact old hu (fun e => absurd e h21)
          · intro B hW b u kb us k z h1 h2 h3 h4
            by_cases e : g a1 = b
            · subst e
              rw [ht1] at h1
              cases h1
              rw [List.getElem?_set_self hla] at h2
              cases h2
              by_cases e2 : zj.toInt.toNat = k
              · subst e2
                rw [List.getElem?_set_self hlt1] at h4
                cases h4
                exact hW (g a0) _ _ vs0 _ zv ht0 c1 (w2 h3) hv0
              · rw [List.getElem?_set_ne e2] at h4
                exact hW (g a1) _ _ vs1 k z ht1 d1 h3 h4
            · rw [List.getElem?_set_ne e] at h2
              exact hW b u kb us k z h1 h2 h3 h4
        · cases hp
      · cases hp
    · cases hp
  · cases hp
