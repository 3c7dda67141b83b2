theorem mj_m0 : mj_ms[0]? = some (x, code, 4, ret, 0, 0) ∧ mj_own (mj_o 0) = R_law ∧ mj_ini 0 = 0 := by
  refine ⟨rfl, rfl, rfl⟩
theorem mj_vT {ty : FieldType} {t N : Nat} {f : Nat → Value} {A : Nat → Prop} {U : State} {H : Heap} (h : va_T ty t N f A U H) (ad : Nat → Nat) {vs : List Value} (hN : vs.length = N) (hv : ∀ (j : Nat) (v : Value), vs[j]? = some v → f j = mj_cv ad v) : mj_wa ad ty vs t U H := by
  obtain ⟨cell, h1, h2, h3, h4, h5, h6, h7⟩ := h
  refine ⟨cell, h1, h2, h3, by rw [hN]; exact h4, by rw [hN]; exact h5, fun j v hj => ?_⟩
  have hlt : j < vs.length := (List.getElem?_eq_some_iff.mp hj).1
  rw [h6 j (by rw [← hN]; exact hlt), hv j v hj]
set_option maxHeartbeats 4000000 in
theorem mj_start {p : Program} {e : Env} {s : State} {m : MethodId} {below : List Frame} {meth : Method} {c : Code} (l : Launch) {b L : Nat} {xs : Nat → Int32} (hok : mj_Ok xs L) (C0 : lw_At p s m meth c b L xs) : W p l e room_1 s m #[Value.ref b] below meth c s.heap [] 0 0 (lw_Z below #[Value.ref b] s) (entryFrame m ([Value.ref b] : List Value).toArray 4) := by
  obtain ⟨hx, hb, hr, hml, hown, hts, hX, hbl, hlocks, hgv⟩ := C0
  obtain ⟨f, d, h', hd, hrun, hcl, hsl⟩ := hok
  have hfl : ∀ w ∈ mj_fl, w.before #[Value.ref b] s = true := flat_of_before _ hgv
  have hA : ∀ a : Nat, a < s.heap.size → ¬ (fun q : Nat => s.heap.size ≤ q) a := fun a h q => by dsimp only at q; omega
  -- the classes
  have hD : ∀ k : Nat, ∃ q : ClassId × (Nat → Nat), k < mj_nc → u_Kn s (mj_nm k) (mj_T k) (mj_N k) q.1 q.2 := by
    intro k
    by_cases hk : k < mj_nc
    · obtain ⟨cC, iS, hKn⟩ := u_known hts (fun w hw => (mj_g_big w (mj_lw_in hk w hw)).1) (hts _ (mj_f7.2.2 k hk))
      exact ⟨(cC, iS), fun _ => hKn⟩
    · exact ⟨(0, fun _ => 0), fun h => absurd h hk⟩
  obtain ⟨Dq, hDq⟩ := Classical.axiomOfChoice hD
  -- the static arrays
  have hT : ∀ k : Nat, ∃ t : Nat, k < mj_sv.length → (mj_stT k).eval #[Value.ref b] s none [] s = some (.ref t) ∧ va_T .int t (mj_sv.getD k []).length (fun j => .int ((mj_sv.getD k []).getD j 0)) (fun q : Nat => s.heap.size ≤ q) s s.heap := by
    intro k
    by_cases hk : k < mj_sv.length
    · obtain ⟨g1, g2, g3⟩ := mj_f1 k hk
      obtain ⟨t, z1, z2⟩ := va_Tof (tm := mj_stT k) (ty := .int) (f := fun j => .int ((mj_sv.getD k []).getD j 0)) (A := fun q : Nat => s.heap.size ≤ q) g3 (hfl _ g1) (va_eqt (hfl _ g2)) (fun j hj => va_eqt (hfl _ (mj_f2 k hk j hj))) hA
      exact ⟨t, fun _ => ⟨z1, z2⟩⟩
    · exact ⟨0, fun h => absurd h hk⟩
  obtain ⟨tq, htq⟩ := Classical.axiomOfChoice hT
  -- the String constant
  obtain ⟨s1, s2, s3, s4, s5, s6, s7⟩ := mj_f5
  obtain ⟨adK, adV, hSt, hStE⟩ := vk_Sof (N := 1) (tm := fun _ => mj_sT) (len := [mj_b0.length]) (byt := [mj_b0]) (A := fun q : Nat => s.heap.size ≤ q)
    (fun i hi => by rw [show i = 0 by omega]; exact s5) (fun i hi => hfl _ s1) (fun i hi => hfl _ s2) (fun i hi => hfl _ s3) (fun i hi => by rw [show i = 0 by omega]; exact hfl _ s4)
    (fun i hi j hj => by
      have e0 : i = 0 := by omega
      subst e0
      exact hfl _ (mj_f6 j hj)) (fun i j hi hj hne => absurd (by omega) hne) hA
  -- the addresses
  obtain ⟨l1, l2, l3, l4⟩ := mj_svl
  let pre : Nat → Nat := fun k => if k = 0 then b else if k < 1 + mj_sv.length then tq (k - 1) else adK 0
  have hp0 : pre 0 = b := rfl
  have hp1 : ∀ k, k < mj_sv.length → pre (k + 1) = tq k := by
    intro k hk
    show (if k + 1 = 0 then b else if k + 1 < 1 + mj_sv.length then tq (k + 1 - 1) else adK 0) = tq k
    rw [if_neg (by omega), if_pos (by omega), Nat.add_sub_cancel]
  have hp2 : pre (1 + mj_sv.length) = adK 0 := by
    show (if 1 + mj_sv.length = 0 then b else if 1 + mj_sv.length < 1 + mj_sv.length then tq (1 + mj_sv.length - 1) else adK 0) = adK 0
    rw [if_neg (by omega), if_neg (by omega)]
  have hpre : ∀ k, k < mj_n0 → pre k < s.heap.size := by
    intro k hk
    by_cases e0 : k = 0
    · rw [e0, hp0]; exact hbl
    · by_cases e1 : k < 1 + mj_sv.length
      · obtain ⟨cell, g1, -⟩ := (htq (k - 1) (by omega)).2
        have := hp1 (k - 1) (by omega)
        rw [show k - 1 + 1 = k by omega] at this
        rw [this]
        exact (Array.getElem?_eq_some_iff.mp g1).1
      · have : k = 1 + mj_sv.length := by omega
        rw [this, hp2]
        obtain ⟨cell, g1, -⟩ := (hSt.1 0 (by decide)).1
        exact (Array.getElem?_eq_some_iff.mp g1).1
  have hlen0 : (mj_h0 xs L).length = mj_n0 := by
    unfold mj_h0
    rw [List.length_cons, List.length_append, List.length_map, List.length_map, l2]
    omega
  have hR : mj_R (fun k => (Dq k).1, fun k => (Dq k).2) pre s.heap.size s (mj_h0 xs L) s.heap := by
    refine ⟨by rw [hlen0]; exact Nat.le_refl _, by rw [hlen0]; omega, hpre, fun k q hq => ?_, fun k q hk hq _ => ?_, fun k hk => ?_, ?_, ?_⟩
    · have hk : k < mj_n0 := by rw [← hlen0]; exact (List.getElem?_eq_some_iff.mp hq).1
      rw [mj_ad_old hk]
      unfold mj_h0 at hq
      cases k with
      | zero =>
        cases hq
        refine ⟨fun z => absurd z (by dsimp only; omega), fun z => absurd z (by dsimp only; omega), fun _ => ?_⟩
        obtain ⟨scr, g1, g2, g3, g4, g5⟩ := hX
        refine ⟨scr, g1, g2, g3, ?_, ?_, fun j v hj => ?_⟩
        · dsimp only
          rw [List.length_map, List.length_range, g4]
          exact Nat.le_refl _
        · dsimp only
          rw [List.length_map, List.length_range, g4]
        · dsimp only at hj
          rw [List.getElem?_map] at hj
          cases hjr : (List.range L)[j]? with
          | none => rw [hjr] at hj; cases hj
          | some z =>
            rw [hjr] at hj
            cases hj
            have hz := List.getElem?_eq_some_iff.mp hjr
            obtain ⟨hz1, hz2⟩ := hz
            rw [List.getElem_range] at hz2
            subst hz2
            rw [List.length_range] at hz1
            exact g5 j hz1
      | succ k =>
        rw [List.getElem?_cons_succ] at hq
        by_cases e1 : k < mj_sv.length
        · rw [List.getElem?_append_left (by rw [List.length_map]; exact e1), List.getElem?_map, List.getElem?_eq_getElem e1] at hq
          cases hq
          refine ⟨fun z => absurd z (by dsimp only; omega), fun z => absurd z (by dsimp only; omega), fun _ => ?_⟩
          rw [hp1 k e1]
          have hg : mj_sv.getD k [] = mj_sv[k] := by rw [List.getD_eq_getElem?_getD, List.getElem?_eq_getElem e1]; rfl
          have hv := (htq k e1).2
          rw [hg] at hv
          refine mj_vT hv _ (by dsimp only; rw [List.length_map]) (fun j v hj => ?_)
          dsimp only at hj
          rw [List.getElem?_map] at hj
          cases hjr : mj_sv[k][j]? with
          | none => rw [hjr] at hj; cases hj
          | some z =>
            rw [hjr] at hj
            cases hj
            rw [List.getD_eq_getElem?_getD, hjr]
            rfl
        · have e2 : k = mj_sv.length := by omega
          subst e2
          rw [List.getElem?_append_right (by rw [List.length_map]; exact Nat.le_refl _), List.length_map, Nat.sub_self, List.getElem?_map] at hq
          have hg : mj_tb[0]? = some mj_b0 := rfl
          rw [hg] at hq
          cases hq
          refine ⟨fun z => absurd z (by dsimp only; omega), fun _ => ?_, fun z => absurd z (by dsimp only; omega)⟩
          rw [Nat.add_comm, hp2]
          refine ⟨mj_b0, adV, rfl, s6, ⟨fun i hi => ?_, fun i j hi hj _ => by omega⟩⟩
          have e0 : i = 0 := by omega
          subst e0
          exact hSt.1 0 (by decide)
    · exfalso
      have := (List.getElem?_eq_some_iff.mp hq).1
      omega
    · obtain ⟨g1, g2⟩ := mj_f3 k hk
      have hkv : k < mj_sv.length := by omega
      rw [hp1 k hkv]
      exact va_Zof (hts _ g1) (hts _ g2) (htq k hkv).1 hA
    · obtain ⟨⟨g1, g2, g3⟩, -⟩ := mj_f4
      exact va_Zof (hts _ g1) (hts _ g2) (va_eqi (hfl _ g3)) hA
    · obtain ⟨-, ⟨g1, g2, g3⟩⟩ := mj_f4
      exact va_Zqof (hts _ g1) (hts _ g2) (hfl _ g3) hA
  have hK : mj_K (fun k => (Dq k).1, fun k => (Dq k).2) pre s := by
    refine ⟨⟨fun k q hq => ?_, fun k q hq => by cases hq⟩, fun w hw => ?_, fun C hC => va_AO.of (hts _ (mj_f7.2.1 C hC)), fun j t ht => ?_⟩
    · have hk : k < mj_nc := by
        have := (List.getElem?_eq_some_iff.mp hq).1
        unfold mj_cl at this
        rw [List.length_map, List.length_range] at this
        exact this
      rw [mj_cl_get hk] at hq
      cases hq
      exact hDq k hk
    · obtain ⟨a1, a2, a3, a4, rfl⟩ := mj_nwok w hw
      exact va_Nw.of rfl (hts _ (mj_f7.1 _ hw))
    · have hj : j < mj_tx.length := (List.getElem?_eq_some_iff.mp ht).1
      have e0 : j = 0 := by omega
      subst e0
      have e1 : t = mj_t0 := (Option.some.inj ht).symm
      subst e1
      have hpp := hp2
      rw [l1] at hpp
      rw [Nat.add_zero, hpp]
      exact vk_R.of (hts _ s7) (hStE 0 (by decide))
  obtain ⟨m1, m2, m3⟩ := mj_m0
  have F : mj_Fr p room_1 s m #[Value.ref b] meth c (fun k => (Dq k).1, fun k => (Dq k).2) pre s.heap.size 0 code 4 :=
    ⟨hx, hb, hml, by rw [m2]; exact hown, fun w hw => hts w (mj_g_big w hw).1, hK, fun hi => absurd m3 hi, Nat.le_of_ble_eq_true rfl, Nat.le_of_ble_eq_true rfl, Nat.le_refl _⟩
  obtain ⟨-, -, hW⟩ := mj_sound f d 0 0 mj_lv0 [] (mj_h0 xs L) (some (.int 1)) h' hrun
  rw [lg_entry_eq]
  have hent : mj_ent 4 [Value.ref 0] = some mj_lv0 := rfl
  have hlr := mj_ent_lr (ad := mj_ad pre s.heap.size) hent
  have had0 : mj_ad pre s.heap.size 0 = b := by rw [mj_ad_old (by rw [l2]; omega)]; exact hp0
  have hargs : ([Value.ref 0] : List Value).map (mj_cv (mj_ad pre s.heap.size)) = [Value.ref b] := by
    show [Value.ref (mj_ad pre s.heap.size 0)] = _
    rw [had0]
  rw [hargs] at hlr
  refine hW l (fun k => (Dq k).1, fun k => (Dq k).2) pre s.heap.size x code 4 ret 0 0 m1 p e room_1 s m #[Value.ref b] below meth c _ s.heap [] _ 0 0 F (by show d + 6 ≤ 2048; omega) (by show d * 60 + 200 ≤ 84000; omega) hR va_S.rf hlr (by rw [Nat.zero_add]; exact hcl) (by rw [Nat.zero_add]; exact hsl) ?_
  intro H' locs' ls' pc' i st' hi he hR' hS'
  rw [Nat.zero_add, Nat.zero_add]
  unfold mj_end at he
  split at he
  · split at he <;> cases he
  · split at he
    · split at he
      · cases he
        refine va_forget (fun q hq => hS'.2.2 q hq) ?_
        refine W.widen (k := 600000) (n := 7302250) hcl hsl ?_
        exact lw_ret hx hb hr hlocks (mj_dn m1 hi rfl)
      · cases he
    · cases he
  · split at he <;> cases he
  · split at he <;> cases he
  · cases he
