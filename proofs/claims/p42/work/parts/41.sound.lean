/-! calls, and the whole run -/
section MJX
variable {p : Program} {l : Launch} {e : Env} {R : Room} {s : State} {mm : MethodId} {args : Array Value} {below : List Frame} {meth : Method} {c : Code} {H : Heap} {locs : List Loc} {cells slots : Nat} {D : va_G} {pre : Nat → Nat} {base m pc : Nat} {y : MethodName} {b : ByteArray} {n o ci : Nat} {rt : Option FieldType} {ls : Array Slot} {h h1 : mj_H} {v : Option Value} {lv0 : mj_L}
theorem mj_Pc_at {as : List Value} (F : mj_Fr p R s mm args meth c D pre base m b n) (hR : mj_R D pre base s h H) (hS : va_S (fun q => base ≤ q) s.heap H locs) : ∀ U : State, U.heap = H → s.WarmedH U.vm → mj_Pc D pre base as h (as.map (mj_cv (mj_ad pre base))).toArray U := by
  intro U hU hW
  exact ⟨rfl, by rw [hU]; exact hR.moved hW.alike, F.2.2.2.2.2.1.warm hW, by rw [hU]; exact Nat.le_trans F.2.2.2.2.2.2.2.2.2 hS.1⟩
set_option maxHeartbeats 2000000 in
theorem mj_runs {d k : Nat} {i : Instr} {st as rs : List Value} (F : mj_Fr p R s mm args meth c D pre base m b n) (hme : mj_ms[m]? = some (y, b, n, rt, o, ci)) (hi : mj_ins m pc = some i) (hcall : mj_call m i st h = some (k, as, rs)) (hent : mj_ent (mj_nl k) as = some lv0) (hw : mj_Wk d k 0 lv0 [] h v h1) (hfr : d + 1 + 6 ≤ R.frames) (hlo : (d + 1) * 60 + 200 ≤ R.locals)
    (hR : mj_R D pre base s h H) (hS : va_S (fun q => base ≤ q) s.heap H locs) (hsz : ls.size = n) (hc : cells + (h1.length - h.length) ≤ R.cells) (hsl : slots + (mj_hsz h1 - mj_hsz h) ≤ R.slots) :
    ∃ a, va_Run p l e R s mm args below meth c H locs cells slots (h1.length - h.length) (mj_hsz h1 - mj_hsz h) (F0 mm pc ls (st.map (mj_cv (mj_ad pre base)))) (rs.map (mj_cv (mj_ad pre base))) (mj_Qc D pre base v h1 a) (fun q => base ≤ q) := by
  obtain ⟨hx, hb, hml, hown, hts, hK, hin, hfr0, hlo0, hbs⟩ := id F
  have main : ∀ {x kd nn : Nat}, mj_cal m x = some (kd, k, nn) → 1 ≤ kd → kd ≤ 4 → 1 ≤ k ∧ ∃ (yk : MethodName) (bk : ByteArray) (nk : Nat) (rk : Option FieldType) (ok ck : Nat), mj_ms[k]? = some (yk, bk, nk, rk, ok, ck) ∧ mj_y k = yk ∧ nk ≤ 30 ∧ (yk.cls ≠ "java/lang/invoke/MethodHandle" ∧ yk.cls ≠ "java/lang/invoke/VarHandle") ∧ (parseMethodDescriptor yk.desc).map (fun d => d.parameters.length) = some nn ∧ (kd = 2 → mj_cls k < mj_nc ∧ mj_nm (mj_cls k) = yk.cls) ∧ (3 ≤ kd → yk.name = "<init>") ∧ (kd = 4 → Cond.methodLinkNest (mj_own (mj_o m)) x yk "ForestOfPoles" ∈ mj_nw) ∧ (∀ w ∈ mj_cwd (mj_o m, x, kd, k, nn), w.before args s = true) := by
    intro x kd nn hcal h1 h4
    have hmem := mj_cal_inv hcal
    rcases mj_ctok _ hmem with z | z | ⟨z1, z2, z3, z4, z5, z6⟩
    · dsimp only at z; omega
    · dsimp only at z; omega
    · dsimp only at z1 z2 z3 z4 z5 z6
      obtain ⟨⟨yk, bk, nk, rk, ok, ck⟩, hk⟩ : ∃ q, mj_ms[k]? = some q := ⟨mj_ms[k], List.getElem?_eq_getElem z2⟩
      obtain ⟨ey, en, er⟩ := mj_y_of hk
      obtain ⟨t1, t2, t3, t4, t5⟩ := mj_msok k z2
      rw [ey] at z3 z4 z5 z6 t4
      rw [en] at t5
      exact ⟨z1, yk, bk, nk, rk, ok, ck, hk, ey, t5, t4, z3, z4, z5, z6, mj_cwm F hmem⟩
  have hroom : ∀ nk : Nat, nk ≤ 30 → (mj_rm d h h1).frames + 1 ≤ R.frames ∧ 8 + (nk + 11) + (mj_rm d h h1).locals ≤ R.locals := by
    intro nk hk
    refine ⟨by show d + 6 + 1 ≤ R.frames; omega, ?_⟩
    show 8 + (nk + 11) + (d * 60 + 200) ≤ R.locals
    omega
  cases i with
  | invokestatic x =>
    simp only [mj_call] at hcall
    split at hcall
    · rename_i c1 nn hcal
      split at hcall
      · rename_i hq
        cases hcall
        obtain ⟨z1, yk, bk, nk, rk, ok, ck, hk, ey, t5, t4, z3, z4, z5, z6, hww⟩ := main hcal (by omega) (by omega)
        have hM := mj_met z1 hk hent hw l D pre base
        have w1 : (Cond.methodLink (mj_own (mj_o m)) x yk).before args s = true := by have := hww _ List.mem_cons_self; rw [ey] at this; exact this
        have w2 : (Cond.static yk).before args s = true := by have := hww _ (List.mem_cons_of_mem _ List.mem_cons_self); rw [ey] at this; exact this
        have w3 : (Cond.initialized yk.cls).before args s = true := by have := hww _ (List.mem_cons_of_mem _ (List.mem_cons_of_mem _ List.mem_cons_self)); rw [ey] at this; exact this
        refine ⟨_, va_runS (Ts := mj_big) (own := mj_own (mj_o m)) (As := (st.take nn).reverse.map (mj_cv (mj_ad pre base))) ⟨hx, hb, hml, hown, hts⟩ hM ⟨callB_of nn hts (mj_gcb z1 hk) rfl rfl rfl w3 w1 ⟨t4.1, t4.2, z3⟩ (hroom nk t5), w2⟩ ⟨mj_Pc_blind, mj_Pc_at F hR hS⟩ rfl (by rw [List.length_map, List.length_reverse, List.length_take]; omega) hsz ?_ ?_ (mj_dn hme hi rfl) ⟨hc, hsl⟩⟩
        · show st.map _ = ((st.take nn).reverse.map _).reverse ++ (st.drop nn).map _
          rw [List.map_reverse, List.reverse_reverse, ← List.map_append, List.take_append_drop]
        · show 2 * 0 + _ ≤ 8
          rw [mj_catm]
          omega
      · cases hcall
    · cases hcall
  | invokevirtual x =>
    simp only [mj_call] at hcall
    split at hcall
    · rename_i c1 nn hcal
      split at hcall
      · rename_i bb r hdrop
        split at hcall
        · rename_i kk fs hbb
          split at hcall
          · rename_i hq
            cases hcall
            obtain ⟨z1, yk, bk, nk, rk, ok, ck, hk, ey, t5, t4, z3, z4, z5, z6, hww⟩ := main hcal (by omega) (by omega)
            have hM := mj_met z1 hk hent hw l D pre base
            obtain ⟨v1, v2⟩ := z4 rfl
            obtain ⟨hq1, hq2⟩ := hq
            subst hq1
            have w1 : (Cond.methodLink (mj_own (mj_o m)) x yk).before args s = true := by have := hww _ List.mem_cons_self; rw [ey] at this; exact this
            have w2 : (Cond.instanceMethod yk).before args s = true := by have := hww _ (List.mem_cons_of_mem _ List.mem_cons_self); rw [ey] at this; exact this
            have w3 : (Cond.selects yk.cls yk yk).before args s = true := by have := hww _ (List.mem_cons_of_mem _ (List.mem_cons_of_mem _ List.mem_cons_self)); rw [ey] at this; exact this
            have w4 : (Cond.initialized yk.cls).before args s = true := by have := hww _ (List.mem_cons_of_mem _ (List.mem_cons_of_mem _ (List.mem_cons_of_mem _ List.mem_cons_self))); rw [ey] at this; exact this
            have hlen : nn < st.length := by
              have := congrArg List.length hdrop
              rw [List.length_drop, List.length_cons] at this
              omega
            have hrecv : ∃ cellB : Cell, H[mj_ad pre base bb]? = some cellB ∧ cellB.vm.isStatics = false ∧ s.vm.findClass yk.cls = some cellB.cls := by
              obtain ⟨r', hr', cell, g1, g2, g3, -⟩ := (hR.2.2.2.1 bb _ hbb).1 (Nat.lt_trans v1 mj_nc9)
              refine ⟨cell, g1, by rw [g3]; rfl, ?_⟩
              rw [g2, ← v2]
              exact (hK.1.1 _ _ (mj_cl_get v1)).2.1
            refine ⟨_, va_runV (Ts := mj_big) (own := mj_own (mj_o m)) (C := yk.cls) (b := mj_ad pre base bb) (As := (st.take nn).reverse.map (mj_cv (mj_ad pre base))) ⟨hx, hb, hml, hown, hts⟩ hM ⟨callB_of nn hts (mj_gcb z1 hk) rfl rfl rfl w4 w1 ⟨t4.1, t4.2, z3⟩ (hroom nk t5), w2, w3⟩ ⟨mj_Pc_blind, hrecv, mj_Pc_at F hR hS⟩ rfl (by rw [List.length_map, List.length_reverse, List.length_take]; omega) hsz ?_ ?_ (mj_dn hme hi rfl) ⟨hc, hsl⟩⟩
            · show st.map _ = ((st.take nn).reverse.map _).reverse ++ (Value.ref (mj_ad pre base bb) :: rs.map _)
              rw [List.map_reverse, List.reverse_reverse]
              have : Value.ref (mj_ad pre base bb) :: rs.map (mj_cv (mj_ad pre base)) = (st.drop nn).map (mj_cv (mj_ad pre base)) := by rw [hdrop]; rfl
              rw [this, ← List.map_append, List.take_append_drop]
            · show 2 * 0 + _ ≤ 8
              rw [mj_catm]
              omega
          · cases hcall
        · cases hcall
      · cases hcall
    · cases hcall
  | invokespecial x =>
    simp only [mj_call] at hcall
    split at hcall
    · rename_i c1 nn hcal
      split at hcall
      · rename_i bb r hdrop
        split at hcall
        · rename_i hq
          cases hcall
          obtain ⟨z1, yk, bk, nk, rk, ok, ck, hk, ey, t5, t4, z3, z4, z5, z6, hww⟩ := main hcal (by omega) (by omega)
          have hrk : rk = none := by
            have := (mj_y_of hk).2.2
            rw [← this]
            exact mj_iret k (mj_ini_len hk) (by rw [ey]; exact z5 (by omega))
          subst hrk
          have hM := mj_met z1 hk hent hw l D pre base
          have w1 : (Cond.methodLink (mj_own (mj_o m)) x yk).before args s = true := by have := hww _ List.mem_cons_self; rw [ey] at this; exact this
          have w2 : (Cond.instanceMethod yk).before args s = true := by have := hww _ (List.mem_cons_of_mem _ List.mem_cons_self); rw [ey] at this; exact this
          have w4 : (Cond.initialized yk.cls).before args s = true := by have := hww _ (List.mem_cons_of_mem _ (List.mem_cons_of_mem _ List.mem_cons_self)); rw [ey] at this; exact this
          have hlen : nn < st.length := by
            have := congrArg List.length hdrop
            rw [List.length_drop, List.length_cons] at this
            omega
          refine ⟨_, va_runI (Ts := mj_big) (own := mj_own (mj_o m)) (b := mj_ad pre base bb) (As := (st.take nn).reverse.map (mj_cv (mj_ad pre base))) ⟨hx, hb, hml, hown, hts⟩ hM ⟨callB_of nn hts (mj_gcb z1 hk) rfl rfl rfl w4 w1 ⟨t4.1, t4.2, z3⟩ (hroom nk t5), z5 (by omega), w2⟩ ⟨mj_Pc_blind, mj_Pc_at F hR hS⟩ rfl (by rw [List.length_map, List.length_reverse, List.length_take]; omega) hsz ?_ ?_ (mj_dn hme hi rfl) ⟨hc, hsl⟩⟩
          · show st.map _ = ((st.take nn).reverse.map _).reverse ++ (Value.ref (mj_ad pre base bb) :: rs.map _)
            rw [List.map_reverse, List.reverse_reverse]
            have : Value.ref (mj_ad pre base bb) :: rs.map (mj_cv (mj_ad pre base)) = (st.drop nn).map (mj_cv (mj_ad pre base)) := by rw [hdrop]; rfl
            rw [this, ← List.map_append, List.take_append_drop]
          · show 2 * 0 + _ ≤ 8
            rw [mj_catm]
            omega
        · cases hcall
      · cases hcall
    · rename_i c1 nn hcal
      split at hcall
      · rename_i bb r hdrop
        split at hcall
        · rename_i hq
          cases hcall
          obtain ⟨z1, yk, bk, nk, rk, ok, ck, hk, ey, t5, t4, z3, z4, z5, z6, hww⟩ := main hcal (by omega) (by omega)
          have hrk : rk = none := by
            have := (mj_y_of hk).2.2
            rw [← this]
            exact mj_iret k (mj_ini_len hk) (by rw [ey]; exact z5 (by omega))
          subst hrk
          have hM := mj_met z1 hk hent hw l D pre base
          have w2 : (Cond.instanceMethod yk).before args s = true := by have := hww _ List.mem_cons_self; rw [ey] at this; exact this
          have w4 : (Cond.initialized yk.cls).before args s = true := by have := hww _ (List.mem_cons_of_mem _ List.mem_cons_self); rw [ey] at this; exact this
          have hlen : nn < st.length := by
            have := congrArg List.length hdrop
            rw [List.length_drop, List.length_cons] at this
            omega
          refine ⟨_, va_runIN (Ts := mj_big) (own := mj_own (mj_o m)) (b := mj_ad pre base bb) (As := (st.take nn).reverse.map (mj_cv (mj_ad pre base))) ⟨hx, hb, hml, hown, hts⟩ hM ⟨va_cnB nn hts (mj_gcb z1 hk) rfl rfl rfl (hK.2.1 _ (z6 rfl)) w4 ⟨t4.1, t4.2, z3⟩ (hroom nk t5), z5 (by omega), w2⟩ ⟨mj_Pc_blind, mj_Pc_at F hR hS⟩ rfl (by rw [List.length_map, List.length_reverse, List.length_take]; omega) hsz ?_ ?_ (mj_dn hme hi rfl) ⟨hc, hsl⟩⟩
          · show st.map _ = ((st.take nn).reverse.map _).reverse ++ (Value.ref (mj_ad pre base bb) :: rs.map _)
            rw [List.map_reverse, List.reverse_reverse]
            have : Value.ref (mj_ad pre base bb) :: rs.map (mj_cv (mj_ad pre base)) = (st.drop nn).map (mj_cv (mj_ad pre base)) := by rw [hdrop]; rfl
            rw [this, ← List.map_append, List.take_append_drop]
          · show 2 * 0 + _ ≤ 8
            rw [mj_catm]
            omega
        · cases hcall
      · cases hcall
    · cases hcall
  | _ => cases hcall
end MJX
theorem mj_sound : ∀ (f d m pc : Nat) (lv : mj_L) (st : List Value) (h : mj_H) (r : Option Value) (h' : mj_H), mj_run f d m pc lv st h = some (r, h') → h.length ≤ h'.length ∧ mj_hsz h ≤ mj_hsz h' ∧ mj_Wk d m pc lv st h r h' := by
  intro f
  induction f with
  | zero => intro d m pc lv st h r h' hr; cases hr
  | succ f ih =>
    intro d m pc lv st h r h' hr
    rw [mj_run] at hr
    cases hins : mj_ins m pc with
    | none => rw [hins] at hr; cases hr
    | some i =>
      rw [hins] at hr
      dsimp only at hr
      cases hend : mj_end m i st with
      | some r0 =>
        rw [hend] at hr
        cases hr
        refine ⟨Nat.le_refl _, Nat.le_refl _, ?_⟩
        intro l D pre base y b n rt o ci hme p e R s mm args below meth c Q H locs ls cells slots F hfr hlo hR hS hl hc hsl hE
        exact mj_cs rfl rfl (hE H locs ls pc i st hins hend hR hS)
      | none =>
        rw [hend] at hr
        dsimp only at hr
        cases hcall : mj_call m i st h with
        | some q =>
          obtain ⟨k, as, rs⟩ := q
          rw [hcall] at hr
          dsimp only at hr
          cases d with
          | zero => cases hr
          | succ d =>
            dsimp only at hr
            cases hent : mj_ent (mj_nl k) as with
            | none => rw [hent] at hr; cases hr
            | some lv0 =>
              rw [hent] at hr
              dsimp only at hr
              cases hr1 : mj_run f d k 0 lv0 [] h with
              | none => rw [hr1] at hr; cases hr
              | some q =>
                obtain ⟨v, h1⟩ := q
                rw [hr1] at hr
                dsimp only at hr
                obtain ⟨m1, m2, w1⟩ := ih d k 0 lv0 [] h v h1 hr1
                obtain ⟨m3, m4, w2⟩ := ih (d + 1) m (pc + 3) lv (v.toList ++ rs) h1 r h' hr
                refine ⟨Nat.le_trans m1 m3, Nat.le_trans m2 m4, ?_⟩
                intro l D pre base y b n rt o ci hme p e R s mm args below meth c Q H locs ls cells slots F hfr hlo hR hS hl hc hsl hE
                obtain ⟨a, hrun⟩ := mj_runs (l := l) (e := e) (below := below) (cells := cells) (slots := slots) F hme hins hcall hent w1 hfr hlo hR hS hl.1 (by omega) (by omega)
                refine mj_callW hrun hS (fun H1 locs1 hR1 hS1 => ?_)
                have e1 : cells + (h1.length - h.length) + (h'.length - h1.length) = cells + (h'.length - h.length) := by omega
                have e2 : slots + (mj_hsz h1 - mj_hsz h) + (mj_hsz h' - mj_hsz h1) = slots + (mj_hsz h' - mj_hsz h) := by omega
                have K := w2 l D pre base y b n rt o ci hme p e R s mm args below meth c Q H1 locs1 ls (cells + (h1.length - h.length)) (slots + (mj_hsz h1 - mj_hsz h)) F hfr hlo hR1 hS1 hl (by rw [e1]; exact hc) (by rw [e2]; exact hsl) (by rw [e1, e2]; exact hE)
                rw [List.map_append] at K
                cases v with
                | none => exact K
                | some v => exact K
        | none =>
          rw [hcall] at hr
          dsimp only at hr
          cases hst : mj_st m pc i lv st h with
          | none => rw [hst] at hr; cases hr
          | some q =>
            obtain ⟨pc', lv', st', h1⟩ := q
            rw [hst] at hr
            dsimp only at hr
            obtain ⟨m1, m2⟩ := mj_mono hst
            obtain ⟨m3, m4, w2⟩ := ih d m pc' lv' st' h1 r h' hr
            refine ⟨Nat.le_trans m1 m3, Nat.le_trans m2 m4, ?_⟩
            intro l D pre base y b n rt o ci hme p e R s mm args below meth c Q H locs ls cells slots F hfr hlo hR hS hl hc hsl hE
            have e1 : cells + (h1.length - h.length) + (h'.length - h1.length) = cells + (h'.length - h.length) := by omega
            have e2 : slots + (mj_hsz h1 - mj_hsz h) + (mj_hsz h' - mj_hsz h1) = slots + (mj_hsz h' - mj_hsz h) := by omega
            refine mj_step F hme hins hst hR hS hl (by omega) (by omega) (fun H' locs' ls' r1 r2 r3 => ?_)
            exact w2 l D pre base y b n rt o ci hme p e R s mm args below meth c Q H' locs' ls' _ _ F hfr hlo r1 r2 r3 (by rw [e1]; exact hc) (by rw [e2]; exact hsl) (by rw [e1, e2]; exact hE)
