/-! shown by hand: the reference's copy of its state -/
set_option maxRecDepth 100000 in
theorem cp_i : mj_ins 169 0 = some (.iconst 0) ∧ mj_ins 169 1 = some (.istore_n 2) ∧ mj_ins 169 2 = some (.iload_n 2) ∧ mj_ins 169 3 = some (.sipush 6044) ∧ mj_ins 169 6 = some (.if_icmp .ge 15) ∧ mj_ins 169 9 = some (.aload_n 1) ∧ mj_ins 169 10 = some (.iload_n 2) ∧ mj_ins 169 11 = some (.aload_n 0) ∧ mj_ins 169 12 = some (.iload_n 2) ∧ mj_ins 169 13 = some .iaload ∧ mj_ins 169 14 = some .iastore ∧ mj_ins 169 15 = some (.iinc 2 1) ∧ mj_ins 169 18 = some (.goto (-16)) ∧ mj_ins 169 21 = some .return_ ∧ mj_ret 169 = none ∧ mj_nl 169 = 3 := by decide +kernel
theorem cp_z : (sx_y21.2.2.all fun r => r.2.2.all fun d => d.1 == 0) = true := by decide +kernel
theorem cp_int {k : Nat} {d : sx_D} (h : sx_fd sx_y21.2.2 k = some d) : d.1 = 0 := by
  unfold sx_fd at h
  split at h
  · rename_i s n ds hf
    have h1 := List.all_eq_true.mp cp_z _ (List.mem_of_find?_eq_some hf)
    exact beq_iff_eq.mp (List.all_eq_true.mp h1 d (List.mem_of_getElem? h))
  · cases h
def cp_I (h0 h : mj_H) : Prop := sx_H sx_TT 20 sx_tau h ∧ sx_ef sx_tau sx_K169.2.2.2 h0 h ∧ h.length = h0.length
theorem cp_ix {k n : Nat} (hk : k < n) (hn : n ≤ 100000) : mj_ix (Int32.ofInt (k : Int)) n = some k := by
  have e : (Int32.ofInt (k : Int)).toInt = (k : Int) := Int32.toInt_ofInt_of_le (by omega) (by omega)
  unfold mj_ix
  rw [e, if_pos (by omega)]
  rfl
theorem cp_loop {d : Nat} {h0 : mj_H} {a b : Nat} (ta : sx_tau[a]? = some 21) (tb : sx_tau[b]? = some 21) : ∀ (n k : Nat) (h : mj_H), k + n = 6044 → cp_I h0 h → ∃ f h', mj_run f d 169 2 [some (.ref a), some (.ref b), some (.int (Int32.ofInt (k : Int)))] [] h = some (none, h') ∧ cp_I h0 h' := by
  obtain ⟨i0, i1, i2, i3, i6, i9, i10, i11, i12, i13, i14, i15, i18, i21, hr, hnl⟩ := cp_i
  have e6044 : (Int16.ofInt 6044).toInt32 = Int32.ofInt 6044 := by decide
  have ti : ∀ x : Nat, x ≤ 100000 → (Int32.ofInt (x : Int)).toInt = (x : Int) := fun x hx => Int32.toInt_ofInt_of_le (by omega) (by omega)
  intro n
  induction n with
  | zero =>
    intro k h hk I
    have hk : k = 6044 := by omega
    subst hk
    refine ⟨4, h, ?_, I⟩
    refine mj_run_s i2 rfl rfl rfl ?_
    refine mj_run_s i3 rfl rfl rfl ?_
    refine mj_run_s (pc' := 21) (lv' := [some (.ref a), some (.ref b), some (.int (Int32.ofInt ((6044 : Nat) : Int)))]) (st' := []) (h' := h) i6 rfl rfl rfl ?_
    unfold mj_run
    rw [i21]
    simp only [mj_end, hr]
  | succ n ih =>
    intro k h hk I
    obtain ⟨hH, hef, hln⟩ := I
    obtain ⟨-, us, u1, u2, u3, -⟩ := hH a 21 sx_y21 ta rfl
    obtain ⟨n0, ws, w1, w2, w3, -⟩ := hH b 21 sx_y21 tb rfl
    have u1 : h[a]? = some (1000, us) := u1
    have w1 : h[b]? = some (1000, ws) := w1
    have u2 : us.length = 6044 := u2
    have w2 : ws.length = 6044 := w2
    have hv : us[k]? = some us[k] := List.getElem?_eq_getElem (by omega)
    obtain ⟨dd, d1, d2⟩ := u3 _ _ hv
    obtain ⟨d0, lo, hi⟩ := dd
    have d0e : d0 = 0 := cp_int d1
    subst d0e
    obtain ⟨z, ez, z1, z2⟩ := d2
    rw [ez] at hv
    have hlb := sx_lt_of w1
    have hel : mj_el h a 1000 (Int32.ofInt (k : Int)) = some (.int z) := by
      unfold mj_el
      rw [u1]
      dsimp only
      rw [if_pos rfl, cp_ix (by omega) (by omega)]
      exact hv
    have hes : mj_es mj_n0 h b 1000 (Int32.ofInt (k : Int)) (.int z) = some (h.set b (1000, ws.set k (.int z))) := by
      unfold mj_es
      rw [w1]
      dsimp only
      rw [if_pos ⟨rfl, n0 (by decide)⟩, cp_ix (by omega) (by omega)]
    have I2 : cp_I h0 (h.set b (1000, ws.set k (.int z))) := by
      refine ⟨?_, sx_ef_tr hef ?_, by rw [List.length_set]; exact hln⟩
      · refine sx_H_set (P := sx_PP) hH tb (t := 21) (kd := sx_y21.1) (len := sx_y21.2.1) (l := sx_y21.2.2) rfl (by rw [List.length_set]; exact w2) hlb (fun j w hw => ?_) (fun e => by cases e)
        by_cases e : k = j
        · subst e
          rw [List.getElem?_set_self (by omega)] at hw
          cases hw
          exact ⟨(0, lo, hi), d1, z, rfl, z1, z2⟩
        · rw [List.getElem?_set_ne e] at hw
          exact w3 j w hw
      · refine sx_ef_ax (t := 21) w1 tb (fun key hkey => sx_at_as (by decide) (fun _ q e => hkey ?_)) (fun _ q => absurd (by decide) q) (fun _ B hW => ?_)
        · rw [e]
          have hk16 : k < 16 := by omega
          have key : ∀ j, j < 16 → 20000 + j ∈ sx_K169.2.2.2 := by decide
          exact key k hk16
        · intro c t kc vs j y h1 h2 h3 h4
          by_cases e : b = c
          · subst e
            rw [List.getElem?_set_self hlb] at h2
            cases h2
            by_cases e2 : k = j
            · subst e2
              rw [List.getElem?_set_self (by omega)] at h4
              cases h4
              rw [tb] at h1
              cases h1
              exact hW a 21 1000 us k z ta u1 h3 hv
            · rw [List.getElem?_set_ne e2] at h4
              exact hW b t 1000 ws j y h1 w1 h3 h4
          · rw [List.getElem?_set_ne e] at h2
            exact hW c t kc vs j y h1 h2 h3 h4
    obtain ⟨f, h', r1, r2⟩ := ih (k + 1) _ (by omega) I2
    refine ⟨f + 11, h', ?_, r2⟩
    have hcmp : mj_cmp .ge (Int32.ofInt (k : Int)) (Int16.ofInt 6044).toInt32 = false := by
      rw [e6044]
      refine decide_eq_false (fun q => ?_)
      have := Int32.le_iff_toInt_le.mp q
      rw [ti k (by omega), show (Int32.ofInt 6044).toInt = 6044 from by decide] at this
      omega
    refine mj_run_s i2 rfl rfl rfl ?_
    refine mj_run_s i3 rfl rfl rfl ?_
    refine mj_run_s (pc' := 9) (lv' := [some (.ref a), some (.ref b), some (.int (Int32.ofInt (k : Int)))]) (st' := []) (h' := h) i6 rfl rfl (show some ((if mj_cmp .ge (Int32.ofInt (k : Int)) (Int16.ofInt 6044).toInt32 = true then 21 else 9), [some (Value.ref a), some (Value.ref b), some (Value.int (Int32.ofInt (k : Int)))], ([] : List Value), h) = _ by rw [hcmp]; rfl) ?_
    refine mj_run_s i9 rfl rfl rfl ?_
    refine mj_run_s i10 rfl rfl rfl ?_
    refine mj_run_s i11 rfl rfl rfl ?_
    refine mj_run_s i12 rfl rfl rfl ?_
    refine mj_run_s i13 rfl rfl (by simp only [mj_st, hel, Option.map_some]; rfl) ?_
    refine mj_run_s i14 rfl rfl (by simp only [mj_st, hes, Option.map_some]; rfl) ?_
    refine mj_run_s (pc' := 18) (lv' := [some (.ref a), some (.ref b), some (.int (Int32.ofInt ((k + 1 : Nat) : Int)))]) (st' := []) (h' := h.set b (1000, ws.set k (.int z))) i15 rfl rfl ?_ ?_
    · have e1 : Int32.ofInt ((k + 1 : Nat) : Int) = Int32.ofInt (k : Int) + Int32.ofInt 1 := by
        rw [← Int32.ofInt_add]
        rfl
      rw [e1]
      rfl
    refine mj_run_s (pc' := 2) i18 rfl rfl rfl ?_
    exact r1
theorem sx_M169 {d : Nat} (IH : sx_IH sx_PP d) : sx_M sx_PP d 169 sx_K169 := by
  intro vs h hH ha hd B hW hB
  match vs, ha with
  | [v0, v1], ⟨⟨a, e0, ta⟩, ⟨b, e1, tb⟩, _⟩ =>
  subst e0 e1
  obtain ⟨i0, i1, i2, i3, i6, i9, i10, i11, i12, i13, i14, i15, i18, i21, hr, hnl⟩ := cp_i
  have hc : sx_cost sx_K169.2.2.2 = 0 := by decide
  obtain ⟨f, h', r1, r2, r3, r4⟩ := cp_loop (d := d) (h0 := h) (a := a) (b := b) ta tb 6044 0 h (by omega) ⟨hH, sx_ef_rf, rfl⟩
  refine ⟨[some (.ref a), some (.ref b), none], by unfold mj_ent; rw [hnl]; rfl, f + 2, none, h', ?_, r2, rfl, r3, r4, ?_⟩
  · refine mj_run_s i0 rfl rfl rfl ?_
    refine mj_run_s (pc' := 2) (lv' := [some (.ref a), some (.ref b), some (.int (Int32.ofInt 0))]) (st' := []) (h' := h) i1 rfl rfl rfl ?_
    exact r1
  · show sx_W sx_tau h' (B + sx_cost sx_K169.2.2.2)
    rw [hc, Int.natCast_zero, Int.add_zero]
    exact r3.2.2 (by decide) B hW
