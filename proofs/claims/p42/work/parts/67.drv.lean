/-! the driver: returns, calls, cuts -/
def sx_an (tau : List Nat) (o : Option sx_D) (v : Option Value) : Prop := match o with
  | none => v = none
  | some d => ∃ w, v = some w ∧ sx_dr tau d w
/-- a return that keeps the contract -/
def sx_ret (m : Nat) (o : Option sx_D) (i : Instr) (S : sx_S) : Bool := match i, S with
  | .return_, (_, _, [], _, _, _) => (mj_ret m).isNone && o.isNone
  | .ireturn, (_, _, [(0, x)], E, _, _) => match mj_ret m, o with
    | some ty, some d => sx_pf E ty 0 x && sx_cf E (0, x) d
    | _, _ => false
  | .lreturn, (_, _, [(1, x)], E, _, _) => match mj_ret m, o with
    | some .long, some d => sx_cf E (1, x) d
    | _, _ => false
  | .areturn, (_, _, [(2, (t, [(q, a)]))], E, _, _) => match mj_ret m, o with
    | some (.object _), some d => sx_cf E (2, (t, [(q, a)])) d
    | _, _ => false
  | _, _ => false
theorem sx_sr0 {r : Nat → Int} {g : Nat → Nat} {tau : List Nat} {st : List Value} (hs : sx_sr r g tau [] st) : st = [] := by
  cases st with
  | nil => rfl
  | cons v s => exact hs.elim
theorem sx_ret_ok {P : sx_P} {r : Nat → Int} {g : Nat → Nat} {lv : mj_L} {st : List Value} {h : mj_H} {S : sx_S} {m : Nat} {o : Option sx_D} {i : Instr} (hr : sx_ret m o i S = true) (hg : sx_g P.1 P.2.1 P.2.2.1 r g S lv st h) : ∃ v, mj_end m i st = some v ∧ sx_an P.2.2.1 o v := by
  unfold sx_ret at hr
  split at hr
  · obtain ⟨hl, hs, hE, hC, hH⟩ := hg
    rw [Bool.and_eq_true] at hr
    have e1 := Option.isNone_iff_eq_none.mp hr.1
    have e2 := Option.isNone_iff_eq_none.mp hr.2
    rw [sx_sr0 hs, e2]
    exact ⟨none, by simp only [mj_end, e1], rfl⟩
  · obtain ⟨hl, hs, hE, hC, hH⟩ := hg
    obtain ⟨v, t2, rfl, hv, hs2⟩ := sx_sr1 hs
    rw [sx_sr0 hs2]
    split at hr
    · rename_i ty d e1
      rw [Bool.and_eq_true] at hr
      have f1 := (sx_pf_ok hE hr.1 hv).1
      have f2 := sx_cf_ok hE hr.2 hv
      obtain ⟨z, rfl, hz⟩ := hv
      exact ⟨some (.int z), by simp only [mj_end, e1]; rw [if_pos f1], _, rfl, f2⟩
    · cases hr
  · obtain ⟨hl, hs, hE, hC, hH⟩ := hg
    obtain ⟨v, t2, rfl, hv, hs2⟩ := sx_sr1 hs
    rw [sx_sr0 hs2]
    split at hr
    · rename_i d e1
      have f2 := sx_cf_ok hE hr hv
      obtain ⟨z, rfl, hz⟩ := hv
      exact ⟨some (.long z), by simp only [mj_end, e1], _, rfl, f2⟩
    · cases hr
  · obtain ⟨hl, hs, hE, hC, hH⟩ := hg
    obtain ⟨v, t2, rfl, hv, hs2⟩ := sx_sr1 hs
    rw [sx_sr0 hs2]
    split at hr
    · rename_i n d e1
      have f2 := sx_cf_ok hE hr hv
      obtain ⟨rfl, hz⟩ := hv
      exact ⟨some (.ref _), by simp only [mj_end, e1], _, rfl, f2⟩
    · cases hr
  · cases hr
/-- a call of a method of ours: which, its arguments, what stays -/
def sx_cl (P : sx_P) (m : Nat) (i : Instr) (ss : List sx_A) : Option (Nat × List sx_A × List sx_A) := match i with
  | .invokestatic x => match mj_cal m x with
    | some (1, c, n) => if n ≤ ss.length ∧ sx_cat (ss.drop n) ≤ 8 then some (c, (ss.take n).reverse, ss.drop n) else none
    | _ => none
  | .invokevirtual x => match mj_cal m x with
    | some (2, c, n) => match ss.drop n with
      | (2, (t, [(q, a)])) :: s2 => match sx_ty P t with
        | some (kd, _, _) => if kd = mj_cls c ∧ sx_cat s2 ≤ 8 then some (c, (2, (t, [(q, a)])) :: (ss.take n).reverse, s2) else none
        | none => none
      | _ => none
    | _ => none
  | .invokespecial x => match mj_cal m x with
    | some (3, c, n) => match ss.drop n with
      | (2, (t, [(q, a)])) :: s2 => if sx_cat s2 ≤ 8 then some (c, (2, (t, [(q, a)])) :: (ss.take n).reverse, s2) else none
      | _ => none
    | some (4, c, n) => match ss.drop n with
      | (2, (t, [(q, a)])) :: s2 => if sx_cat s2 ≤ 8 then some (c, (2, (t, [(q, a)])) :: (ss.take n).reverse, s2) else none
      | _ => none
    | _ => none
  | _ => none
section SXC
variable {P : sx_P} {r : Nat → Int} {g : Nat → Nat} {h : mj_H}
theorem sx_sr_drop : ∀ {ss : List sx_A} {st : List Value} (n : Nat), sx_sr r g P.2.2.1 ss st → sx_sr r g P.2.2.1 (ss.drop n) (st.drop n)
  | _, _, 0, hs => hs
  | [], [], n + 1, _ => trivial
  | a :: l, v :: s, n + 1, hs => sx_sr_drop (ss := l) (st := s) n hs.2
  | [], _ :: _, _ + 1, hs => hs.elim
  | _ :: _, [], _ + 1, hs => hs.elim
theorem sx_sr_app : ∀ {s1 s2 : List sx_A} {t1 t2 : List Value}, sx_sr r g P.2.2.1 s1 t1 → sx_sr r g P.2.2.1 s2 t2 → sx_sr r g P.2.2.1 (s1 ++ s2) (t1 ++ t2)
  | [], _, [], _, _, h2 => h2
  | a :: l, _, v :: s, _, h1, h2 => ⟨h1.1, sx_sr_app h1.2 h2⟩
  | [], _, _ :: _, _, h1, _ => h1.elim
  | _ :: _, _, [], _, h1, _ => h1.elim
theorem sx_sr_tk : ∀ {ss : List sx_A} {st : List Value} (n : Nat), sx_sr r g P.2.2.1 ss st → sx_sr r g P.2.2.1 (ss.take n).reverse (st.take n).reverse
  | _, _, 0, _ => trivial
  | [], [], n + 1, _ => trivial
  | a :: l, v :: s, n + 1, hs => by
    rw [List.take_succ_cons, List.take_succ_cons, List.reverse_cons, List.reverse_cons]
    exact sx_sr_app (sx_sr_tk n hs.2) ⟨hs.1, trivial⟩
  | [], _ :: _, _ + 1, hs => hs.elim
  | _ :: _, [], _ + 1, hs => hs.elim
theorem sx_cl_ok {m : Nat} {i : Instr} {ss : List sx_A} {st : List Value} {c : Nat} {as s2 : List sx_A} (hc : sx_cl P m i ss = some (c, as, s2)) (hs : sx_sr r g P.2.2.1 ss st) (hH : sx_H P.1 P.2.1 P.2.2.1 h) : mj_end m i st = none ∧ ∃ vs t2, mj_call m i st h = some (c, vs, t2) ∧ sx_sr r g P.2.2.1 as vs ∧ sx_sr r g P.2.2.1 s2 t2 := by
  unfold sx_cl at hc
  split at hc
  · refine ⟨by simp only [mj_end], ?_⟩
    split at hc
    · rename_i x c n e
      split at hc
      · rename_i hb
        cases hc
        have hd := sx_sr_drop n hs
        refine ⟨_, _, ?_, sx_sr_tk n hs, hd⟩
        simp only [mj_call, e]
        rw [if_pos ⟨by rw [(sx_sr_len hs).2]; exact hb.1, by rw [(sx_sr_len hd).1]; exact hb.2⟩]
      · cases hc
    · cases hc
  · refine ⟨by simp only [mj_end], ?_⟩
    split at hc
    · rename_i x c n e
      split at hc
      · rename_i t q a s2 hdr
        have hd := sx_sr_drop n hs
        rw [hdr] at hd
        obtain ⟨v, t2, ev, ⟨rfl, ht⟩, hs2⟩ := sx_sr1 hd
        split at hc
        · rename_i kd len l hT
          split at hc
          · rename_i hb
            cases hc
            obtain ⟨-, vs, c1, -⟩ := sx_cell hH ht hT
            refine ⟨.ref (g a) :: (st.take n).reverse, t2, ?_, ⟨⟨rfl, ht⟩, sx_sr_tk n hs⟩, hs2⟩
            simp only [mj_call, e, ev, c1]
            rw [if_pos ⟨hb.1, by rw [(sx_sr_len hs2).1]; exact hb.2⟩]
          · cases hc
        · cases hc
      · cases hc
    · cases hc
  · refine ⟨by simp only [mj_end], ?_⟩
    split at hc
    · rename_i x c n e
      split at hc
      · rename_i t q a s2 hdr
        have hd := sx_sr_drop n hs
        rw [hdr] at hd
        obtain ⟨v, t2, ev, ⟨rfl, ht⟩, hs2⟩ := sx_sr1 hd
        split at hc
        · rename_i hb
          cases hc
          refine ⟨.ref (g a) :: (st.take n).reverse, t2, ?_, ⟨⟨rfl, ht⟩, sx_sr_tk n hs⟩, hs2⟩
          simp only [mj_call, e, ev]
          rw [if_pos (by rw [(sx_sr_len hs2).1]; exact hb)]
        · cases hc
      · cases hc
    · rename_i x c n e
      split at hc
      · rename_i t q a s2 hdr
        have hd := sx_sr_drop n hs
        rw [hdr] at hd
        obtain ⟨v, t2, ev, ⟨rfl, ht⟩, hs2⟩ := sx_sr1 hd
        split at hc
        · rename_i hb
          cases hc
          refine ⟨.ref (g a) :: (st.take n).reverse, t2, ?_, ⟨⟨rfl, ht⟩, sx_sr_tk n hs⟩, hs2⟩
          simp only [mj_call, e, ev]
          rw [if_pos (by rw [(sx_sr_len hs2).1]; exact hb)]
        · cases hc
      · cases hc
    · cases hc
  · cases hc
end SXC
