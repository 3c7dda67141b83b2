/-! the heap behind the constructors, up to the reference's copy of its state, by the kernel -/
def cx_to (stop m : Nat) : Nat → Nat → mj_L → List Value → mj_H → Option (mj_L × List Value × mj_H)
  | 0, _, _, _, _ => none
  | f + 1, pc, lv, st, t => if pc = stop then some (lv, st, t) else match mj_ins m pc with
    | none => none
    | some i => if (cx_w i && ((mj_end m i st).isNone && (mj_call m i st (cx_Z :: t)).isNone)) = true then (match mj_st m pc i lv st (cx_Z :: t) with
      | some (pc', lv', st', _ :: t') => cx_to stop m f pc' lv' st' t'
      | _ => none) else none
theorem cx_to_ok (c0 : mj_C) {d stop m : Nat} {Q : Option Value → mj_H → Prop} : ∀ {f pc : Nat} {lv : mj_L} {st : List Value} {t : mj_H} {lv' : mj_L} {st' : List Value} {t' : mj_H}, cx_to stop m f pc lv st t = some (lv', st', t') → wp_R d m stop lv' st' (c0 :: t') Q → wp_R d m pc lv st (c0 :: t) Q
  | 0, pc, lv, st, t, lv', st', t', h, _ => by unfold cx_to at h; cases h
  | f + 1, pc, lv, st, t, lv', st', t', h, hr => by
    unfold cx_to at h
    split at h
    · rename_i e
      cases h
      rw [e]
      exact hr
    · split at h
      · cases h
      · rename_i i hi
        split at h
        · rename_i hb
          rw [Bool.and_eq_true, Bool.and_eq_true] at hb
          obtain ⟨hw, h1, h2⟩ := hb
          split at h
          · rename_i pc2 lv2 st2 z t2 hs
            obtain ⟨t3, q1, q2⟩ := cx_st c0 i hw hs
            cases q1
            exact wp_s hi (Option.isNone_iff_eq_none.mp h1) (by rw [cx_call c0 hw]; exact Option.isNone_iff_eq_none.mp h2) q2 (cx_to_ok c0 h hr)
          · cases h
        · cases h
def cx_T0 : mj_H := mj_sv.map (fun l => (1000, l.map Value.int)) ++ mj_tb.map (fun l => (900, l.map Value.int))
/-- behind the class's constructor -/
def cx_T1 : Option mj_H := match mj_new 0 7 with
  | some q => match mj_ent (mj_nl 1) [.ref 9] with
    | some lv => match cx_run 6000 30 1 0 lv [] (cx_T0 ++ [q]) with
      | some (none, t) => some t
      | _ => none
    | none => none
  | none => none
/-- at the reference's copy -/
def cx_T2 : Option (mj_L × List Value × mj_H) := match cx_T1 with
  | some t => match mj_new 0 10 with
    | some q => match mj_ent (mj_nl 168) [.ref (t.length + 1)] with
      | some lv => cx_to 250 168 2000 0 lv [] (t ++ [q])
      | none => none
    | none => none
  | none => none
set_option maxRecDepth 1000000 in
theorem cx_T1_k : (match cx_T1 with
  | some t => decide (t.length = 137)
  | none => false) = true := by decide +kernel
