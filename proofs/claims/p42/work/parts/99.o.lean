/-! the heap behind the constructors, up to the reference's copy of its state, by the kernel -/
def cx_to (stop m : Nat) : Nat → Nat → mj_L → List Value → mj_H → Option (mj_L × List Value × mj_H)
  | 0, _, _, _, _ => none
  | f + 1, pc, lv, st, t => if pc = stop then some (lv, st, t) else match mj_ins m pc with
    | none => none
    | some i => if (cx_w i && ((mj_end m i st).isNone && (mj_call m i st (cx_Z :: t)).isNone)) = true then (match mj_st m pc i lv st (cx_Z :: t) with
      | some (pc', lv', st', _ :: t') => cx_to stop m f pc' lv' st' t'
      | _ => none) else none
theorem cx_to_ok (c0 : mj_C) {d stop m : Nat} {Q : Option Value → mj_H → Prop} : ∀ {f pc : Nat} {lv : mj_L} {st : List Value} {t : mj_H} {lv' : mj_L} {st' : List Value} {t' : mj_H}, cx_to stop m f pc lv st t = some (lv', st', t') → wp_R d m stop lv' st' (c0 :: t') Q → wp_R d m pc lv st (c0 :: t) Q
  | 0, pc, lv, st, t, lv', st', t', h, _ => by unfold cx_to at h; cases h
  | f + 1, pc, lv, st, t, lv', st', t', h, hr => by
    unfold cx_to at h
    split at h
    · rename_i e
      cases h
      rw [e]
      exact hr
    · split at h
      · cases h
      · rename_i i hi
        split at h
        · rename_i hb
          rw [Bool.and_eq_true, Bool.and_eq_true] at hb
          obtain ⟨hw, h1, h2⟩ := hb
          split at h
          · rename_i pc2 lv2 st2 z t2 hs
            obtain ⟨t3, q1, q2⟩ := cx_st c0 i hw hs
            cases q1
            exact wp_s hi (Option.isNone_iff_eq_none.mp h1) (by rw [cx_call c0 hw]; exact Option.isNone_iff_eq_none.mp h2) q2 (cx_to_ok c0 h hr)
          · cases h
        · cases h
def cx_T0 : mj_H := mj_sv.map (fun l => (1000, l.map Value.int)) ++ mj_tb.map (fun l => (900, l.map Value.int))
/-- behind the class's constructor -/
def cx_T1 : Option mj_H := match mj_new 0 7 with
  | some q => match mj_ent (mj_nl 1) [.ref 9] with
    | some lv => match cx_run 6000 30 1 0 lv [] (cx_T0 ++ [q]) with
      | some (none, t) => some t
      | _ => none
    | none => none
  | none => none
/-- at the reference's copy -/
def cx_T2 : Option (mj_L × List Value × mj_H) := match cx_T1 with
  | some t => match mj_new 0 10 with
    | some q => match mj_ent (mj_nl 168) [.ref (t.length + 1)] with
      | some lv => cx_to 197 168 2000 0 lv [] (t ++ [q])
      | none => none
    | none => none
  | none => none
def cx_drb : sx_D → Value → Bool
  | (0, lo, hi), .int z => decide (lo ≤ z.toInt) && decide (z.toInt ≤ hi)
  | (1, lo, hi), .long z => decide (lo ≤ z.toInt) && decide (z.toInt ≤ hi)
  | (2, t, _), .ref a => match sx_tau[a]? with
    | some u => u == t.toNat
    | none => false
  | _, _ => false
theorem cx_drb_ok {d : sx_D} {v : Value} (h : cx_drb d v = true) : sx_dr sx_tau d v := by
  unfold cx_drb at h
  split at h
  · rename_i lo hi z
    rw [Bool.and_eq_true, decide_eq_true_eq, decide_eq_true_eq] at h
    exact ⟨z, rfl, h.1, h.2⟩
  · rename_i lo hi z
    rw [Bool.and_eq_true, decide_eq_true_eq, decide_eq_true_eq] at h
    exact ⟨z, rfl, h.1, h.2⟩
  · rename_i t q a
    split at h
    · rename_i u hu
      rw [beq_iff_eq] at h
      exact ⟨a, rfl, by rw [hu, h]⟩
    · cases h
  · cases h
/-! the heap behind the constructors, as a text (wp_con.py) -/
abbrev cx_R : Type := Nat × List Value × Nat × Value
def cx_x (q : cx_R) : mj_C := (q.1, q.2.1 ++ List.replicate q.2.2.1 q.2.2.2)
def cx_L1 : List cx_R := [
  (1000, [.int 0, .int 0, .int 0, .int 1, .int 1, .int 0, .int 0, .int 0, .int 0, .int 1], 0, .null),
  (1000, [.int 0, .int 0, .int 0, .int 99, .int 9, .int 5, .int 5, .int 7, .int 9, .int 60], 0, .null),
  (1000, [.int (-1), .int (-1), .int (-1), .int 10, .int (-1), .int 11, .int 11, .int 12, .int (-1), .int (-1)], 0, .null),
  (1000, [.int 0, .int 0, .int 0, .int 0, .int 0, .int 0, .int 0, .int 1, .int 0, .int 0], 0, .null),
  (1000, [.int 0, .int 0, .int 0, .int 99, .int 0, .int 7, .int 7, .int 99, .int 0, .int 0], 0, .null),
  (1000, [.int (-99), .int 0, .int 0], 0, .null),
  (1000, [.int 99, .int 100, .int 1], 0, .null),
  (900, [.int 99, .int 108, .int 105, .int 109, .int 98, .int 115, .int 32, .int 116, .int 101, .int 97, .int 114, .int 115, .int 32, .int 99, .int 111, .int 117, .int 110, .int 116, .int 115, .int 32, .int 112, .int 111, .int 108, .int 101, .int 32, .int 112, .int 111, .int 119, .int 101, .int 114, .int 32, .int 104, .int 111, .int 105, .int 115, .int 116, .int 32, .int 108, .int 111, .int 119, .int 101, .int 114, .int 32, .int 112, .int 114, .int 117, .int 110, .int 101, .int 32, .int 98, .int 108, .int 111, .int 119, .int 32, .int 104, .int 111, .int 117, .int 114, .int 32, .int 97, .int 116, .int 32, .int 111, .int 110, .int 32, .int 98, .int 121, .int 32, .int 111, .int 114, .int 32, .int 97, .int 110, .int 100, .int 32, .int 110, .int 111, .int 116, .int 32, .int 105, .int 110, .int 32, .int 119, .int 105, .int 110, .int 100, .int 32, .int 104, .int 97, .int 110, .int 100, .int 115, .int 32, .int 116, .int 97, .int 108, .int 108, .int 32, .int 104, .int 101, .int 105, .int 103, .int 104, .int 116, .int 32, .int 119, .int 101, .int 97, .int 114, .int 32, .int 104, .int 101, .int 114, .int 101, .int 32, .int 112, .int 108, .int 97, .int 99, .int 101, .int 32, .int 104, .int 111, .int 108, .int 100, .int 115, .int 32], 0, .null),
  (0, [.ref 47, .ref 69, .ref 91, .ref 93, .ref 95], 0, .null),
  (1000, [], 64, .int 0),
  (1101, [.ref 12, .ref 19, .ref 26, .ref 33, .ref 40], 0, .null),
  (1, [.ref 13, .int 0, .ref 14, .ref 15, .ref 16, .ref 17, .ref 18, .int 0, .ref 10], 0, .null),
  (1000, [], 300, .int 0),
  (1000, [.int (-1), .int (-1), .int (-1)], 0, .null),
  (1000, [.int 0, .int 0, .int 0], 0, .null),
  (1000, [], 24, .int 0),
  (1000, [], 24, .int 0),
  (1000, [], 24, .int 0),
  (1, [.ref 20, .int 0, .ref 21, .ref 22, .ref 23, .ref 24, .ref 25, .int 0, .ref 10], 0, .null),
  (1000, [], 300, .int 0),
  (1000, [.int (-1), .int (-1), .int (-1)], 0, .null),
  (1000, [.int 0, .int 0, .int 0], 0, .null),
  (1000, [], 24, .int 0),
  (1000, [], 24, .int 0),
  (1000, [], 24, .int 0),
  (1, [.ref 27, .int 0, .ref 28, .ref 29, .ref 30, .ref 31, .ref 32, .int 0, .ref 10], 0, .null),
  (1000, [], 300, .int 0),
  (1000, [.int (-1), .int (-1), .int (-1)], 0, .null),
  (1000, [.int 0, .int 0, .int 0], 0, .null),
  (1000, [], 24, .int 0),
  (1000, [], 24, .int 0),
  (1000, [], 24, .int 0),
  (1, [.ref 34, .int 0, .ref 35, .ref 36, .ref 37, .ref 38, .ref 39, .int 0, .ref 10], 0, .null),
  (1000, [], 300, .int 0),
  (1000, [.int (-1), .int (-1), .int (-1)], 0, .null),
  (1000, [.int 0, .int 0, .int 0], 0, .null),
  (1000, [], 24, .int 0),
  (1000, [], 24, .int 0),
  (1000, [], 24, .int 0),
  (1, [.ref 41, .int 0, .ref 42, .ref 43, .ref 44, .ref 45, .ref 46, .int 0, .ref 10], 0, .null),
  (1000, [], 300, .int 0),
  (1000, [.int (-1), .int (-1), .int (-1)], 0, .null),
  (1000, [.int 0, .int 0, .int 0], 0, .null),
  (1000, [], 24, .int 0),
  (1000, [], 24, .int 0),
  (1000, [], 24, .int 0),
  (2, [.ref 48, .ref 56, .ref 59, .ref 61, .ref 65, .ref 11, .int 0, .int (-1)], 0, .null),
  (3, [.int 0, .int 0, .ref 49, .ref 50, .ref 51, .ref 52, .ref 53, .ref 54, .ref 55, .int 3, .int 0, .int (-1), .int 79], 0, .null),
  (1000, [.int 0, .int 0, .int 0, .int 0, .int 0, .int 0, .int 0, .int 0], 0, .null),
  (1000, [.int 0, .int 0, .int 0, .int 0, .int 0, .int 0, .int 0, .int 0], 0, .null),
  (1000, [.int 0, .int 0, .int 0, .int 0, .int 0, .int 0, .int 0, .int 0], 0, .null),
  (1000, [.int 0, .int 0, .int 0, .int 0, .int 0, .int 0], 0, .null),
  (1000, [.int 0, .int 0, .int 0, .int 0, .int 0, .int 0], 0, .null),
  (1000, [], 48, .int (-1)),
  (1000, [], 48, .int 0),
  (4, [.ref 57, .ref 58, .int 0], 0, .null),
  (1000, [], 40, .int 0),
  (1000, [], 40, .int 0),
  (5, [.ref 60, .int 0, .int 0], 0, .null),
  (1000, [], 5700, .int 0),
  (6, [.ref 62, .ref 63, .ref 64, .int 0], 0, .null),
  (1000, [.int 0, .int 0, .int 0, .int 0, .int 0, .int 0, .int 0, .int 0], 0, .null),
  (1001, [.int 0, .int 0, .int 0, .int 0, .int 0, .int 0, .int 0, .int 0], 0, .null),
  (1000, [], 100, .int 0),
  (7, [.ref 66, .ref 67, .ref 68, .int 0], 0, .null),
  (1000, [.int 0, .int 0, .int 0, .int 0, .int 0, .int 0, .int 0, .int 0, .int 0, .int 0], 0, .null),
  (1000, [.int 0, .int 0, .int 0, .int 0, .int 0, .int 0, .int 0, .int 0, .int 0, .int 0], 0, .null),
  (1000, [], 64, .int 0),
  (2, [.ref 70, .ref 78, .ref 81, .ref 83, .ref 87, .ref 11, .int 0, .int (-1)], 0, .null),
  (3, [.int 0, .int 0, .ref 71, .ref 72, .ref 73, .ref 74, .ref 75, .ref 76, .ref 77, .int 3, .int 0, .int (-1), .int 79], 0, .null),
  (1000, [.int 0, .int 0, .int 0, .int 0, .int 0, .int 0, .int 0, .int 0], 0, .null),
  (1000, [.int 0, .int 0, .int 0, .int 0, .int 0, .int 0, .int 0, .int 0], 0, .null),
  (1000, [.int 0, .int 0, .int 0, .int 0, .int 0, .int 0, .int 0, .int 0], 0, .null),
  (1000, [.int 0, .int 0, .int 0, .int 0, .int 0, .int 0], 0, .null),
  (1000, [.int 0, .int 0, .int 0, .int 0, .int 0, .int 0], 0, .null),
  (1000, [], 48, .int (-1)),
  (1000, [], 48, .int 0),
  (4, [.ref 79, .ref 80, .int 0], 0, .null),
  (1000, [], 40, .int 0),
  (1000, [], 40, .int 0),
  (5, [.ref 82, .int 0, .int 0], 0, .null),
  (1000, [], 5700, .int 0),
  (6, [.ref 84, .ref 85, .ref 86, .int 0], 0, .null),
  (1000, [.int 0, .int 0, .int 0, .int 0, .int 0, .int 0, .int 0, .int 0], 0, .null),
  (1001, [.int 0, .int 0, .int 0, .int 0, .int 0, .int 0, .int 0, .int 0], 0, .null),
  (1000, [], 100, .int 0),
  (7, [.ref 88, .ref 89, .ref 90, .int 0], 0, .null),
  (1000, [.int 0, .int 0, .int 0, .int 0, .int 0, .int 0, .int 0, .int 0, .int 0, .int 0], 0, .null),
  (1000, [.int 0, .int 0, .int 0, .int 0, .int 0, .int 0, .int 0, .int 0, .int 0, .int 0], 0, .null),
  (1000, [], 64, .int 0),
  (8, [.ref 92, .int 0, .int 3, .int 0, .int 0, .int 0], 0, .null),
  (1000, [], 300, .int 0),
  (9, [.ref 91, .ref 12, .int 0, .int 0, .int (-1), .int 0, .int 5, .ref 94, .int 0, .int 0, .int 0, .int 0, .int 0], 0, .null),
  (1000, [], 40, .int 0),
  (10, [.ref 96, .ref 97, .int 0], 0, .null),
  (1103, [.ref 98, .ref 106, .ref 114, .ref 122, .ref 130], 0, .null),
  (1000, [.int 0, .int 0, .int 0, .int 0], 0, .null),
  (3, [.int 0, .int 0, .ref 99, .ref 100, .ref 101, .ref 102, .ref 103, .ref 104, .ref 105, .int 3, .int 0, .int (-1), .int 79], 0, .null),
  (1000, [.int 0, .int 0, .int 0, .int 0, .int 0, .int 0, .int 0, .int 0], 0, .null),
  (1000, [.int 0, .int 0, .int 0, .int 0, .int 0, .int 0, .int 0, .int 0], 0, .null),
  (1000, [.int 0, .int 0, .int 0, .int 0, .int 0, .int 0, .int 0, .int 0], 0, .null),
  (1000, [.int 0, .int 0, .int 0, .int 0, .int 0, .int 0], 0, .null),
  (1000, [.int 0, .int 0, .int 0, .int 0, .int 0, .int 0], 0, .null),
  (1000, [], 48, .int (-1)),
  (1000, [], 48, .int 0),
  (3, [.int 0, .int 0, .ref 107, .ref 108, .ref 109, .ref 110, .ref 111, .ref 112, .ref 113, .int 3, .int 0, .int (-1), .int 79], 0, .null),
  (1000, [.int 0, .int 0, .int 0, .int 0, .int 0, .int 0, .int 0, .int 0], 0, .null),
  (1000, [.int 0, .int 0, .int 0, .int 0, .int 0, .int 0, .int 0, .int 0], 0, .null),
  (1000, [.int 0, .int 0, .int 0, .int 0, .int 0, .int 0, .int 0, .int 0], 0, .null),
  (1000, [.int 0, .int 0, .int 0, .int 0, .int 0, .int 0], 0, .null),
  (1000, [.int 0, .int 0, .int 0, .int 0, .int 0, .int 0], 0, .null),
  (1000, [], 48, .int (-1)),
  (1000, [], 48, .int 0),
  (3, [.int 0, .int 0, .ref 115, .ref 116, .ref 117, .ref 118, .ref 119, .ref 120, .ref 121, .int 3, .int 0, .int (-1), .int 79], 0, .null),
  (1000, [.int 0, .int 0, .int 0, .int 0, .int 0, .int 0, .int 0, .int 0], 0, .null),
  (1000, [.int 0, .int 0, .int 0, .int 0, .int 0, .int 0, .int 0, .int 0], 0, .null),
  (1000, [.int 0, .int 0, .int 0, .int 0, .int 0, .int 0, .int 0, .int 0], 0, .null),
  (1000, [.int 0, .int 0, .int 0, .int 0, .int 0, .int 0], 0, .null),
  (1000, [.int 0, .int 0, .int 0, .int 0, .int 0, .int 0], 0, .null),
  (1000, [], 48, .int (-1)),
  (1000, [], 48, .int 0),
  (3, [.int 0, .int 0, .ref 123, .ref 124, .ref 125, .ref 126, .ref 127, .ref 128, .ref 129, .int 3, .int 0, .int (-1), .int 79], 0, .null),
  (1000, [.int 0, .int 0, .int 0, .int 0, .int 0, .int 0, .int 0, .int 0], 0, .null),
  (1000, [.int 0, .int 0, .int 0, .int 0, .int 0, .int 0, .int 0, .int 0], 0, .null),
  (1000, [.int 0, .int 0, .int 0, .int 0, .int 0, .int 0, .int 0, .int 0], 0, .null),
  (1000, [.int 0, .int 0, .int 0, .int 0, .int 0, .int 0], 0, .null),
  (1000, [.int 0, .int 0, .int 0, .int 0, .int 0, .int 0], 0, .null),
  (1000, [], 48, .int (-1)),
  (1000, [], 48, .int 0),
  (3, [.int 0, .int 0, .ref 131, .ref 132, .ref 133, .ref 134, .ref 135, .ref 136, .ref 137, .int 3, .int 0, .int (-1), .int 79], 0, .null),
  (1000, [.int 0, .int 0, .int 0, .int 0, .int 0, .int 0, .int 0, .int 0], 0, .null),
  (1000, [.int 0, .int 0, .int 0, .int 0, .int 0, .int 0, .int 0, .int 0], 0, .null),
  (1000, [.int 0, .int 0, .int 0, .int 0, .int 0, .int 0, .int 0, .int 0], 0, .null),
  (1000, [.int 0, .int 0, .int 0, .int 0, .int 0, .int 0], 0, .null),
  (1000, [.int 0, .int 0, .int 0, .int 0, .int 0, .int 0], 0, .null),
  (1000, [], 48, .int (-1)),
  (1000, [], 48, .int 0)]
def cx_L2 : List cx_R := [
  (11, [.ref 139, .ref 140, .ref 141, .ref 142, .int 0, .int (-1), .int (-1), .int 0, .int 0, .int 0, .int 0, .long 0, .int 0, .int 0, .int 0, .ref 143, .int 0, .int 0, .int 0, .int 0, .int 0, .int 0, .ref 144, .ref 145, .ref 146, .int 1, .ref 147, .ref 148, .ref 149, .ref 150, .ref 151], 0, .null),
  (1000, [.int 0, .int 0, .int 0, .int (-1), .int 0, .int 0, .int 0, .int 0, .int 0, .int 3, .int (-1), .int 79, .int 0, .int 0, .int 0, .int 0, .int 0, .int 0, .int 0, .int 0, .int 0, .int 0, .int 0, .int 0, .int 0, .int 0, .int 0, .int 0, .int 0, .int 0, .int 0, .int 0, .int 0, .int 0, .int 0, .int 0, .int 0, .int 0, .int 0, .int 0, .int 0, .int 0, .int 0, .int 0, .int 0, .int 0, .int 0, .int 0, .int 0, .int 0, .int 0, .int 0, .int (-1), .int 0, .int (-1), .int 0, .int (-1), .int 0, .int (-1), .int 0, .int (-1), .int 0, .int (-1), .int 0, .int (-1), .int 0, .int (-1), .int 0, .int (-1), .int 0, .int (-1), .int 0, .int (-1), .int 0, .int (-1), .int 0, .int (-1), .int 0, .int (-1), .int 0, .int (-1), .int 0, .int (-1), .int 0, .int (-1), .int 0, .int (-1), .int 0, .int (-1), .int 0, .int (-1), .int 0, .int (-1), .int 0, .int (-1), .int 0, .int (-1), .int 0, .int (-1), .int 0, .int (-1), .int 0, .int (-1), .int 0, .int (-1), .int 0, .int (-1), .int 0, .int (-1), .int 0, .int (-1), .int 0, .int (-1), .int 0, .int (-1), .int 0, .int (-1), .int 0, .int (-1), .int 0, .int (-1), .int 0, .int (-1), .int 0, .int (-1), .int 0, .int (-1), .int 0, .int (-1), .int 0, .int (-1), .int 0, .int (-1), .int 0, .int (-1), .int 0, .int (-1), .int 0, .int (-1), .int 0, .int (-1), .int 0, .int (-1), .int 0, .int (-1), .int 0, .int (-1)], 5897, .int 0),
  (1000, [], 6044, .int 0),
  (1000, [], 2820, .int 0),
  (1000, [], 300, .int 0),
  (1000, [], 160, .int 0),
  (1000, [.int 0, .int 0, .int 0, .int 0, .int 0, .int 0, .int 0, .int 0, .int 0, .int 0], 0, .null),
  (1005, [], 330, .long 0),
  (1001, [], 330, .int 0),
  (1000, [], 148, .int 0),
  (1000, [.int 0, .int 0, .int 0, .int 0, .int 0, .int 0], 0, .null),
  (1000, [.int 0, .int 0, .int 0, .int 0, .int 0, .int 0], 0, .null),
  (1000, [.int 0, .int 0, .int 0, .int 0, .int 0, .int 0], 0, .null),
  (1000, [.int 0, .int 0, .int 0, .int 0, .int 0, .int 0], 0, .null)]
def cx_veq : Value → Value → Bool
  | .int a, .int b => decide (a = b)
  | .long a, .long b => decide (a = b)
  | .ref a, .ref b => decide (a = b)
  | .null, .null => true
  | _, _ => false
theorem cx_veq_ok {v w : Value} (h : cx_veq v w = true) : v = w := by
  unfold cx_veq at h
  split at h
  · rw [of_decide_eq_true h]
  · rw [of_decide_eq_true h]
  · rw [of_decide_eq_true h]
  · rfl
  · cases h
def cx_leq : List Value → List Value → Bool
  | [], [] => true
  | v :: vs, w :: ws => cx_veq v w && cx_leq vs ws
  | _, _ => false
theorem cx_leq_ok : ∀ {vs ws : List Value}, cx_leq vs ws = true → vs = ws
  | [], [], _ => rfl
  | v :: vs, w :: ws, h => by
    unfold cx_leq at h
    rw [Bool.and_eq_true] at h
    rw [cx_veq_ok h.1, cx_leq_ok h.2]
  | [], _ :: _, h => by simp [cx_leq] at h
  | _ :: _, [], h => by simp [cx_leq] at h
def cx_heq : mj_H → List cx_R → Bool
  | [], [] => true
  | c :: t, q :: l => decide (c.1 = q.1) && (cx_leq c.2 (cx_x q).2 && cx_heq t l)
  | _, _ => false
theorem cx_heq_ok : ∀ {t : mj_H} {l : List cx_R}, cx_heq t l = true → t = l.map cx_x
  | [], [], _ => rfl
  | c :: t, q :: l, h => by
    unfold cx_heq at h
    rw [Bool.and_eq_true, Bool.and_eq_true] at h
    obtain ⟨h1, h2, h3⟩ := h
    rw [List.map_cons, ← cx_heq_ok h3]
    congr 1
    exact Prod.ext (of_decide_eq_true h1) (cx_leq_ok h2)
  | [], _ :: _, h => by simp [cx_heq] at h
  | _ :: _, [], h => by simp [cx_heq] at h
set_option maxRecDepth 1000000 in
theorem cx_K1 : (match cx_T1 with
  | some t => cx_heq t cx_L1
  | none => false) = true := by decide +kernel
