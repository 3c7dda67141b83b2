/-! what an instruction's step says of its stack -/
theorem mj_dn {m pc : Nat} {i : Instr} {y : MethodName} {b : ByteArray} {n : Nat} {r : Option FieldType} {o ci : Nat} (hme : mj_ms[m]? = some (y, b, n, r, o, ci)) (hi : mj_ins m pc = some i) (hw : mj_sw i = false) : decode b pc = .ok (i, mj_len i) := by
  obtain ⟨y', b', n', r', o', c', l, h1, h2, h3⟩ := mj_dec hi
  rw [hme] at h1
  cases h1
  rcases h3 with h3 | h3
  · rw [hw] at h3
    cases h3
  · rw [h2, h3]
theorem mj_ii_inv {pc : Nat} {lv : mj_L} {st : List Value} {h : mj_H} {f : Int32 → Int32 → Int32} {x : mj_S} (hs : mj_ii pc lv st h f = some x) : ∃ a b r, st = .int b :: .int a :: r ∧ x = (pc + 1, lv, .int (f a b) :: r, h) := by
  unfold mj_ii at hs
  split at hs
  · cases hs
    exact ⟨_, _, _, rfl, rfl⟩
  · cases hs
theorem mj_ll_inv {pc : Nat} {lv : mj_L} {st : List Value} {h : mj_H} {f : Int64 → Int64 → Int64} {x : mj_S} (hs : mj_ll pc lv st h f = some x) : ∃ a b r, st = .long b :: .long a :: r ∧ x = (pc + 1, lv, .long (f a b) :: r, h) := by
  unfold mj_ll at hs
  split at hs
  · cases hs
    exact ⟨_, _, _, rfl, rfl⟩
  · cases hs
theorem mj_li_inv {pc : Nat} {lv : mj_L} {st : List Value} {h : mj_H} {i n : Nat} {x : mj_S} (hs : mj_li pc lv st h i n = some x) : ∃ a, mj_ld lv i = some (.int a) ∧ x = (pc + n, lv, .int a :: st, h) := by
  unfold mj_li at hs
  split at hs
  · rename_i a ha
    cases hs
    exact ⟨a, ha, rfl⟩
  · cases hs
theorem mj_lo_inv {pc : Nat} {lv : mj_L} {st : List Value} {h : mj_H} {i n : Nat} {x : mj_S} (hs : mj_lo pc lv st h i n = some x) : ∃ a, mj_ld lv i = some (.long a) ∧ x = (pc + n, lv, .long a :: st, h) := by
  unfold mj_lo at hs
  split at hs
  · rename_i a ha
    cases hs
    exact ⟨a, ha, rfl⟩
  · cases hs
theorem mj_la_inv {pc : Nat} {lv : mj_L} {st : List Value} {h : mj_H} {i n : Nat} {x : mj_S} (hs : mj_la pc lv st h i n = some x) : ∃ a, mj_ld lv i = some (.ref a) ∧ x = (pc + n, lv, .ref a :: st, h) := by
  unfold mj_la at hs
  split at hs
  · rename_i a ha
    cases hs
    exact ⟨a, ha, rfl⟩
  · cases hs
theorem mj_si_inv {pc : Nat} {lv : mj_L} {st : List Value} {h : mj_H} {i n : Nat} {x : mj_S} (hs : mj_si pc lv st h i n = some x) : ∃ a r, st = .int a :: r ∧ i < lv.length ∧ x = (pc + n, mj_s1 lv i (.int a), r, h) := by
  unfold mj_si at hs
  split at hs
  · split at hs
    · rename_i hi
      cases hs
      exact ⟨_, _, rfl, hi, rfl⟩
    · cases hs
  · cases hs
theorem mj_sl_inv {pc : Nat} {lv : mj_L} {st : List Value} {h : mj_H} {i n : Nat} {x : mj_S} (hs : mj_sl pc lv st h i n = some x) : ∃ a r, st = .long a :: r ∧ i + 1 < lv.length ∧ x = (pc + n, mj_s2 lv i (.long a), r, h) := by
  unfold mj_sl at hs
  split at hs
  · split at hs
    · rename_i hi
      cases hs
      exact ⟨_, _, rfl, hi, rfl⟩
    · cases hs
  · cases hs
theorem mj_sa_inv {pc : Nat} {lv : mj_L} {st : List Value} {h : mj_H} {i n : Nat} {x : mj_S} (hs : mj_sa pc lv st h i n = some x) : ∃ a r, st = .ref a :: r ∧ i < lv.length ∧ x = (pc + n, mj_s1 lv i (.ref a), r, h) := by
  unfold mj_sa at hs
  split at hs
  · split at hs
    · rename_i hi
      cases hs
      exact ⟨_, _, rfl, hi, rfl⟩
    · cases hs
  · cases hs
theorem mj_j_inv {pc : Nat} {off : Int} {t : Nat} (h : mj_j pc off = some t) : (pc : Int) + off = (t : Int) := by
  unfold mj_j at h
  split at h
  · rename_i q e
    cases h
    exact e
  · cases h
theorem mj_ix_inv {i : Int32} {n j : Nat} (h : mj_ix i n = some j) : ¬ (i < 0 ∨ n ≤ i.toNatClampNeg) ∧ i.toNatClampNeg = j ∧ j < n := by
  unfold mj_ix at h
  split at h
  · rename_i hc
    cases h
    have e : i.toNatClampNeg = i.toInt.toNat := rfl
    refine ⟨?_, e, by omega⟩
    rintro (q | q)
    · rw [Int32.lt_iff_toInt_lt] at q
      have : (0 : Int32).toInt = 0 := rfl
      omega
    · rw [e] at q
      omega
  · cases h
theorem mj_el_inv {h : mj_H} {a k : Nat} {i : Int32} {v : Value} (hs : mj_el h a k i = some v) : ∃ vs, h[a]? = some (k, vs) ∧ ¬ (i < 0 ∨ vs.length ≤ i.toNatClampNeg) ∧ vs[i.toNatClampNeg]? = some v := by
  unfold mj_el at hs
  split at hs
  · rename_i k' vs hk
    split at hs
    · rename_i e
      subst e
      split at hs
      · rename_i j hj
        obtain ⟨h1, h2, h3⟩ := mj_ix_inv hj
        exact ⟨vs, hk, h1, by rw [h2]; exact hs⟩
      · cases hs
    · cases hs
  · cases hs
theorem mj_es_inv {n0 : Nat} {h : mj_H} {a k : Nat} {i : Int32} {v : Value} {h' : mj_H} (hs : mj_es n0 h a k i v = some h') : ∃ vs, h[a]? = some (k, vs) ∧ n0 ≤ a ∧ ¬ (i < 0 ∨ vs.length ≤ i.toNatClampNeg) ∧ h' = h.set a (k, vs.set i.toNatClampNeg v) := by
  unfold mj_es at hs
  split at hs
  · rename_i k' vs hk
    split at hs
    · rename_i e
      obtain ⟨e, e2⟩ := e
      subst e
      split at hs
      · rename_i j hj
        obtain ⟨h1, h2, h3⟩ := mj_ix_inv hj
        cases hs
        exact ⟨vs, hk, e2, h1, by rw [h2]⟩
      · cases hs
    · cases hs
  · cases hs
theorem mj_hsz_set {h : mj_H} {a : Nat} {k k' : Nat} {vs vs' : List Value} (hl : h[a]? = some (k, vs)) (he : vs'.length = vs.length) : mj_hsz (h.set a (k', vs')) = mj_hsz h := by
  unfold mj_hsz
  induction h generalizing a with
  | nil => cases hl
  | cons c h ih =>
    cases a with
    | zero =>
      cases hl
      simp [he]
    | succ a =>
      simp only [List.set_cons_succ, List.map_cons, List.sum_cons]
      rw [ih (by simpa using hl)]
theorem mj_hsz_push (h : mj_H) (c : mj_C) : mj_hsz (h ++ [c]) = mj_hsz h + c.2.length := by
  unfold mj_hsz
  simp
section MJA
variable {p : Program} {l : Launch} {e : Env} {R : Room} {s : State} {mm : MethodId} {args : Array Value} {below : List Frame} {meth : Method} {c : Code} {H : Heap} {locs : List Loc} {cells slots : Nat} {Q : State → Prop} {g : JFrame}
theorem mj_cs {h h' : mj_H} (h1 : h'.length = h.length) (h2 : mj_hsz h' = mj_hsz h) (k : W p l e R s mm args below meth c H locs (cells + (h'.length - h.length)) (slots + (mj_hsz h' - mj_hsz h)) Q g) : W p l e R s mm args below meth c H locs cells slots Q g := by
  rw [h1, h2, Nat.sub_self, Nat.sub_self] at k
  exact k
end MJA
/-- the standing facts of a frame -/
def mj_Fr (p : Program) (R : Room) (s : State) (mm : MethodId) (args : Array Value) (meth : Method) (c : Code) (D : va_G) (pre : Nat → Nat) (base m : Nat) (b : ByteArray) (n : Nat) : Prop :=
  p.tables.exec = Jvm.exec ∧ c.code = b ∧ c.maxLocals = n ∧ s.vm.findClass (mj_own (mj_o m)) = some mm.cls ∧ (∀ w ∈ mj_big, w.before args s = true) ∧ mj_K D pre s ∧ (mj_ini m ≠ 0 → meth.name = "<init>") ∧ 6 ≤ R.frames ∧ 200 ≤ R.locals ∧ base ≤ s.heap.size
