theorem mj_dcs : ∀ k, k < 27 → ((((mj_is.drop 1).zip (mj_ms.drop 1)).drop (12 * k)).take 12).all mj_dk = true := by
  intro k hk
  match k, hk with
  | 0, _ => exact mj_dc0
  | 1, _ => exact mj_dc1
  | 2, _ => exact mj_dc2
  | 3, _ => exact mj_dc3
  | 4, _ => exact mj_dc4
  | 5, _ => exact mj_dc5
  | 6, _ => exact mj_dc6
  | 7, _ => exact mj_dc7
  | 8, _ => exact mj_dc8
  | 9, _ => exact mj_dc9
  | 10, _ => exact mj_dc10
  | 11, _ => exact mj_dc11
  | 12, _ => exact mj_dc12
  | 13, _ => exact mj_dc13
  | 14, _ => exact mj_dc14
  | 15, _ => exact mj_dc15
  | 16, _ => exact mj_dc16
  | 17, _ => exact mj_dc17
  | 18, _ => exact mj_dc18
  | 19, _ => exact mj_dc19
  | 20, _ => exact mj_dc20
  | 21, _ => exact mj_dc21
  | 22, _ => exact mj_dc22
  | 23, _ => exact mj_dc23
  | 24, _ => exact mj_dc24
  | 25, _ => exact mj_dc25
  | 26, _ => exact mj_dc26
  | k + 27, h => omega
theorem mj_dls : ∀ k, k < 18 → ((mj_i0.drop (60 * k)).take 60).all (mj_d1 code) = true := by
  intro k hk
  match k, hk with
  | 0, _ => exact mj_dl0
  | 1, _ => exact mj_dl1
  | 2, _ => exact mj_dl2
  | 3, _ => exact mj_dl3
  | 4, _ => exact mj_dl4
  | 5, _ => exact mj_dl5
  | 6, _ => exact mj_dl6
  | 7, _ => exact mj_dl7
  | 8, _ => exact mj_dl8
  | 9, _ => exact mj_dl9
  | 10, _ => exact mj_dl10
  | 11, _ => exact mj_dl11
  | 12, _ => exact mj_dl12
  | 13, _ => exact mj_dl13
  | 14, _ => exact mj_dl14
  | 15, _ => exact mj_dl15
  | 16, _ => exact mj_dl16
  | 17, _ => exact mj_dl17
  | k + 18, h => omega
theorem mj_chunk {α : Type} {f : α → Bool} {L : List α} {B K : Nat} (hB : 0 < B) (hL : L.length ≤ B * K) (h : ∀ k, k < K → ((L.drop (B * k)).take B).all f = true) {m : Nat} {x : α} (hx : L[m]? = some x) : f x = true := by
  have hm : m < L.length := (List.getElem?_eq_some_iff.mp hx).1
  have hk : m / B < K := Nat.div_lt_of_lt_mul (by omega)
  have hd := Nat.div_add_mod m B
  have hlt := Nat.mod_lt m hB
  refine List.all_eq_true.mp (h _ hk) x (List.mem_of_getElem? (i := m % B) ?_)
  rw [List.getElem?_take_of_lt hlt, List.getElem?_drop, hd]
  exact hx
set_option maxRecDepth 100000 in
theorem mj_isl : mj_is.length = 315 := by decide +kernel
set_option maxRecDepth 100000 in
theorem mj_msl : mj_ms.length = 315 := by decide +kernel
set_option maxRecDepth 100000 in
theorem mj_i0l : mj_i0.length ≤ 60 * 18 := by decide +kernel
theorem mj_lk {L : List (Nat × Instr)} {pc : Nat} {i : Instr} (h : L.lookup pc = some i) : (pc, i) ∈ L := by
  induction L with
  | nil => cases h
  | cons a l ih =>
    obtain ⟨k, v⟩ := a
    rw [List.lookup_cons] at h
    cases hk : pc == k with
    | true =>
      rw [hk] at h
      cases h
      rw [beq_iff_eq] at hk
      subst hk
      exact List.mem_cons_self
    | false =>
      rw [hk] at h
      exact List.mem_cons_of_mem _ (ih h)
theorem mj_d1s {b : ByteArray} {pc : Nat} {i : Instr} (h : mj_d1 b (pc, i) = true) : ∃ l, decode b pc = .ok (i, l) ∧ (mj_sw i = true ∨ l = mj_len i) := by
  unfold mj_d1 at h
  dsimp only at h
  cases hd : decode b pc with
  | error e => rw [hd] at h; cases h
  | ok q =>
    obtain ⟨i', l⟩ := q
    rw [hd] at h
    simp only [Bool.and_eq_true, decide_eq_true_eq, Bool.or_eq_true, beq_iff_eq] at h
    obtain ⟨rfl, h⟩ := h
    exact ⟨l, rfl, h⟩
theorem mj_dec {m pc : Nat} {i : Instr} (h : mj_ins m pc = some i) : ∃ (y : MethodName) (b : ByteArray) (n : Nat) (r : Option FieldType) (o c : Nat) (l : Nat), mj_ms[m]? = some (y, b, n, r, o, c) ∧ decode b pc = .ok (i, l) ∧ (mj_sw i = true ∨ l = mj_len i) := by
  unfold mj_ins at h
  cases h1 : mj_is[m]? with
  | none => rw [h1] at h; cases h
  | some L =>
    rw [h1] at h
    have h : List.lookup pc L = some i := h
    have hm : m < mj_is.length := (List.getElem?_eq_some_iff.mp h1).1
    have hm2 : m < mj_ms.length := by rw [mj_msl, ← mj_isl]; exact hm
    obtain ⟨⟨y, b, n, r, o, c⟩, h2⟩ : ∃ e, mj_ms[m]? = some e := ⟨mj_ms[m], List.getElem?_eq_getElem hm2⟩
    have hmem := mj_lk h
    suffices hf : mj_d1 b (pc, i) = true by
      obtain ⟨l, g1, g2⟩ := mj_d1s hf
      exact ⟨y, b, n, r, o, c, l, h2, g1, g2⟩
    cases m with
    | zero =>
      have e1 : L = mj_i0 := (Option.some.inj h1).symm
      have e2 : b = code := congrArg (fun e => e.2.1) (Option.some.inj h2).symm
      subst e1
      subst e2
      obtain ⟨j, hj⟩ := List.mem_iff_getElem?.mp hmem
      exact mj_chunk (f := mj_d1 code) (B := 60) (K := 18) (by decide) mj_i0l mj_dls hj
    | succ m =>
      have hx : ((mj_is.drop 1).zip (mj_ms.drop 1))[m]? = some (L, y, b, n, r, o, c) := by
        rw [List.getElem?_zip_eq_some, List.getElem?_drop, List.getElem?_drop, Nat.add_comm]
        exact ⟨h1, h2⟩
      have hf := mj_chunk (f := mj_dk) (B := 12) (K := 27) (by decide) (by rw [List.length_zip, List.length_drop, List.length_drop, mj_isl, mj_msl]; decide) mj_dcs hx
      exact List.all_eq_true.mp hf _ hmem
