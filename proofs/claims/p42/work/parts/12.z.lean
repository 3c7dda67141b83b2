/-! the law's instructions in chunks; laid by program (lawf.py) -/
theorem mj_i0s : mj_i0 = mj_i0c0 ++ (mj_i0c1 ++ (mj_i0c2 ++ (mj_i0c3 ++ (mj_i0c4 ++ (mj_i0c5 ++ (mj_i0c6 ++ (mj_i0c7 ++ (mj_i0c8 ++ (mj_i0c9 ++ (mj_i0c10 ++ (mj_i0c11 ++ (mj_i0c12 ++ (mj_i0c13 ++ (mj_i0c14 ++ (mj_i0c15 ++ (mj_i0c16 ++ (mj_i0c17))))))))))))))))) := rfl
def mj_srt : List (Nat × Instr) → Bool
  | a :: b :: l => decide (a.1 < b.1) && mj_srt (b :: l)
  | _ => true
theorem mj_srt_lt : ∀ (l : List (Nat × Instr)) (a : Nat × Instr), mj_srt (a :: l) = true → ∀ e ∈ l, a.1 < e.1
  | [], _, _, _, h => absurd h List.not_mem_nil
  | b :: l, a, h, e, he => by
    have h : (decide (a.1 < b.1) && mj_srt (b :: l)) = true := h
    rw [Bool.and_eq_true, decide_eq_true_eq] at h
    rcases List.mem_cons.mp he with rfl | he
    · exact h.1
    · exact Nat.lt_trans h.1 (mj_srt_lt l b h.2 e he)
theorem mj_srt_t {a : Nat × Instr} : ∀ l : List (Nat × Instr), mj_srt (a :: l) = true → mj_srt l = true
  | [], _ => rfl
  | b :: l, h => by
    have h : (decide (a.1 < b.1) && mj_srt (b :: l)) = true := h
    rw [Bool.and_eq_true] at h
    exact h.2
theorem mj_srt_l {k : Nat} {v : Instr} : ∀ l : List (Nat × Instr), mj_srt l = true → (k, v) ∈ l → l.lookup k = some v
  | [], _, h => absurd h List.not_mem_nil
  | a :: l, hs, h => by
    obtain ⟨a1, a2⟩ := a
    rw [List.lookup_cons]
    rcases List.mem_cons.mp h with h | h
    · cases h
      rw [beq_self_eq_true]
    · have lt : a1 < k := mj_srt_lt l (a1, a2) hs (k, v) h
      have ne : (k == a1) = false := beq_eq_false_iff_ne.mpr (by omega)
      rw [ne]
      exact mj_srt_l l (mj_srt_t l hs) h
set_option maxRecDepth 100000 in
theorem mj_i0o : mj_srt mj_i0 = true := by decide +kernel
theorem mj_lz {k : Nat} {v : Instr} (h : (k, v) ∈ mj_i0) : mj_ins 0 k = some v := mj_srt_l mj_i0 mj_i0o h
theorem mj_lc0 {i pc : Nat} {v : Instr} (h : mj_i0c0[i]? = some (pc, v)) : mj_ins 0 pc = some v := mj_lz (by rw [mj_i0s]; exact List.mem_append.mpr (Or.inl (List.mem_of_getElem? h)))
theorem mj_lc1 {i pc : Nat} {v : Instr} (h : mj_i0c1[i]? = some (pc, v)) : mj_ins 0 pc = some v := mj_lz (by rw [mj_i0s]; exact List.mem_append.mpr (Or.inr (List.mem_append.mpr (Or.inl (List.mem_of_getElem? h)))))
theorem mj_lc2 {i pc : Nat} {v : Instr} (h : mj_i0c2[i]? = some (pc, v)) : mj_ins 0 pc = some v := mj_lz (by rw [mj_i0s]; exact List.mem_append.mpr (Or.inr (List.mem_append.mpr (Or.inr (List.mem_append.mpr (Or.inl (List.mem_of_getElem? h)))))))
theorem mj_lc3 {i pc : Nat} {v : Instr} (h : mj_i0c3[i]? = some (pc, v)) : mj_ins 0 pc = some v := mj_lz (by rw [mj_i0s]; exact List.mem_append.mpr (Or.inr (List.mem_append.mpr (Or.inr (List.mem_append.mpr (Or.inr (List.mem_append.mpr (Or.inl (List.mem_of_getElem? h)))))))))
theorem mj_lc4 {i pc : Nat} {v : Instr} (h : mj_i0c4[i]? = some (pc, v)) : mj_ins 0 pc = some v := mj_lz (by rw [mj_i0s]; exact List.mem_append.mpr (Or.inr (List.mem_append.mpr (Or.inr (List.mem_append.mpr (Or.inr (List.mem_append.mpr (Or.inr (List.mem_append.mpr (Or.inl (List.mem_of_getElem? h)))))))))))
theorem mj_lc5 {i pc : Nat} {v : Instr} (h : mj_i0c5[i]? = some (pc, v)) : mj_ins 0 pc = some v := mj_lz (by rw [mj_i0s]; exact List.mem_append.mpr (Or.inr (List.mem_append.mpr (Or.inr (List.mem_append.mpr (Or.inr (List.mem_append.mpr (Or.inr (List.mem_append.mpr (Or.inr (List.mem_append.mpr (Or.inl (List.mem_of_getElem? h)))))))))))))
theorem mj_lc6 {i pc : Nat} {v : Instr} (h : mj_i0c6[i]? = some (pc, v)) : mj_ins 0 pc = some v := mj_lz (by rw [mj_i0s]; exact List.mem_append.mpr (Or.inr (List.mem_append.mpr (Or.inr (List.mem_append.mpr (Or.inr (List.mem_append.mpr (Or.inr (List.mem_append.mpr (Or.inr (List.mem_append.mpr (Or.inr (List.mem_append.mpr (Or.inl (List.mem_of_getElem? h)))))))))))))))
theorem mj_lc7 {i pc : Nat} {v : Instr} (h : mj_i0c7[i]? = some (pc, v)) : mj_ins 0 pc = some v := mj_lz (by rw [mj_i0s]; exact List.mem_append.mpr (Or.inr (List.mem_append.mpr (Or.inr (List.mem_append.mpr (Or.inr (List.mem_append.mpr (Or.inr (List.mem_append.mpr (Or.inr (List.mem_append.mpr (Or.inr (List.mem_append.mpr (Or.inr (List.mem_append.mpr (Or.inl (List.mem_of_getElem? h)))))))))))))))))
theorem mj_lc8 {i pc : Nat} {v : Instr} (h : mj_i0c8[i]? = some (pc, v)) : mj_ins 0 pc = some v := mj_lz (by rw [mj_i0s]; exact List.mem_append.mpr (Or.inr (List.mem_append.mpr (Or.inr (List.mem_append.mpr (Or.inr (List.mem_append.mpr (Or.inr (List.mem_append.mpr (Or.inr (List.mem_append.mpr (Or.inr (List.mem_append.mpr (Or.inr (List.mem_append.mpr (Or.inr (List.mem_append.mpr (Or.inl (List.mem_of_getElem? h)))))))))))))))))))
theorem mj_lc9 {i pc : Nat} {v : Instr} (h : mj_i0c9[i]? = some (pc, v)) : mj_ins 0 pc = some v := mj_lz (by rw [mj_i0s]; exact List.mem_append.mpr (Or.inr (List.mem_append.mpr (Or.inr (List.mem_append.mpr (Or.inr (List.mem_append.mpr (Or.inr (List.mem_append.mpr (Or.inr (List.mem_append.mpr (Or.inr (List.mem_append.mpr (Or.inr (List.mem_append.mpr (Or.inr (List.mem_append.mpr (Or.inr (List.mem_append.mpr (Or.inl (List.mem_of_getElem? h)))))))))))))))))))))
theorem mj_lc10 {i pc : Nat} {v : Instr} (h : mj_i0c10[i]? = some (pc, v)) : mj_ins 0 pc = some v := mj_lz (by rw [mj_i0s]; exact List.mem_append.mpr (Or.inr (List.mem_append.mpr (Or.inr (List.mem_append.mpr (Or.inr (List.mem_append.mpr (Or.inr (List.mem_append.mpr (Or.inr (List.mem_append.mpr (Or.inr (List.mem_append.mpr (Or.inr (List.mem_append.mpr (Or.inr (List.mem_append.mpr (Or.inr (List.mem_append.mpr (Or.inr (List.mem_append.mpr (Or.inl (List.mem_of_getElem? h)))))))))))))))))))))))
theorem mj_lc11 {i pc : Nat} {v : Instr} (h : mj_i0c11[i]? = some (pc, v)) : mj_ins 0 pc = some v := mj_lz (by rw [mj_i0s]; exact List.mem_append.mpr (Or.inr (List.mem_append.mpr (Or.inr (List.mem_append.mpr (Or.inr (List.mem_append.mpr (Or.inr (List.mem_append.mpr (Or.inr (List.mem_append.mpr (Or.inr (List.mem_append.mpr (Or.inr (List.mem_append.mpr (Or.inr (List.mem_append.mpr (Or.inr (List.mem_append.mpr (Or.inr (List.mem_append.mpr (Or.inr (List.mem_append.mpr (Or.inl (List.mem_of_getElem? h)))))))))))))))))))))))))
theorem mj_lc12 {i pc : Nat} {v : Instr} (h : mj_i0c12[i]? = some (pc, v)) : mj_ins 0 pc = some v := mj_lz (by rw [mj_i0s]; exact List.mem_append.mpr (Or.inr (List.mem_append.mpr (Or.inr (List.mem_append.mpr (Or.inr (List.mem_append.mpr (Or.inr (List.mem_append.mpr (Or.inr (List.mem_append.mpr (Or.inr (List.mem_append.mpr (Or.inr (List.mem_append.mpr (Or.inr (List.mem_append.mpr (Or.inr (List.mem_append.mpr (Or.inr (List.mem_append.mpr (Or.inr (List.mem_append.mpr (Or.inr (List.mem_append.mpr (Or.inl (List.mem_of_getElem? h)))))))))))))))))))))))))))
theorem mj_lc13 {i pc : Nat} {v : Instr} (h : mj_i0c13[i]? = some (pc, v)) : mj_ins 0 pc = some v := mj_lz (by rw [mj_i0s]; exact List.mem_append.mpr (Or.inr (List.mem_append.mpr (Or.inr (List.mem_append.mpr (Or.inr (List.mem_append.mpr (Or.inr (List.mem_append.mpr (Or.inr (List.mem_append.mpr (Or.inr (List.mem_append.mpr (Or.inr (List.mem_append.mpr (Or.inr (List.mem_append.mpr (Or.inr (List.mem_append.mpr (Or.inr (List.mem_append.mpr (Or.inr (List.mem_append.mpr (Or.inr (List.mem_append.mpr (Or.inr (List.mem_append.mpr (Or.inl (List.mem_of_getElem? h)))))))))))))))))))))))))))))
theorem mj_lc14 {i pc : Nat} {v : Instr} (h : mj_i0c14[i]? = some (pc, v)) : mj_ins 0 pc = some v := mj_lz (by rw [mj_i0s]; exact List.mem_append.mpr (Or.inr (List.mem_append.mpr (Or.inr (List.mem_append.mpr (Or.inr (List.mem_append.mpr (Or.inr (List.mem_append.mpr (Or.inr (List.mem_append.mpr (Or.inr (List.mem_append.mpr (Or.inr (List.mem_append.mpr (Or.inr (List.mem_append.mpr (Or.inr (List.mem_append.mpr (Or.inr (List.mem_append.mpr (Or.inr (List.mem_append.mpr (Or.inr (List.mem_append.mpr (Or.inr (List.mem_append.mpr (Or.inr (List.mem_append.mpr (Or.inl (List.mem_of_getElem? h)))))))))))))))))))))))))))))))
theorem mj_lc15 {i pc : Nat} {v : Instr} (h : mj_i0c15[i]? = some (pc, v)) : mj_ins 0 pc = some v := mj_lz (by rw [mj_i0s]; exact List.mem_append.mpr (Or.inr (List.mem_append.mpr (Or.inr (List.mem_append.mpr (Or.inr (List.mem_append.mpr (Or.inr (List.mem_append.mpr (Or.inr (List.mem_append.mpr (Or.inr (List.mem_append.mpr (Or.inr (List.mem_append.mpr (Or.inr (List.mem_append.mpr (Or.inr (List.mem_append.mpr (Or.inr (List.mem_append.mpr (Or.inr (List.mem_append.mpr (Or.inr (List.mem_append.mpr (Or.inr (List.mem_append.mpr (Or.inr (List.mem_append.mpr (Or.inr (List.mem_append.mpr (Or.inl (List.mem_of_getElem? h)))))))))))))))))))))))))))))))))
theorem mj_lc16 {i pc : Nat} {v : Instr} (h : mj_i0c16[i]? = some (pc, v)) : mj_ins 0 pc = some v := mj_lz (by rw [mj_i0s]; exact List.mem_append.mpr (Or.inr (List.mem_append.mpr (Or.inr (List.mem_append.mpr (Or.inr (List.mem_append.mpr (Or.inr (List.mem_append.mpr (Or.inr (List.mem_append.mpr (Or.inr (List.mem_append.mpr (Or.inr (List.mem_append.mpr (Or.inr (List.mem_append.mpr (Or.inr (List.mem_append.mpr (Or.inr (List.mem_append.mpr (Or.inr (List.mem_append.mpr (Or.inr (List.mem_append.mpr (Or.inr (List.mem_append.mpr (Or.inr (List.mem_append.mpr (Or.inr (List.mem_append.mpr (Or.inr (List.mem_append.mpr (Or.inl (List.mem_of_getElem? h)))))))))))))))))))))))))))))))))))
theorem mj_lc17 {i pc : Nat} {v : Instr} (h : mj_i0c17[i]? = some (pc, v)) : mj_ins 0 pc = some v := mj_lz (by rw [mj_i0s]; exact List.mem_append.mpr (Or.inr (List.mem_append.mpr (Or.inr (List.mem_append.mpr (Or.inr (List.mem_append.mpr (Or.inr (List.mem_append.mpr (Or.inr (List.mem_append.mpr (Or.inr (List.mem_append.mpr (Or.inr (List.mem_append.mpr (Or.inr (List.mem_append.mpr (Or.inr (List.mem_append.mpr (Or.inr (List.mem_append.mpr (Or.inr (List.mem_append.mpr (Or.inr (List.mem_append.mpr (Or.inr (List.mem_append.mpr (Or.inr (List.mem_append.mpr (Or.inr (List.mem_append.mpr (Or.inr (List.mem_append.mpr (Or.inr (List.mem_of_getElem? h)))))))))))))))))))))))))))))))))))
