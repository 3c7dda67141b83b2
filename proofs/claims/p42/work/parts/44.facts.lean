/-! the law's start: the small machine's cells are the machine's -/
def mj_h0 (xs : Nat → Int32) (L : Nat) : mj_H := (1000, (List.range L).map (fun j => Value.int (xs j))) :: (mj_sv.map (fun l => (1000, l.map Value.int)) ++ mj_tb.map (fun l => (900, l.map Value.int)))
def mj_lv0 : mj_L := [some (.ref 0), none, none, none]
def mj_Ok (xs : Nat → Int32) (L : Nat) : Prop := ∃ (f d : Nat) (h' : mj_H), d ≤ 1300 ∧ mj_run f d 0 0 mj_lv0 [] (mj_h0 xs L) = some (some (.int 1), h') ∧ h'.length - (mj_h0 xs L).length ≤ 600000 ∧ mj_hsz h' - mj_hsz (mj_h0 xs L) ≤ 7302250
def mj_fl : List Cond := flatC (Jvm.Cond.and given_1 narrow_1)
def mj_stT (k : Nat) : Term := .static (mj_s0 (k + 1)).1 (mj_s0 (k + 1)).2.1 (mj_s0 (k + 1)).2.2
set_option maxRecDepth 100000 in
theorem mj_f1 : ∀ k, k < mj_sv.length → Cond.arrayOf (mj_stT k) .int ∈ mj_fl ∧ Cond.eq (.length (mj_stT k)) (.int (Int32.ofNat (mj_sv.getD k []).length)) ∈ mj_fl ∧ (mj_sv.getD k []).length < 2 ^ 31 := by decide +kernel
set_option maxRecDepth 100000 in
theorem mj_f2 : ∀ k, k < mj_sv.length → ∀ j, j < (mj_sv.getD k []).length → Cond.eq (.elem (mj_stT k) (.int (Int32.ofNat j))) (.int ((mj_sv.getD k []).getD j 0)) ∈ mj_fl := by decide +kernel
theorem mj_svl : mj_sv.length = mj_sl0.length ∧ mj_n0 = 1 + mj_sv.length + mj_tb.length ∧ mj_tb.length = 1 ∧ mj_tx.length = 1 := by decide +kernel
set_option maxRecDepth 100000 in
theorem mj_f3 : ∀ k, k < mj_sl0.length → Cond.laysStatic (mj_s0 (k + 1)).1 (mj_s0 (k + 1)).2.1 (mj_s0 (k + 1)).2.2 ∈ lw_tbl ∧ Cond.initialized (mj_s0 (k + 1)).1 ∈ lw_tbl := by decide +kernel
set_option maxRecDepth 100000 in
theorem mj_f4 : (Cond.laysStatic "java/lang/String" "COMPACT_STRINGS" "Z" ∈ lw_tbl ∧ Cond.initialized "java/lang/String" ∈ lw_tbl ∧ Cond.eq (.static "java/lang/String" "COMPACT_STRINGS" "Z") (.int 1) ∈ mj_fl) ∧ (Cond.laysStatic "jdk/internal/util/Preconditions" "SIOOBE_FORMATTER" "Ljava/util/function/BiFunction;" ∈ lw_tbl ∧ Cond.initialized "jdk/internal/util/Preconditions" ∈ lw_tbl ∧ Cond.isRef (.static "jdk/internal/util/Preconditions" "SIOOBE_FORMATTER" "Ljava/util/function/BiFunction;") ∈ mj_fl) := by decide +kernel
def mj_t0 : String × Nat × String := mj_tx.getD 0 ("", 0, "")
def mj_sT : Term := .string mj_t0.1 mj_t0.2.1
def mj_b0 : List Int32 := mj_tb.getD 0 []
set_option maxRecDepth 100000 in
theorem mj_f5 : Cond.exactly mj_sT "java/lang/String" ∈ mj_fl ∧ Cond.eq (.field mj_sT "java/lang/String" "coder" "B") (.int 0) ∈ mj_fl ∧ Cond.arrayOf (.field mj_sT "java/lang/String" "value" "[B") .byte ∈ mj_fl ∧ Cond.eq (.length (.field mj_sT "java/lang/String" "value" "[B")) (.int (Int32.ofNat mj_b0.length)) ∈ mj_fl ∧ mj_b0.length < 2 ^ 31 ∧ (∀ b ∈ mj_b0, b &&& 255 = b) ∧ Cond.stringRef mj_t0.1 mj_t0.2.1 mj_t0.2.2 ∈ lw_tbl := by decide +kernel
def mj_f6c (j : Nat) : Cond := Cond.eq (.elem (.field mj_sT "java/lang/String" "value" "[B") (.int (Int32.ofNat j))) (.int (mj_b0.getD j 0))
def mj_f6d (j : Nat) : Bool := decide (mj_fl[mj_pf.getD j 0]? = some (mj_f6c j))
set_option maxRecDepth 100000 in
theorem mj_f6_0 : (((List.range 128).drop (16 * 0)).take 16).all (fun j => decide (mj_b0.length ≤ j) || mj_f6d j) = true := by decide +kernel
set_option maxRecDepth 100000 in
theorem mj_f6_1 : (((List.range 128).drop (16 * 1)).take 16).all (fun j => decide (mj_b0.length ≤ j) || mj_f6d j) = true := by decide +kernel
set_option maxRecDepth 100000 in
theorem mj_f6_2 : (((List.range 128).drop (16 * 2)).take 16).all (fun j => decide (mj_b0.length ≤ j) || mj_f6d j) = true := by decide +kernel
set_option maxRecDepth 100000 in
theorem mj_f6_3 : (((List.range 128).drop (16 * 3)).take 16).all (fun j => decide (mj_b0.length ≤ j) || mj_f6d j) = true := by decide +kernel
set_option maxRecDepth 100000 in
theorem mj_f6_4 : (((List.range 128).drop (16 * 4)).take 16).all (fun j => decide (mj_b0.length ≤ j) || mj_f6d j) = true := by decide +kernel
set_option maxRecDepth 100000 in
theorem mj_f6_5 : (((List.range 128).drop (16 * 5)).take 16).all (fun j => decide (mj_b0.length ≤ j) || mj_f6d j) = true := by decide +kernel
set_option maxRecDepth 100000 in
theorem mj_f6_6 : (((List.range 128).drop (16 * 6)).take 16).all (fun j => decide (mj_b0.length ≤ j) || mj_f6d j) = true := by decide +kernel
set_option maxRecDepth 100000 in
theorem mj_f6_7 : (((List.range 128).drop (16 * 7)).take 16).all (fun j => decide (mj_b0.length ≤ j) || mj_f6d j) = true := by decide +kernel
theorem mj_f6s : ∀ k, k < 8 → (((List.range 128).drop (16 * k)).take 16).all (fun j => decide (mj_b0.length ≤ j) || mj_f6d j) = true := by
  intro k hk
  match k, hk with
  | 0, _ => exact mj_f6_0
  | 1, _ => exact mj_f6_1
  | 2, _ => exact mj_f6_2
  | 3, _ => exact mj_f6_3
  | 4, _ => exact mj_f6_4
  | 5, _ => exact mj_f6_5
  | 6, _ => exact mj_f6_6
  | 7, _ => exact mj_f6_7
  | k + 8, h => omega
theorem mj_b0l : mj_b0.length ≤ 128 := by decide +kernel
theorem mj_f6 : ∀ j, j < mj_b0.length → Cond.eq (.elem (.field mj_sT "java/lang/String" "value" "[B") (.int (Int32.ofNat j))) (.int (mj_b0.getD j 0)) ∈ mj_fl := by
  intro j hj
  have hj2 : j < 128 := Nat.lt_of_lt_of_le hj mj_b0l
  have h1 := mj_chunk (f := fun j => decide (mj_b0.length ≤ j) || mj_f6d j) (L := List.range 128) (B := 16) (K := 8) (by decide) (by rw [List.length_range]; decide) mj_f6s (m := j) (x := j) (by rw [List.getElem?_range hj2])
  have h2 : decide (mj_b0.length ≤ j) = false := decide_eq_false (by omega)
  rw [h2, Bool.false_or] at h1
  exact List.mem_of_getElem? (of_decide_eq_true h1)
set_option maxRecDepth 100000 in
theorem mj_f7 : (∀ w ∈ mj_nw, w ∈ lw_tbl) ∧ (∀ C ∈ mj_ao, Cond.arrayOver (.object C) ∈ lw_tbl) ∧ ∀ c, c < mj_nc → Cond.instantiable (mj_nm c) (mj_N c) ∈ lw_tbl := by decide +kernel
