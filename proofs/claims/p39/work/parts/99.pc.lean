/-! -/
set_option maxRecDepth 100000 in
theorem ji_148_5 : mj_ins 148 5 = some (.iload 4) := by decide +kernel
set_option maxRecDepth 100000 in
theorem ji_148_7 : mj_ins 148 7 = some (.aload_n 0) := by decide +kernel
set_option maxRecDepth 100000 in
theorem ji_148_8 : mj_ins 148 8 = some (.getfield 22) := by decide +kernel
set_option maxRecDepth 100000 in
theorem jf_148_22 : mj_fld 148 22 = some (6, 3, .int, true) := by decide +kernel
set_option maxRecDepth 100000 in
theorem ji_148_11 : mj_ins 148 11 = some (.if_icmp .ge 55) := by decide +kernel
set_option maxRecDepth 100000 in
theorem ji_148_14 : mj_ins 148 14 = some (.iload_n 1) := by decide +kernel
set_option maxRecDepth 100000 in
theorem ji_148_15 : mj_ins 148 15 = some (.ifCond .le 51) := by decide +kernel
set_option maxRecDepth 100000 in
theorem ji_148_18 : mj_ins 148 18 = some (.aload_n 0) := by decide +kernel
set_option maxRecDepth 100000 in
theorem ji_148_19 : mj_ins 148 19 = some (.getfield 11) := by decide +kernel
set_option maxRecDepth 100000 in
theorem jf_148_11 : mj_fld 148 11 = some (6, 0, (.array .int), false) := by decide +kernel
set_option maxRecDepth 100000 in
theorem ji_148_22 : mj_ins 148 22 = some (.iload 4) := by decide +kernel
set_option maxRecDepth 100000 in
theorem ji_148_24 : mj_ins 148 24 = some (.iaload) := by decide +kernel
set_option maxRecDepth 100000 in
theorem ji_148_25 : mj_ins 148 25 = some (.iload_n 1) := by decide +kernel
set_option maxRecDepth 100000 in
theorem ji_148_26 : mj_ins 148 26 = some (.irem) := by decide +kernel
set_option maxRecDepth 100000 in
theorem ji_148_27 : mj_ins 148 27 = some (.iload_n 2) := by decide +kernel
set_option maxRecDepth 100000 in
theorem ji_148_28 : mj_ins 148 28 = some (.if_icmp .ne 7) := by decide +kernel
set_option maxRecDepth 100000 in
theorem ji_148_35 : mj_ins 148 35 = some (.iconst 0) := by decide +kernel
set_option maxRecDepth 100000 in
theorem ji_148_36 : mj_ins 148 36 = some (.istore 5) := by decide +kernel
set_option maxRecDepth 100000 in
theorem ji_148_38 : mj_ins 148 38 = some (.iload_n 3) := by decide +kernel
set_option maxRecDepth 100000 in
theorem ji_148_39 : mj_ins 148 39 = some (.ifCond .eq 19) := by decide +kernel
set_option maxRecDepth 100000 in
theorem ji_148_58 : mj_ins 148 58 = some (.iconst 0) := by decide +kernel
set_option maxRecDepth 100000 in
theorem ji_148_59 : mj_ins 148 59 = some (.istore_n 3) := by decide +kernel
set_option maxRecDepth 100000 in
theorem ji_148_60 : mj_ins 148 60 = some (.iinc 4 1) := by decide +kernel
set_option maxRecDepth 100000 in
theorem ji_148_63 : mj_ins 148 63 = some (.goto (-58)) := by decide +kernel
set_option maxRecDepth 100000 in
theorem ji_148_42 : mj_ins 148 42 = some (.iload 5) := by decide +kernel
set_option maxRecDepth 100000 in
theorem ji_148_44 : mj_ins 148 44 = some (.aload_n 0) := by decide +kernel
set_option maxRecDepth 100000 in
theorem ji_148_45 : mj_ins 148 45 = some (.getfield 15) := by decide +kernel
set_option maxRecDepth 100000 in
theorem jf_148_15 : mj_fld 148 15 = some (6, 1, (.array .boolean), false) := by decide +kernel
set_option maxRecDepth 100000 in
theorem ji_148_48 : mj_ins 148 48 = some (.iload 4) := by decide +kernel
set_option maxRecDepth 100000 in
theorem ji_148_50 : mj_ins 148 50 = some (.baload) := by decide +kernel
set_option maxRecDepth 100000 in
theorem ji_148_51 : mj_ins 148 51 = some (.if_icmp .ne 7) := by decide +kernel
set_option maxRecDepth 100000 in
theorem ji_148_54 : mj_ins 148 54 = some (.iconst 1) := by decide +kernel
set_option maxRecDepth 100000 in
theorem ji_148_55 : mj_ins 148 55 = some (.goto 4) := by decide +kernel
set_option maxRecDepth 100000 in
theorem ji_148_31 : mj_ins 148 31 = some (.iconst 1) := by decide +kernel
set_option maxRecDepth 100000 in
theorem ji_148_32 : mj_ins 148 32 = some (.goto 4) := by decide +kernel
set_option maxRecDepth 100000 in
theorem ji_148_66 : mj_ins 148 66 = some (.iload_n 3) := by decide +kernel
set_option maxRecDepth 100000 in
theorem ji_148_67 : mj_ins 148 67 = some (.ireturn) := by decide +kernel
set_option maxRecDepth 100000 in
theorem jr_148 : mj_ret 148 = some .boolean := by decide +kernel
set_option maxRecDepth 100000 in
theorem ji_148_0 : mj_ins 148 0 = some (.iconst 1) := by decide +kernel
set_option maxRecDepth 100000 in
theorem ji_148_1 : mj_ins 148 1 = some (.istore_n 3) := by decide +kernel
set_option maxRecDepth 100000 in
theorem ji_148_2 : mj_ins 148 2 = some (.iconst 0) := by decide +kernel
set_option maxRecDepth 100000 in
theorem ji_148_3 : mj_ins 148 3 = some (.istore 4) := by decide +kernel
set_option maxRecDepth 100000 in
theorem ji_149_2 : mj_ins 149 2 = some (.iload_n 3) := by decide +kernel
set_option maxRecDepth 100000 in
theorem ji_149_3 : mj_ins 149 3 = some (.bipush 99) := by decide +kernel
set_option maxRecDepth 100000 in
theorem ji_149_5 : mj_ins 149 5 = some (.if_icmp .gt 24) := by decide +kernel
set_option maxRecDepth 100000 in
theorem ji_149_8 : mj_ins 149 8 = some (.iload_n 1) := by decide +kernel
set_option maxRecDepth 100000 in
theorem ji_149_9 : mj_ins 149 9 = some (.ifCond .le 20) := by decide +kernel
set_option maxRecDepth 100000 in
theorem ji_149_12 : mj_ins 149 12 = some (.aload_n 0) := by decide +kernel
set_option maxRecDepth 100000 in
theorem ji_149_13 : mj_ins 149 13 = some (.getfield 19) := by decide +kernel
set_option maxRecDepth 100000 in
theorem jf_149_19 : mj_fld 149 19 = some (6, 2, (.array .int), false) := by decide +kernel
set_option maxRecDepth 100000 in
theorem ji_149_16 : mj_ins 149 16 = some (.iload_n 3) := by decide +kernel
set_option maxRecDepth 100000 in
theorem ji_149_17 : mj_ins 149 17 = some (.dup2) := by decide +kernel
set_option maxRecDepth 100000 in
theorem ji_149_18 : mj_ins 149 18 = some (.iaload) := by decide +kernel
set_option maxRecDepth 100000 in
theorem ji_149_19 : mj_ins 149 19 = some (.iconst 1) := by decide +kernel
set_option maxRecDepth 100000 in
theorem ji_149_20 : mj_ins 149 20 = some (.iadd) := by decide +kernel
set_option maxRecDepth 100000 in
theorem ji_149_21 : mj_ins 149 21 = some (.iastore) := by decide +kernel
set_option maxRecDepth 100000 in
theorem ji_149_22 : mj_ins 149 22 = some (.iload_n 3) := by decide +kernel
set_option maxRecDepth 100000 in
theorem ji_149_23 : mj_ins 149 23 = some (.iload_n 1) := by decide +kernel
set_option maxRecDepth 100000 in
theorem ji_149_24 : mj_ins 149 24 = some (.iadd) := by decide +kernel
set_option maxRecDepth 100000 in
theorem ji_149_25 : mj_ins 149 25 = some (.istore_n 3) := by decide +kernel
set_option maxRecDepth 100000 in
theorem ji_149_26 : mj_ins 149 26 = some (.goto (-24)) := by decide +kernel
set_option maxRecDepth 100000 in
theorem ji_149_29 : mj_ins 149 29 = some (.return_) := by decide +kernel
set_option maxRecDepth 100000 in
theorem jr_149 : mj_ret 149 = none := by decide +kernel
set_option maxRecDepth 100000 in
theorem ji_149_0 : mj_ins 149 0 = some (.iload_n 2) := by decide +kernel
set_option maxRecDepth 100000 in
theorem ji_149_1 : mj_ins 149 1 = some (.istore_n 3) := by decide +kernel
set_option maxRecDepth 100000 in
theorem ji_147_4 : mj_ins 147 4 = some (.iload_n 2) := by decide +kernel
set_option maxRecDepth 100000 in
theorem ji_147_5 : mj_ins 147 5 = some (.bipush 99) := by decide +kernel
set_option maxRecDepth 100000 in
theorem ji_147_7 : mj_ins 147 7 = some (.if_icmp .gt 16) := by decide +kernel
set_option maxRecDepth 100000 in
theorem ji_147_10 : mj_ins 147 10 = some (.aload_n 0) := by decide +kernel
set_option maxRecDepth 100000 in
theorem ji_147_11 : mj_ins 147 11 = some (.getfield 19) := by decide +kernel
set_option maxRecDepth 100000 in
theorem jf_147_19 : mj_fld 147 19 = some (6, 2, (.array .int), false) := by decide +kernel
set_option maxRecDepth 100000 in
theorem ji_147_14 : mj_ins 147 14 = some (.iload_n 2) := by decide +kernel
set_option maxRecDepth 100000 in
theorem ji_147_15 : mj_ins 147 15 = some (.iconst 0) := by decide +kernel
set_option maxRecDepth 100000 in
theorem ji_147_16 : mj_ins 147 16 = some (.iastore) := by decide +kernel
set_option maxRecDepth 100000 in
theorem ji_147_17 : mj_ins 147 17 = some (.iinc 2 1) := by decide +kernel
set_option maxRecDepth 100000 in
theorem ji_147_20 : mj_ins 147 20 = some (.goto (-16)) := by decide +kernel
set_option maxRecDepth 100000 in
theorem jn_147 : mj_nl 147 = 4 := by decide +kernel
set_option maxRecDepth 100000 in
theorem jk_147 : mj_cls 147 = 6 := by decide +kernel
set_option maxRecDepth 100000 in
theorem jn_148 : mj_nl 148 = 6 := by decide +kernel
set_option maxRecDepth 100000 in
theorem jk_148 : mj_cls 148 = 6 := by decide +kernel
set_option maxRecDepth 100000 in
theorem jn_149 : mj_nl 149 = 4 := by decide +kernel
set_option maxRecDepth 100000 in
theorem jk_149 : mj_cls 149 = 6 := by decide +kernel
set_option maxRecDepth 100000 in
theorem jn_150 : mj_nl 150 = 4 := by decide +kernel
set_option maxRecDepth 100000 in
theorem jk_150 : mj_cls 150 = 6 := by decide +kernel
set_option maxRecDepth 100000 in
theorem ji_147_33 : mj_ins 147 33 = some (.iload_n 3) := by decide +kernel
set_option maxRecDepth 100000 in
theorem ji_147_34 : mj_ins 147 34 = some (.iload_n 2) := by decide +kernel
set_option maxRecDepth 100000 in
theorem ji_147_35 : mj_ins 147 35 = some (.if_icmp .ge 27) := by decide +kernel
set_option maxRecDepth 100000 in
theorem ji_147_38 : mj_ins 147 38 = some (.aload_n 0) := by decide +kernel
set_option maxRecDepth 100000 in
theorem ji_147_39 : mj_ins 147 39 = some (.iload_n 2) := by decide +kernel
set_option maxRecDepth 100000 in
theorem ji_147_40 : mj_ins 147 40 = some (.iload_n 3) := by decide +kernel
set_option maxRecDepth 100000 in
theorem ji_147_41 : mj_ins 147 41 = some (.invokevirtual 26) := by decide +kernel
set_option maxRecDepth 100000 in
theorem jc_147_26 : mj_cal 147 26 = some (2, 148, 2) := by decide +kernel
set_option maxRecDepth 100000 in
theorem ji_147_44 : mj_ins 147 44 = some (.ifCond .eq 12) := by decide +kernel
set_option maxRecDepth 100000 in
theorem ji_147_56 : mj_ins 147 56 = some (.iinc 3 1) := by decide +kernel
set_option maxRecDepth 100000 in
theorem ji_147_59 : mj_ins 147 59 = some (.goto (-26)) := by decide +kernel
set_option maxRecDepth 100000 in
theorem ji_147_47 : mj_ins 147 47 = some (.iinc 1 1) := by decide +kernel
set_option maxRecDepth 100000 in
theorem ji_147_50 : mj_ins 147 50 = some (.aload_n 0) := by decide +kernel
set_option maxRecDepth 100000 in
theorem ji_147_51 : mj_ins 147 51 = some (.iload_n 2) := by decide +kernel
set_option maxRecDepth 100000 in
theorem ji_147_52 : mj_ins 147 52 = some (.iload_n 3) := by decide +kernel
set_option maxRecDepth 100000 in
theorem ji_147_53 : mj_ins 147 53 = some (.invokevirtual 30) := by decide +kernel
set_option maxRecDepth 100000 in
theorem jc_147_30 : mj_cal 147 30 = some (2, 149, 2) := by decide +kernel
set_option maxRecDepth 100000 in
theorem ji_147_25 : mj_ins 147 25 = some (.iload_n 2) := by decide +kernel
set_option maxRecDepth 100000 in
theorem ji_147_26 : mj_ins 147 26 = some (.bipush 20) := by decide +kernel
set_option maxRecDepth 100000 in
theorem ji_147_28 : mj_ins 147 28 = some (.if_icmp .gt 40) := by decide +kernel
set_option maxRecDepth 100000 in
theorem ji_147_68 : mj_ins 147 68 = some (.iload_n 1) := by decide +kernel
set_option maxRecDepth 100000 in
theorem ji_147_69 : mj_ins 147 69 = some (.ireturn) := by decide +kernel
set_option maxRecDepth 100000 in
theorem jr_147 : mj_ret 147 = some .int := by decide +kernel
set_option maxRecDepth 100000 in
theorem ji_147_31 : mj_ins 147 31 = some (.iconst 0) := by decide +kernel
set_option maxRecDepth 100000 in
theorem ji_147_32 : mj_ins 147 32 = some (.istore_n 3) := by decide +kernel
set_option maxRecDepth 100000 in
theorem ji_147_62 : mj_ins 147 62 = some (.iinc 2 1) := by decide +kernel
set_option maxRecDepth 100000 in
theorem ji_147_65 : mj_ins 147 65 = some (.goto (-40)) := by decide +kernel
set_option maxRecDepth 100000 in
theorem ji_147_0 : mj_ins 147 0 = some (.iconst 0) := by decide +kernel
set_option maxRecDepth 100000 in
theorem ji_147_1 : mj_ins 147 1 = some (.istore_n 1) := by decide +kernel
set_option maxRecDepth 100000 in
theorem ji_147_2 : mj_ins 147 2 = some (.iconst 0) := by decide +kernel
set_option maxRecDepth 100000 in
theorem ji_147_3 : mj_ins 147 3 = some (.istore_n 2) := by decide +kernel
set_option maxRecDepth 100000 in
theorem ji_147_23 : mj_ins 147 23 = some (.iconst 1) := by decide +kernel
set_option maxRecDepth 100000 in
theorem ji_147_24 : mj_ins 147 24 = some (.istore_n 2) := by decide +kernel
/-! rhythms, purely; laid by program (wp_rhy.py) -/
def bi : Bool → Int
  | true => 1
  | false => 0
theorem bi_01 : ∀ x : Bool, bi x = 0 ∨ bi x = 1
  | true => Or.inr rfl
  | false => Or.inl rfl
def rh_k (P b : Nat → Int) (s f : Int) : Nat → Bool
  | 0 => true
  | k + 1 => rh_k P b s f k && (decide (P k % s = f) == decide (b k = 1))
section RH
variable {P b : Nat → Int} {s f : Int}
theorem rh_0 {k : Nat} (h : rh_k P b s f k = false) : rh_k P b s f (k + 1) = false := by
  show (rh_k P b s f k && (decide (P k % s = f) == decide (b k = 1))) = false
  rw [h]
  rfl
theorem rh_1 {k : Nat} (h : rh_k P b s f k = true) (e : P k % s = f ↔ b k = 1) : rh_k P b s f (k + 1) = true := by
  show (rh_k P b s f k && (decide (P k % s = f) == decide (b k = 1))) = true
  rw [h, Bool.true_and, beq_iff_eq]
  exact decide_eq_decide.mpr e
theorem rh_2 {k : Nat} (e : ¬ (P k % s = f ↔ b k = 1)) : rh_k P b s f (k + 1) = false := by
  show (rh_k P b s f k && (decide (P k % s = f) == decide (b k = 1))) = false
  have : (decide (P k % s = f) == decide (b k = 1)) = false := by
    cases q : (decide (P k % s = f) == decide (b k = 1)) with
    | false => rfl
    | true => exact absurd (decide_eq_decide.mp (beq_iff_eq.mp q)) e
  rw [this, Bool.and_false]
theorem rh_le {k n : Nat} (h : rh_k P b s f k = false) (hk : k ≤ n) : rh_k P b s f n = false := by
  induction n with
  | zero =>
    have : k = 0 := by omega
    subst this
    exact h
  | succ n ih =>
    by_cases e : k = n + 1
    · subst e
      exact h
    · exact rh_0 (ih (by omega))
end RH
def tl_k (P : Nat → Int) (x : Int) : Nat → Bool
  | 0 => false
  | k + 1 => tl_k P x k || decide (P k = x)
section TL
variable {P : Nat → Int} {x : Int}
theorem tl_0 {k : Nat} (h : tl_k P x k = true) : tl_k P x (k + 1) = true := by
  show (tl_k P x k || decide (P k = x)) = true
  rw [h]
  rfl
theorem tl_1 {k : Nat} (e : P k = x) : tl_k P x (k + 1) = true := by
  show (tl_k P x k || decide (P k = x)) = true
  rw [decide_eq_true e, Bool.or_true]
theorem tl_2 {k : Nat} (h : tl_k P x k = false) (e : ¬ P k = x) : tl_k P x (k + 1) = false := by
  show (tl_k P x k || decide (P k = x)) = false
  rw [h, decide_eq_false e]
  rfl
theorem tl_le {k n : Nat} (h : tl_k P x k = true) (hk : k ≤ n) : tl_k P x n = true := by
  induction n with
  | zero =>
    have : k = 0 := by omega
    subst this
    exact h
  | succ n ih =>
    by_cases e : k = n + 1
    · subst e
      exact h
    · exact tl_0 (ih (by omega))
end TL
def cf (w : Nat → Nat → Int) (s : Nat) : Nat → Int
  | 0 => 0
  | f + 1 => cf w s f + w s f
def cs (w : Nat → Nat → Int) : Nat → Int
  | 0 => 0
  | s + 1 => cs w s + cf w (s + 1) (s + 1)
theorem cf_b {w : Nat → Nat → Int} (hw : ∀ s f, 0 ≤ w s f ∧ w s f ≤ 1) (s : Nat) : ∀ f : Nat, 0 ≤ cf w s f ∧ cf w s f ≤ (f : Int)
  | 0 => ⟨Int.le_refl _, Int.le_refl _⟩
  | f + 1 => by
    have h1 := cf_b hw s f
    have h2 := hw s f
    show 0 ≤ cf w s f + w s f ∧ cf w s f + w s f ≤ ((f + 1 : Nat) : Int)
    omega
theorem cs_b {w : Nat → Nat → Int} (hw : ∀ s f, 0 ≤ w s f ∧ w s f ≤ 1) : ∀ s : Nat, s ≤ 20 → 0 ≤ cs w s ∧ cs w s ≤ 20 * (s : Int)
  | 0, _ => ⟨Int.le_refl _, Int.le_refl _⟩
  | s + 1, hs => by
    have h1 := cs_b hw s (by omega)
    have h2 := cf_b hw (s + 1) (s + 1)
    show 0 ≤ cs w s + cf w (s + 1) (s + 1) ∧ cs w s + cf w (s + 1) (s + 1) ≤ 20 * ((s + 1 : Nat) : Int)
    omega
/-- rhythms that fit; those of them that have a pole at x -/
def ww (P b : Nat → Int) (N : Nat) (s f : Nat) : Int := bi (rh_k P b (s : Int) (f : Int) N)
def wq (P b : Nat → Int) (N : Nat) (x : Int) (s f : Nat) : Int := bi (rh_k P b (s : Int) (f : Int) N && decide (x % (s : Int) = (f : Int)))
theorem bi_b (x : Bool) : 0 ≤ bi x ∧ bi x ≤ 1 := by
  have := bi_01 x
  omega
theorem ww_b {P b : Nat → Int} {N : Nat} : 0 ≤ cs (ww P b N) 20 ∧ cs (ww P b N) 20 ≤ 400 := cs_b (fun _ _ => bi_b _) 20 (by decide)
theorem wq_b {P b : Nat → Int} {N : Nat} {x : Int} : 0 ≤ cs (wq P b N x) 20 ∧ cs (wq P b N x) 20 ≤ 400 := cs_b (fun _ _ => bi_b _) 20 (by decide)
theorem m_io {x s f : Int} (hs : 1 ≤ s ∧ s ≤ 20) (hx : 0 ≤ x) (hf : 0 ≤ f ∧ f < s) : (f ≤ x ∧ (x - f) % s = 0) ↔ x % s = f := by
  have h20 : s = 1 ∨ s = 2 ∨ s = 3 ∨ s = 4 ∨ s = 5 ∨ s = 6 ∨ s = 7 ∨ s = 8 ∨ s = 9 ∨ s = 10 ∨ s = 11 ∨ s = 12 ∨ s = 13 ∨ s = 14 ∨ s = 15 ∨ s = 16 ∨ s = 17 ∨ s = 18 ∨ s = 19 ∨ s = 20 := by omega
  rcases h20 with rfl | rfl | rfl | rfl | rfl | rfl | rfl | rfl | rfl | rfl | rfl | rfl | rfl | rfl | rfl | rfl | rfl | rfl | rfl | rfl <;> omega
theorem m_md {q p s f : Int} (hs : 1 ≤ s ∧ s ≤ 20) (hq : q % s = f) (h1 : q < p) (h2 : p < q + s) : ¬ p % s = f := by
  have h20 : s = 1 ∨ s = 2 ∨ s = 3 ∨ s = 4 ∨ s = 5 ∨ s = 6 ∨ s = 7 ∨ s = 8 ∨ s = 9 ∨ s = 10 ∨ s = 11 ∨ s = 12 ∨ s = 13 ∨ s = 14 ∨ s = 15 ∨ s = 16 ∨ s = 17 ∨ s = 18 ∨ s = 19 ∨ s = 20 := by omega
  rcases h20 with rfl | rfl | rfl | rfl | rfl | rfl | rfl | rfl | rfl | rfl | rfl | rfl | rfl | rfl | rfl | rfl | rfl | rfl | rfl | rfl <;> omega
theorem m_up {q s f : Int} (hs : 1 ≤ s ∧ s ≤ 20) (hq : q % s = f) : (q + s) % s = f := by
  have h20 : s = 1 ∨ s = 2 ∨ s = 3 ∨ s = 4 ∨ s = 5 ∨ s = 6 ∨ s = 7 ∨ s = 8 ∨ s = 9 ∨ s = 10 ∨ s = 11 ∨ s = 12 ∨ s = 13 ∨ s = 14 ∨ s = 15 ∨ s = 16 ∨ s = 17 ∨ s = 18 ∨ s = 19 ∨ s = 20 := by omega
  rcases h20 with rfl | rfl | rfl | rfl | rfl | rfl | rfl | rfl | rfl | rfl | rfl | rfl | rfl | rfl | rfl | rfl | rfl | rfl | rfl | rfl <;> omega
theorem m_le {p s f : Int} (hs : 1 ≤ s ∧ s ≤ 20) (hp : 0 ≤ p) (hq : p % s = f) : f ≤ p := by
  have h20 : s = 1 ∨ s = 2 ∨ s = 3 ∨ s = 4 ∨ s = 5 ∨ s = 6 ∨ s = 7 ∨ s = 8 ∨ s = 9 ∨ s = 10 ∨ s = 11 ∨ s = 12 ∨ s = 13 ∨ s = 14 ∨ s = 15 ∨ s = 16 ∨ s = 17 ∨ s = 18 ∨ s = 19 ∨ s = 20 := by omega
  rcases h20 with rfl | rfl | rfl | rfl | rfl | rfl | rfl | rfl | rfl | rfl | rfl | rfl | rfl | rfl | rfl | rfl | rfl | rfl | rfl | rfl <;> omega
theorem m_id {s f : Int} (hs : 1 ≤ s ∧ s ≤ 20) (hf : 0 ≤ f ∧ f < s) : f % s = f := by
  have h20 : s = 1 ∨ s = 2 ∨ s = 3 ∨ s = 4 ∨ s = 5 ∨ s = 6 ∨ s = 7 ∨ s = 8 ∨ s = 9 ∨ s = 10 ∨ s = 11 ∨ s = 12 ∨ s = 13 ∨ s = 14 ∨ s = 15 ∨ s = 16 ∨ s = 17 ∨ s = 18 ∨ s = 19 ∨ s = 20 := by omega
  rcases h20 with rfl | rfl | rfl | rfl | rfl | rfl | rfl | rfl | rfl | rfl | rfl | rfl | rfl | rfl | rfl | rfl | rfl | rfl | rfl | rfl <;> omega
/-- where to dig next: the best so far, and how far off it is -/
def nx (tl : Nat → Bool) (o : Nat → Int) : Nat → Option (Int × Int)
  | 0 => none
  | k + 1 => if tl k = true then nx tl o k else match nx tl o k with
    | none => some ((k : Int), o k)
    | some (b, l) => if o k < l then some ((k : Int), o k) else some (b, l)
section NX
variable {tl : Nat → Bool} {o : Nat → Int} {k : Nat} {b l : Int}
theorem nx_t (h : tl k = true) : nx tl o (k + 1) = nx tl o k := by
  show (if tl k = true then nx tl o k else _) = _
  rw [if_pos h]
theorem nx_n (h : tl k = false) (e : nx tl o k = none) : nx tl o (k + 1) = some ((k : Int), o k) := by
  unfold nx
  rw [h, e]
  rfl
theorem nx_l (h : tl k = false) (e : nx tl o k = some (b, l)) (q : o k < l) : nx tl o (k + 1) = some ((k : Int), o k) := by
  unfold nx
  rw [h, e]
  exact if_pos q
theorem nx_g (h : tl k = false) (e : nx tl o k = some (b, l)) (q : ¬ o k < l) : nx tl o (k + 1) = some (b, l) := by
  unfold nx
  rw [h, e]
  exact if_neg q
theorem nx_b (ho : ∀ j, 0 ≤ o j ∧ o j ≤ 2000) : ∀ {k : Nat} {b l : Int}, nx tl o k = some (b, l) → 0 ≤ b ∧ b < (k : Int) ∧ 0 ≤ l ∧ l ≤ 2000
  | 0, b, l, h => by cases h
  | k + 1, b, l, h => by
    cases ht : tl k with
    | true =>
      rw [nx_t ht] at h
      have := nx_b ho h
      omega
    | false =>
      have h2 := ho k
      cases e : nx tl o k with
      | none =>
        rw [nx_n ht e] at h
        cases h
        omega
      | some q =>
        obtain ⟨b2, l2⟩ := q
        have h3 := nx_b ho e
        by_cases q : o k < l2
        · rw [nx_l ht e q] at h
          cases h
          omega
        · rw [nx_g ht e q] at h
          cases h
          omega
end NX
def nb : Option (Int × Int) → Int
  | none => -1
  | some (b, _) => b
def nl (z : Int) : Option (Int × Int) → Int
  | none => z
  | some (_, l) => l
def ab (z : Int) : Int := if 0 ≤ z then z else -z
def of_ (P b : Nat → Int) (N : Nat) (k : Nat) : Int := ab (2 * cs (wq P b N (k : Int)) 20 - cs (ww P b N) 20)
theorem of_b {P b : Nat → Int} {N k : Nat} : 0 ≤ of_ P b N k ∧ of_ P b N k ≤ 2000 := by
  have h1 := ww_b (P := P) (b := b) (N := N)
  have h2 := wq_b (P := P) (b := b) (N := N) (x := (k : Int))
  unfold of_ ab
  split <;> omega
def nxt (P b : Nat → Int) (N : Nat) : Nat → Option (Int × Int) := nx (fun k => tl_k P (k : Int) N) (of_ P b N)
/-- the answer -/
def ry (P b : Nat → Int) (N : Nat) (x : Int) : Int := if x = 0 then cs (ww P b N) 20 else if cs (ww P b N) 20 < 2 then -1 else nb (nxt P b N 100)
theorem ry_r {P b : Nat → Int} {N : Nat} {x : Int} : wp_r (ry P b N x) := by
  have h1 := ww_b (P := P) (b := b) (N := N)
  unfold ry
  split
  · omega
  · split
    · omega
    · cases e : nxt P b N 100 with
      | none => exact ⟨by decide, by decide⟩
      | some q =>
        obtain ⟨b2, l2⟩ := q
        have := nx_b (fun j => of_b) e
        show -2147483648 ≤ b2 ∧ b2 ≤ 2147483647
        omega
/-! the class's walk -/
def fd_hv (H : Nat → Int) : List Value := (List.range 100).map (fun p => wp_i (H p))
theorem hv_l {H : Nat → Int} : (fd_hv H).length = 100 := by
  unfold fd_hv
  rw [List.length_map, List.length_range]
theorem hv_g {H : Nat → Int} {p : Nat} (hp : p < 100) : (fd_hv H)[p]? = some (wp_i (H p)) := by
  unfold fd_hv
  rw [List.getElem?_map, List.getElem?_range hp]
  rfl
theorem hv_e {H : Nat → Int} {l : List Value} (hl : l.length = 100) (h : ∀ p, p < 100 → l[p]? = some (wp_i (H p))) : l = fd_hv H := by
  refine List.ext_getElem? (fun j => ?_)
  by_cases q : j < 100
  · rw [h j q, hv_g q]
  · rw [List.getElem?_eq_none (by omega), List.getElem?_eq_none (by rw [hv_l]; omega)]
theorem hv_c {H T : Nat → Int} (h : ∀ p, p < 100 → H p = T p) : fd_hv H = fd_hv T := hv_e hv_l (fun p hp => by rw [hv_g hp, h p hp])
theorem hv_s {H : Nat → Int} {q : Nat} {y : Int} (hq : q < 100) : (fd_hv H).set q (wp_i y) = fd_hv (fun p => if p = q then y else H p) := by
  refine hv_e (by rw [List.length_set, hv_l]) (fun p hp => ?_)
  by_cases e : q = p
  · subst e
    rw [List.getElem?_set_self (by rw [hv_l]; exact hp), if_pos rfl]
  · rw [List.getElem?_set_ne e, hv_g hp, if_neg (Ne.symm e)]
def fd_D (N : Nat) (ps bs : List Value) : Prop := N ≤ 8 ∧ ps.length = 8 ∧ bs.length = 8 ∧ (∀ k, k < 8 → ps[k]? = some (wp_i (sx_el ps k)) ∧ 0 ≤ sx_el ps k ∧ sx_el ps k ≤ 99) ∧ ∀ k, k < 8 → bs[k]? = some (wp_i (sx_el bs k)) ∧ (sx_el bs k = 0 ∨ sx_el bs k = 1)
def fd_U (h0 h : mj_H) (N : Nat) (ps bs hv : List Value) : Prop := (∃ fs, h[61]? = some (6, fs) ∧ fs[0]? = some (.ref 62) ∧ fs[1]? = some (.ref 63) ∧ fs[2]? = some (.ref 64) ∧ fs[3]? = some (wp_i (N : Int))) ∧ h[62]? = some (1000, ps) ∧ h[63]? = some (1001, bs) ∧ (h[64]? = some (1000, hv) ∧ hv.length = 100) ∧ ∀ a, a ≠ 64 → h[a]? = h0[a]?
section WPU
variable {d m pc : Nat} {lv : mj_L} {st : List Value} {h h0 : mj_H} {Q : Option Value → mj_H → Prop} {N : Nat} {ps bs hv : List Value}
theorem fu_g0 {x : Nat} {ty : FieldType} {w : Bool} (V : fd_U h0 h N ps bs hv) (hi : mj_ins m pc = some (.getfield x)) (hf : mj_fld m x = some (6, 0, ty, w)) (hr : wp_R d m (pc + 3) lv (.ref 62 :: st) h Q) : wp_R d m pc lv (.ref 61 :: st) h Q := by
  obtain ⟨⟨fs, e1, e2, e3, e4, e5⟩, -⟩ := V
  exact wp_gf hi hf e1 e2 hr
theorem fu_g1 {x : Nat} {ty : FieldType} {w : Bool} (V : fd_U h0 h N ps bs hv) (hi : mj_ins m pc = some (.getfield x)) (hf : mj_fld m x = some (6, 1, ty, w)) (hr : wp_R d m (pc + 3) lv (.ref 63 :: st) h Q) : wp_R d m pc lv (.ref 61 :: st) h Q := by
  obtain ⟨⟨fs, e1, e2, e3, e4, e5⟩, -⟩ := V
  exact wp_gf hi hf e1 e3 hr
theorem fu_g2 {x : Nat} {ty : FieldType} {w : Bool} (V : fd_U h0 h N ps bs hv) (hi : mj_ins m pc = some (.getfield x)) (hf : mj_fld m x = some (6, 2, ty, w)) (hr : wp_R d m (pc + 3) lv (.ref 64 :: st) h Q) : wp_R d m pc lv (.ref 61 :: st) h Q := by
  obtain ⟨⟨fs, e1, e2, e3, e4, e5⟩, -⟩ := V
  exact wp_gf hi hf e1 e4 hr
theorem fu_g3 {x : Nat} {ty : FieldType} {w : Bool} (V : fd_U h0 h N ps bs hv) (hi : mj_ins m pc = some (.getfield x)) (hf : mj_fld m x = some (6, 3, ty, w)) (hr : wp_R d m (pc + 3) lv (wp_i (N : Int) :: st) h Q) : wp_R d m pc lv (.ref 61 :: st) h Q := by
  obtain ⟨⟨fs, e1, e2, e3, e4, e5⟩, -⟩ := V
  exact wp_gf hi hf e1 e5 hr
theorem fu_l62 {k : Nat} (V : fd_U h0 h N ps bs hv) (D : fd_D N ps bs) (hk : k < 8) (hi : mj_ins m pc = some .iaload) (hr : wp_R d m (pc + 1) lv (wp_i (sx_el ps k) :: st) h Q) : wp_R d m pc lv (wp_i (k : Int) :: .ref 62 :: st) h Q := by
  obtain ⟨-, e1, -⟩ := V
  obtain ⟨d1, d2, d3, d4, d5⟩ := D
  exact wp_ial hi e1 (by omega) (by omega) (by omega) (by rw [show (k : Int).toNat = k by omega]; exact (d4 k hk).1) hr
theorem fu_l63 {k : Nat} (V : fd_U h0 h N ps bs hv) (D : fd_D N ps bs) (hk : k < 8) (hi : mj_ins m pc = some .baload) (hr : wp_R d m (pc + 1) lv (wp_i (sx_el bs k) :: st) h Q) : wp_R d m pc lv (wp_i (k : Int) :: .ref 63 :: st) h Q := by
  obtain ⟨-, -, e1, -⟩ := V
  obtain ⟨d1, d2, d3, d4, d5⟩ := D
  exact wp_bal hi e1 (by omega) (by omega) (by omega) (by rw [show (k : Int).toNat = k by omega]; exact (d5 k hk).1) hr
theorem fu_l64 {k : Nat} {H : Nat → Int} (V : fd_U h0 h N ps bs (fd_hv H)) (hk : k < 100) (hi : mj_ins m pc = some .iaload) (hr : wp_R d m (pc + 1) lv (wp_i (H k) :: st) h Q) : wp_R d m pc lv (wp_i (k : Int) :: .ref 64 :: st) h Q := by
  obtain ⟨-, -, -, ⟨e1, e2⟩, -⟩ := V
  exact wp_ial hi e1 (by omega) (by omega) (by omega) (by rw [show (k : Int).toNat = k by omega]; exact hv_g hk) hr
theorem fu_s64 {k : Nat} {y : Int} (V : fd_U h0 h N ps bs hv) (hk : k < 100) (hi : mj_ins m pc = some .iastore) (hr : ∀ h, fd_U h0 h N ps bs (hv.set k (wp_i y)) → wp_R d m (pc + 1) lv st h Q) : wp_R d m pc lv (wp_i y :: wp_i (k : Int) :: .ref 64 :: st) h Q := by
  obtain ⟨⟨fs, f1, f2⟩, e1, e2, ⟨e3, e4⟩, f⟩ := V
  refine wp_ias hi e3 (by decide) (by omega) (by omega) (by omega) (hr _ ⟨⟨fs, ?_, f2⟩, ?_, ?_, ⟨?_, by rw [List.length_set]; exact e4⟩, fun a h1 => ?_⟩)
  · rw [List.getElem?_set_ne (by decide)]; exact f1
  · rw [List.getElem?_set_ne (by decide)]; exact e1
  · rw [List.getElem?_set_ne (by decide)]; exact e2
  · rw [show (k : Int).toNat = k by omega]; exact List.getElem?_set_self (fd_lt e3)
  · rw [List.getElem?_set_ne (Ne.symm h1)]; exact f a h1
theorem wp_abs {x c0 n0 : Nat} {a : Int} (hi : mj_ins m pc = some (.invokestatic x)) (hc : mj_cal m x = some (12, c0, n0)) (hq : mj_cat st ≤ 8) (ha : -2147483647 ≤ a ∧ a ≤ 2147483647) (hr : wp_R d m (pc + 3) lv (wp_i (ab a) :: st) h Q) : wp_R d m pc lv (wp_i a :: st) h Q := by
  have hcall : mj_call m (.invokestatic x) (wp_i a :: st) h = none := by
    simp only [mj_call, hc]
  refine wp_s (pc' := pc + 3) (lv' := lv) (st' := wp_i (ab a) :: st) (h' := h) hi rfl hcall ?_ hr
  simp only [mj_st, hc]
  rw [if_pos hq]
  have e : ((0 : Int32) ≤ Int32.ofInt a) ↔ 0 ≤ a := by rw [Int32.le_iff_toInt_le, wp_ti (show wp_r a by omega)]; rfl
  unfold ab
  by_cases hlt : 0 ≤ a
  · rw [if_pos (e.mpr hlt), if_pos hlt]
  · rw [if_neg (fun q => hlt (e.mp q)), if_neg hlt, ← Int.zero_sub, wp_i, Int32.ofInt_sub]
    rfl
theorem wp_ineg {x z : Int} (hi : mj_ins m pc = some .ineg) (hz : -x = z) (hr : wp_R d m (pc + 1) lv (wp_i z :: st) h Q) : wp_R d m pc lv (wp_i x :: st) h Q := by
  refine wp_s hi rfl rfl rfl ?_
  subst hz
  show wp_R d m (pc + 1) lv (.int (-Int32.ofInt x) :: st) h Q
  rw [← Int32.ofInt_neg]
  exact hr
theorem wp_ldw {x : Nat} {n : Int} {z : Int32} (hi : mj_ins m pc = some (.ldc_w x)) (hc : mj_con m x = some (.int z)) (hz : z = Int32.ofInt n) (hr : wp_R d m (pc + 3) lv (wp_i n :: st) h Q) : wp_R d m pc lv st h Q := by
  subst hz
  refine wp_s (pc' := pc + 3) (lv' := lv) (st' := wp_i n :: st) (h' := h) hi rfl rfl ?_ hr
  simp only [mj_st, hc]
  rfl
end WPU
theorem ry_fitl {d : Nat} {h0 h : mj_H} {N : Nat} {ps bs : List Value} {hv : List Value} (V : fd_U h0 h N ps bs hv) (D : fd_D N ps bs) {s f : Nat} (hs : 1 ≤ s ∧ s ≤ 20) (hf : f < s) : ∀ (m k : Nat) (o : Option Value), k + m = N → wp_R d 148 5 [some (.ref 61), some (wp_i (s : Int)), some (wp_i (f : Int)), some (wp_i (bi (rh_k (sx_el ps) (sx_el bs) (s : Int) (f : Int) k))), some (wp_i (k : Int)), o] [] h (fun v h1 => v = some (wp_i (bi (rh_k (sx_el ps) (sx_el bs) (s : Int) (f : Int) N))) ∧ h1 = h) := by
  have hN := D.1
  intro m
  induction m with
  | zero =>
    intro k o hk
    have hk : k = N := by omega
    subst hk
    refine wp_s (pc' := 7) ji_148_5 rfl rfl rfl ?_
    refine wp_s (pc' := 8) ji_148_7 rfl rfl rfl ?_
    refine fu_g3 V ji_148_8 jf_148_22 ?_
    refine wp_icmp (t := 66) ji_148_11 rfl (by omega) (by omega) (fun _ => ?_) (fun (q : ¬ ((k : Int) ≤ (k : Int))) => (by exfalso; omega))
    refine wp_s (pc' := 67) ji_148_66 rfl rfl rfl ?_
    exact wp_ri ji_148_67 jr_148 (pv_nb (bi_01 _)) ⟨rfl, rfl⟩
  | succ m ih =>
    intro k o hk
    have hP := (D.2.2.2.1 k (by omega)).2
    have hb := (D.2.2.2.2 k (by omega)).2
    obtain ⟨q, hq⟩ : ∃ q, sx_el ps k % (s : Int) = q := ⟨_, rfl⟩
    have hq1 : 0 ≤ q := by rw [← hq]; exact Int.emod_nonneg _ (by omega)
    have hq2 : q < (s : Int) := by rw [← hq]; exact Int.emod_lt_of_pos _ (by omega)
    obtain ⟨g, hg0⟩ : ∃ g, bi (rh_k (sx_el ps) (sx_el bs) (s : Int) (f : Int) k) = g := ⟨_, rfl⟩
    have hg : (g = 1 ∧ rh_k (sx_el ps) (sx_el bs) (s : Int) (f : Int) k = true) ∨ (g = 0 ∧ rh_k (sx_el ps) (sx_el bs) (s : Int) (f : Int) k = false) := by
      cases e : rh_k (sx_el ps) (sx_el bs) (s : Int) (f : Int) k with
      | true => rw [e] at hg0; exact Or.inl ⟨hg0.symm, rfl⟩
      | false => rw [e] at hg0; exact Or.inr ⟨hg0.symm, rfl⟩
    rw [hg0]
    refine wp_s (pc' := 7) ji_148_5 rfl rfl rfl ?_
    refine wp_s (pc' := 8) ji_148_7 rfl rfl rfl ?_
    refine fu_g3 V ji_148_8 jf_148_22 ?_
    refine wp_icmp (t := 66) ji_148_11 rfl (by omega) (by omega) (fun (hb1 : ((N : Int) : Int) ≤ ((k : Int))) => (by exfalso; omega)) (fun (hb1 : ¬ (((N : Int) : Int) ≤ ((k : Int)))) => ?_)
    refine wp_s (pc' := 15) ji_148_14 rfl rfl rfl ?_
    refine wp_if (t := 66) ji_148_15 rfl (by omega) (fun (hb2 : ((s : Int) : Int) ≤ 0) => (by exfalso; omega)) (fun (hb2 : ¬ (((s : Int) : Int) ≤ 0)) => ?_)
    refine wp_s (pc' := 19) ji_148_18 rfl rfl rfl ?_
    refine fu_g0 V ji_148_19 jf_148_11 ?_
    refine wp_s (pc' := 24) ji_148_22 rfl rfl rfl ?_
    refine fu_l62 (k := k) V D (by omega) ji_148_24 ?_
    refine wp_s (pc' := 26) ji_148_25 rfl rfl rfl ?_
    refine wp_irem (x := sx_el ps k) (y := (s : Int)) ji_148_26 (by omega) (by omega) ?_
    rw [hq]
    refine wp_s (pc' := 28) ji_148_27 rfl rfl rfl ?_
    refine wp_icmp (t := 35) ji_148_28 rfl (by omega) (by omega) (fun (hb3 : ¬ (q : Int) = ((f : Int))) => ?_) (fun (hb3 : ¬ (¬ (q : Int) = ((f : Int)))) => ?_)
    · refine wp_s (pc' := 36) ji_148_35 rfl rfl rfl ?_
      refine wp_s (pc' := 38) (lv' := [some (.ref 61), some (wp_i ((s : Int))), some (wp_i ((f : Int))), some (wp_i g), some (wp_i ((k : Int))), some (wp_i 0)]) ji_148_36 rfl rfl rfl ?_
      refine wp_s (pc' := 39) ji_148_38 rfl rfl rfl ?_
      refine wp_if (t := 58) ji_148_39 rfl (by omega) (fun (hb4 : (g : Int) = 0) => ?_) (fun (hb4 : ¬ ((g : Int) = 0)) => ?_)
      · refine wp_s (pc' := 59) ji_148_58 rfl rfl rfl ?_
        refine wp_s (pc' := 60) (lv' := [some (.ref 61), some (wp_i ((s : Int))), some (wp_i ((f : Int))), some (wp_i 0), some (wp_i ((k : Int))), some (wp_i 0)]) ji_148_59 rfl rfl rfl ?_
        refine wp_iinc (x := (k : Int)) (z := ((k + 1 : Nat) : Int)) (lv' := [some (.ref 61), some (wp_i ((s : Int))), some (wp_i ((f : Int))), some (wp_i 0), some (wp_i (((k + 1 : Nat) : Int))), some (wp_i 0)]) ji_148_60 rfl (Nat.le_of_ble_eq_true rfl) (by omega) rfl ?_
        refine wp_goto (t := 5) ji_148_63 rfl ?_
        have hgf : rh_k (sx_el ps) (sx_el bs) (s : Int) (f : Int) k = false := hg.elim (fun e => (by exfalso; omega)) (fun e => e.2)
        have e : rh_k (sx_el ps) (sx_el bs) (s : Int) (f : Int) (k + 1) = false := rh_0 hgf
        have R := ih (k + 1) (some (wp_i 0)) (by omega)
        rw [e] at R
        exact R
      · refine wp_s (pc' := 44) ji_148_42 rfl rfl rfl ?_
        refine wp_s (pc' := 45) ji_148_44 rfl rfl rfl ?_
        refine fu_g1 V ji_148_45 jf_148_15 ?_
        refine wp_s (pc' := 50) ji_148_48 rfl rfl rfl ?_
        refine fu_l63 (k := k) V D (by omega) ji_148_50 ?_
        refine wp_icmp (t := 58) ji_148_51 rfl (by omega) (by omega) (fun (hb5 : ¬ (0 : Int) = (sx_el bs k)) => ?_) (fun (hb5 : ¬ (¬ (0 : Int) = (sx_el bs k))) => ?_)
        · refine wp_s (pc' := 59) ji_148_58 rfl rfl rfl ?_
          refine wp_s (pc' := 60) (lv' := [some (.ref 61), some (wp_i ((s : Int))), some (wp_i ((f : Int))), some (wp_i 0), some (wp_i ((k : Int))), some (wp_i 0)]) ji_148_59 rfl rfl rfl ?_
          refine wp_iinc (x := (k : Int)) (z := ((k + 1 : Nat) : Int)) (lv' := [some (.ref 61), some (wp_i ((s : Int))), some (wp_i ((f : Int))), some (wp_i 0), some (wp_i (((k + 1 : Nat) : Int))), some (wp_i 0)]) ji_148_60 rfl (Nat.le_of_ble_eq_true rfl) (by omega) rfl ?_
          refine wp_goto (t := 5) ji_148_63 rfl ?_
          have e : rh_k (sx_el ps) (sx_el bs) (s : Int) (f : Int) (k + 1) = false := rh_2 (by rw [hq]; omega)
          have R := ih (k + 1) (some (wp_i 0)) (by omega)
          rw [e] at R
          exact R
        · refine wp_s (pc' := 55) ji_148_54 rfl rfl rfl ?_
          refine wp_goto (t := 59) ji_148_55 rfl ?_
          refine wp_s (pc' := 60) (lv' := [some (.ref 61), some (wp_i ((s : Int))), some (wp_i ((f : Int))), some (wp_i 1), some (wp_i ((k : Int))), some (wp_i 0)]) ji_148_59 rfl rfl rfl ?_
          refine wp_iinc (x := (k : Int)) (z := ((k + 1 : Nat) : Int)) (lv' := [some (.ref 61), some (wp_i ((s : Int))), some (wp_i ((f : Int))), some (wp_i 1), some (wp_i (((k + 1 : Nat) : Int))), some (wp_i 0)]) ji_148_60 rfl (Nat.le_of_ble_eq_true rfl) (by omega) rfl ?_
          refine wp_goto (t := 5) ji_148_63 rfl ?_
          have hgt : rh_k (sx_el ps) (sx_el bs) (s : Int) (f : Int) k = true := hg.elim (fun e => e.2) (fun e => (by exfalso; omega))
          have e : rh_k (sx_el ps) (sx_el bs) (s : Int) (f : Int) (k + 1) = true := rh_1 hgt (by rw [hq]; omega)
          have R := ih (k + 1) (some (wp_i 0)) (by omega)
          rw [e] at R
          exact R
    · refine wp_s (pc' := 32) ji_148_31 rfl rfl rfl ?_
      refine wp_goto (t := 36) ji_148_32 rfl ?_
      refine wp_s (pc' := 38) (lv' := [some (.ref 61), some (wp_i ((s : Int))), some (wp_i ((f : Int))), some (wp_i g), some (wp_i ((k : Int))), some (wp_i 1)]) ji_148_36 rfl rfl rfl ?_
      refine wp_s (pc' := 39) ji_148_38 rfl rfl rfl ?_
      refine wp_if (t := 58) ji_148_39 rfl (by omega) (fun (hb6 : (g : Int) = 0) => ?_) (fun (hb6 : ¬ ((g : Int) = 0)) => ?_)
      · refine wp_s (pc' := 59) ji_148_58 rfl rfl rfl ?_
        refine wp_s (pc' := 60) (lv' := [some (.ref 61), some (wp_i ((s : Int))), some (wp_i ((f : Int))), some (wp_i 0), some (wp_i ((k : Int))), some (wp_i 1)]) ji_148_59 rfl rfl rfl ?_
        refine wp_iinc (x := (k : Int)) (z := ((k + 1 : Nat) : Int)) (lv' := [some (.ref 61), some (wp_i ((s : Int))), some (wp_i ((f : Int))), some (wp_i 0), some (wp_i (((k + 1 : Nat) : Int))), some (wp_i 1)]) ji_148_60 rfl (Nat.le_of_ble_eq_true rfl) (by omega) rfl ?_
        refine wp_goto (t := 5) ji_148_63 rfl ?_
        have hgf : rh_k (sx_el ps) (sx_el bs) (s : Int) (f : Int) k = false := hg.elim (fun e => (by exfalso; omega)) (fun e => e.2)
        have e : rh_k (sx_el ps) (sx_el bs) (s : Int) (f : Int) (k + 1) = false := rh_0 hgf
        have R := ih (k + 1) (some (wp_i 1)) (by omega)
        rw [e] at R
        exact R
      · refine wp_s (pc' := 44) ji_148_42 rfl rfl rfl ?_
        refine wp_s (pc' := 45) ji_148_44 rfl rfl rfl ?_
        refine fu_g1 V ji_148_45 jf_148_15 ?_
        refine wp_s (pc' := 50) ji_148_48 rfl rfl rfl ?_
        refine fu_l63 (k := k) V D (by omega) ji_148_50 ?_
        refine wp_icmp (t := 58) ji_148_51 rfl (by omega) (by omega) (fun (hb7 : ¬ (1 : Int) = (sx_el bs k)) => ?_) (fun (hb7 : ¬ (¬ (1 : Int) = (sx_el bs k))) => ?_)
        · refine wp_s (pc' := 59) ji_148_58 rfl rfl rfl ?_
          refine wp_s (pc' := 60) (lv' := [some (.ref 61), some (wp_i ((s : Int))), some (wp_i ((f : Int))), some (wp_i 0), some (wp_i ((k : Int))), some (wp_i 1)]) ji_148_59 rfl rfl rfl ?_
          refine wp_iinc (x := (k : Int)) (z := ((k + 1 : Nat) : Int)) (lv' := [some (.ref 61), some (wp_i ((s : Int))), some (wp_i ((f : Int))), some (wp_i 0), some (wp_i (((k + 1 : Nat) : Int))), some (wp_i 1)]) ji_148_60 rfl (Nat.le_of_ble_eq_true rfl) (by omega) rfl ?_
          refine wp_goto (t := 5) ji_148_63 rfl ?_
          have e : rh_k (sx_el ps) (sx_el bs) (s : Int) (f : Int) (k + 1) = false := rh_2 (by rw [hq]; omega)
          have R := ih (k + 1) (some (wp_i 1)) (by omega)
          rw [e] at R
          exact R
        · refine wp_s (pc' := 55) ji_148_54 rfl rfl rfl ?_
          refine wp_goto (t := 59) ji_148_55 rfl ?_
          refine wp_s (pc' := 60) (lv' := [some (.ref 61), some (wp_i ((s : Int))), some (wp_i ((f : Int))), some (wp_i 1), some (wp_i ((k : Int))), some (wp_i 1)]) ji_148_59 rfl rfl rfl ?_
          refine wp_iinc (x := (k : Int)) (z := ((k + 1 : Nat) : Int)) (lv' := [some (.ref 61), some (wp_i ((s : Int))), some (wp_i ((f : Int))), some (wp_i 1), some (wp_i (((k + 1 : Nat) : Int))), some (wp_i 1)]) ji_148_60 rfl (Nat.le_of_ble_eq_true rfl) (by omega) rfl ?_
          refine wp_goto (t := 5) ji_148_63 rfl ?_
          have hgt : rh_k (sx_el ps) (sx_el bs) (s : Int) (f : Int) k = true := hg.elim (fun e => e.2) (fun e => (by exfalso; omega))
          have e : rh_k (sx_el ps) (sx_el bs) (s : Int) (f : Int) (k + 1) = true := rh_1 hgt (by rw [hq]; omega)
          have R := ih (k + 1) (some (wp_i 1)) (by omega)
          rw [e] at R
          exact R
theorem ry_fits {d : Nat} {h0 h : mj_H} {N : Nat} {ps bs : List Value} {hv : List Value} (V : fd_U h0 h N ps bs hv) (D : fd_D N ps bs) {s f : Nat} (hs : 1 ≤ s ∧ s ≤ 20) (hf : f < s) : wp_R d 148 0 [some (.ref 61), some (wp_i (s : Int)), some (wp_i (f : Int)), none, none, none] [] h (fun v h1 => v = some (wp_i (bi (rh_k (sx_el ps) (sx_el bs) (s : Int) (f : Int) N))) ∧ h1 = h) := by
  refine wp_s (pc' := 1) ji_148_0 rfl rfl rfl ?_
  refine wp_s (pc' := 2) (lv' := [some (.ref 61), some (wp_i (s : Int)), some (wp_i (f : Int)), some (wp_i 1), none, none]) ji_148_1 rfl rfl rfl ?_
  refine wp_s (pc' := 3) ji_148_2 rfl rfl rfl ?_
  refine wp_s (pc' := 5) (lv' := [some (.ref 61), some (wp_i (s : Int)), some (wp_i (f : Int)), some (wp_i 1), some (wp_i ((0 : Nat) : Int)), none]) ji_148_3 rfl rfl rfl ?_
  exact ry_fitl V D hs hf N 0 none (by omega)
theorem ry_cpl {d : Nat} {h0 : mj_H} {N : Nat} {ps bs : List Value} {s f : Nat} (hs : 1 ≤ s ∧ s ≤ 20) {T : Nat → Int} : ∀ (m q : Nat) (H : Nat → Int) (h : mj_H), 100 ≤ q + m → q ≤ 119 → (q : Int) % (s : Int) = (f : Int) → fd_U h0 h N ps bs (fd_hv H) → (∀ p : Nat, p < 100 → T p = H p + bi (decide (q ≤ p ∧ (p : Int) % (s : Int) = (f : Int)))) → wp_R d 149 2 [some (.ref 61), some (wp_i (s : Int)), some (wp_i (f : Int)), some (wp_i (q : Int))] [] h (fun v h1 => v = none ∧ fd_U h0 h1 N ps bs (fd_hv T)) := by
  have ex : ∀ (q : Nat) (H : Nat → Int) (h : mj_H), 99 < q → q ≤ 119 → fd_U h0 h N ps bs (fd_hv H) → (∀ p : Nat, p < 100 → T p = H p + bi (decide (q ≤ p ∧ (p : Int) % (s : Int) = (f : Int)))) → wp_R d 149 2 [some (.ref 61), some (wp_i (s : Int)), some (wp_i (f : Int)), some (wp_i (q : Int))] [] h (fun v h1 => v = none ∧ fd_U h0 h1 N ps bs (fd_hv T)) := by
    intro q H h hq hq2 V hT
    refine wp_s (pc' := 3) ji_149_2 rfl rfl rfl ?_
    refine wp_bp ji_149_3 rfl ?_
    refine wp_icmp (t := 29) ji_149_5 rfl (by omega) (by omega) (fun _ => ?_) (fun (e : ¬ ((99 : Int) < (q : Int))) => (by exfalso; omega))
    rw [hv_c (H := H) (T := T) (fun p hp => by
      rw [hT p hp, show decide (q ≤ p ∧ (p : Int) % (s : Int) = (f : Int)) = false from decide_eq_false (fun e => by have := e.1; omega)]
      show H p = H p + 0
      omega)] at V
    exact wp_rv ji_149_29 jr_149 ⟨rfl, V⟩
  intro m
  induction m with
  | zero =>
    intro q H h h1 h2 hm V hT
    exact ex q H h (by omega) h2 V hT
  | succ m ih =>
    intro q H h h1 h2 hm V hT
    by_cases hq : 99 < q
    · exact ex q H h hq h2 V hT
    · skip
      refine wp_s (pc' := 3) ji_149_2 rfl rfl rfl ?_
      refine wp_bp ji_149_3 rfl ?_
      refine wp_icmp (t := 29) ji_149_5 rfl (by omega) (by omega) (fun (hb1 : (99 : Int) < ((q : Int))) => (by exfalso; omega)) (fun (hb1 : ¬ ((99 : Int) < ((q : Int)))) => ?_)
      refine wp_s (pc' := 9) ji_149_8 rfl rfl rfl ?_
      refine wp_if (t := 29) ji_149_9 rfl (by omega) (fun (hb2 : ((s : Int) : Int) ≤ 0) => (by exfalso; omega)) (fun (hb2 : ¬ (((s : Int) : Int) ≤ 0)) => ?_)
      refine wp_s (pc' := 13) ji_149_12 rfl rfl rfl ?_
      refine fu_g2 V ji_149_13 jf_149_19 ?_
      refine wp_s (pc' := 17) ji_149_16 rfl rfl rfl ?_
      refine wp_s (pc' := 18) ji_149_17 rfl rfl rfl ?_
      refine fu_l64 (k := q) V (by omega) ji_149_18 ?_
      refine wp_s (pc' := 20) ji_149_19 rfl rfl rfl ?_
      refine wp_iadd (x := H q) (y := 1) (z := H q + 1) ji_149_20 (by omega) ?_
      refine fu_s64 (k := q) V (by omega) ji_149_21 (fun h V => ?_)
      rw [hv_s (by omega)] at V
      refine wp_s (pc' := 23) ji_149_22 rfl rfl rfl ?_
      refine wp_s (pc' := 24) ji_149_23 rfl rfl rfl ?_
      refine wp_iadd (x := (q : Int)) (y := (s : Int)) (z := ((q + s : Nat) : Int)) ji_149_24 (by omega) ?_
      refine wp_s (pc' := 26) (lv' := [some (.ref 61), some (wp_i ((s : Int))), some (wp_i ((f : Int))), some (wp_i (((q + s : Nat) : Int)))]) ji_149_25 rfl rfl rfl ?_
      refine wp_goto (t := 2) ji_149_26 rfl ?_
      refine ih (q + s) _ h (by omega) (by omega) (by rw [show ((q + s : Nat) : Int) = (q : Int) + (s : Int) by omega]; exact m_up (by omega) hm) V (fun p hp => ?_)
      have h0 := hT p hp
      by_cases e : p = q
      · subst e
        rw [if_pos rfl, h0, show decide (p ≤ p ∧ (p : Int) % (s : Int) = (f : Int)) = true from decide_eq_true ⟨Nat.le_refl _, hm⟩, show decide (p + s ≤ p ∧ (p : Int) % (s : Int) = (f : Int)) = false from decide_eq_false (fun q => by have := q.1; omega)]
        show H p + 1 = H p + 1 + 0
        omega
      · rw [if_neg e, h0]
        have e2 : (q ≤ p ∧ (p : Int) % (s : Int) = (f : Int)) ↔ (q + s ≤ p ∧ (p : Int) % (s : Int) = (f : Int)) := by
          constructor
          · rintro ⟨a1, a2⟩
            refine ⟨Nat.le_of_not_lt (fun a3 => ?_), a2⟩
            exact m_md (q := (q : Int)) (p := (p : Int)) (by omega) hm (by omega) (by omega) a2
          · rintro ⟨a1, a2⟩
            exact ⟨by omega, a2⟩
        rw [decide_eq_decide.mpr e2]
theorem ry_cp {d : Nat} {h0 h : mj_H} {N : Nat} {ps bs : List Value} {H : Nat → Int} (V : fd_U h0 h N ps bs (fd_hv H)) {s f : Nat} (hs : 1 ≤ s ∧ s ≤ 20) (hf : f < s) {T : Nat → Int} (hT : ∀ p : Nat, p < 100 → T p = H p + bi (decide ((p : Int) % (s : Int) = (f : Int)))) : wp_R d 149 0 [some (.ref 61), some (wp_i (s : Int)), some (wp_i (f : Int)), none] [] h (fun v h1 => v = none ∧ fd_U h0 h1 N ps bs (fd_hv T)) := by
  refine wp_s (pc' := 1) ji_149_0 rfl rfl rfl ?_
  refine wp_s (pc' := 2) (lv' := [some (.ref 61), some (wp_i (s : Int)), some (wp_i (f : Int)), some (wp_i (f : Int))]) ji_149_1 rfl rfl rfl ?_
  refine ry_cpl hs 100 f H h (by omega) (by omega) (m_id (by omega) (by omega)) V (fun p hp => ?_)
  rw [hT p hp]
  have e2 : ((p : Int) % (s : Int) = (f : Int)) ↔ (f ≤ p ∧ (p : Int) % (s : Int) = (f : Int)) := ⟨fun e => ⟨by have := m_le (by omega) (by omega) e; omega, e⟩, fun e => e.2⟩
  rw [decide_eq_decide.mpr e2]
theorem ry_z {d : Nat} {h0 : mj_H} {N : Nat} {ps bs : List Value} {Q : Option Value → mj_H → Prop} (hQ : ∀ h, fd_U h0 h N ps bs (fd_hv (fun _ => 0)) → wp_R d 147 23 [some (.ref 61), some (wp_i 0), some (wp_i 100), none] [] h Q) : ∀ (m k : Nat) (hv : List Value) (h : mj_H), k + m = 100 → fd_U h0 h N ps bs hv → (∀ j, j < k → hv[j]? = some (wp_i 0)) → wp_R d 147 4 [some (.ref 61), some (wp_i 0), some (wp_i (k : Int)), none] [] h Q := by
  intro m
  induction m with
  | zero =>
    intro k hv h hk V hz
    have hk : k = 100 := by omega
    subst hk
    refine wp_s (pc' := 5) ji_147_4 rfl rfl rfl ?_
    refine wp_bp ji_147_5 rfl ?_
    refine wp_icmp (t := 23) ji_147_7 rfl (by omega) (by omega) (fun _ => ?_) (fun (e : ¬ ((99 : Int) < ((100 : Nat) : Int))) => (by exfalso; omega))
    rw [hv_e (H := fun _ => 0) V.2.2.2.1.2 hz] at V
    exact hQ h V
  | succ m ih =>
    intro k hv h hk V hz
    refine wp_s (pc' := 5) ji_147_4 rfl rfl rfl ?_
    refine wp_bp ji_147_5 rfl ?_
    refine wp_icmp (t := 23) ji_147_7 rfl (by omega) (by omega) (fun (e : (99 : Int) < (k : Int)) => (by exfalso; omega)) (fun _ => ?_)
    refine wp_s (pc' := 11) ji_147_10 rfl rfl rfl ?_
    refine fu_g2 V ji_147_11 jf_147_19 ?_
    refine wp_s (pc' := 15) ji_147_14 rfl rfl rfl ?_
    refine wp_s (pc' := 16) ji_147_15 rfl rfl rfl ?_
    have hl := V.2.2.2.1.2
    refine fu_s64 (y := 0) V (by omega) ji_147_16 (fun h V => ?_)
    refine wp_iinc (x := (k : Int)) (z := ((k + 1 : Nat) : Int)) (lv' := [some (.ref 61), some (wp_i 0), some (wp_i ((k + 1 : Nat) : Int)), none]) ji_147_17 rfl (Nat.le_of_ble_eq_true rfl) (by omega) rfl ?_
    refine wp_goto (t := 4) ji_147_20 rfl ?_
    refine ih (k + 1) _ h (by omega) V (fun j hj => ?_)
    by_cases e : k = j
    · subst e
      exact List.getElem?_set_self (by omega)
    · rw [List.getElem?_set_ne e]
      exact hz j (by omega)
theorem ry_in {d : Nat} {h0 : mj_H} {N : Nat} {ps bs : List Value} (D : fd_D N ps bs) {t : Nat} (ht : t < 20) {Q : Option Value → mj_H → Prop} (hQ : ∀ h, fd_U h0 h N ps bs (fd_hv (fun p => cs (wq (sx_el ps) (sx_el bs) N (p : Int)) (t + 1))) → wp_R (d + 1) 147 62 [some (.ref 61), some (wp_i (cs (ww (sx_el ps) (sx_el bs) N) (t + 1))), some (wp_i ((t + 1 : Nat) : Int)), some (wp_i ((t + 1 : Nat) : Int))] [] h Q) : ∀ (m k : Nat) (h : mj_H), k + m = t + 1 → fd_U h0 h N ps bs (fd_hv (fun p => cs (wq (sx_el ps) (sx_el bs) N (p : Int)) t + cf (wq (sx_el ps) (sx_el bs) N (p : Int)) (t + 1) k)) → wp_R (d + 1) 147 33 [some (.ref 61), some (wp_i (cs (ww (sx_el ps) (sx_el bs) N) t + cf (ww (sx_el ps) (sx_el bs) N) (t + 1) k)), some (wp_i ((t + 1 : Nat) : Int)), some (wp_i (k : Int))] [] h Q := by
  intro m
  induction m with
  | zero =>
    intro k h hk V
    have hk : k = t + 1 := by omega
    subst hk
    refine wp_s (pc' := 34) ji_147_33 rfl rfl rfl ?_
    refine wp_s (pc' := 35) ji_147_34 rfl rfl rfl ?_
    refine wp_icmp (t := 62) ji_147_35 rfl (by omega) (by omega) (fun _ => ?_) (fun (e : ¬ (((t + 1 : Nat) : Int) ≤ ((t + 1 : Nat) : Int))) => (by exfalso; omega))
    exact hQ h V
  | succ m ih =>
    intro k h hk V
    refine wp_s (pc' := 34) ji_147_33 rfl rfl rfl ?_
    refine wp_s (pc' := 35) ji_147_34 rfl rfl rfl ?_
    refine wp_icmp (t := 62) ji_147_35 rfl (by omega) (by omega) (fun (hb1 : (((t + 1 : Nat) : Int) : Int) ≤ ((k : Int))) => (by exfalso; omega)) (fun (hb1 : ¬ ((((t + 1 : Nat) : Int) : Int) ≤ ((k : Int)))) => ?_)
    refine wp_s (pc' := 39) ji_147_38 rfl rfl rfl ?_
    refine wp_s (pc' := 40) ji_147_39 rfl rfl rfl ?_
    refine wp_s (pc' := 41) ji_147_40 rfl rfl rfl ?_
    obtain ⟨⟨fs, hc, hfs⟩, hV2⟩ := V
    have V : fd_U h0 _ N ps bs _ := ⟨⟨fs, hc, hfs⟩, hV2⟩
    refine wp_vc (d := d) (as := [.ref 61, wp_i (((t + 1 : Nat) : Int)), wp_i ((k : Int))]) (rest := []) ji_147_41 jc_147_26 rfl hc jk_148.symm (Nat.le_of_ble_eq_true rfl) rfl (by rw [jn_148]; rfl) (ry_fits (s := t + 1) (f := k) V D (by omega) (by omega)) (fun v h1 R => ?_)
    obtain ⟨rfl, rfl⟩ := R
    obtain ⟨g, hg⟩ : ∃ g, bi (rh_k (sx_el ps) (sx_el bs) ((t + 1 : Nat) : Int) (k : Int) N) = g := ⟨_, rfl⟩
    rw [hg]
    show wp_R (d + 1) 147 44 [some (.ref 61), some (wp_i (cs (ww (sx_el ps) (sx_el bs) N) t + cf (ww (sx_el ps) (sx_el bs) N) (t + 1) k)), some (wp_i (((t + 1 : Nat) : Int))), some (wp_i ((k : Int)))] [wp_i g] h1 _
    have hg1 := bi_01 (rh_k (sx_el ps) (sx_el bs) ((t + 1 : Nat) : Int) (k : Int) N)
    rw [hg] at hg1
    refine wp_if (t := 56) ji_147_44 rfl (by omega) (fun (hb2 : (g : Int) = 0) => ?_) (fun (hb2 : ¬ ((g : Int) = 0)) => ?_)
    · have hr : rh_k (sx_el ps) (sx_el bs) ((t + 1 : Nat) : Int) (k : Int) N = false := by
        cases e : rh_k (sx_el ps) (sx_el bs) ((t + 1 : Nat) : Int) (k : Int) N with
        | true => rw [e] at hg; have hg : (1 : Int) = g := hg; exfalso; omega
        | false => rfl
      refine wp_iinc (x := (k : Int)) (z := ((k + 1 : Nat) : Int)) (lv' := [some (.ref 61), some (wp_i (cs (ww (sx_el ps) (sx_el bs) N) t + cf (ww (sx_el ps) (sx_el bs) N) (t + 1) k)), some (wp_i (((t + 1 : Nat) : Int))), some (wp_i (((k + 1 : Nat) : Int)))]) ji_147_56 rfl (Nat.le_of_ble_eq_true rfl) (by omega) rfl ?_
      refine wp_goto (t := 33) ji_147_59 rfl ?_
      have e1 : cs (ww (sx_el ps) (sx_el bs) N) t + cf (ww (sx_el ps) (sx_el bs) N) (t + 1) k = cs (ww (sx_el ps) (sx_el bs) N) t + cf (ww (sx_el ps) (sx_el bs) N) (t + 1) (k + 1) := by
        show _ = cs (ww (sx_el ps) (sx_el bs) N) t + (cf (ww (sx_el ps) (sx_el bs) N) (t + 1) k + bi (rh_k (sx_el ps) (sx_el bs) ((t + 1 : Nat) : Int) (k : Int) N))
        rw [hr]
        show _ = cs (ww (sx_el ps) (sx_el bs) N) t + (cf (ww (sx_el ps) (sx_el bs) N) (t + 1) k + 0)
        omega
      rw [e1]
      refine ih (k + 1) h1 (by omega) ?_
      rw [hv_c (T := fun p => cs (wq (sx_el ps) (sx_el bs) N (p : Int)) t + cf (wq (sx_el ps) (sx_el bs) N (p : Int)) (t + 1) (k + 1)) (fun p hp => by
        show cs (wq (sx_el ps) (sx_el bs) N (p : Int)) t + cf (wq (sx_el ps) (sx_el bs) N (p : Int)) (t + 1) k = cs (wq (sx_el ps) (sx_el bs) N (p : Int)) t + (cf (wq (sx_el ps) (sx_el bs) N (p : Int)) (t + 1) k + bi (rh_k (sx_el ps) (sx_el bs) ((t + 1 : Nat) : Int) (k : Int) N && decide ((p : Int) % ((t + 1 : Nat) : Int) = (k : Int))))
        rw [hr, Bool.false_and]
        show _ = cs (wq (sx_el ps) (sx_el bs) N (p : Int)) t + (cf (wq (sx_el ps) (sx_el bs) N (p : Int)) (t + 1) k + 0)
        omega)] at V
      exact V
    · have hr : rh_k (sx_el ps) (sx_el bs) ((t + 1 : Nat) : Int) (k : Int) N = true := by
        cases e : rh_k (sx_el ps) (sx_el bs) ((t + 1 : Nat) : Int) (k : Int) N with
        | true => rfl
        | false => rw [e] at hg; have hg : (0 : Int) = g := hg; exfalso; omega
      have e1 : cs (ww (sx_el ps) (sx_el bs) N) t + cf (ww (sx_el ps) (sx_el bs) N) (t + 1) k + 1 = cs (ww (sx_el ps) (sx_el bs) N) t + cf (ww (sx_el ps) (sx_el bs) N) (t + 1) (k + 1) := by
        show _ = cs (ww (sx_el ps) (sx_el bs) N) t + (cf (ww (sx_el ps) (sx_el bs) N) (t + 1) k + bi (rh_k (sx_el ps) (sx_el bs) ((t + 1 : Nat) : Int) (k : Int) N))
        rw [hr]
        show _ = cs (ww (sx_el ps) (sx_el bs) N) t + (cf (ww (sx_el ps) (sx_el bs) N) (t + 1) k + 1)
        omega
      refine wp_iinc (x := cs (ww (sx_el ps) (sx_el bs) N) t + cf (ww (sx_el ps) (sx_el bs) N) (t + 1) k) (z := cs (ww (sx_el ps) (sx_el bs) N) t + cf (ww (sx_el ps) (sx_el bs) N) (t + 1) k + 1) (lv' := [some (.ref 61), some (wp_i (cs (ww (sx_el ps) (sx_el bs) N) t + cf (ww (sx_el ps) (sx_el bs) N) (t + 1) k + 1)), some (wp_i (((t + 1 : Nat) : Int))), some (wp_i ((k : Int)))]) ji_147_47 rfl (Nat.le_of_ble_eq_true rfl) (by omega) rfl ?_
      refine wp_s (pc' := 51) ji_147_50 rfl rfl rfl ?_
      refine wp_s (pc' := 52) ji_147_51 rfl rfl rfl ?_
      refine wp_s (pc' := 53) ji_147_52 rfl rfl rfl ?_
      obtain ⟨⟨fs, hc, hfs⟩, hV2⟩ := V
      have V : fd_U h0 _ N ps bs _ := ⟨⟨fs, hc, hfs⟩, hV2⟩
      refine wp_vc (d := d) (as := [.ref 61, wp_i (((t + 1 : Nat) : Int)), wp_i ((k : Int))]) (rest := []) ji_147_53 jc_147_30 rfl hc jk_149.symm (Nat.le_of_ble_eq_true rfl) rfl (by rw [jn_149]; rfl) (ry_cp (s := t + 1) (f := k) (T := fun p => cs (wq (sx_el ps) (sx_el bs) N (p : Int)) t + cf (wq (sx_el ps) (sx_el bs) N (p : Int)) (t + 1) (k + 1)) V (by omega) (by omega) (fun p hp => (by show cs (wq (sx_el ps) (sx_el bs) N (p : Int)) t + (cf (wq (sx_el ps) (sx_el bs) N (p : Int)) (t + 1) k + bi (rh_k (sx_el ps) (sx_el bs) ((t + 1 : Nat) : Int) (k : Int) N && decide ((p : Int) % ((t + 1 : Nat) : Int) = (k : Int)))) = cs (wq (sx_el ps) (sx_el bs) N (p : Int)) t + cf (wq (sx_el ps) (sx_el bs) N (p : Int)) (t + 1) k + bi (decide ((p : Int) % ((t + 1 : Nat) : Int) = (k : Int))); rw [hr, Bool.true_and]; omega))) (fun v h1 R => ?_)
      obtain ⟨rfl, V⟩ := R
      show wp_R (d + 1) 147 56 [some (.ref 61), some (wp_i (cs (ww (sx_el ps) (sx_el bs) N) t + cf (ww (sx_el ps) (sx_el bs) N) (t + 1) k + 1)), some (wp_i (((t + 1 : Nat) : Int))), some (wp_i ((k : Int)))] [] h1 _
      refine wp_iinc (x := (k : Int)) (z := ((k + 1 : Nat) : Int)) (lv' := [some (.ref 61), some (wp_i (cs (ww (sx_el ps) (sx_el bs) N) t + cf (ww (sx_el ps) (sx_el bs) N) (t + 1) k + 1)), some (wp_i (((t + 1 : Nat) : Int))), some (wp_i (((k + 1 : Nat) : Int)))]) ji_147_56 rfl (Nat.le_of_ble_eq_true rfl) (by omega) rfl ?_
      refine wp_goto (t := 33) ji_147_59 rfl ?_
      rw [e1]
      exact ih (k + 1) h1 (by omega) V
theorem ry_out {d : Nat} {h0 : mj_H} {N : Nat} {ps bs : List Value} (D : fd_D N ps bs) : ∀ (m t : Nat) (h : mj_H) (o : Option Value), t + m = 20 → fd_U h0 h N ps bs (fd_hv (fun p => cs (wq (sx_el ps) (sx_el bs) N (p : Int)) t)) → wp_R (d + 1) 147 25 [some (.ref 61), some (wp_i (cs (ww (sx_el ps) (sx_el bs) N) t)), some (wp_i ((t + 1 : Nat) : Int)), o] [] h (fun v h1 => v = some (wp_i (cs (ww (sx_el ps) (sx_el bs) N) 20)) ∧ fd_U h0 h1 N ps bs (fd_hv (fun p => cs (wq (sx_el ps) (sx_el bs) N (p : Int)) 20))) := by
  intro m
  induction m with
  | zero =>
    intro t h o ht V
    have ht : t = 20 := by omega
    subst ht
    refine wp_s (pc' := 26) ji_147_25 rfl rfl rfl ?_
    refine wp_bp ji_147_26 rfl ?_
    refine wp_icmp (t := 68) ji_147_28 rfl (by omega) (by omega) (fun _ => ?_) (fun (e : ¬ ((20 : Int) < ((20 + 1 : Nat) : Int))) => (by exfalso; omega))
    refine wp_s (pc' := 69) ji_147_68 rfl rfl rfl ?_
    exact wp_ri ji_147_69 jr_147 rfl ⟨rfl, V⟩
  | succ m ih =>
    intro t h o ht V
    refine wp_s (pc' := 26) ji_147_25 rfl rfl rfl ?_
    refine wp_bp ji_147_26 rfl ?_
    refine wp_icmp (t := 68) ji_147_28 rfl (by omega) (by omega) (fun (e : (20 : Int) < ((t + 1 : Nat) : Int)) => (by exfalso; omega)) (fun _ => ?_)
    refine wp_s (pc' := 32) ji_147_31 rfl rfl rfl ?_
    refine wp_s (pc' := 33) (lv' := [some (.ref 61), some (wp_i (cs (ww (sx_el ps) (sx_el bs) N) t)), some (wp_i ((t + 1 : Nat) : Int)), some (wp_i ((0 : Nat) : Int))]) ji_147_32 rfl rfl rfl ?_
    have R := ry_in (d := d) (h0 := h0) D (t := t) (by omega) (Q := fun v h1 => v = some (wp_i (cs (ww (sx_el ps) (sx_el bs) N) 20)) ∧ fd_U h0 h1 N ps bs (fd_hv (fun p => cs (wq (sx_el ps) (sx_el bs) N (p : Int)) 20))) (fun h V => ?_) (t + 1) 0 h (by omega)
    · rw [show cs (ww (sx_el ps) (sx_el bs) N) t + cf (ww (sx_el ps) (sx_el bs) N) (t + 1) 0 = cs (ww (sx_el ps) (sx_el bs) N) t from Int.add_zero _] at R
      refine R ?_
      rw [hv_c (T := fun p => cs (wq (sx_el ps) (sx_el bs) N (p : Int)) t + cf (wq (sx_el ps) (sx_el bs) N (p : Int)) (t + 1) 0) (fun p hp => (Int.add_zero _).symm)] at V
      exact V
    · refine wp_iinc (x := ((t + 1 : Nat) : Int)) (z := ((t + 1 + 1 : Nat) : Int)) (lv' := [some (.ref 61), some (wp_i (cs (ww (sx_el ps) (sx_el bs) N) (t + 1))), some (wp_i ((t + 1 + 1 : Nat) : Int)), some (wp_i ((t + 1 : Nat) : Int))]) ji_147_62 rfl (Nat.le_of_ble_eq_true rfl) (by omega) rfl ?_
      refine wp_goto (t := 25) ji_147_65 rfl ?_
      exact ih (t + 1) h _ (by omega) V
theorem ry_cnt {d : Nat} {h0 h : mj_H} {N : Nat} {ps bs : List Value} {hv : List Value} (V : fd_U h0 h N ps bs hv) (D : fd_D N ps bs) : wp_R (d + 1) 147 0 [some (.ref 61), none, none, none] [] h (fun v h1 => v = some (wp_i (cs (ww (sx_el ps) (sx_el bs) N) 20)) ∧ fd_U h0 h1 N ps bs (fd_hv (fun p => cs (wq (sx_el ps) (sx_el bs) N (p : Int)) 20))) := by
  refine wp_s (pc' := 1) ji_147_0 rfl rfl rfl ?_
  refine wp_s (pc' := 2) (lv' := [some (.ref 61), some (wp_i 0), none, none]) ji_147_1 rfl rfl rfl ?_
  refine wp_s (pc' := 3) ji_147_2 rfl rfl rfl ?_
  refine wp_s (pc' := 4) (lv' := [some (.ref 61), some (wp_i 0), some (wp_i ((0 : Nat) : Int)), none]) ji_147_3 rfl rfl rfl ?_
  refine ry_z (fun h V => ?_) 100 0 hv h (by omega) V (fun j hj => (by omega))
  refine wp_s (pc' := 24) ji_147_23 rfl rfl rfl ?_
  refine wp_s (pc' := 25) (lv' := [some (.ref 61), some (wp_i 0), some (wp_i ((0 + 1 : Nat) : Int)), none]) ji_147_24 rfl rfl rfl ?_
  exact ry_out D 20 0 h none (by omega) V
