/-! -/
set_option maxRecDepth 100000 in
theorem ji_278_13 : mj_ins 278 13 = some (.iload 6) := by decide +kernel
set_option maxRecDepth 100000 in
theorem ji_278_15 : mj_ins 278 15 = some (.iload_n 2) := by decide +kernel
set_option maxRecDepth 100000 in
theorem ji_278_16 : mj_ins 278 16 = some (.if_icmp .ge 70) := by decide +kernel
set_option maxRecDepth 100000 in
theorem ji_278_86 : mj_ins 278 86 = some (.aload_n 0) := by decide +kernel
set_option maxRecDepth 100000 in
theorem ji_278_87 : mj_ins 278 87 = some (.invokevirtual 403) := by decide +kernel
set_option maxRecDepth 100000 in
theorem jc_278_403 : mj_cal 278 403 = some (2, 274, 0) := by decide +kernel
set_option maxRecDepth 100000 in
theorem ji_278_90 : mj_ins 278 90 = some (.iload 5) := by decide +kernel
set_option maxRecDepth 100000 in
theorem ji_278_92 : mj_ins 278 92 = some (.ireturn) := by decide +kernel
set_option maxRecDepth 100000 in
theorem jr_278 : mj_ret 278 = some .boolean := by decide +kernel
set_option maxRecDepth 100000 in
theorem ji_278_19 : mj_ins 278 19 = some (.aload_n 0) := by decide +kernel
set_option maxRecDepth 100000 in
theorem ji_278_20 : mj_ins 278 20 = some (.getfield 7) := by decide +kernel
set_option maxRecDepth 100000 in
theorem jf_278_7 : mj_fld 278 7 = some (11, 0, (.array .int), false) := by decide +kernel
set_option maxRecDepth 100000 in
theorem ji_278_23 : mj_ins 278 23 = some (.bipush 9) := by decide +kernel
set_option maxRecDepth 100000 in
theorem ji_278_25 : mj_ins 278 25 = some (.iaload) := by decide +kernel
set_option maxRecDepth 100000 in
theorem ji_278_26 : mj_ins 278 26 = some (.ifCond .eq 60) := by decide +kernel
set_option maxRecDepth 100000 in
theorem ji_278_29 : mj_ins 278 29 = some (.aload_n 0) := by decide +kernel
set_option maxRecDepth 100000 in
theorem ji_278_30 : mj_ins 278 30 = some (.invokevirtual 330) := by decide +kernel
set_option maxRecDepth 100000 in
theorem jc_278_330 : mj_cal 278 330 = some (2, 222, 0) := by decide +kernel
set_option maxRecDepth 100000 in
theorem ji_278_33 : mj_ins 278 33 = some (.aload_n 0) := by decide +kernel
set_option maxRecDepth 100000 in
theorem ji_278_34 : mj_ins 278 34 = some (.getfield 7) := by decide +kernel
set_option maxRecDepth 100000 in
theorem ji_278_37 : mj_ins 278 37 = some (.bipush 9) := by decide +kernel
set_option maxRecDepth 100000 in
theorem ji_278_39 : mj_ins 278 39 = some (.iload 4) := by decide +kernel
set_option maxRecDepth 100000 in
theorem ji_278_41 : mj_ins 278 41 = some (.bipush 10) := by decide +kernel
set_option maxRecDepth 100000 in
theorem ji_278_43 : mj_ins 278 43 = some (.irem) := by decide +kernel
set_option maxRecDepth 100000 in
theorem ji_278_44 : mj_ins 278 44 = some (.iastore) := by decide +kernel
set_option maxRecDepth 100000 in
theorem ji_278_45 : mj_ins 278 45 = some (.iload 4) := by decide +kernel
set_option maxRecDepth 100000 in
theorem ji_278_47 : mj_ins 278 47 = some (.bipush 10) := by decide +kernel
set_option maxRecDepth 100000 in
theorem ji_278_49 : mj_ins 278 49 = some (.idiv) := by decide +kernel
set_option maxRecDepth 100000 in
theorem ji_278_50 : mj_ins 278 50 = some (.istore 4) := by decide +kernel
set_option maxRecDepth 100000 in
theorem ji_278_52 : mj_ins 278 52 = some (.aload_n 0) := by decide +kernel
set_option maxRecDepth 100000 in
theorem ji_278_53 : mj_ins 278 53 = some (.getfield 7) := by decide +kernel
set_option maxRecDepth 100000 in
theorem ji_278_56 : mj_ins 278 56 = some (.bipush 9) := by decide +kernel
set_option maxRecDepth 100000 in
theorem ji_278_58 : mj_ins 278 58 = some (.iaload) := by decide +kernel
set_option maxRecDepth 100000 in
theorem ji_278_59 : mj_ins 278 59 = some (.ifCond .ne 18) := by decide +kernel
set_option maxRecDepth 100000 in
theorem ji_278_77 : mj_ins 278 77 = some (.iconst 0) := by decide +kernel
set_option maxRecDepth 100000 in
theorem ji_278_78 : mj_ins 278 78 = some (.istore 5) := by decide +kernel
set_option maxRecDepth 100000 in
theorem ji_278_80 : mj_ins 278 80 = some (.iinc 6 1) := by decide +kernel
set_option maxRecDepth 100000 in
theorem ji_278_83 : mj_ins 278 83 = some (.goto (-70)) := by decide +kernel
set_option maxRecDepth 100000 in
theorem ji_278_62 : mj_ins 278 62 = some (.aload_n 0) := by decide +kernel
set_option maxRecDepth 100000 in
theorem ji_278_63 : mj_ins 278 63 = some (.getfield 7) := by decide +kernel
set_option maxRecDepth 100000 in
theorem ji_278_66 : mj_ins 278 66 = some (.bipush 10) := by decide +kernel
set_option maxRecDepth 100000 in
theorem ji_278_68 : mj_ins 278 68 = some (.iaload) := by decide +kernel
set_option maxRecDepth 100000 in
theorem ji_278_69 : mj_ins 278 69 = some (.iload_n 1) := by decide +kernel
set_option maxRecDepth 100000 in
theorem ji_278_70 : mj_ins 278 70 = some (.if_icmp .ne 7) := by decide +kernel
set_option maxRecDepth 100000 in
theorem ji_278_73 : mj_ins 278 73 = some (.iconst 1) := by decide +kernel
set_option maxRecDepth 100000 in
theorem ji_278_74 : mj_ins 278 74 = some (.goto 4) := by decide +kernel
set_option maxRecDepth 100000 in
theorem ji_278_0 : mj_ins 278 0 = some (.aload_n 0) := by decide +kernel
set_option maxRecDepth 100000 in
theorem ji_278_1 : mj_ins 278 1 = some (.invokevirtual 400) := by decide +kernel
set_option maxRecDepth 100000 in
theorem jc_278_400 : mj_cal 278 400 = some (2, 273, 0) := by decide +kernel
set_option maxRecDepth 100000 in
theorem ji_278_4 : mj_ins 278 4 = some (.iload_n 3) := by decide +kernel
set_option maxRecDepth 100000 in
theorem ji_278_5 : mj_ins 278 5 = some (.istore 4) := by decide +kernel
set_option maxRecDepth 100000 in
theorem ji_278_7 : mj_ins 278 7 = some (.iconst 0) := by decide +kernel
set_option maxRecDepth 100000 in
theorem ji_278_8 : mj_ins 278 8 = some (.istore 5) := by decide +kernel
set_option maxRecDepth 100000 in
theorem ji_278_10 : mj_ins 278 10 = some (.iconst 0) := by decide +kernel
set_option maxRecDepth 100000 in
theorem ji_278_11 : mj_ins 278 11 = some (.istore 6) := by decide +kernel
set_option maxRecDepth 100000 in
theorem ji_277_125 : mj_ins 277 125 = some (.iload 5) := by decide +kernel
set_option maxRecDepth 100000 in
theorem ji_277_127 : mj_ins 277 127 = some (.i2l) := by decide +kernel
set_option maxRecDepth 100000 in
theorem ji_277_128 : mj_ins 277 128 = some (.iload 4) := by decide +kernel
set_option maxRecDepth 100000 in
theorem ji_277_130 : mj_ins 277 130 = some (.i2l) := by decide +kernel
set_option maxRecDepth 100000 in
theorem ji_277_131 : mj_ins 277 131 = some (.iload_n 3) := by decide +kernel
set_option maxRecDepth 100000 in
theorem ji_277_132 : mj_ins 277 132 = some (.invokestatic 418) := by decide +kernel
set_option maxRecDepth 100000 in
theorem jc_277_418 : mj_cal 277 418 = some (1, 279, 3) := by decide +kernel
set_option maxRecDepth 100000 in
theorem ji_277_135 : mj_ins 277 135 = some (.lreturn) := by decide +kernel
set_option maxRecDepth 100000 in
theorem jr_277 : mj_ret 277 = some .long := by decide +kernel
set_option maxRecDepth 100000 in
theorem ji_277_91 : mj_ins 277 91 = some (.iload 6) := by decide +kernel
set_option maxRecDepth 100000 in
theorem ji_277_93 : mj_ins 277 93 = some (.iload 4) := by decide +kernel
set_option maxRecDepth 100000 in
theorem ji_277_95 : mj_ins 277 95 = some (.if_icmp .ge 30) := by decide +kernel
set_option maxRecDepth 100000 in
theorem ji_277_98 : mj_ins 277 98 = some (.iload 5) := by decide +kernel
set_option maxRecDepth 100000 in
theorem ji_277_100 : mj_ins 277 100 = some (.aload_n 0) := by decide +kernel
set_option maxRecDepth 100000 in
theorem ji_277_101 : mj_ins 277 101 = some (.iload_n 1) := by decide +kernel
set_option maxRecDepth 100000 in
theorem ji_277_102 : mj_ins 277 102 = some (.iload_n 2) := by decide +kernel
set_option maxRecDepth 100000 in
theorem ji_277_103 : mj_ins 277 103 = some (.iload 6) := by decide +kernel
set_option maxRecDepth 100000 in
theorem ji_277_105 : mj_ins 277 105 = some (.invokevirtual 415) := by decide +kernel
set_option maxRecDepth 100000 in
theorem jc_277_415 : mj_cal 277 415 = some (2, 278, 3) := by decide +kernel
set_option maxRecDepth 100000 in
theorem jn_278 : mj_nl 278 = 7 := by decide +kernel
set_option maxRecDepth 100000 in
theorem jk_278 : mj_cls 278 = 11 := by decide +kernel
set_option maxRecDepth 100000 in
theorem ji_277_108 : mj_ins 277 108 = some (.ifCond .eq 7) := by decide +kernel
set_option maxRecDepth 100000 in
theorem ji_277_115 : mj_ins 277 115 = some (.iconst 0) := by decide +kernel
set_option maxRecDepth 100000 in
theorem ji_277_116 : mj_ins 277 116 = some (.iadd) := by decide +kernel
set_option maxRecDepth 100000 in
theorem ji_277_117 : mj_ins 277 117 = some (.istore 5) := by decide +kernel
set_option maxRecDepth 100000 in
theorem ji_277_119 : mj_ins 277 119 = some (.iinc 6 1) := by decide +kernel
set_option maxRecDepth 100000 in
theorem ji_277_122 : mj_ins 277 122 = some (.goto (-31)) := by decide +kernel
set_option maxRecDepth 100000 in
theorem ji_277_111 : mj_ins 277 111 = some (.iconst 1) := by decide +kernel
set_option maxRecDepth 100000 in
theorem ji_277_112 : mj_ins 277 112 = some (.goto 4) := by decide +kernel
set_option maxRecDepth 100000 in
theorem ji_277_0 : mj_ins 277 0 = some (.aload_n 0) := by decide +kernel
set_option maxRecDepth 100000 in
theorem ji_277_1 : mj_ins 277 1 = some (.iload_n 1) := by decide +kernel
set_option maxRecDepth 100000 in
theorem ji_277_2 : mj_ins 277 2 = some (.invokevirtual 345) := by decide +kernel
set_option maxRecDepth 100000 in
theorem jc_277_345 : mj_cal 277 345 = some (2, 247, 1) := by decide +kernel
set_option maxRecDepth 100000 in
theorem ji_277_5 : mj_ins 277 5 = some (.ifCond .eq 12) := by decide +kernel
set_option maxRecDepth 100000 in
theorem ji_277_17 : mj_ins 277 17 = some (.ldc2_w 413) := by decide +kernel
set_option maxRecDepth 100000 in
theorem jcn_277_413 : mj_con 277 413 = some (.long (-1)) := by decide +kernel
set_option maxRecDepth 100000 in
theorem ji_277_20 : mj_ins 277 20 = some (.lreturn) := by decide +kernel
set_option maxRecDepth 100000 in
theorem ji_277_8 : mj_ins 277 8 = some (.iload_n 2) := by decide +kernel
set_option maxRecDepth 100000 in
theorem ji_277_9 : mj_ins 277 9 = some (.iconst 0) := by decide +kernel
set_option maxRecDepth 100000 in
theorem ji_277_10 : mj_ins 277 10 = some (.iconst 3) := by decide +kernel
set_option maxRecDepth 100000 in
theorem ji_277_11 : mj_ins 277 11 = some (.invokestatic 66) := by decide +kernel
set_option maxRecDepth 100000 in
theorem jc_277_66 : mj_cal 277 66 = some (1, 171, 3) := by decide +kernel
set_option maxRecDepth 100000 in
theorem ji_277_14 : mj_ins 277 14 = some (.ifCond .ne 7) := by decide +kernel
set_option maxRecDepth 100000 in
theorem ji_277_21 : mj_ins 277 21 = some (.aload_n 0) := by decide +kernel
set_option maxRecDepth 100000 in
theorem ji_277_22 : mj_ins 277 22 = some (.getfield 7) := by decide +kernel
set_option maxRecDepth 100000 in
theorem jf_277_7 : mj_fld 277 7 = some (11, 0, (.array .int), false) := by decide +kernel
set_option maxRecDepth 100000 in
theorem ji_277_25 : mj_ins 277 25 = some (.bipush 9) := by decide +kernel
set_option maxRecDepth 100000 in
theorem ji_277_27 : mj_ins 277 27 = some (.iaload) := by decide +kernel
set_option maxRecDepth 100000 in
theorem ji_277_28 : mj_ins 277 28 = some (.ifCond .ne 24) := by decide +kernel
set_option maxRecDepth 100000 in
theorem ji_277_52 : mj_ins 277 52 = some (.iload_n 2) := by decide +kernel
set_option maxRecDepth 100000 in
theorem ji_277_53 : mj_ins 277 53 = some (.ifCond .ne 7) := by decide +kernel
set_option maxRecDepth 100000 in
theorem ji_277_60 : mj_ins 277 60 = some (.iload_n 2) := by decide +kernel
set_option maxRecDepth 100000 in
theorem ji_277_61 : mj_ins 277 61 = some (.iconst 1) := by decide +kernel
set_option maxRecDepth 100000 in
theorem ji_277_62 : mj_ins 277 62 = some (.if_icmp .ne 8) := by decide +kernel
set_option maxRecDepth 100000 in
theorem ji_277_70 : mj_ins 277 70 = some (.iload_n 2) := by decide +kernel
set_option maxRecDepth 100000 in
theorem ji_277_71 : mj_ins 277 71 = some (.iconst 2) := by decide +kernel
set_option maxRecDepth 100000 in
theorem ji_277_72 : mj_ins 277 72 = some (.if_icmp .ne 8) := by decide +kernel
set_option maxRecDepth 100000 in
theorem ji_277_80 : mj_ins 277 80 = some (.sipush 1000) := by decide +kernel
set_option maxRecDepth 100000 in
theorem ji_277_83 : mj_ins 277 83 = some (.istore 4) := by decide +kernel
set_option maxRecDepth 100000 in
theorem ji_277_85 : mj_ins 277 85 = some (.iconst 0) := by decide +kernel
set_option maxRecDepth 100000 in
theorem ji_277_86 : mj_ins 277 86 = some (.istore 5) := by decide +kernel
set_option maxRecDepth 100000 in
theorem ji_277_88 : mj_ins 277 88 = some (.iconst 0) := by decide +kernel
set_option maxRecDepth 100000 in
theorem ji_277_89 : mj_ins 277 89 = some (.istore 6) := by decide +kernel
set_option maxRecDepth 100000 in
theorem ji_277_75 : mj_ins 277 75 = some (.bipush 100) := by decide +kernel
set_option maxRecDepth 100000 in
theorem ji_277_77 : mj_ins 277 77 = some (.goto 6) := by decide +kernel
set_option maxRecDepth 100000 in
theorem ji_277_65 : mj_ins 277 65 = some (.bipush 10) := by decide +kernel
set_option maxRecDepth 100000 in
theorem ji_277_67 : mj_ins 277 67 = some (.goto 16) := by decide +kernel
set_option maxRecDepth 100000 in
theorem ji_277_56 : mj_ins 277 56 = some (.iconst 1) := by decide +kernel
set_option maxRecDepth 100000 in
theorem ji_277_57 : mj_ins 277 57 = some (.goto 26) := by decide +kernel
set_option maxRecDepth 100000 in
theorem ji_277_31 : mj_ins 277 31 = some (.aload_n 0) := by decide +kernel
set_option maxRecDepth 100000 in
theorem ji_277_32 : mj_ins 277 32 = some (.getfield 7) := by decide +kernel
set_option maxRecDepth 100000 in
theorem ji_277_35 : mj_ins 277 35 = some (.bipush 10) := by decide +kernel
set_option maxRecDepth 100000 in
theorem ji_277_37 : mj_ins 277 37 = some (.iaload) := by decide +kernel
set_option maxRecDepth 100000 in
theorem ji_277_38 : mj_ins 277 38 = some (.iload_n 1) := by decide +kernel
set_option maxRecDepth 100000 in
theorem ji_277_39 : mj_ins 277 39 = some (.if_icmp .eq 7) := by decide +kernel
set_option maxRecDepth 100000 in
theorem ji_277_46 : mj_ins 277 46 = some (.lconst 1) := by decide +kernel
set_option maxRecDepth 100000 in
theorem ji_277_47 : mj_ins 277 47 = some (.goto 4) := by decide +kernel
set_option maxRecDepth 100000 in
theorem ji_277_51 : mj_ins 277 51 = some (.lreturn) := by decide +kernel
set_option maxRecDepth 100000 in
theorem ji_277_42 : mj_ins 277 42 = some (.iload_n 3) := by decide +kernel
set_option maxRecDepth 100000 in
theorem ji_277_43 : mj_ins 277 43 = some (.ifCond .eq 7) := by decide +kernel
set_option maxRecDepth 100000 in
theorem ji_277_50 : mj_ins 277 50 = some (.lconst 0) := by decide +kernel
/-! the reference's drops; laid by program (wp_v07.py) -/
section LRM
variable {nn d m pc : Nat} {lv : mj_L} {st : List Value} {h : mj_H} {Q : Option Value → mj_H → Prop}
theorem wl_lrm {x y : Int} (hi : mj_ins m pc = some .lrem) (hx : 0 ≤ x ∧ x ≤ 2147483647) (hy : 0 < y ∧ y ≤ 2147483647) (hr : wl_R nn d m (pc + 1) lv (wl_L (x % y) :: st) h Q) : wl_R nn d m pc lv (wl_L y :: wl_L x :: st) h Q := by
  refine wl_s (pc' := pc + 1) (lv' := lv) (st' := wl_L (x % y) :: st) (h' := h) hi rfl rfl ?_ hr
  show (if Int64.ofInt y = 0 then none else some (pc + 1, lv, Value.long (Int64.ofInt x - Int64.ofInt x / Int64.ofInt y * Int64.ofInt y) :: st, h)) = _
  rw [if_neg (wp_Lnz hy), wp_Ld hx hy, ← Int64.ofInt_mul, ← Int64.ofInt_sub]
  show some (pc + 1, lv, Value.long (Int64.ofInt (x - x / y * y)) :: st, h) = some (pc + 1, lv, Value.long (Int64.ofInt (x % y)) :: st, h)
  rw [Int.emod_def, Int.mul_comm y]
end LRM
theorem gcd_s (m k : Nat) : Nat.gcd m k = Nat.gcd k (m % k) := by
  rw [Nat.gcd_comm m k, Nat.gcd_rec k m, Nat.gcd_comm (m % k) k]
theorem fly_z {cr : crs} {s : sg_} (G : RG s) (h : s 138 25 = 0) {b : Nat} {j : Int} (hb : ¬ (b = 139 ∧ 8 ≤ j ∧ j < 148)) : endR cr (flA cr s) b j = s b j := by
  have e : flA cr s b j = s b j := by
    by_cases q : b = 139
    · subst q
      by_cases q2 : j < 52
      · exact flA_j (Or.inr q2)
      · exact flA_k G (by omega)
    · exact flA_j (Or.inl q)
  rw [endR_z ((flA_j (Or.inl (by decide))).trans h), up_n (by omega), up_n (by omega), e]
theorem fly_12 {cr : crs} {s : sg_} (h : s 138 25 = 0) : endR cr (flA cr s) 139 12 = s 139 12 := by
  rw [endR_z ((flA_j (Or.inl (by decide))).trans h), up_k (by decide), up_k (by decide)]
  exact flA_j (Or.inr (by decide))
/-- what hours put aside keep: as it was put aside, but for the game's places -/
def AS (cr : crs) (s u : sg_) (k : Int) : Prop := RS u cr ∧ (∀ (b : Nat) (j : Int), ¬ (b = 139 ∧ 8 ≤ j ∧ j < 148) → u b j = bgR s b j) ∧ u 139 8 ≤ 9999 + k ∧ u 139 12 = s 139 12
theorem AS_0 {cr : crs} {s : sg_} {M : Int} (T : RT s cr M) : AS cr s (bgR s) 0 := ⟨RS_bg T.rs, fun _ _ _ => rfl, by rw [bgR_fr (by omega) (by omega)]; have := T.o9; omega, bgR_fr (by omega) (by omega)⟩
theorem AS_25 {cr : crs} {s u : sg_} {k : Int} (A : AS cr s u k) : u 138 25 = 0 := (A.2.1 138 25 (by omega)).trans bgR_25
theorem AS_9 {cr : crs} {s u : sg_} {k x : Int} (A : AS cr s u k) (hk : k < 10000) (h0 : 0 ≤ s 139 12) (hx : 0 ≤ x ∧ x ≤ 9) : AS cr s (up (endR cr (flA cr u)) 139 9 x) (k + 1) := by
  obtain ⟨R, f, o, e12⟩ := A
  have h25 : u 138 25 = 0 := (f 138 25 (by omega)).trans bgR_25
  have E := endR_ok (cr := cr) R.g (by omega) (by omega)
  have z := fun (b : Nat) (j : Int) (hb : ¬ (b = 139 ∧ 8 ≤ j ∧ j < 148)) => fly_z (cr := cr) R.g h25 hb
  refine ⟨RS_f R (RG_9 E.1 hx) ?_ (fun j => ?_), fun b j hb => ?_, ?_, ?_⟩
  · rw [up_k (by decide)]
    exact z _ _ (by omega)
  · rw [up_a (by decide)]
    exact z _ _ (by omega)
  · rw [up_n (by omega), z b j hb]
    exact f b j hb
  · rw [up_k (by decide), E.2.2]
    omega
  · rw [up_k (by decide), fly_12 h25]
    exact e12
/-- does this draw drop it while w has it: so many hours, the draw, the state, what it was -/
def idR (cr : crs) (w : Int) : Nat → Int → sg_ → Int → Int
  | 0, _, _, y => y
  | k + 1, c, u, y => if u 139 9 = 0 then y else idR cr w k (c / 10) (up (endR cr (flA cr u)) 139 9 (c % 10)) (if c % 10 = 0 ∧ endR cr (flA cr u) 139 10 = w then 1 else 0)
theorem idR_01 {cr : crs} {w : Int} : ∀ (k : Nat) (c : Int) (u : sg_) (y : Int), (y = 0 ∨ y = 1) → idR cr w k c u y = 0 ∨ idR cr w k c u y = 1
  | 0, _, _, _, h => h
  | k + 1, c, u, y, h => by
    unfold idR
    by_cases q : u 139 9 = 0
    · rw [if_pos q]; exact h
    · rw [if_neg q]; exact idR_01 k _ _ _ (by by_cases z : c % 10 = 0 ∧ endR cr (flA cr u) 139 10 = w; rw [if_pos z]; exact Or.inr rfl; rw [if_neg z]; exact Or.inl rfl)
theorem uc_280l {d : Nat} {h : mj_H} {a b : Int} : ∀ (nn m k : Nat) (l8 l9 : Option Value), m ≤ 1000 → k ≤ 1000 → wl_R nn d 280 6 [some (wl_L a), none, some (wl_L b), none, some (wl_L ((m : Int))), none, some (wl_L ((k : Int))), none, l8, l9] [] h (fun v1 h1 => h1 = h ∧ v1 = some (wl_L ((Nat.gcd m k : Nat) : Int))) := by
  intro nn
  induction nn with
  | zero => intros; exact wl_0
  | succ nn ih =>
    intro m k l8 l9 hm hk
    refine wl_s1 (pc' := 8) ji_280_6 rfl rfl rfl ?_
    refine wl_s (pc' := 9) (st' := [wl_L 0, wl_L ((k : Int))]) ji_280_8 rfl rfl rfl ?_
    refine wl_lcm (x := (k : Int)) (y := 0) ji_280_9 (by unfold wl_q; omega) (by unfold wl_q; omega) (fun cm1 hcm1r hcm1 => ?_)
    refine wl_if (t := 31) ji_280_10 rfl (by omega) (fun (hb2 : (cm1 : Int) = 0) => ?_) (fun (hb2 : ¬ ((cm1 : Int) = 0)) => ?_)
    · refine wl_s (pc' := 33) ji_280_31 rfl rfl rfl ?_
      exact wl_rlg ji_280_33 jr_280 (⟨rfl, by rw [show k = 0 by omega, Nat.gcd_zero_right]⟩)
    · refine wl_s (pc' := 15) ji_280_13 rfl rfl rfl ?_
      refine wl_s (pc' := 17) ji_280_15 rfl rfl rfl ?_
      refine wl_lrm (x := (m : Int)) (y := (k : Int)) ji_280_17 (by omega) (by omega) ?_
      refine wl_s (pc' := 20) (lv' := [some (wl_L a), none, some (wl_L b), none, some (wl_L ((m : Int))), none, some (wl_L ((k : Int))), none, some (wl_L (((m : Int)) % ((k : Int)))), none]) ji_280_18 rfl rfl rfl ?_
      refine wl_s (pc' := 22) ji_280_20 rfl rfl rfl ?_
      refine wl_s (pc' := 24) (lv' := [some (wl_L a), none, some (wl_L b), none, some (wl_L ((k : Int))), none, some (wl_L ((k : Int))), none, some (wl_L (((m : Int)) % ((k : Int)))), none]) ji_280_22 rfl rfl rfl ?_
      refine wl_s (pc' := 26) ji_280_24 rfl rfl rfl ?_
      refine wl_s (pc' := 28) (lv' := [some (wl_L a), none, some (wl_L b), none, some (wl_L ((k : Int))), none, some (wl_L (((m : Int)) % ((k : Int)))), none, some (wl_L (((m : Int)) % ((k : Int)))), none]) ji_280_26 rfl rfl rfl ?_
      refine wl_goto (t := 6) ji_280_28 rfl ?_
      rw [gcd_s m k]
      exact ih k (m % k) _ _ (by omega) (by have := Nat.mod_lt m (show 0 < k by omega); omega)
theorem uc_280 {nn d : Nat} {h : mj_H} {m k : Nat} (hm : m ≤ 1000) (hk : k ≤ 1000) : wl_R nn d 280 0 [some (wl_L (m : Int)), none, some (wl_L (k : Int)), none, none, none, none, none, none, none] [] h (fun v1 h1 => h1 = h ∧ v1 = some (wl_L ((Nat.gcd m k : Nat) : Int))) := by
  refine wl_s (pc' := 1) ji_280_0 rfl rfl rfl ?_
  refine wl_s (pc' := 3) (lv' := [some (wl_L ((m : Int))), none, some (wl_L ((k : Int))), none, some (wl_L ((m : Int))), none, none, none, none, none]) ji_280_1 rfl rfl rfl ?_
  refine wl_s (pc' := 4) ji_280_3 rfl rfl rfl ?_
  refine wl_s (pc' := 6) (lv' := [some (wl_L ((m : Int))), none, some (wl_L ((k : Int))), none, some (wl_L ((m : Int))), none, some (wl_L ((k : Int))), none, none, none]) ji_280_4 rfl rfl rfl ?_
  exact uc_280l nn m k none none hm hk
/-- a part in lowest terms -/
def ltR (m k : Nat) (z : Int) : Int := Int.tdiv (if z = 0 then (m : Int) else (k : Int)) ((Nat.gcd m k : Nat) : Int)
theorem uc_279 {nn d : Nat} {h : mj_H} {m k : Nat} {z : Int} (hm : m ≤ 1000) (hk : 1 ≤ k ∧ k ≤ 1000) (hz : z = 0 ∨ z = 1) : wl_R nn (d + 1) 279 0 [some (wl_L (m : Int)), none, some (wl_L (k : Int)), none, some (wp_i z)] [] h (fun v1 h1 => h1 = h ∧ v1 = some (wl_L (ltR m k z))) := by
  refine wl_s (pc' := 2) ji_279_0 rfl rfl rfl ?_
  refine wl_if (t := 9) ji_279_2 rfl (by omega) (fun (hb1 : (z : Int) = 0) => ?_) (fun (hb1 : ¬ ((z : Int) = 0)) => ?_)
  · refine wl_s (pc' := 10) ji_279_9 rfl rfl rfl ?_
    refine wl_s (pc' := 11) ji_279_10 rfl rfl rfl ?_
    refine wl_s (pc' := 12) ji_279_11 rfl rfl rfl ?_
    refine wl_sc (d := d) (as := [wl_L ((m : Int)), wl_L ((k : Int))]) (rest := [wl_L ((m : Int))]) ji_279_12 jc_279_409 (Nat.le_of_ble_eq_true rfl) rfl (Nat.le_of_ble_eq_true rfl) rfl (by rw [jn_280]; rfl) (uc_280 (d := d) hm hk.2) (fun v1 h2 R => ?_)
    obtain ⟨ee, rfl⟩ := R
    rw [ee]
    clear ee
    have gp : 0 < Nat.gcd m k := Nat.gcd_pos_of_pos_right m (by omega)
    have gl : Nat.gcd m k ≤ k := Nat.le_of_dvd (by omega) (Nat.gcd_dvd_right m k)
    show wl_R _ _ 279 15 [some (wl_L ((m : Int))), none, some (wl_L ((k : Int))), none, some (wp_i z)] [wl_L (((Nat.gcd m k : Nat) : Int)), wl_L ((m : Int))] _ _
    refine wl_ldv (x := (m : Int)) (y := ((Nat.gcd m k : Nat) : Int)) ji_279_15 (by omega) (by omega) (by omega) ?_
    exact wl_rlg ji_279_16 jr_279 (⟨rfl, by unfold ltR; rw [if_pos (by omega)]⟩)
  · refine wl_s (pc' := 6) ji_279_5 rfl rfl rfl ?_
    refine wl_goto (t := 10) ji_279_6 rfl ?_
    refine wl_s (pc' := 11) ji_279_10 rfl rfl rfl ?_
    refine wl_s (pc' := 12) ji_279_11 rfl rfl rfl ?_
    refine wl_sc (d := d) (as := [wl_L ((m : Int)), wl_L ((k : Int))]) (rest := [wl_L ((k : Int))]) ji_279_12 jc_279_409 (Nat.le_of_ble_eq_true rfl) rfl (Nat.le_of_ble_eq_true rfl) rfl (by rw [jn_280]; rfl) (uc_280 (d := d) hm hk.2) (fun v1 h3 R => ?_)
    obtain ⟨ee, rfl⟩ := R
    rw [ee]
    clear ee
    have gp : 0 < Nat.gcd m k := Nat.gcd_pos_of_pos_right m (by omega)
    have gl : Nat.gcd m k ≤ k := Nat.le_of_dvd (by omega) (Nat.gcd_dvd_right m k)
    show wl_R _ _ 279 15 [some (wl_L ((m : Int))), none, some (wl_L ((k : Int))), none, some (wp_i z)] [wl_L (((Nat.gcd m k : Nat) : Int)), wl_L ((k : Int))] _ _
    refine wl_ldv (x := (k : Int)) (y := ((Nat.gcd m k : Nat) : Int)) ji_279_15 (by omega) (by omega) (by omega) ?_
    exact wl_rlg ji_279_16 jr_279 (⟨rfl, by unfold ltR; rw [if_neg (by omega)]⟩)
theorem uc_278l {d : Nat} {s : sg_} {cr : crs} {w n c3 : Int} (hw : wp_r w) (hn : 0 ≤ n ∧ n ≤ 3) (h0 : 0 ≤ s 139 12 ∧ s 139 12 ≤ 2000000000) : ∀ (nn i : Nat) (c y : Int) (u : sg_) (h : mj_H), CS h u → AS cr s u (i : Int) → (i : Int) ≤ n → (0 ≤ c ∧ c ≤ 100000) → (y = 0 ∨ y = 1) → wl_R nn (d + 8) 278 13 [some (.ref 138), some (wp_i w), some (wp_i n), some (wp_i c3), some (wp_i c), some (wp_i y), some (wp_i ((i : Int)))] [] h (fun v1 h1 => v1 = some (wp_i (idR cr w (n.toNat - i) c u y)) ∧ ∃ t, CS h1 t ∧ ∀ (b : Nat) (j : Int), ¬ (b = 147 ∧ 8 ≤ j ∧ j < 148) → ¬ (b = 138 ∧ j = 25) → t b j = s b j) := by
  intro nn
  induction nn with
  | zero => intros; exact wl_0
  | succ nn ih =>
    intro i c y u h C A hi hc hy
    refine wl_s1 (pc' := 15) ji_278_13 rfl rfl rfl ?_
    refine wl_s (pc' := 16) ji_278_15 rfl rfl rfl ?_
    refine wl_icmp (t := 86) ji_278_16 rfl (by omega) (by omega) (fun (hb1 : (n : Int) ≤ ((i : Int))) => ?_) (fun (hb1 : ¬ ((n : Int) ≤ ((i : Int)))) => ?_)
    · refine wl_s (pc' := 87) ji_278_86 rfl rfl rfl ?_
      obtain ⟨q3, hq3⟩ := cs_c C (by decide) sq_138
      refine wl_vc (d := d + 7) (as := [.ref 138]) (rest := []) ji_278_87 jc_278_403 rfl hq3 jk_274.symm (Nat.le_of_ble_eq_true rfl) rfl (by rw [jn_274]; rfl) (uc_274 (d := d + 7) C) (fun v1 h2 R => ?_)
      obtain ⟨rfl, C⟩ := R
      show wl_R _ _ 278 90 [some (.ref 138), some (wp_i w), some (wp_i n), some (wp_i c3), some (wp_i c), some (wp_i y), some (wp_i ((i : Int)))] [] h2 _
      refine wl_s (pc' := 92) ji_278_90 rfl rfl rfl ?_
      exact wl_ri ji_278_92 jr_278 (pv_nb (by omega)) (⟨congrArg (fun z => some (wp_i z)) (by { rw [show n.toNat - i = 0 by omega]; rfl }), _, C, fun b j h1 h2 => pb_ok A.2.1 b j h1 h2⟩)
    · refine wl_s (pc' := 20) ji_278_19 rfl rfl rfl ?_
      refine cs_gr (r := 139) (k := 0) C (by decide) sq_138 rfl ji_278_20 jf_278_7 ?_
      refine wl_bp ji_278_23 rfl ?_
      refine cs_l (x := 9) C (by decide) (by decide) sq_139 (by omega) ji_278_25 (fun ld40 ld41 ld42 => ?_)
      refine wl_if (t := 86) ji_278_26 rfl (by omega) (fun (hb5 : (u 139 9 : Int) = 0) => ?_) (fun (hb5 : ¬ ((u 139 9 : Int) = 0)) => ?_)
      · refine wl_s (pc' := 87) ji_278_86 rfl rfl rfl ?_
        obtain ⟨q7, hq7⟩ := cs_c C (by decide) sq_138
        refine wl_vc (d := d + 7) (as := [.ref 138]) (rest := []) ji_278_87 jc_278_403 rfl hq7 jk_274.symm (Nat.le_of_ble_eq_true rfl) rfl (by rw [jn_274]; rfl) (uc_274 (d := d + 7) C) (fun v1 h6 R => ?_)
        obtain ⟨rfl, C⟩ := R
        show wl_R _ _ 278 90 [some (.ref 138), some (wp_i w), some (wp_i n), some (wp_i c3), some (wp_i c), some (wp_i y), some (wp_i ((i : Int)))] [] h6 _
        refine wl_s (pc' := 92) ji_278_90 rfl rfl rfl ?_
        exact wl_ri ji_278_92 jr_278 (pv_nb (by omega)) (⟨congrArg (fun z => some (wp_i z)) (by { rw [show n.toNat - i = (n.toNat - (i + 1)) + 1 by omega]; exact (if_pos (by omega)).symm }), _, C, fun b j h1 h2 => pb_ok A.2.1 b j h1 h2⟩)
      · refine wl_s (pc' := 30) ji_278_29 rfl rfl rfl ?_
        obtain ⟨q9, hq9⟩ := cs_c C (by decide) sq_138
        refine wl_vc (d := d + 7) (as := [.ref 138]) (rest := []) ji_278_30 jc_278_330 rfl hq9 jk_222.symm (Nat.le_of_ble_eq_true rfl) rfl (by rw [jn_222]; rfl) (uc_222 (d := d) C A.1 (by have := A.2.2.2; omega)) (fun v1 h8 R => ?_)
        obtain ⟨rfl, C⟩ := R
        obtain ⟨v, ev⟩ : ∃ z9_, endR cr (flA cr u) = z9_ := ⟨_, rfl⟩
        have E := endR_ok (cr := cr) A.1.g (by have := A.2.2.2; omega) (by have := A.2.2.1; omega)
        rw [ev] at C E
        have d10 := E.1.d
        show wl_R _ _ 278 33 [some (.ref 138), some (wp_i w), some (wp_i n), some (wp_i c3), some (wp_i c), some (wp_i y), some (wp_i ((i : Int)))] [] h8 _
        refine wl_s (pc' := 34) ji_278_33 rfl rfl rfl ?_
        refine cs_gr (r := 139) (k := 0) C (by decide) sq_138 rfl ji_278_34 jf_278_7 ?_
        refine wl_bp ji_278_37 rfl ?_
        refine wl_s (pc' := 41) ji_278_39 rfl rfl rfl ?_
        refine wl_bp ji_278_41 rfl ?_
        refine wl_irem (x := c) (y := 10) ji_278_43 (by omega) (by omega) ?_
        refine cs_s (x := 9) (y := c % 10) C (by decide) sq_139 (by omega) (by omega) ji_278_44 (fun h st100 st101 C => ?_)
        obtain ⟨s11, es11⟩ : ∃ z9_, up v 139 9 (c % 10) = z9_ := ⟨_, rfl⟩
        rw [es11] at C
        refine wl_s (pc' := 47) ji_278_45 rfl rfl rfl ?_
        refine wl_bp ji_278_47 rfl ?_
        refine wl_idiv (x := c) (y := 10) ji_278_49 (by omega) (by omega) ?_
        refine wl_s (pc' := 52) (lv' := [some (.ref 138), some (wp_i w), some (wp_i n), some (wp_i c3), some (wp_i (c / 10)), some (wp_i y), some (wp_i ((i : Int)))]) ji_278_50 rfl rfl rfl ?_
        refine wl_s (pc' := 53) ji_278_52 rfl rfl rfl ?_
        refine cs_gr (r := 139) (k := 0) C (by decide) sq_138 rfl ji_278_53 jf_278_7 ?_
        refine wl_bp ji_278_56 rfl ?_
        refine cs_l (x := 9) C (by decide) (by decide) sq_139 (by omega) ji_278_58 (fun ld120 ld121 ld122 => ?_)
        have rd13 : s11 139 9 = c % 10 := by rw [← es11, up_e]
        rw [rd13] at ld122 ⊢
        refine wl_if (t := 77) ji_278_59 rfl (by omega) (fun (hb14 : ¬ (c % 10 : Int) = 0) => ?_) (fun (hb14 : ¬ (¬ (c % 10 : Int) = 0)) => ?_)
        · refine wl_s (pc' := 78) ji_278_77 rfl rfl rfl ?_
          refine wl_s (pc' := 80) (lv' := [some (.ref 138), some (wp_i w), some (wp_i n), some (wp_i c3), some (wp_i (c / 10)), some (wp_i 0), some (wp_i ((i : Int)))]) ji_278_78 rfl rfl rfl ?_
          refine wl_iinc (x := (i : Int)) (z := (i : Int) + 1) (lv' := [some (.ref 138), some (wp_i w), some (wp_i n), some (wp_i c3), some (wp_i (c / 10)), some (wp_i 0), some (wp_i ((i : Int) + 1))]) ji_278_80 rfl (Nat.le_of_ble_eq_true rfl) (by omega) rfl ?_
          refine wl_goto (t := 13) ji_278_83 rfl ?_
          have A2 := AS_9 A (by omega) h0.1 (x := c % 10) (by omega)
          rw [ev] at A2
          have e9 : up v 139 9 (c % 10) 139 9 = c % 10 := up_e _ _ _ _
          have e10 : up v 139 9 (c % 10) 139 10 = v 139 10 := up_k (by decide)
          have eI : idR cr w (n.toNat - i) c u y = idR cr w (n.toNat - (i + 1)) (c / 10) (up v 139 9 (c % 10)) 0 := by { rw [show n.toNat - i = (n.toNat - (i + 1)) + 1 by omega]; refine (if_neg (by omega)).trans ?_; rw [ev, if_neg (by omega)] }
          rw [eI, show (i : Int) + 1 = ((i + 1 : Nat) : Int) by omega]
          exact ih (i + 1) _ _ _ _ (by rw [es11]; exact C) (by rw [show ((i + 1 : Nat) : Int) = (i : Int) + 1 by omega]; exact A2) (by omega) (by omega) (by omega)
        · refine wl_s (pc' := 63) ji_278_62 rfl rfl rfl ?_
          refine cs_gr (r := 139) (k := 0) C (by decide) sq_138 rfl ji_278_63 jf_278_7 ?_
          refine wl_bp ji_278_66 rfl ?_
          refine cs_l (x := 10) C (by decide) (by decide) sq_139 (by omega) ji_278_68 (fun ld150 ld151 ld152 => ?_)
          have rd16 : s11 139 10 = v 139 10 := by rw [← es11, up_k (by decide)]
          rw [rd16] at ld152 ⊢
          refine wl_s (pc' := 70) ji_278_69 rfl rfl rfl ?_
          refine wl_icmp (t := 77) ji_278_70 rfl (by omega) (by omega) (fun (hb17 : ¬ (v 139 10 : Int) = w) => ?_) (fun (hb17 : ¬ (¬ (v 139 10 : Int) = w)) => ?_)
          · refine wl_s (pc' := 78) ji_278_77 rfl rfl rfl ?_
            refine wl_s (pc' := 80) (lv' := [some (.ref 138), some (wp_i w), some (wp_i n), some (wp_i c3), some (wp_i (c / 10)), some (wp_i 0), some (wp_i ((i : Int)))]) ji_278_78 rfl rfl rfl ?_
            refine wl_iinc (x := (i : Int)) (z := (i : Int) + 1) (lv' := [some (.ref 138), some (wp_i w), some (wp_i n), some (wp_i c3), some (wp_i (c / 10)), some (wp_i 0), some (wp_i ((i : Int) + 1))]) ji_278_80 rfl (Nat.le_of_ble_eq_true rfl) (by omega) rfl ?_
            refine wl_goto (t := 13) ji_278_83 rfl ?_
            have A2 := AS_9 A (by omega) h0.1 (x := c % 10) (by omega)
            rw [ev] at A2
            have e9 : up v 139 9 (c % 10) 139 9 = c % 10 := up_e _ _ _ _
            have e10 : up v 139 9 (c % 10) 139 10 = v 139 10 := up_k (by decide)
            have eI : idR cr w (n.toNat - i) c u y = idR cr w (n.toNat - (i + 1)) (c / 10) (up v 139 9 (c % 10)) 0 := by { rw [show n.toNat - i = (n.toNat - (i + 1)) + 1 by omega]; refine (if_neg (by omega)).trans ?_; rw [ev, if_neg (by omega)] }
            rw [eI, show (i : Int) + 1 = ((i + 1 : Nat) : Int) by omega]
            exact ih (i + 1) _ _ _ _ (by rw [es11]; exact C) (by rw [show ((i + 1 : Nat) : Int) = (i : Int) + 1 by omega]; exact A2) (by omega) (by omega) (by omega)
          · refine wl_s (pc' := 74) ji_278_73 rfl rfl rfl ?_
            refine wl_goto (t := 78) ji_278_74 rfl ?_
            refine wl_s (pc' := 80) (lv' := [some (.ref 138), some (wp_i w), some (wp_i n), some (wp_i c3), some (wp_i (c / 10)), some (wp_i 1), some (wp_i ((i : Int)))]) ji_278_78 rfl rfl rfl ?_
            refine wl_iinc (x := (i : Int)) (z := (i : Int) + 1) (lv' := [some (.ref 138), some (wp_i w), some (wp_i n), some (wp_i c3), some (wp_i (c / 10)), some (wp_i 1), some (wp_i ((i : Int) + 1))]) ji_278_80 rfl (Nat.le_of_ble_eq_true rfl) (by omega) rfl ?_
            refine wl_goto (t := 13) ji_278_83 rfl ?_
            have A2 := AS_9 A (by omega) h0.1 (x := c % 10) (by omega)
            rw [ev] at A2
            have e9 : up v 139 9 (c % 10) 139 9 = c % 10 := up_e _ _ _ _
            have e10 : up v 139 9 (c % 10) 139 10 = v 139 10 := up_k (by decide)
            have eI : idR cr w (n.toNat - i) c u y = idR cr w (n.toNat - (i + 1)) (c / 10) (up v 139 9 (c % 10)) 1 := by { rw [show n.toNat - i = (n.toNat - (i + 1)) + 1 by omega]; refine (if_neg (by omega)).trans ?_; rw [ev, if_pos (by omega)] }
            rw [eI, show (i : Int) + 1 = ((i + 1 : Nat) : Int) by omega]
            exact ih (i + 1) _ _ _ _ (by rw [es11]; exact C) (by rw [show ((i + 1 : Nat) : Int) = (i : Int) + 1 by omega]; exact A2) (by omega) (by omega) (by omega)
theorem uc_278 {nn d : Nat} {h : mj_H} {s : sg_} (C : CS h s) {cr : crs} {M : Int} (hM : M ≤ 2000000000) (T : RT s cr M) {w n c : Int} (hw : wp_r w) (hn : 0 ≤ n ∧ n ≤ 3) (hc : 0 ≤ c ∧ c ≤ 100000) : wl_R nn (d + 8) 278 0 [some (.ref 138), some (wp_i w), some (wp_i n), some (wp_i c), none, none, none] [] h (fun v1 h1 => v1 = some (wp_i (idR cr w n.toNat c (bgR s) 0)) ∧ ∃ t, CS h1 t ∧ ∀ (b : Nat) (j : Int), ¬ (b = 147 ∧ 8 ≤ j ∧ j < 148) → ¬ (b = 138 ∧ j = 25) → t b j = s b j) := by
  refine wl_s (pc' := 1) ji_278_0 rfl rfl rfl ?_
  obtain ⟨q2, hq2⟩ := cs_c C (by decide) sq_138
  refine wl_vc (d := d + 7) (as := [.ref 138]) (rest := []) ji_278_1 jc_278_400 rfl hq2 jk_273.symm (Nat.le_of_ble_eq_true rfl) rfl (by rw [jn_273]; rfl) (uc_273 (d := d + 7) C) (fun v1 h1 R => ?_)
  obtain ⟨rfl, C⟩ := R
  show wl_R _ _ 278 4 [some (.ref 138), some (wp_i w), some (wp_i n), some (wp_i c), none, none, none] [] h1 _
  refine wl_s (pc' := 5) ji_278_4 rfl rfl rfl ?_
  refine wl_s (pc' := 7) (lv' := [some (.ref 138), some (wp_i w), some (wp_i n), some (wp_i c), some (wp_i c), none, none]) ji_278_5 rfl rfl rfl ?_
  refine wl_s (pc' := 8) ji_278_7 rfl rfl rfl ?_
  refine wl_s (pc' := 10) (lv' := [some (.ref 138), some (wp_i w), some (wp_i n), some (wp_i c), some (wp_i c), some (wp_i 0), none]) ji_278_8 rfl rfl rfl ?_
  refine wl_s (pc' := 11) ji_278_10 rfl rfl rfl ?_
  refine wl_s (pc' := 13) (lv' := [some (.ref 138), some (wp_i w), some (wp_i n), some (wp_i c), some (wp_i c), some (wp_i 0), some (wp_i 0)]) ji_278_11 rfl rfl rfl ?_
  have tb := T.b
  rw [show (0 : Int) = ((0 : Nat) : Int) from rfl]
  exact uc_278l hw hn (by omega) nn 0 c _ _ _ C (AS_0 T) (by omega) hc (Or.inl rfl)
/-- how many of the draws below c drop it -/
def idS (cr : crs) (w : Int) (k : Nat) (u : sg_) : Nat → Int
  | 0 => 0
  | c + 1 => idS cr w k u c + idR cr w k (c : Int) u 0
theorem idS_b {cr : crs} {w : Int} {k : Nat} {u : sg_} : ∀ c : Nat, 0 ≤ idS cr w k u c ∧ idS cr w k u c ≤ c
  | 0 => ⟨Int.le_refl _, Int.le_refl _⟩
  | c + 1 => by
    have a := idS_b (cr := cr) (w := w) (k := k) (u := u) c
    have b := idR_01 (cr := cr) (w := w) k (c : Int) u 0 (Or.inl rfl)
    show 0 ≤ idS cr w k u c + idR cr w k (c : Int) u 0 ∧ idS cr w k u c + idR cr w k (c : Int) u 0 ≤ ((c + 1 : Nat) : Int)
    omega
theorem p10_v {n : Int} (h : 0 ≤ n ∧ n ≤ 3) : 1 ≤ p10 n ∧ p10 n ≤ 1000 := by
  unfold p10
  by_cases a : n = 0
  · rw [if_pos a]; decide
  · rw [if_neg a]
    by_cases b : n = 1
    · rw [if_pos b]; decide
    · rw [if_neg b]
      by_cases c : n = 2
      · rw [if_pos c]; decide
      · rw [if_neg c]; decide
theorem uc_277e {nn d : Nat} {h : mj_H} {s t : sg_} {w n z b6 : Int} {mm kk : Nat} (C : CS h t) (hz : z = 0 ∨ z = 1) (hm : mm ≤ 1000) (hk : 1 ≤ kk ∧ kk ≤ 1000) (ft : ∀ (b : Nat) (j : Int), ¬ (b = 147 ∧ 8 ≤ j ∧ j < 148) → ¬ (b = 138 ∧ j = 25) → t b j = s b j) : wl_R nn (d + 9) 277 125 [some (.ref 138), some (wp_i w), some (wp_i n), some (wp_i z), some (wp_i (kk : Int)), some (wp_i (mm : Int)), some (wp_i b6)] [] h (fun v1 h1 => v1 = some (wl_L (ltR mm kk z)) ∧ ∃ t, CS h1 t ∧ ∀ (b : Nat) (j : Int), ¬ (b = 147 ∧ 8 ≤ j ∧ j < 148) → ¬ (b = 138 ∧ j = 25) → t b j = s b j) := by
  refine wl_s (pc' := 127) ji_277_125 rfl rfl rfl ?_
  refine wl_i2g (x := (mm : Int)) ji_277_127 (by omega) ?_
  refine wl_s (pc' := 130) ji_277_128 rfl rfl rfl ?_
  refine wl_i2g (x := (kk : Int)) ji_277_130 (by omega) ?_
  refine wl_s (pc' := 132) ji_277_131 rfl rfl rfl ?_
  refine wl_sc (d := d + 8) (as := [wl_L ((mm : Int)), wl_L ((kk : Int)), wp_i z]) (rest := []) ji_277_132 jc_277_418 (Nat.le_of_ble_eq_true rfl) rfl (Nat.le_of_ble_eq_true rfl) rfl (by rw [jn_279]; rfl) (uc_279 (d := d + 7) (m := mm) (k := kk) (z := z) (by omega) (by omega) hz) (fun v1 h1 R => ?_)
  obtain ⟨ee, rfl⟩ := R
  rw [ee]
  clear ee
  show wl_R _ _ 277 135 [some (.ref 138), some (wp_i w), some (wp_i n), some (wp_i z), some (wp_i ((kk : Int))), some (wp_i ((mm : Int))), some (wp_i b6)] [wl_L (ltR mm kk z)] _ _
  exact wl_rlg ji_277_135 jr_277 (⟨rfl, t, C, ft⟩)
theorem uc_277l {d : Nat} {s : sg_} {cr : crs} {M : Int} (hM : M ≤ 2000000000) (T : RT s cr M) {w n z P : Int} (hw : wp_r w) (hn : 0 ≤ n ∧ n ≤ 3) (hz : z = 0 ∨ z = 1) (hP : 1 ≤ P ∧ P ≤ 1000) : ∀ (nn c : Nat) (h : mj_H) (t : sg_), CS h t → (c : Int) ≤ P → (∀ (b : Nat) (j : Int), ¬ (b = 147 ∧ 8 ≤ j ∧ j < 148) → ¬ (b = 138 ∧ j = 25) → t b j = s b j) → wl_R nn (d + 9) 277 91 [some (.ref 138), some (wp_i w), some (wp_i n), some (wp_i z), some (wp_i P), some (wp_i ((idS cr w n.toNat (bgR s) c))), some (wp_i ((c : Int)))] [] h (fun v1 h1 => v1 = some (wl_L (ltR (idS cr w n.toNat (bgR s) P.toNat).toNat P.toNat z)) ∧ ∃ t, CS h1 t ∧ ∀ (b : Nat) (j : Int), ¬ (b = 147 ∧ 8 ≤ j ∧ j < 148) → ¬ (b = 138 ∧ j = 25) → t b j = s b j) := by
  intro nn
  induction nn with
  | zero => intros; exact wl_0
  | succ nn ih =>
    intro c h t C hc ft
    have ib := idS_b (cr := cr) (w := w) (k := n.toNat) (u := bgR s) c
    refine wl_s1 (pc' := 93) ji_277_91 rfl rfl rfl ?_
    refine wl_s (pc' := 95) ji_277_93 rfl rfl rfl ?_
    refine wl_icmp (t := 125) ji_277_95 rfl (by omega) (by omega) (fun (hb1 : (P : Int) ≤ ((c : Int))) => ?_) (fun (hb1 : ¬ ((P : Int) ≤ ((c : Int)))) => ?_)
    · have ec : c = P.toNat := by omega
      have eP : P = ((P.toNat : Nat) : Int) := by omega
      have eM : idS cr w n.toNat (bgR s) c = (((idS cr w n.toNat (bgR s) P.toNat).toNat : Nat) : Int) := by { rw [ec] at ib ⊢; omega }
      have M1 : (idS cr w n.toNat (bgR s) P.toNat).toNat ≤ 1000 := by { rw [ec] at ib; omega }
      have := uc_277e (nn := nn) (d := d) (w := w) (n := n) (b6 := (c : Int)) C hz M1 (kk := P.toNat) (by omega) ft
      rw [← eP, ← eM] at this
      exact this
    · refine wl_s (pc' := 100) ji_277_98 rfl rfl rfl ?_
      refine wl_s (pc' := 101) ji_277_100 rfl rfl rfl ?_
      refine wl_s (pc' := 102) ji_277_101 rfl rfl rfl ?_
      refine wl_s (pc' := 103) ji_277_102 rfl rfl rfl ?_
      refine wl_s (pc' := 105) ji_277_103 rfl rfl rfl ?_
      obtain ⟨q3, hq3⟩ := cs_c C (by decide) sq_138
      refine wl_vc (d := d + 8) (as := [.ref 138, wp_i w, wp_i n, wp_i ((c : Int))]) (rest := [wp_i ((idS cr w n.toNat (bgR s) c))]) ji_277_105 jc_277_415 rfl hq3 jk_278.symm (Nat.le_of_ble_eq_true rfl) rfl (by rw [jn_278]; rfl) (uc_278 (d := d) C hM (RT_q T (fun b j hb => ft b j (by omega) (by omega))) hw hn (c := (c : Int)) (by omega)) (fun v1 h2 R => ?_)
      obtain ⟨rfl, t2, C, ft2⟩ := R
      have i01 := idR_01 (cr := cr) (w := w) n.toNat (c : Int) (bgR t) 0 (Or.inl rfl)
      rw [bg_same ft] at i01 ⊢
      obtain ⟨q, eq9⟩ : ∃ z9_, idR cr w n.toNat (c : Int) (bgR s) 0 = z9_ := ⟨_, rfl⟩
      rw [eq9] at i01 ⊢
      have ft3 : ∀ (b : Nat) (j : Int), ¬ (b = 147 ∧ 8 ≤ j ∧ j < 148) → ¬ (b = 138 ∧ j = 25) → t2 b j = s b j := fun b j h1 h2 => (ft2 b j h1 h2).trans (ft b j h1 h2)
      show wl_R _ _ 277 108 [some (.ref 138), some (wp_i w), some (wp_i n), some (wp_i z), some (wp_i P), some (wp_i ((idS cr w n.toNat (bgR s) c))), some (wp_i ((c : Int)))] [wp_i q, wp_i ((idS cr w n.toNat (bgR s) c))] h2 _
      refine wl_if (t := 115) ji_277_108 rfl (by omega) (fun (hb4 : (q : Int) = 0) => ?_) (fun (hb4 : ¬ ((q : Int) = 0)) => ?_)
      · refine wl_s (pc' := 116) ji_277_115 rfl rfl rfl ?_
        refine wl_iadd (x := (idS cr w n.toNat (bgR s) c)) (y := 0) (z := (idS cr w n.toNat (bgR s) c)) ji_277_116 (by omega) ?_
        refine wl_s (pc' := 119) (lv' := [some (.ref 138), some (wp_i w), some (wp_i n), some (wp_i z), some (wp_i P), some (wp_i ((idS cr w n.toNat (bgR s) c))), some (wp_i ((c : Int)))]) ji_277_117 rfl rfl rfl ?_
        refine wl_iinc (x := (c : Int)) (z := (c : Int) + 1) (lv' := [some (.ref 138), some (wp_i w), some (wp_i n), some (wp_i z), some (wp_i P), some (wp_i ((idS cr w n.toNat (bgR s) c))), some (wp_i ((c : Int) + 1))]) ji_277_119 rfl (Nat.le_of_ble_eq_true rfl) (by omega) rfl ?_
        refine wl_goto (t := 91) ji_277_122 rfl ?_
        have eS : idS cr w n.toNat (bgR s) (c + 1) = idS cr w n.toNat (bgR s) c + q := by { show idS cr w n.toNat (bgR s) c + idR cr w n.toNat (c : Int) (bgR s) 0 = _; rw [eq9] }
        rw [show (c : Int) + 1 = ((c + 1 : Nat) : Int) by omega, show idS cr w n.toNat (bgR s) c = idS cr w n.toNat (bgR s) (c + 1) by rw [eS]; omega]
        exact ih (c + 1) _ t2 C (by omega) ft3
      · refine wl_s (pc' := 112) ji_277_111 rfl rfl rfl ?_
        refine wl_goto (t := 116) ji_277_112 rfl ?_
        refine wl_iadd (x := (idS cr w n.toNat (bgR s) c)) (y := 1) (z := (idS cr w n.toNat (bgR s) c) + 1) ji_277_116 (by omega) ?_
        refine wl_s (pc' := 119) (lv' := [some (.ref 138), some (wp_i w), some (wp_i n), some (wp_i z), some (wp_i P), some (wp_i ((idS cr w n.toNat (bgR s) c) + 1)), some (wp_i ((c : Int)))]) ji_277_117 rfl rfl rfl ?_
        refine wl_iinc (x := (c : Int)) (z := (c : Int) + 1) (lv' := [some (.ref 138), some (wp_i w), some (wp_i n), some (wp_i z), some (wp_i P), some (wp_i ((idS cr w n.toNat (bgR s) c) + 1)), some (wp_i ((c : Int) + 1))]) ji_277_119 rfl (Nat.le_of_ble_eq_true rfl) (by omega) rfl ?_
        refine wl_goto (t := 91) ji_277_122 rfl ?_
        have eS : idS cr w n.toNat (bgR s) (c + 1) = idS cr w n.toNat (bgR s) c + q := by { show idS cr w n.toNat (bgR s) c + idR cr w n.toNat (c : Int) (bgR s) 0 = _; rw [eq9] }
        rw [show (c : Int) + 1 = ((c + 1 : Nat) : Int) by omega, show idS cr w n.toNat (bgR s) c + 1 = idS cr w n.toNat (bgR s) (c + 1) by rw [eS]; omega]
        exact ih (c + 1) _ t2 C (by omega) ft3
theorem uc_277 {nn d : Nat} {h : mj_H} {s : sg_} (C : CS h s) {cr : crs} {M : Int} (hM : M ≤ 2000000000) (T : RT s cr M) {w n z : Int} (hw : wp_r w) (hn : wp_r n) (hz : z = 0 ∨ z = 1) : wl_R nn (d + 9) 277 0 [some (.ref 138), some (wp_i w), some (wp_i n), some (wp_i z), none, none, none] [] h (fun v1 h1 => (¬ ((0 ≤ w ∧ w < s 139 1) ∧ 0 ≤ n ∧ n ≤ 3) ∧ v1 = some (wl_L (-1)) ∧ CS h1 s) ∨ (((0 ≤ w ∧ w < s 139 1) ∧ 0 ≤ n ∧ n ≤ 3) ∧ v1 = some (wl_L (if s 139 9 = 0 then (if s 139 10 = w ∨ z = 1 then 1 else 0) else ltR (idS cr w n.toNat (bgR s) (p10 n).toNat).toNat (p10 n).toNat z)) ∧ ∃ t, CS h1 t ∧ ∀ (b : Nat) (j : Int), ¬ (b = 147 ∧ 8 ≤ j ∧ j < 148) → ¬ (b = 138 ∧ j = 25) → t b j = s b j)) := by
  have w0 := T.rs.g.w0
  refine wl_s (pc' := 1) ji_277_0 rfl rfl rfl ?_
  refine wl_s (pc' := 2) ji_277_1 rfl rfl rfl ?_
  obtain ⟨q2, hq2⟩ := cs_c C (by decide) sq_138
  refine wl_vc (d := d + 8) (as := [.ref 138, wp_i w]) (rest := []) ji_277_2 jc_277_345 rfl hq2 jk_247.symm (Nat.le_of_ble_eq_true rfl) rfl (by rw [jn_247]; rfl) (uc_247 (d := d + 7) C T.rs.g.w0 (w := w) (by omega)) (fun v1 h1 R => ?_)
  obtain ⟨ee, y3, rfl, hy3a, hy3b⟩ := R
  rw [ee]
  clear ee
  show wl_R _ _ 277 5 [some (.ref 138), some (wp_i w), some (wp_i n), some (wp_i z), none, none, none] [wp_i y3] _ _
  refine wl_if (t := 17) ji_277_5 rfl (by omega) (fun (hb4 : (y3 : Int) = 0) => ?_) (fun (hb4 : ¬ ((y3 : Int) = 0)) => ?_)
  · refine wl_lk (n := -1) ji_277_17 jcn_277_413 (by decide) ?_
    exact wl_rlg ji_277_20 jr_277 (Or.inl ⟨by omega, rfl, C⟩)
  · refine wl_s (pc' := 9) ji_277_8 rfl rfl rfl ?_
    refine wl_s (pc' := 10) ji_277_9 rfl rfl rfl ?_
    refine wl_s (pc' := 11) ji_277_10 rfl rfl rfl ?_
    refine wl_sc (d := d + 8) (as := [wp_i n, wp_i 0, wp_i 3]) (rest := []) ji_277_11 jc_277_66 (Nat.le_of_ble_eq_true rfl) rfl (Nat.le_of_ble_eq_true rfl) rfl (by rw [jn_171]; rfl) (uc_171 (d := d + 8) (x := n) (a := 0) (b := 3) (by omega) (by omega) (by omega)) (fun v1 h5 R => ?_)
    obtain ⟨ee, y6, rfl, hy6a, hy6b⟩ := R
    rw [ee]
    clear ee
    show wl_R _ _ 277 14 [some (.ref 138), some (wp_i w), some (wp_i n), some (wp_i z), none, none, none] [wp_i y6] _ _
    refine wl_if (t := 21) ji_277_14 rfl (by omega) (fun (hb7 : ¬ (y6 : Int) = 0) => ?_) (fun (hb7 : ¬ (¬ (y6 : Int) = 0)) => ?_)
    · refine wl_s (pc' := 22) ji_277_21 rfl rfl rfl ?_
      refine cs_gr (r := 139) (k := 0) C (by decide) sq_138 rfl ji_277_22 jf_277_7 ?_
      refine wl_bp ji_277_25 rfl ?_
      refine cs_l (x := 9) C (by decide) (by decide) sq_139 (by omega) ji_277_27 (fun ld80 ld81 ld82 => ?_)
      refine wl_if (t := 52) ji_277_28 rfl (by omega) (fun (hb9 : ¬ (s 139 9 : Int) = 0) => ?_) (fun (hb9 : ¬ (¬ (s 139 9 : Int) = 0)) => ?_)
      · refine wl_s (pc' := 53) ji_277_52 rfl rfl rfl ?_
        refine wl_if (t := 60) ji_277_53 rfl (by omega) (fun (hb10 : ¬ (n : Int) = 0) => ?_) (fun (hb10 : ¬ (¬ (n : Int) = 0)) => ?_)
        · refine wl_s (pc' := 61) ji_277_60 rfl rfl rfl ?_
          refine wl_s (pc' := 62) ji_277_61 rfl rfl rfl ?_
          refine wl_icmp (t := 70) ji_277_62 rfl (by omega) (by omega) (fun (hb11 : ¬ (n : Int) = 1) => ?_) (fun (hb11 : ¬ (¬ (n : Int) = 1)) => ?_)
          · refine wl_s (pc' := 71) ji_277_70 rfl rfl rfl ?_
            refine wl_s (pc' := 72) ji_277_71 rfl rfl rfl ?_
            refine wl_icmp (t := 80) ji_277_72 rfl (by omega) (by omega) (fun (hb12 : ¬ (n : Int) = 2) => ?_) (fun (hb12 : ¬ (¬ (n : Int) = 2)) => ?_)
            · refine wl_sp ji_277_80 rfl ?_
              refine wl_s (pc' := 85) (lv' := [some (.ref 138), some (wp_i w), some (wp_i n), some (wp_i z), some (wp_i 1000), none, none]) ji_277_83 rfl rfl rfl ?_
              refine wl_s (pc' := 86) ji_277_85 rfl rfl rfl ?_
              refine wl_s (pc' := 88) (lv' := [some (.ref 138), some (wp_i w), some (wp_i n), some (wp_i z), some (wp_i 1000), some (wp_i 0), none]) ji_277_86 rfl rfl rfl ?_
              refine wl_s (pc' := 89) ji_277_88 rfl rfl rfl ?_
              refine wl_s (pc' := 91) (lv' := [some (.ref 138), some (wp_i w), some (wp_i n), some (wp_i z), some (wp_i 1000), some (wp_i 0), some (wp_i 0)]) ji_277_89 rfl rfl rfl ?_
              have hp : p10 n = 1000 := by { rw [show n = 3 by omega]; rfl }
              rw [if_neg (show ¬ s 139 9 = 0 by omega), hp, show (0 : Int) = ((0 : Nat) : Int) from rfl]
              refine wl_mono (uc_277l hM T hw (n := n) (by omega) hz (P := 1000) (by decide) nn 0 _ s C (by decide) (fun _ _ _ _ => rfl)) (fun v1 h1 R => Or.inr ⟨by omega, R⟩)
            · refine wl_bp ji_277_75 rfl ?_
              refine wl_goto (t := 83) ji_277_77 rfl ?_
              refine wl_s (pc' := 85) (lv' := [some (.ref 138), some (wp_i w), some (wp_i n), some (wp_i z), some (wp_i 100), none, none]) ji_277_83 rfl rfl rfl ?_
              refine wl_s (pc' := 86) ji_277_85 rfl rfl rfl ?_
              refine wl_s (pc' := 88) (lv' := [some (.ref 138), some (wp_i w), some (wp_i n), some (wp_i z), some (wp_i 100), some (wp_i 0), none]) ji_277_86 rfl rfl rfl ?_
              refine wl_s (pc' := 89) ji_277_88 rfl rfl rfl ?_
              refine wl_s (pc' := 91) (lv' := [some (.ref 138), some (wp_i w), some (wp_i n), some (wp_i z), some (wp_i 100), some (wp_i 0), some (wp_i 0)]) ji_277_89 rfl rfl rfl ?_
              have hp : p10 n = 100 := by { rw [show n = 2 by omega]; rfl }
              rw [if_neg (show ¬ s 139 9 = 0 by omega), hp, show (0 : Int) = ((0 : Nat) : Int) from rfl]
              refine wl_mono (uc_277l hM T hw (n := n) (by omega) hz (P := 100) (by decide) nn 0 _ s C (by decide) (fun _ _ _ _ => rfl)) (fun v1 h1 R => Or.inr ⟨by omega, R⟩)
          · refine wl_bp ji_277_65 rfl ?_
            refine wl_goto (t := 83) ji_277_67 rfl ?_
            refine wl_s (pc' := 85) (lv' := [some (.ref 138), some (wp_i w), some (wp_i n), some (wp_i z), some (wp_i 10), none, none]) ji_277_83 rfl rfl rfl ?_
            refine wl_s (pc' := 86) ji_277_85 rfl rfl rfl ?_
            refine wl_s (pc' := 88) (lv' := [some (.ref 138), some (wp_i w), some (wp_i n), some (wp_i z), some (wp_i 10), some (wp_i 0), none]) ji_277_86 rfl rfl rfl ?_
            refine wl_s (pc' := 89) ji_277_88 rfl rfl rfl ?_
            refine wl_s (pc' := 91) (lv' := [some (.ref 138), some (wp_i w), some (wp_i n), some (wp_i z), some (wp_i 10), some (wp_i 0), some (wp_i 0)]) ji_277_89 rfl rfl rfl ?_
            have hp : p10 n = 10 := by { rw [show n = 1 by omega]; rfl }
            rw [if_neg (show ¬ s 139 9 = 0 by omega), hp, show (0 : Int) = ((0 : Nat) : Int) from rfl]
            refine wl_mono (uc_277l hM T hw (n := n) (by omega) hz (P := 10) (by decide) nn 0 _ s C (by decide) (fun _ _ _ _ => rfl)) (fun v1 h1 R => Or.inr ⟨by omega, R⟩)
        · refine wl_s (pc' := 57) ji_277_56 rfl rfl rfl ?_
          refine wl_goto (t := 83) ji_277_57 rfl ?_
          refine wl_s (pc' := 85) (lv' := [some (.ref 138), some (wp_i w), some (wp_i n), some (wp_i z), some (wp_i 1), none, none]) ji_277_83 rfl rfl rfl ?_
          refine wl_s (pc' := 86) ji_277_85 rfl rfl rfl ?_
          refine wl_s (pc' := 88) (lv' := [some (.ref 138), some (wp_i w), some (wp_i n), some (wp_i z), some (wp_i 1), some (wp_i 0), none]) ji_277_86 rfl rfl rfl ?_
          refine wl_s (pc' := 89) ji_277_88 rfl rfl rfl ?_
          refine wl_s (pc' := 91) (lv' := [some (.ref 138), some (wp_i w), some (wp_i n), some (wp_i z), some (wp_i 1), some (wp_i 0), some (wp_i 0)]) ji_277_89 rfl rfl rfl ?_
          have hp : p10 n = 1 := by { rw [show n = 0 by omega]; rfl }
          rw [if_neg (show ¬ s 139 9 = 0 by omega), hp, show (0 : Int) = ((0 : Nat) : Int) from rfl]
          refine wl_mono (uc_277l hM T hw (n := n) (by omega) hz (P := 1) (by decide) nn 0 _ s C (by decide) (fun _ _ _ _ => rfl)) (fun v1 h1 R => Or.inr ⟨by omega, R⟩)
      · refine wl_s (pc' := 32) ji_277_31 rfl rfl rfl ?_
        refine cs_gr (r := 139) (k := 0) C (by decide) sq_138 rfl ji_277_32 jf_277_7 ?_
        refine wl_bp ji_277_35 rfl ?_
        refine cs_l (x := 10) C (by decide) (by decide) sq_139 (by omega) ji_277_37 (fun ld130 ld131 ld132 => ?_)
        refine wl_s (pc' := 39) ji_277_38 rfl rfl rfl ?_
        refine wl_icmp (t := 46) ji_277_39 rfl (by omega) (by omega) (fun (hb14 : (s 139 10 : Int) = w) => ?_) (fun (hb14 : ¬ ((s 139 10 : Int) = w)) => ?_)
        · refine wl_s (pc' := 47) (st' := [wl_L 1]) ji_277_46 rfl rfl rfl ?_
          refine wl_goto (t := 51) ji_277_47 rfl ?_
          exact wl_rlg ji_277_51 jr_277 (Or.inr ⟨by omega, by rw [if_pos (show s 139 9 = 0 by omega), if_pos (by omega)], s, C, fun _ _ _ _ => rfl⟩)
        · refine wl_s (pc' := 43) ji_277_42 rfl rfl rfl ?_
          refine wl_if (t := 50) ji_277_43 rfl (by omega) (fun (hb15 : (z : Int) = 0) => ?_) (fun (hb15 : ¬ ((z : Int) = 0)) => ?_)
          · refine wl_s (pc' := 51) (st' := [wl_L 0]) ji_277_50 rfl rfl rfl ?_
            exact wl_rlg ji_277_51 jr_277 (Or.inr ⟨by omega, by rw [if_pos (show s 139 9 = 0 by omega), if_neg (by omega)], s, C, fun _ _ _ _ => rfl⟩)
          · refine wl_s (pc' := 47) (st' := [wl_L 1]) ji_277_46 rfl rfl rfl ?_
            refine wl_goto (t := 51) ji_277_47 rfl ?_
            exact wl_rlg ji_277_51 jr_277 (Or.inr ⟨by omega, by rw [if_pos (show s 139 9 = 0 by omega), if_pos (by omega)], s, C, fun _ _ _ _ => rfl⟩)
    · refine wl_lk (n := -1) ji_277_17 jcn_277_413 (by decide) ?_
      exact wl_rlg ji_277_20 jr_277 (Or.inl ⟨by omega, rfl, C⟩)
