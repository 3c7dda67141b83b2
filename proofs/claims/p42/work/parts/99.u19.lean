/-! -/
/-! -/
set_option maxRecDepth 100000 in
theorem ji_96_107 : mj_ins 96 107 = some (.iload 5) := by decide +kernel
set_option maxRecDepth 100000 in
theorem ji_96_109 : mj_ins 96 109 = some (.aload_n 1) := by decide +kernel
set_option maxRecDepth 100000 in
theorem ji_96_110 : mj_ins 96 110 = some (.getfield 30) := by decide +kernel
set_option maxRecDepth 100000 in
theorem jf_96_30 : mj_fld 96 30 = some (3, 0, .int, true) := by decide +kernel
set_option maxRecDepth 100000 in
theorem ji_96_113 : mj_ins 96 113 = some (.if_icmp .ge 45) := by decide +kernel
set_option maxRecDepth 100000 in
theorem ji_96_158 : mj_ins 96 158 = some (.aload_n 0) := by decide +kernel
set_option maxRecDepth 100000 in
theorem ji_96_159 : mj_ins 96 159 = some (.getfield 13) := by decide +kernel
set_option maxRecDepth 100000 in
theorem jf_96_13 : mj_fld 96 13 = some (5, 0, (.array .int), false) := by decide +kernel
set_option maxRecDepth 100000 in
theorem ji_96_162 : mj_ins 96 162 = some (.iload_n 3) := by decide +kernel
set_option maxRecDepth 100000 in
theorem ji_96_163 : mj_ins 96 163 = some (.bipush 14) := by decide +kernel
set_option maxRecDepth 100000 in
theorem ji_96_165 : mj_ins 96 165 = some (.iadd) := by decide +kernel
set_option maxRecDepth 100000 in
theorem ji_96_166 : mj_ins 96 166 = some (.aload_n 1) := by decide +kernel
set_option maxRecDepth 100000 in
theorem ji_96_167 : mj_ins 96 167 = some (.getfield 51) := by decide +kernel
set_option maxRecDepth 100000 in
theorem jf_96_51 : mj_fld 96 51 = some (3, 7, (.array .int), false) := by decide +kernel
set_option maxRecDepth 100000 in
theorem ji_96_170 : mj_ins 96 170 = some (.iconst 0) := by decide +kernel
set_option maxRecDepth 100000 in
theorem ji_96_171 : mj_ins 96 171 = some (.bipush 48) := by decide +kernel
set_option maxRecDepth 100000 in
theorem ji_96_173 : mj_ins 96 173 = some (.invokestatic 24) := by decide +kernel
set_option maxRecDepth 100000 in
theorem jc_96_24 : mj_cal 96 24 = some (20, 0, 0) := by decide +kernel
set_option maxRecDepth 100000 in
theorem ji_96_176 : mj_ins 96 176 = some (.aload_n 0) := by decide +kernel
set_option maxRecDepth 100000 in
theorem ji_96_177 : mj_ins 96 177 = some (.getfield 13) := by decide +kernel
set_option maxRecDepth 100000 in
theorem ji_96_180 : mj_ins 96 180 = some (.iload_n 3) := by decide +kernel
set_option maxRecDepth 100000 in
theorem ji_96_181 : mj_ins 96 181 = some (.bipush 62) := by decide +kernel
set_option maxRecDepth 100000 in
theorem ji_96_183 : mj_ins 96 183 = some (.iadd) := by decide +kernel
set_option maxRecDepth 100000 in
theorem ji_96_184 : mj_ins 96 184 = some (.aload_n 1) := by decide +kernel
set_option maxRecDepth 100000 in
theorem ji_96_185 : mj_ins 96 185 = some (.getfield 54) := by decide +kernel
set_option maxRecDepth 100000 in
theorem jf_96_54 : mj_fld 96 54 = some (3, 8, (.array .int), false) := by decide +kernel
set_option maxRecDepth 100000 in
theorem ji_96_188 : mj_ins 96 188 = some (.iconst 0) := by decide +kernel
set_option maxRecDepth 100000 in
theorem ji_96_189 : mj_ins 96 189 = some (.bipush 48) := by decide +kernel
set_option maxRecDepth 100000 in
theorem ji_96_191 : mj_ins 96 191 = some (.invokestatic 24) := by decide +kernel
set_option maxRecDepth 100000 in
theorem ji_96_194 : mj_ins 96 194 = some (.aload_n 0) := by decide +kernel
set_option maxRecDepth 100000 in
theorem ji_96_195 : mj_ins 96 195 = some (.getfield 13) := by decide +kernel
set_option maxRecDepth 100000 in
theorem ji_96_198 : mj_ins 96 198 = some (.iload_n 3) := by decide +kernel
set_option maxRecDepth 100000 in
theorem ji_96_199 : mj_ins 96 199 = some (.bipush 110) := by decide +kernel
set_option maxRecDepth 100000 in
theorem ji_96_201 : mj_ins 96 201 = some (.iadd) := by decide +kernel
set_option maxRecDepth 100000 in
theorem ji_96_202 : mj_ins 96 202 = some (.aload_n 2) := by decide +kernel
set_option maxRecDepth 100000 in
theorem ji_96_203 : mj_ins 96 203 = some (.getfield 57) := by decide +kernel
set_option maxRecDepth 100000 in
theorem jf_96_57 : mj_fld 96 57 = some (4, 0, (.array .int), false) := by decide +kernel
set_option maxRecDepth 100000 in
theorem ji_96_206 : mj_ins 96 206 = some (.iconst 0) := by decide +kernel
set_option maxRecDepth 100000 in
theorem ji_96_207 : mj_ins 96 207 = some (.bipush 40) := by decide +kernel
set_option maxRecDepth 100000 in
theorem ji_96_209 : mj_ins 96 209 = some (.invokestatic 24) := by decide +kernel
set_option maxRecDepth 100000 in
theorem ji_96_212 : mj_ins 96 212 = some (.aload_n 0) := by decide +kernel
set_option maxRecDepth 100000 in
theorem ji_96_213 : mj_ins 96 213 = some (.getfield 13) := by decide +kernel
set_option maxRecDepth 100000 in
theorem ji_96_216 : mj_ins 96 216 = some (.iload_n 3) := by decide +kernel
set_option maxRecDepth 100000 in
theorem ji_96_217 : mj_ins 96 217 = some (.sipush 150) := by decide +kernel
set_option maxRecDepth 100000 in
theorem ji_96_220 : mj_ins 96 220 = some (.iadd) := by decide +kernel
set_option maxRecDepth 100000 in
theorem ji_96_221 : mj_ins 96 221 = some (.aload_n 2) := by decide +kernel
set_option maxRecDepth 100000 in
theorem ji_96_222 : mj_ins 96 222 = some (.getfield 60) := by decide +kernel
set_option maxRecDepth 100000 in
theorem jf_96_60 : mj_fld 96 60 = some (4, 1, (.array .int), false) := by decide +kernel
set_option maxRecDepth 100000 in
theorem ji_96_225 : mj_ins 96 225 = some (.iconst 0) := by decide +kernel
set_option maxRecDepth 100000 in
theorem ji_96_226 : mj_ins 96 226 = some (.bipush 40) := by decide +kernel
set_option maxRecDepth 100000 in
theorem ji_96_228 : mj_ins 96 228 = some (.invokestatic 24) := by decide +kernel
set_option maxRecDepth 100000 in
theorem ji_96_231 : mj_ins 96 231 = some (.iconst 1) := by decide +kernel
set_option maxRecDepth 100000 in
theorem ji_96_232 : mj_ins 96 232 = some (.ireturn) := by decide +kernel
set_option maxRecDepth 100000 in
theorem jr_96 : mj_ret 96 = some .boolean := by decide +kernel
set_option maxRecDepth 100000 in
theorem ji_96_116 : mj_ins 96 116 = some (.aload_n 1) := by decide +kernel
set_option maxRecDepth 100000 in
theorem ji_96_117 : mj_ins 96 117 = some (.getfield 48) := by decide +kernel
set_option maxRecDepth 100000 in
theorem jf_96_48 : mj_fld 96 48 = some (3, 3, (.array .int), false) := by decide +kernel
set_option maxRecDepth 100000 in
theorem ji_96_120 : mj_ins 96 120 = some (.iload 5) := by decide +kernel
set_option maxRecDepth 100000 in
theorem ji_96_122 : mj_ins 96 122 = some (.iload 5) := by decide +kernel
set_option maxRecDepth 100000 in
theorem ji_96_124 : mj_ins 96 124 = some (.iload 4) := by decide +kernel
set_option maxRecDepth 100000 in
theorem ji_96_126 : mj_ins 96 126 = some (.if_icmp .ge 18) := by decide +kernel
set_option maxRecDepth 100000 in
theorem ji_96_144 : mj_ins 96 144 = some (.aload_n 1) := by decide +kernel
set_option maxRecDepth 100000 in
theorem ji_96_145 : mj_ins 96 145 = some (.getfield 63) := by decide +kernel
set_option maxRecDepth 100000 in
theorem jf_96_63 : mj_fld 96 63 = some (3, 2, (.array .int), false) := by decide +kernel
set_option maxRecDepth 100000 in
theorem ji_96_148 : mj_ins 96 148 = some (.iload 5) := by decide +kernel
set_option maxRecDepth 100000 in
theorem ji_96_150 : mj_ins 96 150 = some (.iaload) := by decide +kernel
set_option maxRecDepth 100000 in
theorem sq_49 : sh_T[49]? = some (1000, [], 8, 0) := by decide +kernel
set_option maxRecDepth 100000 in
theorem ji_96_151 : mj_ins 96 151 = some (.iastore) := by decide +kernel
set_option maxRecDepth 100000 in
theorem ji_96_152 : mj_ins 96 152 = some (.iinc 5 1) := by decide +kernel
set_option maxRecDepth 100000 in
theorem ji_96_155 : mj_ins 96 155 = some (.goto (-48)) := by decide +kernel
set_option maxRecDepth 100000 in
theorem ji_96_129 : mj_ins 96 129 = some (.aload_n 0) := by decide +kernel
set_option maxRecDepth 100000 in
theorem ji_96_130 : mj_ins 96 130 = some (.getfield 13) := by decide +kernel
set_option maxRecDepth 100000 in
theorem ji_96_133 : mj_ins 96 133 = some (.iload_n 3) := by decide +kernel
set_option maxRecDepth 100000 in
theorem ji_96_134 : mj_ins 96 134 = some (.bipush 6) := by decide +kernel
set_option maxRecDepth 100000 in
theorem ji_96_136 : mj_ins 96 136 = some (.iadd) := by decide +kernel
set_option maxRecDepth 100000 in
theorem ji_96_137 : mj_ins 96 137 = some (.iload 5) := by decide +kernel
set_option maxRecDepth 100000 in
theorem ji_96_139 : mj_ins 96 139 = some (.iadd) := by decide +kernel
set_option maxRecDepth 100000 in
theorem ji_96_140 : mj_ins 96 140 = some (.iaload) := by decide +kernel
set_option maxRecDepth 100000 in
theorem ji_96_141 : mj_ins 96 141 = some (.goto 10) := by decide +kernel
set_option maxRecDepth 100000 in
theorem ji_96_0 : mj_ins 96 0 = some (.aload_n 0) := by decide +kernel
set_option maxRecDepth 100000 in
theorem ji_96_1 : mj_ins 96 1 = some (.getfield 21) := by decide +kernel
set_option maxRecDepth 100000 in
theorem jf_96_21 : mj_fld 96 21 = some (5, 2, .int, true) := by decide +kernel
set_option maxRecDepth 100000 in
theorem ji_96_4 : mj_ins 96 4 = some (.ifCond .ne 5) := by decide +kernel
set_option maxRecDepth 100000 in
theorem ji_96_9 : mj_ins 96 9 = some (.aload_n 0) := by decide +kernel
set_option maxRecDepth 100000 in
theorem ji_96_10 : mj_ins 96 10 = some (.dup) := by decide +kernel
set_option maxRecDepth 100000 in
theorem ji_96_11 : mj_ins 96 11 = some (.getfield 21) := by decide +kernel
set_option maxRecDepth 100000 in
theorem ji_96_14 : mj_ins 96 14 = some (.iconst 1) := by decide +kernel
set_option maxRecDepth 100000 in
theorem ji_96_15 : mj_ins 96 15 = some (.isub) := by decide +kernel
set_option maxRecDepth 100000 in
theorem ji_96_16 : mj_ins 96 16 = some (.putfield 21) := by decide +kernel
set_option maxRecDepth 100000 in
theorem ji_96_19 : mj_ins 96 19 = some (.aload_n 0) := by decide +kernel
set_option maxRecDepth 100000 in
theorem ji_96_20 : mj_ins 96 20 = some (.getfield 17) := by decide +kernel
set_option maxRecDepth 100000 in
theorem jf_96_17 : mj_fld 96 17 = some (5, 1, .int, true) := by decide +kernel
set_option maxRecDepth 100000 in
theorem ji_96_23 : mj_ins 96 23 = some (.aload_n 0) := by decide +kernel
set_option maxRecDepth 100000 in
theorem ji_96_24 : mj_ins 96 24 = some (.getfield 21) := by decide +kernel
set_option maxRecDepth 100000 in
theorem ji_96_27 : mj_ins 96 27 = some (.iadd) := by decide +kernel
set_option maxRecDepth 100000 in
theorem ji_96_28 : mj_ins 96 28 = some (.bipush 30) := by decide +kernel
set_option maxRecDepth 100000 in
theorem ji_96_30 : mj_ins 96 30 = some (.irem) := by decide +kernel
set_option maxRecDepth 100000 in
theorem ji_96_31 : mj_ins 96 31 = some (.sipush 190) := by decide +kernel
set_option maxRecDepth 100000 in
theorem ji_96_34 : mj_ins 96 34 = some (.imul) := by decide +kernel
set_option maxRecDepth 100000 in
theorem ji_96_35 : mj_ins 96 35 = some (.istore_n 3) := by decide +kernel
set_option maxRecDepth 100000 in
theorem ji_96_36 : mj_ins 96 36 = some (.aload_n 0) := by decide +kernel
set_option maxRecDepth 100000 in
theorem ji_96_37 : mj_ins 96 37 = some (.getfield 13) := by decide +kernel
set_option maxRecDepth 100000 in
theorem ji_96_40 : mj_ins 96 40 = some (.iload_n 3) := by decide +kernel
set_option maxRecDepth 100000 in
theorem ji_96_41 : mj_ins 96 41 = some (.iaload) := by decide +kernel
set_option maxRecDepth 100000 in
theorem ji_96_42 : mj_ins 96 42 = some (.istore 4) := by decide +kernel
set_option maxRecDepth 100000 in
theorem ji_96_44 : mj_ins 96 44 = some (.aload_n 1) := by decide +kernel
set_option maxRecDepth 100000 in
theorem ji_96_45 : mj_ins 96 45 = some (.aload_n 0) := by decide +kernel
set_option maxRecDepth 100000 in
theorem ji_96_46 : mj_ins 96 46 = some (.getfield 13) := by decide +kernel
set_option maxRecDepth 100000 in
theorem ji_96_49 : mj_ins 96 49 = some (.iload_n 3) := by decide +kernel
set_option maxRecDepth 100000 in
theorem ji_96_50 : mj_ins 96 50 = some (.iconst 1) := by decide +kernel
set_option maxRecDepth 100000 in
theorem ji_96_51 : mj_ins 96 51 = some (.iadd) := by decide +kernel
set_option maxRecDepth 100000 in
theorem ji_96_52 : mj_ins 96 52 = some (.iaload) := by decide +kernel
set_option maxRecDepth 100000 in
theorem ji_96_53 : mj_ins 96 53 = some (.putfield 35) := by decide +kernel
set_option maxRecDepth 100000 in
theorem jf_96_35 : mj_fld 96 35 = some (3, 9, .int, true) := by decide +kernel
set_option maxRecDepth 100000 in
theorem ji_96_56 : mj_ins 96 56 = some (.aload_n 1) := by decide +kernel
set_option maxRecDepth 100000 in
theorem ji_96_57 : mj_ins 96 57 = some (.aload_n 0) := by decide +kernel
set_option maxRecDepth 100000 in
theorem ji_96_58 : mj_ins 96 58 = some (.getfield 13) := by decide +kernel
set_option maxRecDepth 100000 in
theorem ji_96_61 : mj_ins 96 61 = some (.iload_n 3) := by decide +kernel
set_option maxRecDepth 100000 in
theorem ji_96_62 : mj_ins 96 62 = some (.iconst 2) := by decide +kernel
set_option maxRecDepth 100000 in
theorem ji_96_63 : mj_ins 96 63 = some (.iadd) := by decide +kernel
set_option maxRecDepth 100000 in
theorem ji_96_64 : mj_ins 96 64 = some (.iaload) := by decide +kernel
set_option maxRecDepth 100000 in
theorem ji_96_65 : mj_ins 96 65 = some (.putfield 38) := by decide +kernel
set_option maxRecDepth 100000 in
theorem jf_96_38 : mj_fld 96 38 = some (3, 10, .int, true) := by decide +kernel
set_option maxRecDepth 100000 in
theorem ji_96_68 : mj_ins 96 68 = some (.aload_n 1) := by decide +kernel
set_option maxRecDepth 100000 in
theorem ji_96_69 : mj_ins 96 69 = some (.aload_n 0) := by decide +kernel
set_option maxRecDepth 100000 in
theorem ji_96_70 : mj_ins 96 70 = some (.getfield 13) := by decide +kernel
set_option maxRecDepth 100000 in
theorem ji_96_73 : mj_ins 96 73 = some (.iload_n 3) := by decide +kernel
set_option maxRecDepth 100000 in
theorem ji_96_74 : mj_ins 96 74 = some (.iconst 3) := by decide +kernel
set_option maxRecDepth 100000 in
theorem ji_96_75 : mj_ins 96 75 = some (.iadd) := by decide +kernel
set_option maxRecDepth 100000 in
theorem ji_96_76 : mj_ins 96 76 = some (.iaload) := by decide +kernel
set_option maxRecDepth 100000 in
theorem ji_96_77 : mj_ins 96 77 = some (.putfield 41) := by decide +kernel
set_option maxRecDepth 100000 in
theorem jf_96_41 : mj_fld 96 41 = some (3, 11, .int, true) := by decide +kernel
set_option maxRecDepth 100000 in
theorem ji_96_80 : mj_ins 96 80 = some (.aload_n 1) := by decide +kernel
set_option maxRecDepth 100000 in
theorem ji_96_81 : mj_ins 96 81 = some (.aload_n 0) := by decide +kernel
set_option maxRecDepth 100000 in
theorem ji_96_82 : mj_ins 96 82 = some (.getfield 13) := by decide +kernel
set_option maxRecDepth 100000 in
theorem ji_96_85 : mj_ins 96 85 = some (.iload_n 3) := by decide +kernel
set_option maxRecDepth 100000 in
theorem ji_96_86 : mj_ins 96 86 = some (.iconst 4) := by decide +kernel
set_option maxRecDepth 100000 in
theorem ji_96_87 : mj_ins 96 87 = some (.iadd) := by decide +kernel
set_option maxRecDepth 100000 in
theorem ji_96_88 : mj_ins 96 88 = some (.iaload) := by decide +kernel
set_option maxRecDepth 100000 in
theorem ji_96_89 : mj_ins 96 89 = some (.putfield 44) := by decide +kernel
set_option maxRecDepth 100000 in
theorem jf_96_44 : mj_fld 96 44 = some (3, 12, .int, true) := by decide +kernel
set_option maxRecDepth 100000 in
theorem ji_96_92 : mj_ins 96 92 = some (.aload_n 2) := by decide +kernel
set_option maxRecDepth 100000 in
theorem ji_96_93 : mj_ins 96 93 = some (.aload_n 0) := by decide +kernel
set_option maxRecDepth 100000 in
theorem ji_96_94 : mj_ins 96 94 = some (.getfield 13) := by decide +kernel
set_option maxRecDepth 100000 in
theorem ji_96_97 : mj_ins 96 97 = some (.iload_n 3) := by decide +kernel
set_option maxRecDepth 100000 in
theorem ji_96_98 : mj_ins 96 98 = some (.iconst 5) := by decide +kernel
set_option maxRecDepth 100000 in
theorem ji_96_99 : mj_ins 96 99 = some (.iadd) := by decide +kernel
set_option maxRecDepth 100000 in
theorem ji_96_100 : mj_ins 96 100 = some (.iaload) := by decide +kernel
set_option maxRecDepth 100000 in
theorem ji_96_101 : mj_ins 96 101 = some (.putfield 47) := by decide +kernel
set_option maxRecDepth 100000 in
theorem jf_96_47 : mj_fld 96 47 = some (4, 2, .int, true) := by decide +kernel
set_option maxRecDepth 100000 in
theorem ji_96_104 : mj_ins 96 104 = some (.iconst 0) := by decide +kernel
set_option maxRecDepth 100000 in
theorem ji_96_105 : mj_ins 96 105 = some (.istore 5) := by decide +kernel
set_option maxRecDepth 100000 in
theorem ji_96_7 : mj_ins 96 7 = some (.iconst 0) := by decide +kernel
set_option maxRecDepth 100000 in
theorem ji_96_8 : mj_ins 96 8 = some (.ireturn) := by decide +kernel
/-! a step taken back, in the class; laid by program (wp_u19.py) -/
def tb1 (s : sg_) (a : Int) : sg_ := up (up (up (up (up (up s 59 2 (s 59 2 - 1)) 48 9 (s 60 (a + 1))) 48 10 (s 60 (a + 2))) 48 11 (s 60 (a + 3))) 48 12 (s 60 (a + 4))) 56 2 (s 60 (a + 5))
def tlW (s : sg_) (a m : Int) : sg_ := fun b j => if b = 50 ∧ 0 ≤ j ∧ j < m then (if j < s 60 a then s 60 (a + 6 + j) else s 49 j) else s b j
theorem tlW_0 {s : sg_} {a : Int} : tlW s a 0 = s := by
  funext b j
  unfold tlW
  rw [if_neg (by omega)]
theorem tlW_s {s : sg_} {a m : Int} (hm : 0 ≤ m) : up (tlW s a m) 50 m (if m < s 60 a then s 60 (a + 6 + m) else s 49 m) = tlW s a (m + 1) := by
  funext b j
  unfold up tlW
  by_cases h1 : b = 50 ∧ j = m
  · obtain ⟨rfl, rfl⟩ := h1
    rw [if_pos ⟨rfl, rfl⟩]
    exact (if_pos ⟨rfl, by omega, by omega⟩).symm
  · rw [if_neg h1]
    by_cases h2 : b = 50 ∧ 0 ≤ j ∧ j < m
    · rw [if_pos h2]
      exact (if_pos ⟨h2.1, h2.2.1, by omega⟩).symm
    · rw [if_neg h2, if_neg (fun z => h2 ⟨z.1, z.2.1, by by_cases e : j = m; exact absurd ⟨z.1, e⟩ h1; omega⟩)]
theorem tlW_fr {s : sg_} {a m : Int} {b : Nat} {j : Int} (h : ¬ b = 50) : tlW s a m b j = s b j := if_neg (fun z => h z.1)
def tb2 (s : sg_) (a : Int) : sg_ := cpy (cpy (cpy (cpy (tlW s a (s 48 0)) 60 (a + 14) 54 0 48) 60 (a + 62) 55 0 48) 60 (a + 110) 57 0 40) 60 (a + 150) 58 0 40
def tbA (s : sg_) : Int := (s 59 1 + (s 59 2 - 1)) % 30 * 190
def backC (s : sg_) : sg_ := tb2 (tb1 s (tbA s)) (tbA s)
theorem uc_96l {d : Nat} {u : sg_} (h0 : 0 ≤ u 48 0 ∧ u 48 0 ≤ 8) {a : Int} (ha : 0 ≤ a ∧ a ≤ 5510) (hr : wp_r (u 60 a)) : ∀ (nn : Nat) (i : Int) (h : mj_H), (0 ≤ i ∧ i ≤ u 48 0) → CS h (tlW u a i) → wl_R nn d 96 107 [some (.ref 59), some (.ref 48), some (.ref 56), some (wp_i a), some (wp_i (u 60 a)), some (wp_i i)] [] h (fun v1 h1 => v1 = some (wp_i 1) ∧ CS h1 (tb2 u a)) := by
  intro nn
  induction nn with
  | zero => intros; exact wl_0
  | succ nn ih =>
    intro i h hi C
    obtain ⟨t, et⟩ : ∃ t, tlW u a i = t := ⟨_, rfl⟩
    rw [et] at C
    have t0 : t 48 0 = u 48 0 := by rw [← et, tlW_fr (by decide)]
    have t6 : t 60 (a + 6 + i) = u 60 (a + 6 + i) := by rw [← et, tlW_fr (by decide)]
    have t9 : t 49 i = u 49 i := by rw [← et, tlW_fr (by decide)]
    refine wl_s1 (pc' := 109) ji_96_107 rfl rfl rfl ?_
    refine wl_s (pc' := 110) ji_96_109 rfl rfl rfl ?_
    refine cs_gi (k := 0) (kI := 0) C (by decide) (by decide) sq_48 rfl rfl ji_96_110 jf_96_30 ?_
    rw [t0]
    have bd1 : wp_r (u 48 0) := t0 ▸ cs_ri (k := 0) (kI := 0) C (by decide) (by decide) sq_48 rfl rfl (show 0 < 13 by decide)
    refine wl_icmp (t := 158) ji_96_113 rfl (by omega) (by omega) (fun (hb2 : (u 48 0 : Int) ≤ i) => ?_) (fun (hb2 : ¬ ((u 48 0 : Int) ≤ i)) => ?_)
    · refine wl_s (pc' := 159) ji_96_158 rfl rfl rfl ?_
      refine cs_gr (r := 60) (k := 0) C (by decide) sq_59 rfl ji_96_159 jf_96_13 ?_
      refine wl_s (pc' := 163) ji_96_162 rfl rfl rfl ?_
      refine wl_bp ji_96_163 rfl ?_
      refine wl_iadd (x := a) (y := 14) (z := a + 14) ji_96_165 (by omega) ?_
      refine wl_s (pc' := 167) ji_96_166 rfl rfl rfl ?_
      refine cs_gr (r := 54) (k := 7) C (by decide) sq_48 rfl ji_96_167 jf_96_51 ?_
      refine wl_s (pc' := 171) ji_96_170 rfl rfl rfl ?_
      refine wl_bp ji_96_171 rfl ?_
      refine cs_cp (sp := a + 14) (dp := 0) (n := 48) C (by decide) sq_60 sq_54 (by decide) (by decide) (by omega) (by omega) (by omega) ji_96_173 jc_96_24 (fun h cp3 C => ?_)
      obtain ⟨s4, es4⟩ : ∃ z9_, cpy t 60 (a + 14) 54 0 48 = z9_ := ⟨_, rfl⟩
      rw [es4] at C
      refine wl_s (pc' := 177) ji_96_176 rfl rfl rfl ?_
      refine cs_gr (r := 60) (k := 0) C (by decide) sq_59 rfl ji_96_177 jf_96_13 ?_
      refine wl_s (pc' := 181) ji_96_180 rfl rfl rfl ?_
      refine wl_bp ji_96_181 rfl ?_
      refine wl_iadd (x := a) (y := 62) (z := a + 62) ji_96_183 (by omega) ?_
      refine wl_s (pc' := 185) ji_96_184 rfl rfl rfl ?_
      refine cs_gr (r := 55) (k := 8) C (by decide) sq_48 rfl ji_96_185 jf_96_54 ?_
      refine wl_s (pc' := 189) ji_96_188 rfl rfl rfl ?_
      refine wl_bp ji_96_189 rfl ?_
      refine cs_cp (sp := a + 62) (dp := 0) (n := 48) C (by decide) sq_60 sq_55 (by decide) (by decide) (by omega) (by omega) (by omega) ji_96_191 jc_96_24 (fun h cp5 C => ?_)
      obtain ⟨s6, es6⟩ : ∃ z9_, cpy s4 60 (a + 62) 55 0 48 = z9_ := ⟨_, rfl⟩
      rw [es6] at C
      refine wl_s (pc' := 195) ji_96_194 rfl rfl rfl ?_
      refine cs_gr (r := 60) (k := 0) C (by decide) sq_59 rfl ji_96_195 jf_96_13 ?_
      refine wl_s (pc' := 199) ji_96_198 rfl rfl rfl ?_
      refine wl_bp ji_96_199 rfl ?_
      refine wl_iadd (x := a) (y := 110) (z := a + 110) ji_96_201 (by omega) ?_
      refine wl_s (pc' := 203) ji_96_202 rfl rfl rfl ?_
      refine cs_gr (r := 57) (k := 0) C (by decide) sq_56 rfl ji_96_203 jf_96_57 ?_
      refine wl_s (pc' := 207) ji_96_206 rfl rfl rfl ?_
      refine wl_bp ji_96_207 rfl ?_
      refine cs_cp (sp := a + 110) (dp := 0) (n := 40) C (by decide) sq_60 sq_57 (by decide) (by decide) (by omega) (by omega) (by omega) ji_96_209 jc_96_24 (fun h cp7 C => ?_)
      obtain ⟨s8, es8⟩ : ∃ z9_, cpy s6 60 (a + 110) 57 0 40 = z9_ := ⟨_, rfl⟩
      rw [es8] at C
      refine wl_s (pc' := 213) ji_96_212 rfl rfl rfl ?_
      refine cs_gr (r := 60) (k := 0) C (by decide) sq_59 rfl ji_96_213 jf_96_13 ?_
      refine wl_s (pc' := 217) ji_96_216 rfl rfl rfl ?_
      refine wl_sp ji_96_217 rfl ?_
      refine wl_iadd (x := a) (y := 150) (z := a + 150) ji_96_220 (by omega) ?_
      refine wl_s (pc' := 222) ji_96_221 rfl rfl rfl ?_
      refine cs_gr (r := 58) (k := 1) C (by decide) sq_56 rfl ji_96_222 jf_96_60 ?_
      refine wl_s (pc' := 226) ji_96_225 rfl rfl rfl ?_
      refine wl_bp ji_96_226 rfl ?_
      refine cs_cp (sp := a + 150) (dp := 0) (n := 40) C (by decide) sq_60 sq_58 (by decide) (by decide) (by omega) (by omega) (by omega) ji_96_228 jc_96_24 (fun h cp9 C => ?_)
      obtain ⟨s10, es10⟩ : ∃ z9_, cpy s8 60 (a + 150) 58 0 40 = z9_ := ⟨_, rfl⟩
      rw [es10] at C
      refine wl_s (pc' := 232) ji_96_231 rfl rfl rfl ?_
      exact wl_ri ji_96_232 jr_96 (pv_nb (by omega)) (⟨rfl, cs_mono C (by unfold tb2; rw [show u 48 0 = i by omega, et, es4, es6, es8, es10])⟩)
    · refine wl_s (pc' := 117) ji_96_116 rfl rfl rfl ?_
      refine cs_gr (r := 50) (k := 3) C (by decide) sq_48 rfl ji_96_117 jf_96_48 ?_
      refine wl_s (pc' := 122) ji_96_120 rfl rfl rfl ?_
      refine wl_s (pc' := 124) ji_96_122 rfl rfl rfl ?_
      refine wl_s (pc' := 126) ji_96_124 rfl rfl rfl ?_
      refine wl_icmp (t := 144) ji_96_126 rfl (by omega) (by omega) (fun (hb11 : (u 60 a : Int) ≤ i) => ?_) (fun (hb11 : ¬ ((u 60 a : Int) ≤ i)) => ?_)
      · refine wl_s (pc' := 145) ji_96_144 rfl rfl rfl ?_
        refine cs_gr (r := 49) (k := 2) C (by decide) sq_48 rfl ji_96_145 jf_96_63 ?_
        refine wl_s (pc' := 150) ji_96_148 rfl rfl rfl ?_
        refine cs_l (x := i) C (by decide) (by decide) sq_49 (by omega) ji_96_150 (fun ld120 ld121 ld122 => ?_)
        rw [t9] at ld122 ⊢
        refine cs_s (x := i) (y := u 49 i) C (by decide) sq_50 (by omega) (by omega) ji_96_151 (fun h st130 st131 C => ?_)
        obtain ⟨s14, es14⟩ : ∃ z9_, up t 50 i (u 49 i) = z9_ := ⟨_, rfl⟩
        rw [es14] at C
        refine wl_iinc (x := i) (z := i + 1) (lv' := [some (.ref 59), some (.ref 48), some (.ref 56), some (wp_i a), some (wp_i (u 60 a)), some (wp_i (i + 1))]) ji_96_152 rfl (Nat.le_of_ble_eq_true rfl) (by omega) rfl ?_
        refine wl_goto (t := 107) ji_96_155 rfl ?_
        have C := cs_mono C (show s14 = tlW u a (i + 1) by rw [← es14, ← et, ← tlW_s (by omega), if_neg (by omega)])
        exact ih (i + 1) _ (by omega) C
      · refine wl_s (pc' := 130) ji_96_129 rfl rfl rfl ?_
        refine cs_gr (r := 60) (k := 0) C (by decide) sq_59 rfl ji_96_130 jf_96_13 ?_
        refine wl_s (pc' := 134) ji_96_133 rfl rfl rfl ?_
        refine wl_bp ji_96_134 rfl ?_
        refine wl_iadd (x := a) (y := 6) (z := a + 6) ji_96_136 (by omega) ?_
        refine wl_s (pc' := 139) ji_96_137 rfl rfl rfl ?_
        refine wl_iadd (x := a + 6) (y := i) (z := a + 6 + i) ji_96_139 (by omega) ?_
        refine cs_l (x := a + 6 + i) C (by decide) (by decide) sq_60 (by omega) ji_96_140 (fun ld150 ld151 ld152 => ?_)
        rw [t6] at ld152 ⊢
        refine wl_goto (t := 151) ji_96_141 rfl ?_
        refine cs_s (x := i) (y := u 60 (a + 6 + i)) C (by decide) sq_50 (by omega) (by omega) ji_96_151 (fun h st160 st161 C => ?_)
        obtain ⟨s17, es17⟩ : ∃ z9_, up t 50 i (u 60 (a + 6 + i)) = z9_ := ⟨_, rfl⟩
        rw [es17] at C
        refine wl_iinc (x := i) (z := i + 1) (lv' := [some (.ref 59), some (.ref 48), some (.ref 56), some (wp_i a), some (wp_i (u 60 a)), some (wp_i (i + 1))]) ji_96_152 rfl (Nat.le_of_ble_eq_true rfl) (by omega) rfl ?_
        refine wl_goto (t := 107) ji_96_155 rfl ?_
        have C := cs_mono C (show s17 = tlW u a (i + 1) by rw [← es17, ← et, ← tlW_s (by omega), if_pos (by omega)])
        exact ih (i + 1) _ (by omega) C
theorem tb1_0 {s : sg_} {a : Int} : tb1 s a 48 0 = s 48 0 := by
  unfold tb1
  rw [up_a (by decide), up_k (by decide), up_k (by decide), up_k (by decide), up_k (by decide), up_a (by decide)]
theorem tb1_60 {s : sg_} {a j : Int} : tb1 s a 60 j = s 60 j := by
  unfold tb1
  rw [up_a (by decide), up_a (by decide), up_a (by decide), up_a (by decide), up_a (by decide), up_a (by decide)]
theorem uc_96 {nn d : Nat} {h : mj_H} {s : sg_} (C : CS h s) (h0 : 0 ≤ s 48 0 ∧ s 48 0 ≤ 8) (h1 : 0 ≤ s 59 1 ∧ s 59 1 < 30) (h2 : 0 ≤ s 59 2 ∧ s 59 2 ≤ 30) : wl_R nn d 96 0 [some (.ref 59), some (.ref 48), some (.ref 56), none, none, none] [] h (fun v1 h1 => (s 59 2 = 0 ∧ v1 = some (wp_i 0) ∧ CS h1 s) ∨ (¬ s 59 2 = 0 ∧ v1 = some (wp_i 1) ∧ CS h1 (backC s))) := by
  obtain ⟨a, ha⟩ : ∃ a, (s 59 1 + (s 59 2 - 1)) % 30 * 190 = a := ⟨_, rfl⟩
  refine wl_s (pc' := 1) ji_96_0 rfl rfl rfl ?_
  refine cs_gi (k := 2) (kI := 2) C (by decide) (by decide) sq_59 rfl rfl ji_96_1 jf_96_21 ?_
  have bd1 : wp_r (s 59 2) := cs_ri (k := 2) (kI := 2) C (by decide) (by decide) sq_59 rfl rfl (show 2 < 3 by decide)
  refine wl_if (t := 9) ji_96_4 rfl (by omega) (fun (hb2 : ¬ (s 59 2 : Int) = 0) => ?_) (fun (hb2 : ¬ (¬ (s 59 2 : Int) = 0)) => ?_)
  · refine wl_s (pc' := 10) ji_96_9 rfl rfl rfl ?_
    refine wl_s (pc' := 11) ji_96_10 rfl rfl rfl ?_
    refine cs_gi (k := 2) (kI := 2) C (by decide) (by decide) sq_59 rfl rfl ji_96_11 jf_96_21 ?_
    refine wl_s (pc' := 15) ji_96_14 rfl rfl rfl ?_
    refine wl_isub (x := s 59 2) (y := 1) (z := s 59 2 - 1) ji_96_15 (by omega) ?_
    refine cs_pi (k := 2) (kI := 2) (y := s 59 2 - 1) C (by decide) sq_59 rfl rfl ji_96_16 jf_96_21 rfl rfl (by omega) (fun h C => ?_)
    obtain ⟨s3, es3⟩ : ∃ z9_, up s 59 2 (s 59 2 - 1) = z9_ := ⟨_, rfl⟩
    rw [es3] at C
    refine wl_s (pc' := 20) ji_96_19 rfl rfl rfl ?_
    refine cs_gi (k := 1) (kI := 1) C (by decide) (by decide) sq_59 rfl rfl ji_96_20 jf_96_17 ?_
    have rd4 : s3 59 1 = s 59 1 := by rw [← es3, up_k (by decide)]
    rw [rd4]
    have bd5 : wp_r (s 59 1) := rd4 ▸ cs_ri (k := 1) (kI := 1) C (by decide) (by decide) sq_59 rfl rfl (show 1 < 3 by decide)
    refine wl_s (pc' := 24) ji_96_23 rfl rfl rfl ?_
    refine cs_gi (k := 2) (kI := 2) C (by decide) (by decide) sq_59 rfl rfl ji_96_24 jf_96_21 ?_
    have rd6 : s3 59 2 = s 59 2 - 1 := by rw [← es3, up_e]
    rw [rd6]
    refine wl_iadd (x := s 59 1) (y := s 59 2 - 1) (z := s 59 1 + (s 59 2 - 1)) ji_96_27 (by omega) ?_
    refine wl_bp ji_96_28 rfl ?_
    refine wl_irem (x := s 59 1 + (s 59 2 - 1)) (y := 30) ji_96_30 (by omega) (by omega) ?_
    refine wl_sp ji_96_31 rfl ?_
    refine wl_imul (x := (s 59 1 + (s 59 2 - 1)) % 30) (y := 190) (z := a) ji_96_34 (by omega) ?_
    refine wl_s (pc' := 36) (lv' := [some (.ref 59), some (.ref 48), some (.ref 56), some (wp_i a), none, none]) ji_96_35 rfl rfl rfl ?_
    refine wl_s (pc' := 37) ji_96_36 rfl rfl rfl ?_
    refine cs_gr (r := 60) (k := 0) C (by decide) sq_59 rfl ji_96_37 jf_96_13 ?_
    refine wl_s (pc' := 41) ji_96_40 rfl rfl rfl ?_
    refine cs_l (x := a) C (by decide) (by decide) sq_60 (by omega) ji_96_41 (fun ld70 ld71 ld72 => ?_)
    have rd8 : s3 60 a = s 60 a := by rw [← es3, up_a (by omega)]
    rw [rd8] at ld72 ⊢
    refine wl_s (pc' := 44) (lv' := [some (.ref 59), some (.ref 48), some (.ref 56), some (wp_i a), some (wp_i (s 60 a)), none]) ji_96_42 rfl rfl rfl ?_
    refine wl_s (pc' := 45) ji_96_44 rfl rfl rfl ?_
    refine wl_s (pc' := 46) ji_96_45 rfl rfl rfl ?_
    refine cs_gr (r := 60) (k := 0) C (by decide) sq_59 rfl ji_96_46 jf_96_13 ?_
    refine wl_s (pc' := 50) ji_96_49 rfl rfl rfl ?_
    refine wl_s (pc' := 51) ji_96_50 rfl rfl rfl ?_
    refine wl_iadd (x := a) (y := 1) (z := a + 1) ji_96_51 (by omega) ?_
    refine cs_l (x := a + 1) C (by decide) (by decide) sq_60 (by omega) ji_96_52 (fun ld90 ld91 ld92 => ?_)
    have rd10 : s3 60 (a + 1) = s 60 (a + 1) := by rw [← es3, up_a (by omega)]
    rw [rd10] at ld92 ⊢
    refine cs_pi (k := 9) (kI := 9) (y := s 60 (a + 1)) C (by decide) sq_48 rfl rfl ji_96_53 jf_96_35 rfl rfl (by omega) (fun h C => ?_)
    obtain ⟨s11, es11⟩ : ∃ z9_, up s3 48 9 (s 60 (a + 1)) = z9_ := ⟨_, rfl⟩
    rw [es11] at C
    refine wl_s (pc' := 57) ji_96_56 rfl rfl rfl ?_
    refine wl_s (pc' := 58) ji_96_57 rfl rfl rfl ?_
    refine cs_gr (r := 60) (k := 0) C (by decide) sq_59 rfl ji_96_58 jf_96_13 ?_
    refine wl_s (pc' := 62) ji_96_61 rfl rfl rfl ?_
    refine wl_s (pc' := 63) ji_96_62 rfl rfl rfl ?_
    refine wl_iadd (x := a) (y := 2) (z := a + 2) ji_96_63 (by omega) ?_
    refine cs_l (x := a + 2) C (by decide) (by decide) sq_60 (by omega) ji_96_64 (fun ld120 ld121 ld122 => ?_)
    have rd13 : s11 60 (a + 2) = s 60 (a + 2) := by rw [← es11, up_a (by omega)]; rw [← es3, up_a (by omega)]
    rw [rd13] at ld122 ⊢
    refine cs_pi (k := 10) (kI := 10) (y := s 60 (a + 2)) C (by decide) sq_48 rfl rfl ji_96_65 jf_96_38 rfl rfl (by omega) (fun h C => ?_)
    obtain ⟨s14, es14⟩ : ∃ z9_, up s11 48 10 (s 60 (a + 2)) = z9_ := ⟨_, rfl⟩
    rw [es14] at C
    refine wl_s (pc' := 69) ji_96_68 rfl rfl rfl ?_
    refine wl_s (pc' := 70) ji_96_69 rfl rfl rfl ?_
    refine cs_gr (r := 60) (k := 0) C (by decide) sq_59 rfl ji_96_70 jf_96_13 ?_
    refine wl_s (pc' := 74) ji_96_73 rfl rfl rfl ?_
    refine wl_s (pc' := 75) ji_96_74 rfl rfl rfl ?_
    refine wl_iadd (x := a) (y := 3) (z := a + 3) ji_96_75 (by omega) ?_
    refine cs_l (x := a + 3) C (by decide) (by decide) sq_60 (by omega) ji_96_76 (fun ld150 ld151 ld152 => ?_)
    have rd16 : s14 60 (a + 3) = s 60 (a + 3) := by rw [← es14, up_a (by omega)]; rw [← es11, up_a (by omega)]; rw [← es3, up_a (by omega)]
    rw [rd16] at ld152 ⊢
    refine cs_pi (k := 11) (kI := 11) (y := s 60 (a + 3)) C (by decide) sq_48 rfl rfl ji_96_77 jf_96_41 rfl rfl (by omega) (fun h C => ?_)
    obtain ⟨s17, es17⟩ : ∃ z9_, up s14 48 11 (s 60 (a + 3)) = z9_ := ⟨_, rfl⟩
    rw [es17] at C
    refine wl_s (pc' := 81) ji_96_80 rfl rfl rfl ?_
    refine wl_s (pc' := 82) ji_96_81 rfl rfl rfl ?_
    refine cs_gr (r := 60) (k := 0) C (by decide) sq_59 rfl ji_96_82 jf_96_13 ?_
    refine wl_s (pc' := 86) ji_96_85 rfl rfl rfl ?_
    refine wl_s (pc' := 87) ji_96_86 rfl rfl rfl ?_
    refine wl_iadd (x := a) (y := 4) (z := a + 4) ji_96_87 (by omega) ?_
    refine cs_l (x := a + 4) C (by decide) (by decide) sq_60 (by omega) ji_96_88 (fun ld180 ld181 ld182 => ?_)
    have rd19 : s17 60 (a + 4) = s 60 (a + 4) := by rw [← es17, up_a (by omega)]; rw [← es14, up_a (by omega)]; rw [← es11, up_a (by omega)]; rw [← es3, up_a (by omega)]
    rw [rd19] at ld182 ⊢
    refine cs_pi (k := 12) (kI := 12) (y := s 60 (a + 4)) C (by decide) sq_48 rfl rfl ji_96_89 jf_96_44 rfl rfl (by omega) (fun h C => ?_)
    obtain ⟨s20, es20⟩ : ∃ z9_, up s17 48 12 (s 60 (a + 4)) = z9_ := ⟨_, rfl⟩
    rw [es20] at C
    refine wl_s (pc' := 93) ji_96_92 rfl rfl rfl ?_
    refine wl_s (pc' := 94) ji_96_93 rfl rfl rfl ?_
    refine cs_gr (r := 60) (k := 0) C (by decide) sq_59 rfl ji_96_94 jf_96_13 ?_
    refine wl_s (pc' := 98) ji_96_97 rfl rfl rfl ?_
    refine wl_s (pc' := 99) ji_96_98 rfl rfl rfl ?_
    refine wl_iadd (x := a) (y := 5) (z := a + 5) ji_96_99 (by omega) ?_
    refine cs_l (x := a + 5) C (by decide) (by decide) sq_60 (by omega) ji_96_100 (fun ld210 ld211 ld212 => ?_)
    have rd22 : s20 60 (a + 5) = s 60 (a + 5) := by rw [← es20, up_a (by omega)]; rw [← es17, up_a (by omega)]; rw [← es14, up_a (by omega)]; rw [← es11, up_a (by omega)]; rw [← es3, up_a (by omega)]
    rw [rd22] at ld212 ⊢
    refine cs_pi (k := 2) (kI := 2) (y := s 60 (a + 5)) C (by decide) sq_56 rfl rfl ji_96_101 jf_96_47 rfl rfl (by omega) (fun h C => ?_)
    obtain ⟨s23, es23⟩ : ∃ z9_, up s20 56 2 (s 60 (a + 5)) = z9_ := ⟨_, rfl⟩
    rw [es23] at C
    refine wl_s (pc' := 105) ji_96_104 rfl rfl rfl ?_
    refine wl_s (pc' := 107) (lv' := [some (.ref 59), some (.ref 48), some (.ref 56), some (wp_i a), some (wp_i (s 60 a)), some (wp_i 0)]) ji_96_105 rfl rfl rfl ?_
    have eu : tb1 s a = s23 := by unfold tb1; rw [es3, es11, es14, es17, es20, es23]
    have q0 : s23 48 0 = s 48 0 := by rw [← eu]; exact tb1_0
    have q6 : s23 60 a = s 60 a := by rw [← eu]; exact tb1_60
    rw [← q6]
    refine wl_mono (uc_96l (u := s23) (by omega) (by omega) (by rw [q6]; assumption) nn 0 _ (by omega) (cs_mono C tlW_0.symm)) (fun v1 h1 R => Or.inr ⟨by omega, R.1, cs_mono R.2 ?_⟩)
    unfold backC; rw [show tbA s = a from ha, eu]
  · refine wl_s (pc' := 8) ji_96_7 rfl rfl rfl ?_
    exact wl_ri ji_96_8 jr_96 (pv_nb (by omega)) (Or.inl ⟨by omega, rfl, C⟩)
