/-! -/
set_option maxRecDepth 100000 in
theorem ji_144_0 : mj_ins 144 0 = some (.iload_n 1) := by decide +kernel
set_option maxRecDepth 100000 in
theorem ji_144_1 : mj_ins 144 1 = some (.iconst (-1)) := by decide +kernel
set_option maxRecDepth 100000 in
theorem ji_144_2 : mj_ins 144 2 = some (.if_icmp .ne 10) := by decide +kernel
set_option maxRecDepth 100000 in
theorem ji_144_12 : mj_ins 144 12 = some (.iload_n 1) := by decide +kernel
set_option maxRecDepth 100000 in
theorem ji_144_13 : mj_ins 144 13 = some (.ifCond .lt 18) := by decide +kernel
set_option maxRecDepth 100000 in
theorem ji_144_31 : mj_ins 144 31 = some (.bipush (-2)) := by decide +kernel
set_option maxRecDepth 100000 in
theorem ji_144_33 : mj_ins 144 33 = some (.ireturn) := by decide +kernel
set_option maxRecDepth 100000 in
theorem jr_144 : mj_ret 144 = some .int := by decide +kernel
set_option maxRecDepth 100000 in
theorem ji_144_16 : mj_ins 144 16 = some (.iload_n 1) := by decide +kernel
set_option maxRecDepth 100000 in
theorem ji_144_17 : mj_ins 144 17 = some (.bipush 99) := by decide +kernel
set_option maxRecDepth 100000 in
theorem ji_144_19 : mj_ins 144 19 = some (.if_icmp .gt 12) := by decide +kernel
set_option maxRecDepth 100000 in
theorem ji_144_22 : mj_ins 144 22 = some (.aload_n 0) := by decide +kernel
set_option maxRecDepth 100000 in
theorem ji_144_23 : mj_ins 144 23 = some (.getfield 22) := by decide +kernel
set_option maxRecDepth 100000 in
theorem jf_144_22 : mj_fld 144 22 = some (6, 3, .int, true) := by decide +kernel
set_option maxRecDepth 100000 in
theorem ji_144_26 : mj_ins 144 26 = some (.bipush 8) := by decide +kernel
set_option maxRecDepth 100000 in
theorem ji_144_28 : mj_ins 144 28 = some (.if_icmp .ne 6) := by decide +kernel
set_option maxRecDepth 100000 in
theorem ji_144_34 : mj_ins 144 34 = some (.aload_n 0) := by decide +kernel
set_option maxRecDepth 100000 in
theorem ji_144_35 : mj_ins 144 35 = some (.getfield 11) := by decide +kernel
set_option maxRecDepth 100000 in
theorem jf_144_11 : mj_fld 144 11 = some (6, 0, (.array .int), false) := by decide +kernel
set_option maxRecDepth 100000 in
theorem ji_144_38 : mj_ins 144 38 = some (.aload_n 0) := by decide +kernel
set_option maxRecDepth 100000 in
theorem ji_144_39 : mj_ins 144 39 = some (.getfield 22) := by decide +kernel
set_option maxRecDepth 100000 in
theorem ji_144_42 : mj_ins 144 42 = some (.iload_n 1) := by decide +kernel
set_option maxRecDepth 100000 in
theorem ji_144_43 : mj_ins 144 43 = some (.iastore) := by decide +kernel
set_option maxRecDepth 100000 in
theorem ji_144_44 : mj_ins 144 44 = some (.aload_n 0) := by decide +kernel
set_option maxRecDepth 100000 in
theorem ji_144_45 : mj_ins 144 45 = some (.getfield 15) := by decide +kernel
set_option maxRecDepth 100000 in
theorem jf_144_15 : mj_fld 144 15 = some (6, 1, (.array .boolean), false) := by decide +kernel
set_option maxRecDepth 100000 in
theorem ji_144_48 : mj_ins 144 48 = some (.aload_n 0) := by decide +kernel
set_option maxRecDepth 100000 in
theorem ji_144_49 : mj_ins 144 49 = some (.getfield 22) := by decide +kernel
set_option maxRecDepth 100000 in
theorem ji_144_52 : mj_ins 144 52 = some (.iload_n 2) := by decide +kernel
set_option maxRecDepth 100000 in
theorem ji_144_53 : mj_ins 144 53 = some (.bastore) := by decide +kernel
set_option maxRecDepth 100000 in
theorem ji_144_54 : mj_ins 144 54 = some (.aload_n 0) := by decide +kernel
set_option maxRecDepth 100000 in
theorem ji_144_55 : mj_ins 144 55 = some (.dup) := by decide +kernel
set_option maxRecDepth 100000 in
theorem ji_144_56 : mj_ins 144 56 = some (.getfield 22) := by decide +kernel
set_option maxRecDepth 100000 in
theorem ji_144_59 : mj_ins 144 59 = some (.iconst 1) := by decide +kernel
set_option maxRecDepth 100000 in
theorem ji_144_60 : mj_ins 144 60 = some (.iadd) := by decide +kernel
set_option maxRecDepth 100000 in
theorem ji_144_61 : mj_ins 144 61 = some (.putfield 22) := by decide +kernel
set_option maxRecDepth 100000 in
theorem ji_144_64 : mj_ins 144 64 = some (.aload_n 0) := by decide +kernel
set_option maxRecDepth 100000 in
theorem ji_144_65 : mj_ins 144 65 = some (.getfield 22) := by decide +kernel
set_option maxRecDepth 100000 in
theorem ji_144_68 : mj_ins 144 68 = some (.ireturn) := by decide +kernel
set_option maxRecDepth 100000 in
theorem ji_144_5 : mj_ins 144 5 = some (.aload_n 0) := by decide +kernel
set_option maxRecDepth 100000 in
theorem ji_144_6 : mj_ins 144 6 = some (.iconst 0) := by decide +kernel
set_option maxRecDepth 100000 in
theorem ji_144_7 : mj_ins 144 7 = some (.putfield 22) := by decide +kernel
set_option maxRecDepth 100000 in
theorem ji_144_10 : mj_ins 144 10 = some (.iconst 0) := by decide +kernel
set_option maxRecDepth 100000 in
theorem ji_144_11 : mj_ins 144 11 = some (.ireturn) := by decide +kernel
set_option maxRecDepth 100000 in
theorem ji_300_0 : mj_ins 300 0 = some (.iload_n 1) := by decide +kernel
set_option maxRecDepth 100000 in
theorem ji_300_1 : mj_ins 300 1 = some (.iconst (-1)) := by decide +kernel
set_option maxRecDepth 100000 in
theorem ji_300_2 : mj_ins 300 2 = some (.if_icmp .ne 12) := by decide +kernel
set_option maxRecDepth 100000 in
theorem ji_300_14 : mj_ins 300 14 = some (.iload_n 1) := by decide +kernel
set_option maxRecDepth 100000 in
theorem ji_300_15 : mj_ins 300 15 = some (.iconst 0) := by decide +kernel
set_option maxRecDepth 100000 in
theorem ji_300_16 : mj_ins 300 16 = some (.bipush 99) := by decide +kernel
set_option maxRecDepth 100000 in
theorem ji_300_18 : mj_ins 300 18 = some (.invokestatic 66) := by decide +kernel
set_option maxRecDepth 100000 in
theorem jc_300_66 : mj_cal 300 66 = some (1, 171, 3) := by decide +kernel
set_option maxRecDepth 100000 in
theorem ji_300_21 : mj_ins 300 21 = some (.ifCond .eq 14) := by decide +kernel
set_option maxRecDepth 100000 in
theorem ji_300_35 : mj_ins 300 35 = some (.bipush (-2)) := by decide +kernel
set_option maxRecDepth 100000 in
theorem ji_300_37 : mj_ins 300 37 = some (.ireturn) := by decide +kernel
set_option maxRecDepth 100000 in
theorem jr_300 : mj_ret 300 = some .int := by decide +kernel
set_option maxRecDepth 100000 in
theorem ji_300_24 : mj_ins 300 24 = some (.aload_n 0) := by decide +kernel
set_option maxRecDepth 100000 in
theorem ji_300_25 : mj_ins 300 25 = some (.getfield 7) := by decide +kernel
set_option maxRecDepth 100000 in
theorem jf_300_7 : mj_fld 300 7 = some (11, 0, (.array .int), false) := by decide +kernel
set_option maxRecDepth 100000 in
theorem ji_300_28 : mj_ins 300 28 = some (.iconst 5) := by decide +kernel
set_option maxRecDepth 100000 in
theorem ji_300_29 : mj_ins 300 29 = some (.iaload) := by decide +kernel
set_option maxRecDepth 100000 in
theorem ji_300_30 : mj_ins 300 30 = some (.bipush 8) := by decide +kernel
set_option maxRecDepth 100000 in
theorem ji_300_32 : mj_ins 300 32 = some (.if_icmp .ne 6) := by decide +kernel
set_option maxRecDepth 100000 in
theorem ji_300_38 : mj_ins 300 38 = some (.aload_n 0) := by decide +kernel
set_option maxRecDepth 100000 in
theorem ji_300_39 : mj_ins 300 39 = some (.getfield 7) := by decide +kernel
set_option maxRecDepth 100000 in
theorem ji_300_42 : mj_ins 300 42 = some (.sipush 148) := by decide +kernel
set_option maxRecDepth 100000 in
theorem ji_300_45 : mj_ins 300 45 = some (.iconst 2) := by decide +kernel
set_option maxRecDepth 100000 in
theorem ji_300_46 : mj_ins 300 46 = some (.aload_n 0) := by decide +kernel
set_option maxRecDepth 100000 in
theorem ji_300_47 : mj_ins 300 47 = some (.getfield 7) := by decide +kernel
set_option maxRecDepth 100000 in
theorem ji_300_50 : mj_ins 300 50 = some (.iconst 5) := by decide +kernel
set_option maxRecDepth 100000 in
theorem ji_300_51 : mj_ins 300 51 = some (.iaload) := by decide +kernel
set_option maxRecDepth 100000 in
theorem ji_300_52 : mj_ins 300 52 = some (.imul) := by decide +kernel
set_option maxRecDepth 100000 in
theorem ji_300_53 : mj_ins 300 53 = some (.iadd) := by decide +kernel
set_option maxRecDepth 100000 in
theorem ji_300_54 : mj_ins 300 54 = some (.iload_n 1) := by decide +kernel
set_option maxRecDepth 100000 in
theorem ji_300_55 : mj_ins 300 55 = some (.iastore) := by decide +kernel
set_option maxRecDepth 100000 in
theorem ji_300_56 : mj_ins 300 56 = some (.aload_n 0) := by decide +kernel
set_option maxRecDepth 100000 in
theorem ji_300_57 : mj_ins 300 57 = some (.getfield 7) := by decide +kernel
set_option maxRecDepth 100000 in
theorem ji_300_60 : mj_ins 300 60 = some (.sipush 148) := by decide +kernel
set_option maxRecDepth 100000 in
theorem ji_300_63 : mj_ins 300 63 = some (.iconst 2) := by decide +kernel
set_option maxRecDepth 100000 in
theorem ji_300_64 : mj_ins 300 64 = some (.aload_n 0) := by decide +kernel
set_option maxRecDepth 100000 in
theorem ji_300_65 : mj_ins 300 65 = some (.getfield 7) := by decide +kernel
set_option maxRecDepth 100000 in
theorem ji_300_68 : mj_ins 300 68 = some (.iconst 5) := by decide +kernel
set_option maxRecDepth 100000 in
theorem ji_300_69 : mj_ins 300 69 = some (.iaload) := by decide +kernel
set_option maxRecDepth 100000 in
theorem ji_300_70 : mj_ins 300 70 = some (.imul) := by decide +kernel
set_option maxRecDepth 100000 in
theorem ji_300_71 : mj_ins 300 71 = some (.iadd) := by decide +kernel
set_option maxRecDepth 100000 in
theorem ji_300_72 : mj_ins 300 72 = some (.iconst 1) := by decide +kernel
set_option maxRecDepth 100000 in
theorem ji_300_73 : mj_ins 300 73 = some (.iadd) := by decide +kernel
set_option maxRecDepth 100000 in
theorem ji_300_74 : mj_ins 300 74 = some (.iload_n 2) := by decide +kernel
set_option maxRecDepth 100000 in
theorem ji_300_75 : mj_ins 300 75 = some (.ifCond .eq 7) := by decide +kernel
set_option maxRecDepth 100000 in
theorem ji_300_82 : mj_ins 300 82 = some (.iconst 0) := by decide +kernel
set_option maxRecDepth 100000 in
theorem ji_300_83 : mj_ins 300 83 = some (.iastore) := by decide +kernel
set_option maxRecDepth 100000 in
theorem ji_300_84 : mj_ins 300 84 = some (.aload_n 0) := by decide +kernel
set_option maxRecDepth 100000 in
theorem ji_300_85 : mj_ins 300 85 = some (.getfield 7) := by decide +kernel
set_option maxRecDepth 100000 in
theorem ji_300_88 : mj_ins 300 88 = some (.iconst 5) := by decide +kernel
set_option maxRecDepth 100000 in
theorem ji_300_89 : mj_ins 300 89 = some (.dup2) := by decide +kernel
set_option maxRecDepth 100000 in
theorem ji_300_90 : mj_ins 300 90 = some (.iaload) := by decide +kernel
set_option maxRecDepth 100000 in
theorem ji_300_91 : mj_ins 300 91 = some (.iconst 1) := by decide +kernel
set_option maxRecDepth 100000 in
theorem ji_300_92 : mj_ins 300 92 = some (.iadd) := by decide +kernel
set_option maxRecDepth 100000 in
theorem ji_300_93 : mj_ins 300 93 = some (.iastore) := by decide +kernel
set_option maxRecDepth 100000 in
theorem ji_300_94 : mj_ins 300 94 = some (.aload_n 0) := by decide +kernel
set_option maxRecDepth 100000 in
theorem ji_300_95 : mj_ins 300 95 = some (.getfield 7) := by decide +kernel
set_option maxRecDepth 100000 in
theorem ji_300_98 : mj_ins 300 98 = some (.iconst 5) := by decide +kernel
set_option maxRecDepth 100000 in
theorem ji_300_99 : mj_ins 300 99 = some (.iaload) := by decide +kernel
set_option maxRecDepth 100000 in
theorem ji_300_100 : mj_ins 300 100 = some (.ireturn) := by decide +kernel
set_option maxRecDepth 100000 in
theorem ji_300_78 : mj_ins 300 78 = some (.iconst 1) := by decide +kernel
set_option maxRecDepth 100000 in
theorem ji_300_79 : mj_ins 300 79 = some (.goto 4) := by decide +kernel
set_option maxRecDepth 100000 in
theorem ji_300_5 : mj_ins 300 5 = some (.aload_n 0) := by decide +kernel
set_option maxRecDepth 100000 in
theorem ji_300_6 : mj_ins 300 6 = some (.getfield 7) := by decide +kernel
set_option maxRecDepth 100000 in
theorem ji_300_9 : mj_ins 300 9 = some (.iconst 5) := by decide +kernel
set_option maxRecDepth 100000 in
theorem ji_300_10 : mj_ins 300 10 = some (.iconst 0) := by decide +kernel
set_option maxRecDepth 100000 in
theorem ji_300_11 : mj_ins 300 11 = some (.iastore) := by decide +kernel
set_option maxRecDepth 100000 in
theorem ji_300_12 : mj_ins 300 12 = some (.iconst 0) := by decide +kernel
set_option maxRecDepth 100000 in
theorem ji_300_13 : mj_ins 300 13 = some (.ireturn) := by decide +kernel
/-! what was found: both count alike; laid by program (wp_find.py) -/
def lw_I (sl : List Value) (h : mj_H) (B : Int) : Prop := sx_H sx_TT 20 sx_tau h ∧ sx_W sx_tau h B ∧ h.length = 152 ∧ h[0]? = some (1000, sl)
theorem lw_le {sl : List Value} {h : mj_H} {B B' : Int} (I : lw_I sl h B) (hB : B ≤ B') : lw_I sl h B' := ⟨I.1, sx_W_le I.2.1 hB, I.2.2⟩
def lw_AM : Prop := ∀ d c K, sx_KK[c]? = some (some K) → sx_M sx_PP d c K
/-- a place of a cell of that kind -/
def fd_c (h : mj_H) (a kd k : Nat) (v : Value) : Prop := ∃ vs, h[a]? = some (kd, vs) ∧ vs[k]? = some v
theorem fd_ef {mods : List Nat} {h h' : mj_H} (e : sx_ef sx_tau mods h h') {a kd k : Nat} {v : Value} (hk : kd < 900 ∧ k < 100) (hm : 100 * kd + k ∉ mods) (hv : fd_c h a kd k v) : fd_c h' a kd k v := by
  obtain ⟨vs, c1, c2⟩ := hv
  obtain ⟨us, g1, g2⟩ := e.1 a kd vs c1
  have := g2 _ hm
  rw [sx_at_f hk.1 hk.2, sx_at_f hk.1 hk.2] at this
  exact ⟨us, g1, this.trans c2⟩
theorem fd_ef21 {mods : List Nat} {h h' : mj_H} (e : sx_ef sx_tau mods h h') {a j : Nat} {v : Value} (ht : sx_tau[a]? = some 21) (hj : j < 16) (hm : 20000 + j ∉ mods) (hv : fd_c h a 1000 j v) : fd_c h' a 1000 j v := by
  obtain ⟨vs, c1, c2⟩ := hv
  obtain ⟨us, g1, g2⟩ := e.1 a 1000 vs c1
  have := g2 _ hm
  rw [sx_at_a (by decide) ht hj, sx_at_a (by decide) ht hj] at this
  exact ⟨us, g1, this.trans c2⟩
/-- another cell was set, or another place -/
theorem fd_cs {h : mj_H} {a b kd k : Nat} {v : Value} {c : mj_C} (hne : b ≠ a) (hv : fd_c h a kd k v) : fd_c (h.set b c) a kd k v := by
  obtain ⟨vs, c1, c2⟩ := hv
  exact ⟨vs, by rw [List.getElem?_set_ne hne]; exact c1, c2⟩
theorem fd_fr {h h0 : mj_H} {a kd k : Nat} {v : Value} (e : h[a]? = h0[a]?) (hv : fd_c h0 a kd k v) : fd_c h a kd k v := by
  obtain ⟨vs, c1, c2⟩ := hv
  exact ⟨vs, e.trans c1, c2⟩
/-- pointers that never change -/
def fd_P (h : mj_H) : Prop := fd_c h 9 0 0 (.ref 47) ∧ fd_c h 9 0 1 (.ref 69) ∧ fd_c h 47 2 3 (.ref 61) ∧ fd_c h 69 2 3 (.ref 83) ∧ fd_c h 138 11 0 (.ref 139) ∧ fd_c h 138 11 1 (.ref 140) ∧ fd_c h 61 6 0 (.ref 62) ∧ fd_c h 61 6 1 (.ref 63) ∧ fd_c h 83 6 0 (.ref 84) ∧ fd_c h 83 6 1 (.ref 85) ∧ fd_c h 61 6 2 (.ref 64)
theorem fd_P_ef {mods : List Nat} {h h' : mj_H} (e : sx_ef sx_tau mods h h') (hm : ∀ k ∈ [0, 1, 203, 600, 601, 602, 1100, 1101], k ∉ mods) (P : fd_P h) : fd_P h' := by
  obtain ⟨p1, p2, p3, p4, p5, p6, p7, p8, p9, p10, p11⟩ := P
  exact ⟨fd_ef e (by decide) (hm 0 (by decide)) p1, fd_ef e (by decide) (hm 1 (by decide)) p2, fd_ef e (by decide) (hm 203 (by decide)) p3, fd_ef e (by decide) (hm 203 (by decide)) p4, fd_ef e (by decide) (hm 1100 (by decide)) p5, fd_ef e (by decide) (hm 1101 (by decide)) p6, fd_ef e (by decide) (hm 600 (by decide)) p7, fd_ef e (by decide) (hm 601 (by decide)) p8, fd_ef e (by decide) (hm 600 (by decide)) p9, fd_ef e (by decide) (hm 601 (by decide)) p10, fd_ef e (by decide) (hm 602 (by decide)) p11⟩
theorem fd_at {h : mj_H} {a kd kd' k : Nat} {v : Value} {fs : List Value} (hv : fd_c h a kd k v) (e : h[a]? = some (kd', fs)) : fs[k]? = some v := by
  obtain ⟨vs, c1, c2⟩ := hv
  rw [e] at c1
  cases c1
  exact c2
theorem fd_efa {mods : List Nat} {h h' : mj_H} (e : sx_ef sx_tau mods h h') {a t kd : Nat} {vs : List Value} (ht : sx_tau[a]? = some t) (h21 : t ≠ 21) (hk : 900 ≤ kd) (hm : 10000 + t ∉ mods) (hv : h[a]? = some (kd, vs)) : h'[a]? = some (kd, vs) := by
  obtain ⟨us, u1, u2⟩ := e.2.1 a t kd vs ht hk hv hm
  have e : us = vs := List.ext_getElem? (fun j => u2 j (fun e => absurd e h21))
  rw [← e]
  exact u1
/-- what was found: of the class (how many, places, whether there), of the reference (how many, both by turns) -/
abbrev fd_s : Type := Int × List Value × List Value
abbrev fd_r : Type := Int × List Value
def fd_S (h : mj_H) (a : Nat) (s : fd_s) : Prop := fd_c h a 6 3 (wp_i s.1) ∧ h[a + 1]? = some (1000, s.2.1) ∧ h[a + 2]? = some (1001, s.2.2)
def fd_G (h : mj_H) (a : Nat) (r : fd_r) : Prop := ∃ vs, h[a]? = some (1000, vs) ∧ vs[5]? = some (wp_i r.1) ∧ ∀ j, j < 16 → vs[148 + j]? = r.2[j]?
theorem fd_S_ef {mods : List Nat} {h h' : mj_H} (e : sx_ef sx_tau mods h h') {a : Nat} {s : fd_s} (t1 : sx_tau[a + 1]? = some 49) (t2 : sx_tau[a + 2]? = some 50) (m1 : 603 ∉ mods) (m2 : 10049 ∉ mods) (m3 : 10050 ∉ mods) (S : fd_S h a s) : fd_S h' a s := ⟨fd_ef e (by decide) m1 S.1, fd_efa e t1 (by decide) (by decide) m2 S.2.1, fd_efa e t2 (by decide) (by decide) m3 S.2.2⟩
theorem fd_G_ef {mods : List Nat} {h h' : mj_H} (e : sx_ef sx_tau mods h h') {a : Nat} {r : fd_r} (ht : sx_tau[a]? = some 21) (m1 : 20005 ∉ mods) (m2 : 10100 ∉ mods) (G : fd_G h a r) : fd_G h' a r := by
  obtain ⟨vs, g1, g2, g3⟩ := G
  obtain ⟨us, u1, u2⟩ := e.2.2.2 m2 a 1000 vs ht (by decide) g1
  have := fd_ef21 e ht (show 5 < 16 by decide) m1 ⟨vs, g1, g2⟩
  exact ⟨us, u1, fd_at this u1, fun j hj => (u2 (148 + j) (by omega) (by omega)).trans (g3 j hj)⟩
theorem fd_S_fr {h h0 : mj_H} {a : Nat} {s : fd_s} (e0 : h[a]? = h0[a]?) (e1 : h[a + 1]? = h0[a + 1]?) (e2 : h[a + 2]? = h0[a + 2]?) (S : fd_S h0 a s) : fd_S h a s := ⟨fd_fr e0 S.1, e1.trans S.2.1, e2.trans S.2.2⟩
theorem fd_G_fr {h h0 : mj_H} {a : Nat} {r : fd_r} (e : h[a]? = h0[a]?) (G : fd_G h0 a r) : fd_G h a r := by
  obtain ⟨vs, g1, g⟩ := G
  exact ⟨vs, e.trans g1, g⟩
theorem fd_S_cs {h : mj_H} {a b : Nat} {c : mj_C} {s : fd_s} (n0 : b ≠ a) (n1 : b ≠ a + 1) (n2 : b ≠ a + 2) (S : fd_S h a s) : fd_S (h.set b c) a s := fd_S_fr (List.getElem?_set_ne n0) (List.getElem?_set_ne n1) (List.getElem?_set_ne n2) S
theorem fd_G_cs {h : mj_H} {a b : Nat} {c : mj_C} {r : fd_r} (n0 : b ≠ a) (G : fd_G h a r) : fd_G (h.set b c) a r := fd_G_fr (List.getElem?_set_ne n0) G
def lw_X (sl : List Value) (h : mj_H) (B : Int) (s s' : fd_s) (r r' : fd_r) : Prop := lw_I sl h B ∧ fd_P h ∧ fd_S h 61 s ∧ fd_S h 83 s' ∧ fd_G h 139 r ∧ fd_G h 140 r'
theorem lw_Xle {sl : List Value} {h : mj_H} {B B' : Int} {s s' : fd_s} {r r' : fd_r} (X : lw_X sl h B s s' r r') (hB : B ≤ B') : lw_X sl h B' s s' r r' := ⟨lw_le X.1 hB, X.2⟩
/-- a call by its contract: the pointers stay; a count stays, whose key isn't named -/
theorem lw_K0 {sl : List Value} {h : mj_H} {B : Int} (I : lw_I sl h B) (P : fd_P h) {d c n : Nat} {K : sx_K} (hM : sx_M sx_PP d c K) {vs : List Value} {lv0 : mj_L} (ha : sx_ag sx_tau K.1 vs) (hd : sx_lev K vs ≤ d) (hc : sx_cost K.2.2.2 = n) (hB : B + n ≤ 2147483647) (hn : mj_ent (mj_nl c) vs = some lv0) (hm : ∀ k ∈ [11000, 0, 1, 203, 600, 601, 602, 1100, 1101], k ∉ K.2.2.2) : wp_R d c 0 lv0 [] h (fun v h1 => sx_an sx_tau K.2.1 v ∧ lw_I sl h1 (B + n) ∧ fd_P h1 ∧ sx_ef sx_tau K.2.2.2 h h1) := by
  obtain ⟨i1, i2, i3, i4⟩ := I
  refine wp_mono (wp_K hM i1 ha hd i2 (by rw [hc]; exact hB) hn) ?_
  rintro v h1 ⟨k1, k2, k3, k4, k5⟩
  rw [hc] at k5
  refine ⟨k2, ⟨k1, k5, k4.trans i3, ?_⟩, fd_P_ef k3 (fun k hk => hm k (List.mem_cons_of_mem _ hk)) P, k3⟩
  obtain ⟨us, u1, u2⟩ := k3.2.1 0 1000 1000 sl rfl (by decide) i4 (hm 11000 List.mem_cons_self)
  have e : us = sl := List.ext_getElem? (fun j => u2 j (fun e => (by cases e)))
  rw [← e]
  exact u1
theorem lw_KX {sl : List Value} {h : mj_H} {B : Int} {s s' : fd_s} {r r' : fd_r} (X : lw_X sl h B s s' r r') {d c n : Nat} {K : sx_K} (hM : sx_M sx_PP d c K) {vs : List Value} {lv0 : mj_L} (ha : sx_ag sx_tau K.1 vs) (hd : sx_lev K vs ≤ d) (hc : sx_cost K.2.2.2 = n) (hB : B + n ≤ 2147483647) (hn : mj_ent (mj_nl c) vs = some lv0) (hm : ∀ k ∈ [603, 20005, 10049, 10050, 10100, 11000, 0, 1, 203, 600, 601, 602, 1100, 1101], k ∉ K.2.2.2) : wp_R d c 0 lv0 [] h (fun v h1 => sx_an sx_tau K.2.1 v ∧ lw_X sl h1 (B + n) s s' r r') := by
  obtain ⟨I, P, x1, x2, x3, x4⟩ := X
  refine wp_mono (lw_K0 I P hM ha hd hc hB hn (fun k hk => hm k (List.mem_cons_of_mem _ (List.mem_cons_of_mem _ (List.mem_cons_of_mem _ (List.mem_cons_of_mem _ (List.mem_cons_of_mem _ hk))))))) ?_
  rintro v h1 ⟨k1, k2, k3, k4⟩
  have m1 := hm 603 (by decide)
  have m2 := hm 20005 (by decide)
  have m3 := hm 10049 (by decide)
  have m4 := hm 10050 (by decide)
  have m5 := hm 10100 (by decide)
  exact ⟨k1, k2, k3, fd_S_ef k4 rfl rfl m1 m3 m4 x1, fd_S_ef k4 rfl rfl m1 m3 m4 x2, fd_G_ef k4 rfl m2 m5 x3, fd_G_ef k4 rfl m2 m5 x4⟩
/-- two things that hold at the end of one run -/
theorem wp_and {d m pc : Nat} {lv : mj_L} {st : List Value} {h : mj_H} {Q1 Q2 : Option Value → mj_H → Prop} (a : wp_R d m pc lv st h Q1) (b : wp_R d m pc lv st h Q2) : wp_R d m pc lv st h (fun v h' => Q1 v h' ∧ Q2 v h') := by
  obtain ⟨f1, v1, h1, r1, q1⟩ := a
  obtain ⟨f2, v2, h2, r2, q2⟩ := b
  have e1 := mj_run_mono (Nat.le_max_left f1 f2) (Nat.le_refl d) r1
  have e2 := mj_run_mono (Nat.le_max_right f1 f2) (Nat.le_refl d) r2
  rw [e1] at e2
  cases e2
  exact ⟨_, _, _, e1, q1, q2⟩
def fd_T (h0 h : mj_H) (n : Int) (ps bs : List Value) : Prop := (∃ fs, h[61]? = some (6, fs) ∧ fs.length = 4 ∧ fs[0]? = some (.ref 62) ∧ fs[1]? = some (.ref 63) ∧ fs[3]? = some (wp_i n)) ∧ (h[62]? = some (1000, ps) ∧ ps.length = 8) ∧ (h[63]? = some (1001, bs) ∧ bs.length = 8) ∧ ∀ a, a ≠ 61 → a ≠ 62 → a ≠ 63 → h[a]? = h0[a]?
def fd_A (h0 h : mj_H) (n : Int) (vs : List Value) : Prop := (∃ fs, h[138]? = some (11, fs) ∧ fs[0]? = some (.ref 139)) ∧ (h[139]? = some (1000, vs) ∧ vs.length = 6044 ∧ vs[5]? = some (wp_i n)) ∧ ∀ a, a ≠ 139 → h[a]? = h0[a]?
/-- the answer, how many there are then, and what is written down -/
def fd_a (x n : Int) : Int := if x = -1 then 0 else if x < 0 ∨ 99 < x ∨ n = 8 then -2 else n + 1
def fd_n (x n : Int) : Int := if x = -1 then 0 else if x < 0 ∨ 99 < x ∨ n = 8 then n else n + 1
def fd_l (x n y : Int) (l : List Value) : List Value := if x = -1 then l else if x < 0 ∨ 99 < x ∨ n = 8 then l else l.set n.toNat (wp_i y)
def fd_w (x n b : Int) (l : List Value) : List Value := if x = -1 then l.set 5 (wp_i 0) else if x < 0 ∨ 99 < x ∨ n = 8 then l else ((l.set (148 + (2 * n)).toNat (wp_i x)).set (148 + (2 * n) + 1).toNat (wp_i b)).set 5 (wp_i (n + 1))
theorem fd_1 {x n : Int} (e : x = -1) : fd_a x n = 0 ∧ fd_n x n = 0 ∧ (∀ y l, fd_l x n y l = l) ∧ ∀ b l, fd_w x n b l = l.set 5 (wp_i 0) := by
  refine ⟨if_pos e, if_pos e, fun y l => if_pos e, fun b l => if_pos e⟩
theorem fd_2 {x n : Int} (e : ¬ x = -1) (f : x < 0 ∨ 99 < x ∨ n = 8) : fd_a x n = -2 ∧ fd_n x n = n ∧ (∀ y l, fd_l x n y l = l) ∧ ∀ b l, fd_w x n b l = l := by
  refine ⟨(if_neg e).trans (if_pos f), (if_neg e).trans (if_pos f), fun y l => (if_neg e).trans (if_pos f), fun b l => (if_neg e).trans (if_pos f)⟩
theorem fd_3 {x n : Int} (e : ¬ x = -1) (f : ¬ (x < 0 ∨ 99 < x ∨ n = 8)) : fd_a x n = n + 1 ∧ fd_n x n = n + 1 ∧ (∀ y l, fd_l x n y l = l.set n.toNat (wp_i y)) ∧ ∀ b l, fd_w x n b l = ((l.set (148 + (2 * n)).toNat (wp_i x)).set (148 + (2 * n) + 1).toNat (wp_i b)).set 5 (wp_i (n + 1)) := by
  refine ⟨(if_neg e).trans (if_neg f), (if_neg e).trans (if_neg f), fun y l => (if_neg e).trans (if_neg f), fun b l => (if_neg e).trans (if_neg f)⟩
theorem fd_nb {x n : Int} (hn : 0 ≤ n ∧ n ≤ 8) : 0 ≤ fd_n x n ∧ fd_n x n ≤ 8 := by
  unfold fd_n
  split
  · omega
  · split <;> omega
theorem fd_ar {x n : Int} (hn : 0 ≤ n ∧ n ≤ 8) : wp_r (fd_a x n) := by
  unfold fd_a
  split
  · omega
  · split <;> omega
theorem fd_lt {h : mj_H} {a : Nat} {c : mj_C} (e : h[a]? = some c) : a < h.length := (List.getElem?_eq_some_iff.mp e).1
section WPF
variable {d m pc : Nat} {lv : mj_L} {st : List Value} {h h0 : mj_H} {Q : Option Value → mj_H → Prop}
theorem wp_bas {a : Nat} {x y : Int} {vs : List Value} (hi : mj_ins m pc = some .bastore) (ha : h[a]? = some (1001, vs)) (hn0 : mj_n0 ≤ a) (hx : 0 ≤ x) (hl : x < vs.length) (hn : vs.length ≤ 2147483647) (hy : y = 0 ∨ y = 1) (hr : wp_R d m (pc + 1) lv st (h.set a (1001, vs.set x.toNat (wp_i y))) Q) : wp_R d m pc lv (wp_i y :: wp_i x :: .ref a :: st) h Q := by
  refine wp_s (pc' := pc + 1) (lv' := lv) (st' := st) (h' := h.set a (1001, vs.set x.toNat (wp_i y))) hi rfl rfl ?_ hr
  have e : mj_es mj_n0 h a 1001 (Int32.ofInt x) (narrow .boolean (.int (Int32.ofInt y))) = some (h.set a (1001, vs.set x.toNat (wp_i y))) := by
    unfold mj_es
    rw [ha]
    dsimp only
    rw [if_pos ⟨rfl, hn0⟩, wp_ix hx hl hn]
    have := pv_nb hy
    unfold wp_i at this ⊢
    rw [this]
  simp only [mj_st, e, Option.map_some]
variable {ps bs vs : List Value}
theorem ft_g0 {x : Nat} {ty : FieldType} {w : Bool} {n : Int} (V : fd_T h0 h n ps bs) (hi : mj_ins m pc = some (.getfield x)) (hf : mj_fld m x = some (6, 0, ty, w)) (hr : wp_R d m (pc + 3) lv (.ref 62 :: st) h Q) : wp_R d m pc lv (.ref 61 :: st) h Q := by
  obtain ⟨⟨fs, e1, e2, e3, e4, e5⟩, -⟩ := V
  exact wp_gf hi hf e1 e3 hr
theorem ft_g1 {x : Nat} {ty : FieldType} {w : Bool} {n : Int} (V : fd_T h0 h n ps bs) (hi : mj_ins m pc = some (.getfield x)) (hf : mj_fld m x = some (6, 1, ty, w)) (hr : wp_R d m (pc + 3) lv (.ref 63 :: st) h Q) : wp_R d m pc lv (.ref 61 :: st) h Q := by
  obtain ⟨⟨fs, e1, e2, e3, e4, e5⟩, -⟩ := V
  exact wp_gf hi hf e1 e4 hr
theorem ft_g3 {x : Nat} {ty : FieldType} {w : Bool} {n : Int} (V : fd_T h0 h n ps bs) (hi : mj_ins m pc = some (.getfield x)) (hf : mj_fld m x = some (6, 3, ty, w)) (hr : wp_R d m (pc + 3) lv (wp_i n :: st) h Q) : wp_R d m pc lv (.ref 61 :: st) h Q := by
  obtain ⟨⟨fs, e1, e2, e3, e4, e5⟩, -⟩ := V
  exact wp_gf hi hf e1 e5 hr
theorem ft_p3 {x : Nat} {n y : Int} (V : fd_T h0 h n ps bs) (hi : mj_ins m pc = some (.putfield x)) (hf : mj_fld m x = some (6, 3, .int, true)) (hr : ∀ h, fd_T h0 h y ps bs → wp_R d m (pc + 3) lv st h Q) : wp_R d m pc lv (wp_i y :: .ref 61 :: st) h Q := by
  obtain ⟨⟨fs, e1, e2, e3, e4, e5⟩, ⟨p1, p2⟩, ⟨b1, b2⟩, f⟩ := V
  refine wp_pf hi hf e1 (by decide) (by omega) rfl rfl (hr _ ⟨⟨fs.set 3 (wp_i y), List.getElem?_set_self (fd_lt e1), by rw [List.length_set]; exact e2, ?_, ?_, List.getElem?_set_self (by omega)⟩, ⟨?_, p2⟩, ⟨?_, b2⟩, fun a h1 h2 h3 => ?_⟩)
  · rw [List.getElem?_set_ne (by decide)]; exact e3
  · rw [List.getElem?_set_ne (by decide)]; exact e4
  · rw [List.getElem?_set_ne (by decide)]; exact p1
  · rw [List.getElem?_set_ne (by decide)]; exact b1
  · rw [List.getElem?_set_ne (Ne.symm h1)]; exact f a h1 h2 h3
theorem ft_sp {n x y : Int} (V : fd_T h0 h n ps bs) (hi : mj_ins m pc = some .iastore) (hx : 0 ≤ x ∧ x < 8) (hr : ∀ h, fd_T h0 h n (ps.set x.toNat (wp_i y)) bs → wp_R d m (pc + 1) lv st h Q) : wp_R d m pc lv (wp_i y :: wp_i x :: .ref 62 :: st) h Q := by
  obtain ⟨⟨fs, e1, e⟩, ⟨p1, p2⟩, ⟨b1, b2⟩, f⟩ := V
  refine wp_ias hi p1 (by decide) hx.1 (by omega) (by omega) (hr _ ⟨⟨fs, ?_, e⟩, ⟨List.getElem?_set_self (fd_lt p1), by rw [List.length_set]; exact p2⟩, ⟨?_, b2⟩, fun a h1 h2 h3 => ?_⟩)
  · rw [List.getElem?_set_ne (by decide)]; exact e1
  · rw [List.getElem?_set_ne (by decide)]; exact b1
  · rw [List.getElem?_set_ne (Ne.symm h2)]; exact f a h1 h2 h3
theorem ft_sb {n x y : Int} (V : fd_T h0 h n ps bs) (hi : mj_ins m pc = some .bastore) (hx : 0 ≤ x ∧ x < 8) (hy : y = 0 ∨ y = 1) (hr : ∀ h, fd_T h0 h n ps (bs.set x.toNat (wp_i y)) → wp_R d m (pc + 1) lv st h Q) : wp_R d m pc lv (wp_i y :: wp_i x :: .ref 63 :: st) h Q := by
  obtain ⟨⟨fs, e1, e⟩, ⟨p1, p2⟩, ⟨b1, b2⟩, f⟩ := V
  refine wp_bas hi b1 (by decide) hx.1 (by omega) (by omega) hy (hr _ ⟨⟨fs, ?_, e⟩, ⟨?_, p2⟩, ⟨List.getElem?_set_self (fd_lt b1), by rw [List.length_set]; exact b2⟩, fun a h1 h2 h3 => ?_⟩)
  · rw [List.getElem?_set_ne (by decide)]; exact e1
  · rw [List.getElem?_set_ne (by decide)]; exact p1
  · rw [List.getElem?_set_ne (Ne.symm h3)]; exact f a h1 h2 h3
theorem fa_g {x : Nat} {ty : FieldType} {w : Bool} {n : Int} (V : fd_A h0 h n vs) (hi : mj_ins m pc = some (.getfield x)) (hf : mj_fld m x = some (11, 0, ty, w)) (hr : wp_R d m (pc + 3) lv (.ref 139 :: st) h Q) : wp_R d m pc lv (.ref 138 :: st) h Q := by
  obtain ⟨⟨fs, e1, e2⟩, -⟩ := V
  exact wp_gf hi hf e1 e2 hr
theorem fa_l {n : Int} (V : fd_A h0 h n vs) (hi : mj_ins m pc = some .iaload) (hr : wp_R d m (pc + 1) lv (wp_i n :: st) h Q) : wp_R d m pc lv (wp_i 5 :: .ref 139 :: st) h Q := by
  obtain ⟨-, ⟨e1, e2, e3⟩, -⟩ := V
  exact wp_ial hi e1 (by decide) (by omega) (by omega) e3 hr
theorem fa_s {n x y : Int} (V : fd_A h0 h n vs) (hi : mj_ins m pc = some .iastore) (hx : 6 ≤ x ∧ x < 6044) (hr : ∀ h, fd_A h0 h n (vs.set x.toNat (wp_i y)) → wp_R d m (pc + 1) lv st h Q) : wp_R d m pc lv (wp_i y :: wp_i x :: .ref 139 :: st) h Q := by
  obtain ⟨⟨fs, f1, f2⟩, ⟨e1, e2, e3⟩, f⟩ := V
  refine wp_ias hi e1 (by decide) (by omega) (by omega) (by omega) (hr _ ⟨⟨fs, ?_, f2⟩, ⟨List.getElem?_set_self (fd_lt e1), by rw [List.length_set]; exact e2, ?_⟩, fun a h1 => ?_⟩)
  · rw [List.getElem?_set_ne (by decide)]; exact f1
  · rw [List.getElem?_set_ne (by omega)]; exact e3
  · rw [List.getElem?_set_ne (Ne.symm h1)]; exact f a h1
theorem fa_s5 {n y : Int} (V : fd_A h0 h n vs) (hi : mj_ins m pc = some .iastore) (hr : ∀ h, fd_A h0 h y (vs.set 5 (wp_i y)) → wp_R d m (pc + 1) lv st h Q) : wp_R d m pc lv (wp_i y :: wp_i 5 :: .ref 139 :: st) h Q := by
  obtain ⟨⟨fs, f1, f2⟩, ⟨e1, e2, e3⟩, f⟩ := V
  refine wp_ias hi e1 (by decide) (by decide) (by omega) (by omega) (hr _ ⟨⟨fs, ?_, f2⟩, ⟨List.getElem?_set_self (fd_lt e1), by rw [List.length_set]; exact e2, List.getElem?_set_self (by omega)⟩, fun a h1 => ?_⟩)
  · rw [List.getElem?_set_ne (by decide)]; exact f1
  · rw [List.getElem?_set_ne (Ne.symm h1)]; exact f a h1
end WPF
theorem ws_tell {d : Nat} {h0 h : mj_H} {n x b : Int} (hx : wp_r x) (hb : b = 0 ∨ b = 1) (hn : 0 ≤ n ∧ n ≤ 8) {ps bs : List Value} (V : fd_T h0 h n ps bs) : wp_R d 144 0 [some (.ref 61), some (wp_i x), some (wp_i b)] [] h (fun v h1 => v = some (wp_i (fd_a x n)) ∧ fd_T h0 h1 (fd_n x n) (fd_l x n x ps) (fd_l x n b bs)) := by
  refine wp_s (pc' := 1) ji_144_0 rfl rfl rfl ?_
  refine wp_s (pc' := 2) ji_144_1 rfl rfl rfl ?_
  refine wp_icmp (t := 12) ji_144_2 rfl (by omega) (by omega) (fun (hb1 : ¬ (x : Int) = (-1)) => ?_) (fun (hb1 : ¬ (¬ (x : Int) = (-1))) => ?_)
  · refine wp_s (pc' := 13) ji_144_12 rfl rfl rfl ?_
    refine wp_if (t := 31) ji_144_13 rfl (by omega) (fun (hb2 : (x : Int) < 0) => ?_) (fun (hb2 : ¬ ((x : Int) < 0)) => ?_)
    · refine wp_bp ji_144_31 rfl ?_
      obtain ⟨q1, q2, q3, q4⟩ := @fd_2 x n (by omega) (by omega)
      rw [q1, q2, q3, q3]
      exact wp_ri ji_144_33 jr_144 rfl ⟨rfl, V⟩
    · refine wp_s (pc' := 17) ji_144_16 rfl rfl rfl ?_
      refine wp_bp ji_144_17 rfl ?_
      refine wp_icmp (t := 31) ji_144_19 rfl (by omega) (by omega) (fun (hb3 : (99 : Int) < x) => ?_) (fun (hb3 : ¬ ((99 : Int) < x)) => ?_)
      · refine wp_bp ji_144_31 rfl ?_
        obtain ⟨q1, q2, q3, q4⟩ := @fd_2 x n (by omega) (by omega)
        rw [q1, q2, q3, q3]
        exact wp_ri ji_144_33 jr_144 rfl ⟨rfl, V⟩
      · refine wp_s (pc' := 23) ji_144_22 rfl rfl rfl ?_
        refine ft_g3 V ji_144_23 jf_144_22 ?_
        refine wp_bp ji_144_26 rfl ?_
        refine wp_icmp (t := 34) ji_144_28 rfl (by omega) (by omega) (fun (hb4 : ¬ (n : Int) = 8) => ?_) (fun (hb4 : ¬ (¬ (n : Int) = 8)) => ?_)
        · refine wp_s (pc' := 35) ji_144_34 rfl rfl rfl ?_
          refine ft_g0 V ji_144_35 jf_144_11 ?_
          refine wp_s (pc' := 39) ji_144_38 rfl rfl rfl ?_
          refine ft_g3 V ji_144_39 jf_144_22 ?_
          refine wp_s (pc' := 43) ji_144_42 rfl rfl rfl ?_
          refine ft_sp V ji_144_43 (by omega) (fun h V => ?_)
          refine wp_s (pc' := 45) ji_144_44 rfl rfl rfl ?_
          refine ft_g1 V ji_144_45 jf_144_15 ?_
          refine wp_s (pc' := 49) ji_144_48 rfl rfl rfl ?_
          refine ft_g3 V ji_144_49 jf_144_22 ?_
          refine wp_s (pc' := 53) ji_144_52 rfl rfl rfl ?_
          refine ft_sb V ji_144_53 (by omega) hb (fun h V => ?_)
          refine wp_s (pc' := 55) ji_144_54 rfl rfl rfl ?_
          refine wp_s (pc' := 56) ji_144_55 rfl rfl rfl ?_
          refine ft_g3 V ji_144_56 jf_144_22 ?_
          refine wp_s (pc' := 60) ji_144_59 rfl rfl rfl ?_
          refine wp_iadd (x := n) (y := 1) (z := n + 1) ji_144_60 (by omega) ?_
          refine ft_p3 V ji_144_61 jf_144_22 (fun h V => ?_)
          refine wp_s (pc' := 65) ji_144_64 rfl rfl rfl ?_
          refine ft_g3 V ji_144_65 jf_144_22 ?_
          obtain ⟨q1, q2, q3, q4⟩ := @fd_3 x n (by omega) (by omega)
          rw [q1, q2, q3, q3]
          exact wp_ri ji_144_68 jr_144 rfl ⟨rfl, V⟩
        · refine wp_bp ji_144_31 rfl ?_
          obtain ⟨q1, q2, q3, q4⟩ := @fd_2 x n (by omega) (by omega)
          rw [q1, q2, q3, q3]
          exact wp_ri ji_144_33 jr_144 rfl ⟨rfl, V⟩
  · refine wp_s (pc' := 6) ji_144_5 rfl rfl rfl ?_
    refine wp_s (pc' := 7) ji_144_6 rfl rfl rfl ?_
    refine ft_p3 V ji_144_7 jf_144_22 (fun h V => ?_)
    refine wp_s (pc' := 11) ji_144_10 rfl rfl rfl ?_
    obtain ⟨q1, q2, q3, q4⟩ := @fd_1 x n (by omega)
    rw [q1, q2, q3, q3]
    exact wp_ri ji_144_11 jr_144 rfl ⟨rfl, V⟩
theorem ws_found {d : Nat} {h0 h : mj_H} {n x b : Int} (hx : wp_r x) (hb : b = 0 ∨ b = 1) (hn : 0 ≤ n ∧ n ≤ 8) {vs : List Value} (V : fd_A h0 h n vs) : wp_R (d + 1) 300 0 [some (.ref 138), some (wp_i x), some (wp_i b)] [] h (fun v h1 => v = some (wp_i (fd_a x n)) ∧ fd_A h0 h1 (fd_n x n) (fd_w x n b vs)) := by
  refine wp_s (pc' := 1) ji_300_0 rfl rfl rfl ?_
  refine wp_s (pc' := 2) ji_300_1 rfl rfl rfl ?_
  refine wp_icmp (t := 14) ji_300_2 rfl (by omega) (by omega) (fun (hb1 : ¬ (x : Int) = (-1)) => ?_) (fun (hb1 : ¬ (¬ (x : Int) = (-1))) => ?_)
  · refine wp_s (pc' := 15) ji_300_14 rfl rfl rfl ?_
    refine wp_s (pc' := 16) ji_300_15 rfl rfl rfl ?_
    refine wp_bp ji_300_16 rfl ?_
    refine wp_sc (as := [wp_i x, wp_i 0, wp_i 99]) (rest := []) ji_300_18 jc_300_66 (Nat.le_of_ble_eq_true rfl) rfl (Nat.le_of_ble_eq_true rfl) rfl (by rw [jn_171]; rfl) (ws_isIn (x := x) (lo := 0) (hi := 99) (by omega) (by omega) (by omega)) (fun v h R => ?_)
    obtain ⟨rfl, rfl⟩ := R
    obtain ⟨y, hy⟩ : ∃ y : Int, y = (if 0 ≤ x ∧ x ≤ 99 then 1 else 0) := ⟨_, rfl⟩
    rw [← hy]
    show wp_R (d + 1) 300 21 [some (.ref 138), some (wp_i x), some (wp_i b)] [wp_i y] _ _
    have hy2 : (y = 0 ∧ ¬ (0 ≤ x ∧ x ≤ 99)) ∨ (y = 1 ∧ 0 ≤ x ∧ x ≤ 99) := by rw [hy]; split <;> omega
    refine wp_if (t := 35) ji_300_21 rfl (by omega) (fun (hb2 : (y : Int) = 0) => ?_) (fun (hb2 : ¬ ((y : Int) = 0)) => ?_)
    · refine wp_bp ji_300_35 rfl ?_
      obtain ⟨q1, q2, q3, q4⟩ := @fd_2 x n (by omega) (by omega)
      rw [q1, q2, q4]
      exact wp_ri ji_300_37 jr_300 rfl ⟨rfl, V⟩
    · refine wp_s (pc' := 25) ji_300_24 rfl rfl rfl ?_
      refine fa_g V ji_300_25 jf_300_7 ?_
      refine wp_s (pc' := 29) ji_300_28 rfl rfl rfl ?_
      refine fa_l V ji_300_29 ?_
      refine wp_bp ji_300_30 rfl ?_
      refine wp_icmp (t := 38) ji_300_32 rfl (by omega) (by omega) (fun (hb3 : ¬ (n : Int) = 8) => ?_) (fun (hb3 : ¬ (¬ (n : Int) = 8)) => ?_)
      · refine wp_s (pc' := 39) ji_300_38 rfl rfl rfl ?_
        refine fa_g V ji_300_39 jf_300_7 ?_
        refine wp_sp ji_300_42 rfl ?_
        refine wp_s (pc' := 46) ji_300_45 rfl rfl rfl ?_
        refine wp_s (pc' := 47) ji_300_46 rfl rfl rfl ?_
        refine fa_g V ji_300_47 jf_300_7 ?_
        refine wp_s (pc' := 51) ji_300_50 rfl rfl rfl ?_
        refine fa_l V ji_300_51 ?_
        refine wp_imul (x := 2) (y := n) (z := 2 * n) ji_300_52 (by omega) ?_
        refine wp_iadd (x := 148) (y := 2 * n) (z := 148 + (2 * n)) ji_300_53 (by omega) ?_
        refine wp_s (pc' := 55) ji_300_54 rfl rfl rfl ?_
        refine fa_s V ji_300_55 (by omega) (fun h V => ?_)
        refine wp_s (pc' := 57) ji_300_56 rfl rfl rfl ?_
        refine fa_g V ji_300_57 jf_300_7 ?_
        refine wp_sp ji_300_60 rfl ?_
        refine wp_s (pc' := 64) ji_300_63 rfl rfl rfl ?_
        refine wp_s (pc' := 65) ji_300_64 rfl rfl rfl ?_
        refine fa_g V ji_300_65 jf_300_7 ?_
        refine wp_s (pc' := 69) ji_300_68 rfl rfl rfl ?_
        refine fa_l V ji_300_69 ?_
        refine wp_imul (x := 2) (y := n) (z := 2 * n) ji_300_70 (by omega) ?_
        refine wp_iadd (x := 148) (y := 2 * n) (z := 148 + (2 * n)) ji_300_71 (by omega) ?_
        refine wp_s (pc' := 73) ji_300_72 rfl rfl rfl ?_
        refine wp_iadd (x := 148 + (2 * n)) (y := 1) (z := 148 + (2 * n) + 1) ji_300_73 (by omega) ?_
        refine wp_s (pc' := 75) ji_300_74 rfl rfl rfl ?_
        refine wp_if (t := 82) ji_300_75 rfl (by omega) (fun (hb4 : (b : Int) = 0) => ?_) (fun (hb4 : ¬ ((b : Int) = 0)) => ?_)
        · refine wp_s (pc' := 83) ji_300_82 rfl rfl rfl ?_
          refine fa_s V ji_300_83 (by omega) (fun h V => ?_)
          refine wp_s (pc' := 85) ji_300_84 rfl rfl rfl ?_
          refine fa_g V ji_300_85 jf_300_7 ?_
          refine wp_s (pc' := 89) ji_300_88 rfl rfl rfl ?_
          refine wp_s (pc' := 90) ji_300_89 rfl rfl rfl ?_
          refine fa_l V ji_300_90 ?_
          refine wp_s (pc' := 92) ji_300_91 rfl rfl rfl ?_
          refine wp_iadd (x := n) (y := 1) (z := n + 1) ji_300_92 (by omega) ?_
          refine fa_s5 V ji_300_93 (fun h V => ?_)
          refine wp_s (pc' := 95) ji_300_94 rfl rfl rfl ?_
          refine fa_g V ji_300_95 jf_300_7 ?_
          refine wp_s (pc' := 99) ji_300_98 rfl rfl rfl ?_
          refine fa_l V ji_300_99 ?_
          obtain ⟨q1, q2, q3, q4⟩ := @fd_3 x n (by omega) (by omega)
          rw [q1, q2, q4, show b = 0 by omega]
          exact wp_ri ji_300_100 jr_300 rfl ⟨rfl, V⟩
        · refine wp_s (pc' := 79) ji_300_78 rfl rfl rfl ?_
          refine wp_goto (t := 83) ji_300_79 rfl ?_
          refine fa_s V ji_300_83 (by omega) (fun h V => ?_)
          refine wp_s (pc' := 85) ji_300_84 rfl rfl rfl ?_
          refine fa_g V ji_300_85 jf_300_7 ?_
          refine wp_s (pc' := 89) ji_300_88 rfl rfl rfl ?_
          refine wp_s (pc' := 90) ji_300_89 rfl rfl rfl ?_
          refine fa_l V ji_300_90 ?_
          refine wp_s (pc' := 92) ji_300_91 rfl rfl rfl ?_
          refine wp_iadd (x := n) (y := 1) (z := n + 1) ji_300_92 (by omega) ?_
          refine fa_s5 V ji_300_93 (fun h V => ?_)
          refine wp_s (pc' := 95) ji_300_94 rfl rfl rfl ?_
          refine fa_g V ji_300_95 jf_300_7 ?_
          refine wp_s (pc' := 99) ji_300_98 rfl rfl rfl ?_
          refine fa_l V ji_300_99 ?_
          obtain ⟨q1, q2, q3, q4⟩ := @fd_3 x n (by omega) (by omega)
          rw [q1, q2, q4, show b = 1 by omega]
          exact wp_ri ji_300_100 jr_300 rfl ⟨rfl, V⟩
      · refine wp_bp ji_300_35 rfl ?_
        obtain ⟨q1, q2, q3, q4⟩ := @fd_2 x n (by omega) (by omega)
        rw [q1, q2, q4]
        exact wp_ri ji_300_37 jr_300 rfl ⟨rfl, V⟩
  · refine wp_s (pc' := 6) ji_300_5 rfl rfl rfl ?_
    refine fa_g V ji_300_6 jf_300_7 ?_
    refine wp_s (pc' := 10) ji_300_9 rfl rfl rfl ?_
    refine wp_s (pc' := 11) ji_300_10 rfl rfl rfl ?_
    refine fa_s5 V ji_300_11 (fun h V => ?_)
    refine wp_s (pc' := 13) ji_300_12 rfl rfl rfl ?_
    obtain ⟨q1, q2, q3, q4⟩ := @fd_1 x n (by omega)
    rw [q1, q2, q4]
    exact wp_ri ji_300_13 jr_300 rfl ⟨rfl, V⟩
