/-! -/
set_option maxRecDepth 100000 in
theorem ji_294_39 : mj_ins 294 39 = some (.iload 5) := by decide +kernel
set_option maxRecDepth 100000 in
theorem ji_294_41 : mj_ins 294 41 = some (.aload_n 0) := by decide +kernel
set_option maxRecDepth 100000 in
theorem ji_294_42 : mj_ins 294 42 = some (.getfield 7) := by decide +kernel
set_option maxRecDepth 100000 in
theorem jf_294_7 : mj_fld 294 7 = some (11, 0, (.array .int), false) := by decide +kernel
set_option maxRecDepth 100000 in
theorem ji_294_45 : mj_ins 294 45 = some (.iconst 1) := by decide +kernel
set_option maxRecDepth 100000 in
theorem ji_294_46 : mj_ins 294 46 = some (.iaload) := by decide +kernel
set_option maxRecDepth 100000 in
theorem ji_294_47 : mj_ins 294 47 = some (.if_icmp .ge 57) := by decide +kernel
set_option maxRecDepth 100000 in
theorem ji_294_50 : mj_ins 294 50 = some (.iload 4) := by decide +kernel
set_option maxRecDepth 100000 in
theorem ji_294_52 : mj_ins 294 52 = some (.istore 6) := by decide +kernel
set_option maxRecDepth 100000 in
theorem ji_294_54 : mj_ins 294 54 = some (.iload 4) := by decide +kernel
set_option maxRecDepth 100000 in
theorem ji_294_56 : mj_ins 294 56 = some (.aload_n 0) := by decide +kernel
set_option maxRecDepth 100000 in
theorem ji_294_57 : mj_ins 294 57 = some (.aload_n 0) := by decide +kernel
set_option maxRecDepth 100000 in
theorem ji_294_58 : mj_ins 294 58 = some (.getfield 50) := by decide +kernel
set_option maxRecDepth 100000 in
theorem jf_294_50 : mj_fld 294 50 = some (11, 27, (.array .int), false) := by decide +kernel
set_option maxRecDepth 100000 in
theorem ji_294_61 : mj_ins 294 61 = some (.iload 5) := by decide +kernel
set_option maxRecDepth 100000 in
theorem ji_294_63 : mj_ins 294 63 = some (.iaload) := by decide +kernel
set_option maxRecDepth 100000 in
theorem ji_294_64 : mj_ins 294 64 = some (.invokevirtual 286) := by decide +kernel
set_option maxRecDepth 100000 in
theorem jc_294_286 : mj_cal 294 286 = some (2, 227, 1) := by decide +kernel
set_option maxRecDepth 100000 in
theorem jk_227 : mj_cls 227 = 11 := by decide +kernel
set_option maxRecDepth 100000 in
theorem jn_227 : mj_nl 227 = 2 := by decide +kernel
set_option maxRecDepth 100000 in
theorem ji_294_67 : mj_ins 294 67 = some (.iadd) := by decide +kernel
set_option maxRecDepth 100000 in
theorem ji_294_68 : mj_ins 294 68 = some (.istore 4) := by decide +kernel
set_option maxRecDepth 100000 in
theorem ji_294_70 : mj_ins 294 70 = some (.iload 6) := by decide +kernel
set_option maxRecDepth 100000 in
theorem ji_294_72 : mj_ins 294 72 = some (.iload_n 1) := by decide +kernel
set_option maxRecDepth 100000 in
theorem ji_294_73 : mj_ins 294 73 = some (.if_icmp .ge 25) := by decide +kernel
set_option maxRecDepth 100000 in
theorem ji_294_98 : mj_ins 294 98 = some (.iinc 5 1) := by decide +kernel
set_option maxRecDepth 100000 in
theorem ji_294_101 : mj_ins 294 101 = some (.goto (-62)) := by decide +kernel
set_option maxRecDepth 100000 in
theorem ji_294_76 : mj_ins 294 76 = some (.iload 4) := by decide +kernel
set_option maxRecDepth 100000 in
theorem ji_294_78 : mj_ins 294 78 = some (.iload_n 1) := by decide +kernel
set_option maxRecDepth 100000 in
theorem ji_294_79 : mj_ins 294 79 = some (.if_icmp .lt 19) := by decide +kernel
set_option maxRecDepth 100000 in
theorem ji_294_82 : mj_ins 294 82 = some (.aload_n 0) := by decide +kernel
set_option maxRecDepth 100000 in
theorem ji_294_83 : mj_ins 294 83 = some (.getfield 53) := by decide +kernel
set_option maxRecDepth 100000 in
theorem jf_294_53 : mj_fld 294 53 = some (11, 28, (.array .int), false) := by decide +kernel
set_option maxRecDepth 100000 in
theorem ji_294_86 : mj_ins 294 86 = some (.aload_n 0) := by decide +kernel
set_option maxRecDepth 100000 in
theorem ji_294_87 : mj_ins 294 87 = some (.getfield 50) := by decide +kernel
set_option maxRecDepth 100000 in
theorem ji_294_90 : mj_ins 294 90 = some (.iload 5) := by decide +kernel
set_option maxRecDepth 100000 in
theorem ji_294_92 : mj_ins 294 92 = some (.iaload) := by decide +kernel
set_option maxRecDepth 100000 in
theorem ji_294_93 : mj_ins 294 93 = some (.dup2) := by decide +kernel
set_option maxRecDepth 100000 in
theorem ji_294_94 : mj_ins 294 94 = some (.iaload) := by decide +kernel
set_option maxRecDepth 100000 in
theorem ji_294_95 : mj_ins 294 95 = some (.iconst 1) := by decide +kernel
set_option maxRecDepth 100000 in
theorem ji_294_96 : mj_ins 294 96 = some (.iadd) := by decide +kernel
set_option maxRecDepth 100000 in
theorem ji_294_97 : mj_ins 294 97 = some (.iastore) := by decide +kernel
set_option maxRecDepth 100000 in
theorem ji_294_104 : mj_ins 294 104 = some (.iinc 2 1) := by decide +kernel
set_option maxRecDepth 100000 in
theorem ji_294_107 : mj_ins 294 107 = some (.aload_n 0) := by decide +kernel
set_option maxRecDepth 100000 in
theorem ji_294_108 : mj_ins 294 108 = some (.invokevirtual 443) := by decide +kernel
set_option maxRecDepth 100000 in
theorem jc_294_443 : mj_cal 294 443 = some (2, 296, 0) := by decide +kernel
set_option maxRecDepth 100000 in
theorem jk_296 : mj_cls 296 = 11 := by decide +kernel
set_option maxRecDepth 100000 in
theorem jn_296 : mj_nl 296 = 6 := by decide +kernel
set_option maxRecDepth 100000 in
theorem ji_294_111 : mj_ins 294 111 = some (.istore_n 3) := by decide +kernel
set_option maxRecDepth 100000 in
theorem ji_294_112 : mj_ins 294 112 = some (.goto (-83)) := by decide +kernel
set_option maxRecDepth 100000 in
theorem ji_294_29 : mj_ins 294 29 = some (.iload_n 3) := by decide +kernel
set_option maxRecDepth 100000 in
theorem ji_294_30 : mj_ins 294 30 = some (.ifCond .eq 85) := by decide +kernel
set_option maxRecDepth 100000 in
theorem ji_294_115 : mj_ins 294 115 = some (.iload_n 2) := by decide +kernel
set_option maxRecDepth 100000 in
theorem ji_294_116 : mj_ins 294 116 = some (.ireturn) := by decide +kernel
set_option maxRecDepth 100000 in
theorem jr_294 : mj_ret 294 = some .int := by decide +kernel
set_option maxRecDepth 100000 in
theorem ji_294_33 : mj_ins 294 33 = some (.iconst 0) := by decide +kernel
set_option maxRecDepth 100000 in
theorem ji_294_34 : mj_ins 294 34 = some (.istore 4) := by decide +kernel
set_option maxRecDepth 100000 in
theorem ji_294_36 : mj_ins 294 36 = some (.iconst 0) := by decide +kernel
set_option maxRecDepth 100000 in
theorem ji_294_37 : mj_ins 294 37 = some (.istore 5) := by decide +kernel
set_option maxRecDepth 100000 in
theorem ji_294_0 : mj_ins 294 0 = some (.iconst 0) := by decide +kernel
set_option maxRecDepth 100000 in
theorem ji_294_1 : mj_ins 294 1 = some (.istore_n 2) := by decide +kernel
set_option maxRecDepth 100000 in
theorem ji_294_2 : mj_ins 294 2 = some (.iload_n 2) := by decide +kernel
set_option maxRecDepth 100000 in
theorem ji_294_3 : mj_ins 294 3 = some (.bipush 6) := by decide +kernel
set_option maxRecDepth 100000 in
theorem ji_294_5 : mj_ins 294 5 = some (.if_icmp .ge 16) := by decide +kernel
set_option maxRecDepth 100000 in
theorem ji_294_8 : mj_ins 294 8 = some (.aload_n 0) := by decide +kernel
set_option maxRecDepth 100000 in
theorem ji_294_9 : mj_ins 294 9 = some (.getfield 53) := by decide +kernel
set_option maxRecDepth 100000 in
theorem ji_294_12 : mj_ins 294 12 = some (.iload_n 2) := by decide +kernel
set_option maxRecDepth 100000 in
theorem ji_294_13 : mj_ins 294 13 = some (.iconst 0) := by decide +kernel
set_option maxRecDepth 100000 in
theorem ji_294_14 : mj_ins 294 14 = some (.iastore) := by decide +kernel
set_option maxRecDepth 100000 in
theorem ji_294_15 : mj_ins 294 15 = some (.iinc 2 1) := by decide +kernel
set_option maxRecDepth 100000 in
theorem ji_294_18 : mj_ins 294 18 = some (.goto (-16)) := by decide +kernel
set_option maxRecDepth 100000 in
theorem ji_294_21 : mj_ins 294 21 = some (.iconst 0) := by decide +kernel
set_option maxRecDepth 100000 in
theorem ji_294_22 : mj_ins 294 22 = some (.istore_n 2) := by decide +kernel
set_option maxRecDepth 100000 in
theorem ji_294_23 : mj_ins 294 23 = some (.aload_n 0) := by decide +kernel
set_option maxRecDepth 100000 in
theorem ji_294_24 : mj_ins 294 24 = some (.invokevirtual 440) := by decide +kernel
set_option maxRecDepth 100000 in
theorem jc_294_440 : mj_cal 294 440 = some (2, 295, 0) := by decide +kernel
set_option maxRecDepth 100000 in
theorem jk_295 : mj_cls 295 = 11 := by decide +kernel
set_option maxRecDepth 100000 in
theorem jn_295 : mj_nl 295 = 2 := by decide +kernel
set_option maxRecDepth 100000 in
theorem ji_294_27 : mj_ins 294 27 = some (.iconst 1) := by decide +kernel
set_option maxRecDepth 100000 in
theorem ji_294_28 : mj_ins 294 28 = some (.istore_n 3) := by decide +kernel
set_option maxRecDepth 100000 in
theorem jn_294 : mj_nl 294 = 7 := by decide +kernel
set_option maxRecDepth 100000 in
theorem ji_308_27 : mj_ins 308 27 = some (.iload 6) := by decide +kernel
set_option maxRecDepth 100000 in
theorem ji_308_29 : mj_ins 308 29 = some (.bipush 6) := by decide +kernel
set_option maxRecDepth 100000 in
theorem ji_308_31 : mj_ins 308 31 = some (.if_icmp .ge 28) := by decide +kernel
set_option maxRecDepth 100000 in
theorem ji_308_34 : mj_ins 308 34 = some (.iload 4) := by decide +kernel
set_option maxRecDepth 100000 in
theorem ji_308_36 : mj_ins 308 36 = some (.ifCond .ne 23) := by decide +kernel
set_option maxRecDepth 100000 in
theorem ji_308_39 : mj_ins 308 39 = some (.aload_n 0) := by decide +kernel
set_option maxRecDepth 100000 in
theorem ji_308_40 : mj_ins 308 40 = some (.getfield 59) := by decide +kernel
set_option maxRecDepth 100000 in
theorem pfr_30 : sx_fd sx_y63.2.2 30 = some (2, 72, 0) := by decide +kernel
set_option maxRecDepth 100000 in
theorem jf_308_59 : mj_fld 308 59 = some (11, 30, (.array .int), false) := by decide +kernel
set_option maxRecDepth 100000 in
theorem ji_308_43 : mj_ins 308 43 = some (.iload 6) := by decide +kernel
set_option maxRecDepth 100000 in
theorem ji_308_45 : mj_ins 308 45 = some (.aload_n 0) := by decide +kernel
set_option maxRecDepth 100000 in
theorem ji_308_46 : mj_ins 308 46 = some (.getfield 50) := by decide +kernel
set_option maxRecDepth 100000 in
theorem jf_308_50 : mj_fld 308 50 = some (11, 27, (.array .int), false) := by decide +kernel
set_option maxRecDepth 100000 in
theorem ji_308_49 : mj_ins 308 49 = some (.iload 6) := by decide +kernel
set_option maxRecDepth 100000 in
theorem ji_308_51 : mj_ins 308 51 = some (.iaload) := by decide +kernel
set_option maxRecDepth 100000 in
theorem ji_308_52 : mj_ins 308 52 = some (.iastore) := by decide +kernel
set_option maxRecDepth 100000 in
theorem ji_308_53 : mj_ins 308 53 = some (.iinc 6 1) := by decide +kernel
set_option maxRecDepth 100000 in
theorem ji_308_56 : mj_ins 308 56 = some (.goto (-29)) := by decide +kernel
set_option maxRecDepth 100000 in
theorem ji_308_59 : mj_ins 308 59 = some (.iinc 4 1) := by decide +kernel
set_option maxRecDepth 100000 in
theorem ji_308_62 : mj_ins 308 62 = some (.iload_n 3) := by decide +kernel
set_option maxRecDepth 100000 in
theorem ji_308_63 : mj_ins 308 63 = some (.iload_n 1) := by decide +kernel
set_option maxRecDepth 100000 in
theorem ji_308_64 : mj_ins 308 64 = some (.iconst (-1)) := by decide +kernel
set_option maxRecDepth 100000 in
theorem ji_308_65 : mj_ins 308 65 = some (.if_icmp .eq 16) := by decide +kernel
set_option maxRecDepth 100000 in
theorem ji_308_81 : mj_ins 308 81 = some (.iconst 1) := by decide +kernel
set_option maxRecDepth 100000 in
theorem ji_308_82 : mj_ins 308 82 = some (.goto 4) := by decide +kernel
set_option maxRecDepth 100000 in
theorem ji_308_86 : mj_ins 308 86 = some (.iadd) := by decide +kernel
set_option maxRecDepth 100000 in
theorem ji_308_87 : mj_ins 308 87 = some (.istore_n 3) := by decide +kernel
set_option maxRecDepth 100000 in
theorem ji_308_88 : mj_ins 308 88 = some (.aload_n 0) := by decide +kernel
set_option maxRecDepth 100000 in
theorem ji_308_89 : mj_ins 308 89 = some (.invokevirtual 443) := by decide +kernel
set_option maxRecDepth 100000 in
theorem jc_308_443 : mj_cal 308 443 = some (2, 296, 0) := by decide +kernel
set_option maxRecDepth 100000 in
theorem ji_308_92 : mj_ins 308 92 = some (.istore 5) := by decide +kernel
set_option maxRecDepth 100000 in
theorem ji_308_94 : mj_ins 308 94 = some (.goto (-82)) := by decide +kernel
set_option maxRecDepth 100000 in
theorem ji_308_12 : mj_ins 308 12 = some (.iload 5) := by decide +kernel
set_option maxRecDepth 100000 in
theorem ji_308_14 : mj_ins 308 14 = some (.ifCond .eq 83) := by decide +kernel
set_option maxRecDepth 100000 in
theorem ji_308_97 : mj_ins 308 97 = some (.iload_n 3) := by decide +kernel
set_option maxRecDepth 100000 in
theorem ji_308_98 : mj_ins 308 98 = some (.ireturn) := by decide +kernel
set_option maxRecDepth 100000 in
theorem jr_308 : mj_ret 308 = some .int := by decide +kernel
set_option maxRecDepth 100000 in
theorem ji_308_68 : mj_ins 308 68 = some (.aload_n 0) := by decide +kernel
set_option maxRecDepth 100000 in
theorem ji_308_69 : mj_ins 308 69 = some (.iload_n 1) := by decide +kernel
set_option maxRecDepth 100000 in
theorem ji_308_70 : mj_ins 308 70 = some (.invokevirtual 461) := by decide +kernel
set_option maxRecDepth 100000 in
theorem jc_308_461 : mj_cal 308 461 = some (2, 310, 1) := by decide +kernel
set_option maxRecDepth 100000 in
theorem ji_308_73 : mj_ins 308 73 = some (.aload_n 0) := by decide +kernel
set_option maxRecDepth 100000 in
theorem ji_308_74 : mj_ins 308 74 = some (.iload_n 2) := by decide +kernel
set_option maxRecDepth 100000 in
theorem ji_308_75 : mj_ins 308 75 = some (.invokevirtual 461) := by decide +kernel
set_option maxRecDepth 100000 in
theorem ji_308_78 : mj_ins 308 78 = some (.if_icmp .ge 7) := by decide +kernel
set_option maxRecDepth 100000 in
theorem ji_308_85 : mj_ins 308 85 = some (.iconst 0) := by decide +kernel
set_option maxRecDepth 100000 in
theorem ji_308_17 : mj_ins 308 17 = some (.aload_n 0) := by decide +kernel
set_option maxRecDepth 100000 in
theorem ji_308_18 : mj_ins 308 18 = some (.invokevirtual 464) := by decide +kernel
set_option maxRecDepth 100000 in
theorem jc_308_464 : mj_cal 308 464 = some (2, 309, 0) := by decide +kernel
set_option maxRecDepth 100000 in
theorem jk_309 : mj_cls 309 = 11 := by decide +kernel
set_option maxRecDepth 100000 in
theorem jn_309 : mj_nl 309 = 2 := by decide +kernel
set_option maxRecDepth 100000 in
theorem ji_308_21 : mj_ins 308 21 = some (.ifCond .eq 67) := by decide +kernel
set_option maxRecDepth 100000 in
theorem ji_308_24 : mj_ins 308 24 = some (.iconst 0) := by decide +kernel
set_option maxRecDepth 100000 in
theorem ji_308_25 : mj_ins 308 25 = some (.istore 6) := by decide +kernel
/-! the reference's weigh and ordersOf; laid by program (wp_wei.py) -/
theorem wg39 {d : Nat} {M : List Nat} (hMX : 10070 ∈ M) {h0 : mj_H} {a R X A PN : Nat} {rl : List Value} {q : List Int} {q0 all : Int} (hq0 : 1 ≤ q0 ∧ q0 ≤ 99) (hall : 0 ≤ all ∧ all ≤ 719) (hr : rr rl q) {Q : Option Value → mj_H → Prop} (hQ : ∀ (h : mj_H) (tl : List Value) (sum k : Int) (x6 : Option Value), rv M h0 h a R X A (PN : Int) rl tl → (∀ w, w < 6 → sx_el tl w ≤ all + 1) → wp_R (d + 1) 294 104 [some (.ref a), some (wp_i q0), some (wp_i all), some (wp_i 1), some (wp_i sum), some (wp_i k), x6] [] h Q) : ∀ (n k : Nat) (h : mj_H) (tl : List Value) (sum : Int) (x6 : Option Value), rv M h0 h a R X A (PN : Int) rl tl → k + n = 7 → k ≤ 6 → (0 ≤ sum ∧ sum ≤ 9 * k) → ((sum < q0 ∧ ∀ w, w < 6 → sx_el tl w ≤ all) ∨ (q0 ≤ sum ∧ ∀ w, w < 6 → sx_el tl w ≤ all + 1)) → wp_R (d + 1) 294 39 [some (.ref a), some (wp_i q0), some (wp_i all), some (wp_i 1), some (wp_i sum), some (wp_i ((k : Int))), x6] [] h Q := by
  intro n
  induction n with
  | zero => intro k h tl sum x6 V h1 h2; omega
  | succ n ih =>
    intro k h tl sum x6 V hn hk hs hB
    have hP : (0 : Int) ≤ (PN : Int) ∧ (PN : Int) ≤ 6 := V.2.2.2.2.2.2.2.1
    have hlt := (rv_len V).2
    by_cases hk6 : k = 6
    · subst hk6
      refine wp_s (pc' := 41) ji_294_39 rfl rfl rfl ?_
      refine wp_s (pc' := 42) ji_294_41 rfl rfl rfl ?_
      refine rv_gA V ji_294_42 jf_294_7 ?_
      refine wp_s (pc' := 46) ji_294_45 rfl rfl rfl ?_
      refine rv_P V ji_294_46 ?_
      refine wp_icmp (t := 104) ji_294_47 rfl (by omega) (by omega) (fun (hb3 : ((PN : Int) : Int) ≤ (((6 : Nat) : Int))) => ?_) (fun (hb3 : ¬ (((PN : Int) : Int) ≤ (((6 : Nat) : Int)))) => (by exfalso; omega))
      refine hQ h tl sum ((6 : Nat) : Int) x6 V (fun w hw => ?_)
      rcases hB with q1 | q1
      · have := q1.2 w hw
        omega
      · exact q1.2 w hw
    · have qb := rv_qb V hr (j := k) (by omega)
      refine wp_s (pc' := 41) ji_294_39 rfl rfl rfl ?_
      refine wp_s (pc' := 42) ji_294_41 rfl rfl rfl ?_
      refine rv_gA V ji_294_42 jf_294_7 ?_
      refine wp_s (pc' := 46) ji_294_45 rfl rfl rfl ?_
      refine rv_P V ji_294_46 ?_
      refine wp_icmp (t := 104) ji_294_47 rfl (by omega) (by omega) (fun (hb3 : ((PN : Int) : Int) ≤ ((k : Int))) => ?_) (fun (hb3 : ¬ (((PN : Int) : Int) ≤ ((k : Int)))) => ?_)
      · refine hQ h tl sum (k : Int) x6 V (fun w hw => ?_)
        rcases hB with q1 | q1
        · have := q1.2 w hw
          omega
        · exact q1.2 w hw
      · refine wp_s (pc' := 52) ji_294_50 rfl rfl rfl ?_
        refine wp_s (pc' := 54) (lv' := [some (.ref a), some (wp_i q0), some (wp_i all), some (wp_i 1), some (wp_i sum), some (wp_i ((k : Int))), some (wp_i sum)]) ji_294_52 rfl rfl rfl ?_
        refine wp_s (pc' := 56) ji_294_54 rfl rfl rfl ?_
        refine wp_s (pc' := 57) ji_294_56 rfl rfl rfl ?_
        refine wp_s (pc' := 58) ji_294_57 rfl rfl rfl ?_
        refine rv_gR V ji_294_58 jf_294_50 ?_
        refine wp_s (pc' := 63) ji_294_61 rfl rfl rfl ?_
        refine rv_lr V (x := (k : Int)) (y := q.getD k 0) ji_294_63 (by omega) (by omega) (hr.2 k (by omega)) (fun l4 u5 => ?_)
        refine rv_vc V ji_294_64 jc_294_286 jk_227 (rest := [wp_i sum]) rfl (Nat.le_of_ble_eq_true rfl) rfl (by rw [jn_227]; rfl) (ws_hands V qb) (fun v h R => ?_)
        obtain ⟨rfl, y, rfl, y0, y9⟩ := R
        show wp_R (d + 1) 294 67 [some (.ref a), some (wp_i q0), some (wp_i all), some (wp_i 1), some (wp_i sum), some (wp_i ((k : Int))), some (wp_i sum)] [wp_i y, wp_i sum] h _
        refine wp_iadd (x := sum) (y := y) (z := sum + y) ji_294_67 (by omega) ?_
        refine wp_s (pc' := 70) (lv' := [some (.ref a), some (wp_i q0), some (wp_i all), some (wp_i 1), some (wp_i (sum + y)), some (wp_i ((k : Int))), some (wp_i sum)]) ji_294_68 rfl rfl rfl ?_
        refine wp_s (pc' := 72) ji_294_70 rfl rfl rfl ?_
        refine wp_s (pc' := 73) ji_294_72 rfl rfl rfl ?_
        refine wp_icmp (t := 98) ji_294_73 rfl (by omega) (by omega) (fun (hb6 : (q0 : Int) ≤ sum) => ?_) (fun (hb6 : ¬ ((q0 : Int) ≤ sum)) => ?_)
        · refine wp_iinc (x := (k : Int)) (z := ((k + 1 : Nat) : Int)) (lv' := [some (.ref a), some (wp_i q0), some (wp_i all), some (wp_i 1), some (wp_i (sum + y)), some (wp_i (((k + 1 : Nat) : Int))), some (wp_i sum)]) ji_294_98 rfl (Nat.le_of_ble_eq_true rfl) (by omega) rfl ?_
          refine wp_goto (t := 39) ji_294_101 rfl ?_
          exact ih (k + 1) h _ _ _ V (by omega) (by omega) (by omega) (Or.inr ⟨by omega, (hB.resolve_left (by omega)).2⟩)
        · refine wp_s (pc' := 78) ji_294_76 rfl rfl rfl ?_
          refine wp_s (pc' := 79) ji_294_78 rfl rfl rfl ?_
          refine wp_icmp (t := 98) ji_294_79 rfl (by omega) (by omega) (fun (hb7 : (sum + y : Int) < q0) => ?_) (fun (hb7 : ¬ ((sum + y : Int) < q0)) => ?_)
          · refine wp_iinc (x := (k : Int)) (z := ((k + 1 : Nat) : Int)) (lv' := [some (.ref a), some (wp_i q0), some (wp_i all), some (wp_i 1), some (wp_i (sum + y)), some (wp_i (((k + 1 : Nat) : Int))), some (wp_i sum)]) ji_294_98 rfl (Nat.le_of_ble_eq_true rfl) (by omega) rfl ?_
            refine wp_goto (t := 39) ji_294_101 rfl ?_
            exact ih (k + 1) h _ _ _ V (by omega) (by omega) (by omega) (Or.inl ⟨by omega, (hB.resolve_right (by omega)).2⟩)
          · refine wp_s (pc' := 83) ji_294_82 rfl rfl rfl ?_
            refine rv_gX V ji_294_83 jf_294_53 ?_
            refine wp_s (pc' := 87) ji_294_86 rfl rfl rfl ?_
            refine rv_gR V ji_294_87 jf_294_50 ?_
            refine wp_s (pc' := 92) ji_294_90 rfl rfl rfl ?_
            refine rv_lr V (x := (k : Int)) (y := q.getD k 0) ji_294_92 (by omega) (by omega) (hr.2 k (by omega)) (fun l8 u9 => ?_)
            refine wp_s (pc' := 94) ji_294_93 rfl rfl rfl ?_
            have htb := (hB.resolve_right (by omega)).2 (q.getD k 0).toNat (by omega)
            refine rv_lx V (x := q.getD k 0) (y := sx_el tl (q.getD k 0).toNat) ji_294_94 (by omega) (by omega) rfl (fun l10 u11 => ?_)
            refine wp_s (pc' := 96) ji_294_95 rfl rfl rfl ?_
            refine wp_iadd (x := sx_el tl (q.getD k 0).toNat) (y := 1) (z := sx_el tl (q.getD k 0).toNat + 1) ji_294_96 (by omega) ?_
            refine rv_sx hMX V (x := q.getD k 0) (y := sx_el tl (q.getD k 0).toNat + 1) ji_294_97 (by omega) (by omega) (by omega) (fun h V => ?_)
            have hB2 : ∀ w, w < 6 → sx_el (tl.set (q.getD k 0).toNat (wp_i (sx_el tl (q.getD k 0).toNat + 1))) w ≤ all + 1 := by
              intro w hw
              rw [pv_el_set (by omega) (by omega)]
              split
              · omega
              · have := (hB.resolve_right (by omega)).2 w hw
                omega
            refine wp_iinc (x := (k : Int)) (z := ((k + 1 : Nat) : Int)) (lv' := [some (.ref a), some (wp_i q0), some (wp_i all), some (wp_i 1), some (wp_i (sum + y)), some (wp_i (((k + 1 : Nat) : Int))), some (wp_i sum)]) ji_294_98 rfl (Nat.le_of_ble_eq_true rfl) (by omega) rfl ?_
            refine wp_goto (t := 39) ji_294_101 rfl ?_
            exact ih (k + 1) h _ _ _ V (by omega) (by omega) (by omega) (Or.inr ⟨by omega, hB2⟩)
theorem wg29 {d : Nat} {M : List Nat} (hM : 10069 ∈ M) (hMX : 10070 ∈ M) {h0 : mj_H} {a R X A PN : Nat} {q0 : Int} (hq0 : 1 ≤ q0 ∧ q0 ≤ 99) : ∀ (n : Nat) (q : List Int) (rl tl : List Value) (h : mj_H) (all : Int) (x4 x5 x6 : Option Value), nr_ok PN n q = true → rv M h0 h a R X A (PN : Int) rl tl → rr rl q → 0 ≤ all → all + n ≤ 720 → (∀ w, w < 6 → sx_el tl w ≤ all) → wp_R (d + 1) 294 29 [some (.ref a), some (wp_i q0), some (wp_i all), some (wp_i 1), x4, x5, x6] [] h (fun v h1 => ∃ y : Int, v = some (wp_i y) ∧ 1 ≤ y ∧ y ≤ 720 ∧ ∃ rl' tl', rv M h0 h1 a R X A (PN : Int) rl' tl') := by
  intro n
  induction n with
  | zero =>
    intro q rl tl h all x4 x5 x6 hok
    unfold nr_ok at hok
    cases hok
  | succ n ih =>
    intro q rl tl h all x4 x5 x6 hok V hr ha0 ha1 hB
    unfold nr_ok at hok
    rw [Bool.and_eq_true] at hok
    obtain ⟨hg, hok2⟩ := hok
    refine wp_s (pc' := 30) ji_294_29 rfl rfl rfl ?_
    refine wp_if (t := 115) ji_294_30 rfl (by omega) (fun (hb2 : (1 : Int) = 0) => (by exfalso; omega)) (fun (hb2 : ¬ ((1 : Int) = 0)) => ?_)
    refine wp_s (pc' := 34) ji_294_33 rfl rfl rfl ?_
    refine wp_s (pc' := 36) (lv' := [some (.ref a), some (wp_i q0), some (wp_i all), some (wp_i 1), some (wp_i 0), x5, x6]) ji_294_34 rfl rfl rfl ?_
    refine wp_s (pc' := 37) ji_294_36 rfl rfl rfl ?_
    refine wp_s (pc' := 39) (lv' := [some (.ref a), some (wp_i q0), some (wp_i all), some (wp_i 1), some (wp_i 0), some (wp_i 0), x6]) ji_294_37 rfl rfl rfl ?_
    refine wg39 hMX hq0 (by omega) hr (fun h tl sum k x6 V hB2 => ?_) 7 0 h tl 0 x6 V rfl (by omega) (by omega) (Or.inl ⟨by omega, hB⟩)
    refine wp_iinc (x := all) (z := all + 1) (lv' := [some (.ref a), some (wp_i q0), some (wp_i (all + 1)), some (wp_i 1), some (wp_i sum), some (wp_i k), x6]) ji_294_104 rfl (Nat.le_of_ble_eq_true rfl) (by omega) rfl ?_
    refine wp_s (pc' := 108) ji_294_107 rfl rfl rfl ?_
    refine rv_vc V ji_294_108 jc_294_443 jk_296 (rest := []) rfl (Nat.le_of_ble_eq_true rfl) rfl (by rw [jn_296]; rfl) (ws_nextRow hM V hr) (fun v h R => ?_)
    rcases R with ⟨hno, rfl, rfl⟩ | ⟨q1, hq1, rfl, rl1, V, hr1⟩
    · show wp_R (d + 1) 294 111 [some (.ref a), some (wp_i q0), some (wp_i (all + 1)), some (wp_i 1), some (wp_i sum), some (wp_i k), x6] [wp_i 0] h _
      refine wp_s (pc' := 112) (lv' := [some (.ref a), some (wp_i q0), some (wp_i (all + 1)), some (wp_i 0), some (wp_i sum), some (wp_i k), x6]) ji_294_111 rfl rfl rfl ?_
      refine wp_goto (t := 29) ji_294_112 rfl ?_
      refine wp_s (pc' := 30) ji_294_29 rfl rfl rfl ?_
      refine wp_if (t := 115) ji_294_30 rfl (by omega) (fun (hb1 : (0 : Int) = 0) => ?_) (fun (hb1 : ¬ ((0 : Int) = 0)) => (by exfalso; omega))
      refine wp_s (pc' := 116) ji_294_115 rfl rfl rfl ?_
      exact wp_ri ji_294_116 jr_294 rfl ⟨_, rfl, by omega, by omega, _, _, V⟩
    · show wp_R (d + 1) 294 111 [some (.ref a), some (wp_i q0), some (wp_i (all + 1)), some (wp_i 1), some (wp_i sum), some (wp_i k), x6] [wp_i 1] h _
      refine wp_s (pc' := 112) (lv' := [some (.ref a), some (wp_i q0), some (wp_i (all + 1)), some (wp_i 1), some (wp_i sum), some (wp_i k), x6]) ji_294_111 rfl rfl rfl ?_
      refine wp_goto (t := 29) ji_294_112 rfl ?_
      exact ih q1 rl1 tl h (all + 1) _ _ _ (by rw [hq1] at hok2; exact hok2) V hr1 (by omega) (by omega) hB2
theorem ws_weigh {d : Nat} {M : List Nat} (hM : 10069 ∈ M) (hMX : 10070 ∈ M) {h0 h : mj_H} {a R X A PN : Nat} {rl tl : List Value} {q0 : Int} (hq0 : 1 ≤ q0 ∧ q0 ≤ 99) (V : rv M h0 h a R X A (PN : Int) rl tl) : wp_R (d + 1) 294 0 [some (.ref a), some (wp_i q0), none, none, none, none, none] [] h (fun v h1 => ∃ y : Int, v = some (wp_i y) ∧ 1 ≤ y ∧ y ≤ 720 ∧ ∃ rl' tl', rv M h0 h1 a R X A (PN : Int) rl' tl') := by
  have hP : (0 : Int) ≤ (PN : Int) ∧ (PN : Int) ≤ 6 := V.2.2.2.2.2.2.2.1
  have hlt := (rv_len V).2
  have hz : ∀ w, w < 6 → sx_el ((((((tl.set 0 (wp_i 0)).set 1 (wp_i 0)).set 2 (wp_i 0)).set 3 (wp_i 0)).set 4 (wp_i 0)).set 5 (wp_i 0)) w ≤ 0 := by
    intro w hw
    rw [pv_el_set (by simp only [List.length_set]; omega) (by omega), pv_el_set (by simp only [List.length_set]; omega) (by omega), pv_el_set (by simp only [List.length_set]; omega) (by omega), pv_el_set (by simp only [List.length_set]; omega) (by omega), pv_el_set (by simp only [List.length_set]; omega) (by omega), pv_el_set (by omega) (by omega)]
    have hc : w = 0 ∨ w = 1 ∨ w = 2 ∨ w = 3 ∨ w = 4 ∨ w = 5 := by omega
    rcases hc with e | e | e | e | e | e <;> (subst e; simp)
  refine wp_s (pc' := 1) ji_294_0 rfl rfl rfl ?_
  refine wp_s (pc' := 2) (lv' := [some (.ref a), some (wp_i q0), some (wp_i 0), none, none, none, none]) ji_294_1 rfl rfl rfl ?_
  refine wp_s (pc' := 3) ji_294_2 rfl rfl rfl ?_
  refine wp_bp ji_294_3 rfl ?_
  refine wp_icmp (t := 21) ji_294_5 rfl (by omega) (by omega) (fun (hb1 : (6 : Int) ≤ 0) => (by exfalso; omega)) (fun (hb1 : ¬ ((6 : Int) ≤ 0)) => ?_)
  refine wp_s (pc' := 9) ji_294_8 rfl rfl rfl ?_
  refine rv_gX V ji_294_9 jf_294_53 ?_
  refine wp_s (pc' := 13) ji_294_12 rfl rfl rfl ?_
  refine wp_s (pc' := 14) ji_294_13 rfl rfl rfl ?_
  refine rv_sx hMX V (x := 0) (y := 0) ji_294_14 (by omega) (by omega) (by omega) (fun h V => ?_)
  have V : rv M h0 h a R X A (PN : Int) rl (tl.set 0 (wp_i 0)) := V
  refine wp_iinc (x := 0) (z := 1) (lv' := [some (.ref a), some (wp_i q0), some (wp_i 1), none, none, none, none]) ji_294_15 rfl (Nat.le_of_ble_eq_true rfl) (by omega) rfl ?_
  refine wp_goto (t := 2) ji_294_18 rfl ?_
  refine wp_s (pc' := 3) ji_294_2 rfl rfl rfl ?_
  refine wp_bp ji_294_3 rfl ?_
  refine wp_icmp (t := 21) ji_294_5 rfl (by omega) (by omega) (fun (hb2 : (6 : Int) ≤ 1) => (by exfalso; omega)) (fun (hb2 : ¬ ((6 : Int) ≤ 1)) => ?_)
  refine wp_s (pc' := 9) ji_294_8 rfl rfl rfl ?_
  refine rv_gX V ji_294_9 jf_294_53 ?_
  refine wp_s (pc' := 13) ji_294_12 rfl rfl rfl ?_
  refine wp_s (pc' := 14) ji_294_13 rfl rfl rfl ?_
  refine rv_sx hMX V (x := 1) (y := 0) ji_294_14 (by omega) (by omega) (by omega) (fun h V => ?_)
  have V : rv M h0 h a R X A (PN : Int) rl ((tl.set 0 (wp_i 0)).set 1 (wp_i 0)) := V
  refine wp_iinc (x := 1) (z := 2) (lv' := [some (.ref a), some (wp_i q0), some (wp_i 2), none, none, none, none]) ji_294_15 rfl (Nat.le_of_ble_eq_true rfl) (by omega) rfl ?_
  refine wp_goto (t := 2) ji_294_18 rfl ?_
  refine wp_s (pc' := 3) ji_294_2 rfl rfl rfl ?_
  refine wp_bp ji_294_3 rfl ?_
  refine wp_icmp (t := 21) ji_294_5 rfl (by omega) (by omega) (fun (hb3 : (6 : Int) ≤ 2) => (by exfalso; omega)) (fun (hb3 : ¬ ((6 : Int) ≤ 2)) => ?_)
  refine wp_s (pc' := 9) ji_294_8 rfl rfl rfl ?_
  refine rv_gX V ji_294_9 jf_294_53 ?_
  refine wp_s (pc' := 13) ji_294_12 rfl rfl rfl ?_
  refine wp_s (pc' := 14) ji_294_13 rfl rfl rfl ?_
  refine rv_sx hMX V (x := 2) (y := 0) ji_294_14 (by omega) (by omega) (by omega) (fun h V => ?_)
  have V : rv M h0 h a R X A (PN : Int) rl (((tl.set 0 (wp_i 0)).set 1 (wp_i 0)).set 2 (wp_i 0)) := V
  refine wp_iinc (x := 2) (z := 3) (lv' := [some (.ref a), some (wp_i q0), some (wp_i 3), none, none, none, none]) ji_294_15 rfl (Nat.le_of_ble_eq_true rfl) (by omega) rfl ?_
  refine wp_goto (t := 2) ji_294_18 rfl ?_
  refine wp_s (pc' := 3) ji_294_2 rfl rfl rfl ?_
  refine wp_bp ji_294_3 rfl ?_
  refine wp_icmp (t := 21) ji_294_5 rfl (by omega) (by omega) (fun (hb4 : (6 : Int) ≤ 3) => (by exfalso; omega)) (fun (hb4 : ¬ ((6 : Int) ≤ 3)) => ?_)
  refine wp_s (pc' := 9) ji_294_8 rfl rfl rfl ?_
  refine rv_gX V ji_294_9 jf_294_53 ?_
  refine wp_s (pc' := 13) ji_294_12 rfl rfl rfl ?_
  refine wp_s (pc' := 14) ji_294_13 rfl rfl rfl ?_
  refine rv_sx hMX V (x := 3) (y := 0) ji_294_14 (by omega) (by omega) (by omega) (fun h V => ?_)
  have V : rv M h0 h a R X A (PN : Int) rl ((((tl.set 0 (wp_i 0)).set 1 (wp_i 0)).set 2 (wp_i 0)).set 3 (wp_i 0)) := V
  refine wp_iinc (x := 3) (z := 4) (lv' := [some (.ref a), some (wp_i q0), some (wp_i 4), none, none, none, none]) ji_294_15 rfl (Nat.le_of_ble_eq_true rfl) (by omega) rfl ?_
  refine wp_goto (t := 2) ji_294_18 rfl ?_
  refine wp_s (pc' := 3) ji_294_2 rfl rfl rfl ?_
  refine wp_bp ji_294_3 rfl ?_
  refine wp_icmp (t := 21) ji_294_5 rfl (by omega) (by omega) (fun (hb5 : (6 : Int) ≤ 4) => (by exfalso; omega)) (fun (hb5 : ¬ ((6 : Int) ≤ 4)) => ?_)
  refine wp_s (pc' := 9) ji_294_8 rfl rfl rfl ?_
  refine rv_gX V ji_294_9 jf_294_53 ?_
  refine wp_s (pc' := 13) ji_294_12 rfl rfl rfl ?_
  refine wp_s (pc' := 14) ji_294_13 rfl rfl rfl ?_
  refine rv_sx hMX V (x := 4) (y := 0) ji_294_14 (by omega) (by omega) (by omega) (fun h V => ?_)
  have V : rv M h0 h a R X A (PN : Int) rl (((((tl.set 0 (wp_i 0)).set 1 (wp_i 0)).set 2 (wp_i 0)).set 3 (wp_i 0)).set 4 (wp_i 0)) := V
  refine wp_iinc (x := 4) (z := 5) (lv' := [some (.ref a), some (wp_i q0), some (wp_i 5), none, none, none, none]) ji_294_15 rfl (Nat.le_of_ble_eq_true rfl) (by omega) rfl ?_
  refine wp_goto (t := 2) ji_294_18 rfl ?_
  refine wp_s (pc' := 3) ji_294_2 rfl rfl rfl ?_
  refine wp_bp ji_294_3 rfl ?_
  refine wp_icmp (t := 21) ji_294_5 rfl (by omega) (by omega) (fun (hb6 : (6 : Int) ≤ 5) => (by exfalso; omega)) (fun (hb6 : ¬ ((6 : Int) ≤ 5)) => ?_)
  refine wp_s (pc' := 9) ji_294_8 rfl rfl rfl ?_
  refine rv_gX V ji_294_9 jf_294_53 ?_
  refine wp_s (pc' := 13) ji_294_12 rfl rfl rfl ?_
  refine wp_s (pc' := 14) ji_294_13 rfl rfl rfl ?_
  refine rv_sx hMX V (x := 5) (y := 0) ji_294_14 (by omega) (by omega) (by omega) (fun h V => ?_)
  have V : rv M h0 h a R X A (PN : Int) rl ((((((tl.set 0 (wp_i 0)).set 1 (wp_i 0)).set 2 (wp_i 0)).set 3 (wp_i 0)).set 4 (wp_i 0)).set 5 (wp_i 0)) := V
  refine wp_iinc (x := 5) (z := 6) (lv' := [some (.ref a), some (wp_i q0), some (wp_i 6), none, none, none, none]) ji_294_15 rfl (Nat.le_of_ble_eq_true rfl) (by omega) rfl ?_
  refine wp_goto (t := 2) ji_294_18 rfl ?_
  refine wp_s (pc' := 3) ji_294_2 rfl rfl rfl ?_
  refine wp_bp ji_294_3 rfl ?_
  refine wp_icmp (t := 21) ji_294_5 rfl (by omega) (by omega) (fun (hb7 : (6 : Int) ≤ 6) => ?_) (fun (hb7 : ¬ ((6 : Int) ≤ 6)) => (by exfalso; omega))
  refine wp_s (pc' := 22) ji_294_21 rfl rfl rfl ?_
  refine wp_s (pc' := 23) (lv' := [some (.ref a), some (wp_i q0), some (wp_i 0), none, none, none, none]) ji_294_22 rfl rfl rfl ?_
  refine wp_s (pc' := 24) ji_294_23 rfl rfl rfl ?_
  refine rv_vc V ji_294_24 jc_294_440 jk_295 (rest := []) rfl (Nat.le_of_ble_eq_true rfl) rfl (by rw [jn_295]; rfl) (ws_firstRow hM V) (fun v h R => ?_)
  obtain ⟨rfl, rl1, V, hr1⟩ := R
  show wp_R (d + 1) 294 27 [some (.ref a), some (wp_i q0), some (wp_i 0), none, none, none, none] [] h _
  refine wp_s (pc' := 28) ji_294_27 rfl rfl rfl ?_
  refine wp_s (pc' := 29) (lv' := [some (.ref a), some (wp_i q0), some (wp_i 0), some (wp_i 1), none, none, none]) ji_294_28 rfl rfl rfl ?_
  exact wg29 hM hMX hq0 720 [0, 1, 2, 3, 4, 5] rl1 _ h 0 none none none (List.all_eq_true.mp nr_all PN (List.mem_range.mpr (by omega))) V hr1 (by omega) (by omega) hz
theorem sx_M294 {d : Nat} (IH : sx_IH sx_PP d) : sx_M sx_PP d 294 sx_K294 := by
  intro vs h hH ha hd B hW hB
  match vs, ha with
  | [v0, v1], ⟨⟨a, e0, ta⟩, ⟨z1, e1, p1, p2⟩, _⟩ =>
  subst e0 e1
  have p1 : (1 : Int) ≤ z1.toInt := p1
  have p2 : z1.toInt ≤ 99 := p2
  have hd9 : (9 : Int) + 0 ≤ d := hd
  have hc : sx_cost sx_K294.2.2.2 = 0 := by decide
  obtain ⟨e, rfl⟩ : ∃ e, d = e + 1 := ⟨d - 1, by omega⟩
  obtain ⟨R, X, A, P, rl, tl, V⟩ := rv_init (M := [10069, 10070]) hH ta
  have hP := V.2.2.2.2.2.2.2.1
  obtain ⟨PN, rfl⟩ : ∃ PN : Nat, P = (PN : Int) := ⟨P.toNat, by omega⟩
  refine ⟨[some (.ref a), some (.int z1), none, none, none, none, none], by unfold mj_ent; rw [jn_294]; rfl, ?_⟩
  have hrun := ws_weigh (d := e) (by decide) (by decide) (q0 := z1.toInt) ⟨p1, p2⟩ V
  rw [← wp_iz] at hrun
  refine wp_mono hrun ?_
  rintro v h1 ⟨y, rfl, y1, y2, rl', tl', V1⟩
  refine ⟨V1.1, ⟨_, rfl, _, rfl, by rw [wp_ti (by omega)]; exact y1, by rw [wp_ti (by omega)]; exact y2⟩, V1.2.1, V1.2.2.1, ?_⟩
  show sx_W sx_tau h1 (B + sx_cost sx_K294.2.2.2)
  rw [hc, Int.natCast_zero, Int.add_zero]
  exact V1.2.1.2.2 (by decide) B hW
theorem og27 {d : Nat} {M : List Nat} (hMF : 10072 ∈ M) {h0 : mj_H} {a R X A PN : Nat} {rl tl : List Value} {q : List Int} {o1 o2 n all : Int} (hall : 0 ≤ all ∧ all ≤ 719) (hr : rr rl q) {Q : Option Value → mj_H → Prop} (hQ : ∀ (h : mj_H) (k : Int), rv M h0 h a R X A (PN : Int) rl tl → wp_R (d + 1) 308 59 [some (.ref a), some (wp_i o1), some (wp_i o2), some (wp_i n), some (wp_i all), some (wp_i 1), some (wp_i k)] [] h Q) : ∀ (m k : Nat) (h : mj_H), rv M h0 h a R X A (PN : Int) rl tl → k + m = 7 → k ≤ 6 → wp_R (d + 1) 308 27 [some (.ref a), some (wp_i o1), some (wp_i o2), some (wp_i n), some (wp_i all), some (wp_i 1), some (wp_i (k : Int))] [] h Q := by
  intro m
  induction m with
  | zero => intro k h V h1 h2; omega
  | succ m ih =>
    intro k h V hn hk
    by_cases hk6 : k = 6
    · subst hk6
      refine wp_s (pc' := 29) ji_308_27 rfl rfl rfl ?_
      refine wp_bp ji_308_29 rfl ?_
      refine wp_icmp (t := 59) ji_308_31 rfl (by omega) (by omega) (fun (hb1 : (6 : Int) ≤ (((6 : Nat) : Int))) => ?_) (fun (hb1 : ¬ ((6 : Int) ≤ (((6 : Nat) : Int)))) => (by exfalso; omega))
      exact hQ h ((6 : Nat) : Int) V
    · have qb := rv_qb V hr (j := k) (by omega)
      refine wp_s (pc' := 29) ji_308_27 rfl rfl rfl ?_
      refine wp_bp ji_308_29 rfl ?_
      refine wp_icmp (t := 59) ji_308_31 rfl (by omega) (by omega) (fun (hb1 : (6 : Int) ≤ ((k : Int))) => ?_) (fun (hb1 : ¬ ((6 : Int) ≤ ((k : Int)))) => ?_)
      · exact hQ h ((k : Nat) : Int) V
      · refine wp_s (pc' := 36) ji_308_34 rfl rfl rfl ?_
        refine wp_if (t := 59) ji_308_36 rfl (by omega) (fun (hb2 : ¬ (all : Int) = 0) => ?_) (fun (hb2 : ¬ (¬ (all : Int) = 0)) => ?_)
        · exact hQ h ((k : Nat) : Int) V
        · refine wp_s (pc' := 40) ji_308_39 rfl rfl rfl ?_
          refine rv_gF V ji_308_40 jf_308_59 (by decide) pfr_30 (fun b3 tb3 => ?_)
          refine wp_s (pc' := 45) ji_308_43 rfl rfl rfl ?_
          refine wp_s (pc' := 46) ji_308_45 rfl rfl rfl ?_
          refine rv_gR V ji_308_46 jf_308_50 ?_
          refine wp_s (pc' := 51) ji_308_49 rfl rfl rfl ?_
          refine rv_lr V (x := (k : Int)) (y := q.getD k 0) ji_308_51 (by omega) (by omega) (hr.2 k (by omega)) (fun l4 u5 => ?_)
          refine rv_sf hMF V (x := (k : Int)) (y := q.getD k 0) tb3 ji_308_52 (by omega) (by omega) (by omega) (fun h V => ?_)
          refine wp_iinc (x := (k : Int)) (z := ((k + 1 : Nat) : Int)) (lv' := [some (.ref a), some (wp_i o1), some (wp_i o2), some (wp_i n), some (wp_i all), some (wp_i 1), some (wp_i (((k + 1 : Nat) : Int)))]) ji_308_53 rfl (Nat.le_of_ble_eq_true rfl) (by omega) rfl ?_
          refine wp_goto (t := 27) ji_308_56 rfl ?_
          exact ih (k + 1) h V (by omega) (by omega)
theorem og12 {d : Nat} {M : List Nat} (hM : 10069 ∈ M) (hMF : 10072 ∈ M) {h0 : mj_H} {a R X A PN : Nat} {o1 o2 : Int} (ho1 : -1 ≤ o1 ∧ o1 ≤ 5) (ho2 : -1 ≤ o2 ∧ o2 ≤ 5) (ho : ¬ o1 = -1 → 0 ≤ o2) : ∀ (m : Nat) (q : List Int) (rl tl : List Value) (h : mj_H) (n all : Int) (x6 : Option Value), nr_ok PN m q = true → rv M h0 h a R X A (PN : Int) rl tl → rr rl q → (0 ≤ n ∧ n ≤ all) → all + m ≤ 720 → wp_R (d + 1 + 1) 308 12 [some (.ref a), some (wp_i o1), some (wp_i o2), some (wp_i n), some (wp_i all), some (wp_i 1), x6] [] h (fun v h1 => ∃ y : Int, v = some (wp_i y) ∧ 0 ≤ y ∧ y ≤ 720 ∧ ∃ rl' tl', rv M h0 h1 a R X A (PN : Int) rl' tl') := by
  intro m
  induction m with
  | zero =>
    intro q rl tl h n all x6 hok
    unfold nr_ok at hok
    cases hok
  | succ m ih =>
    intro q rl tl h n all x6 hok V hr ha0 ha1
    unfold nr_ok at hok
    rw [Bool.and_eq_true] at hok
    obtain ⟨hg, hok2⟩ := hok
    refine wp_s (pc' := 14) ji_308_12 rfl rfl rfl ?_
    refine wp_if (t := 97) ji_308_14 rfl (by omega) (fun (hb12 : (1 : Int) = 0) => (by exfalso; omega)) (fun (hb12 : ¬ ((1 : Int) = 0)) => ?_)
    refine wp_s (pc' := 18) ji_308_17 rfl rfl rfl ?_
    refine rv_vc V ji_308_18 jc_308_464 jk_309 (rest := []) rfl (Nat.le_of_ble_eq_true rfl) rfl (by rw [jn_309]; rfl) (ws_told V hr hg) (fun v h R => ?_)
    obtain ⟨rfl, y13, rfl, q14⟩ := R
    show wp_R (d + 1 + 1) 308 21 [some (.ref a), some (wp_i o1), some (wp_i o2), some (wp_i n), some (wp_i all), some (wp_i 1), x6] [wp_i y13] h _
    refine wp_if (t := 88) ji_308_21 rfl (by omega) (fun (hb15 : (y13 : Int) = 0) => ?_) (fun (hb15 : ¬ ((y13 : Int) = 0)) => ?_)
    · refine wp_s (pc' := 89) ji_308_88 rfl rfl rfl ?_
      refine rv_vc V ji_308_89 jc_308_443 jk_296 (rest := []) rfl (Nat.le_of_ble_eq_true rfl) rfl (by rw [jn_296]; rfl) (ws_nextRow hM V hr) (fun v h R => ?_)
      rcases R with ⟨hno, rfl, rfl⟩ | ⟨q1, hq1, rfl, rl1, V, hr1⟩
      · show wp_R (d + 1 + 1) 308 92 [some (.ref a), some (wp_i o1), some (wp_i o2), some (wp_i n), some (wp_i all), some (wp_i 1), x6] [wp_i 0] h _
        refine wp_s (pc' := 94) (lv' := [some (.ref a), some (wp_i o1), some (wp_i o2), some (wp_i n), some (wp_i all), some (wp_i 0), x6]) ji_308_92 rfl rfl rfl ?_
        refine wp_goto (t := 12) ji_308_94 rfl ?_
        refine wp_s (pc' := 14) ji_308_12 rfl rfl rfl ?_
        refine wp_if (t := 97) ji_308_14 rfl (by omega) (fun (hb16 : (0 : Int) = 0) => ?_) (fun (hb16 : ¬ ((0 : Int) = 0)) => (by exfalso; omega))
        refine wp_s (pc' := 98) ji_308_97 rfl rfl rfl ?_
        exact wp_ri ji_308_98 jr_308 rfl ⟨_, rfl, by omega, by omega, _, _, V⟩
      · show wp_R (d + 1 + 1) 308 92 [some (.ref a), some (wp_i o1), some (wp_i o2), some (wp_i n), some (wp_i all), some (wp_i 1), x6] [wp_i 1] h _
        refine wp_s (pc' := 94) (lv' := [some (.ref a), some (wp_i o1), some (wp_i o2), some (wp_i n), some (wp_i all), some (wp_i 1), x6]) ji_308_92 rfl rfl rfl ?_
        refine wp_goto (t := 12) ji_308_94 rfl ?_
        exact ih q1 rl1 tl h n all _ (by rw [hq1] at hok2; exact hok2) V hr1 (by omega) (by omega)
    · refine wp_s (pc' := 25) ji_308_24 rfl rfl rfl ?_
      refine wp_s (pc' := 27) (lv' := [some (.ref a), some (wp_i o1), some (wp_i o2), some (wp_i n), some (wp_i all), some (wp_i 1), some (wp_i 0)]) ji_308_25 rfl rfl rfl ?_
      refine og27 hMF (by omega) hr (fun h k V => ?_) 7 0 h V rfl (by omega)
      refine wp_iinc (x := all) (z := all + 1) (lv' := [some (.ref a), some (wp_i o1), some (wp_i o2), some (wp_i n), some (wp_i (all + 1)), some (wp_i 1), some (wp_i k)]) ji_308_59 rfl (Nat.le_of_ble_eq_true rfl) (by omega) rfl ?_
      refine wp_s (pc' := 63) ji_308_62 rfl rfl rfl ?_
      refine wp_s (pc' := 64) ji_308_63 rfl rfl rfl ?_
      refine wp_s (pc' := 65) ji_308_64 rfl rfl rfl ?_
      refine wp_icmp (t := 81) ji_308_65 rfl (by omega) (by omega) (fun (hb1 : (o1 : Int) = (-1)) => ?_) (fun (hb1 : ¬ ((o1 : Int) = (-1))) => ?_)
      · refine wp_s (pc' := 82) ji_308_81 rfl rfl rfl ?_
        refine wp_goto (t := 86) ji_308_82 rfl ?_
        refine wp_iadd (x := n) (y := 1) (z := n + 1) ji_308_86 (by omega) ?_
        refine wp_s (pc' := 88) (lv' := [some (.ref a), some (wp_i o1), some (wp_i o2), some (wp_i (n + 1)), some (wp_i (all + 1)), some (wp_i 1), some (wp_i k)]) ji_308_87 rfl rfl rfl ?_
        refine wp_s (pc' := 89) ji_308_88 rfl rfl rfl ?_
        refine rv_vc V ji_308_89 jc_308_443 jk_296 (rest := []) rfl (Nat.le_of_ble_eq_true rfl) rfl (by rw [jn_296]; rfl) (ws_nextRow hM V hr) (fun v h R => ?_)
        rcases R with ⟨hno, rfl, rfl⟩ | ⟨q1, hq1, rfl, rl1, V, hr1⟩
        · show wp_R (d + 1 + 1) 308 92 [some (.ref a), some (wp_i o1), some (wp_i o2), some (wp_i (n + 1)), some (wp_i (all + 1)), some (wp_i 1), some (wp_i k)] [wp_i 0] h _
          refine wp_s (pc' := 94) (lv' := [some (.ref a), some (wp_i o1), some (wp_i o2), some (wp_i (n + 1)), some (wp_i (all + 1)), some (wp_i 0), some (wp_i k)]) ji_308_92 rfl rfl rfl ?_
          refine wp_goto (t := 12) ji_308_94 rfl ?_
          refine wp_s (pc' := 14) ji_308_12 rfl rfl rfl ?_
          refine wp_if (t := 97) ji_308_14 rfl (by omega) (fun (hb2 : (0 : Int) = 0) => ?_) (fun (hb2 : ¬ ((0 : Int) = 0)) => (by exfalso; omega))
          refine wp_s (pc' := 98) ji_308_97 rfl rfl rfl ?_
          exact wp_ri ji_308_98 jr_308 rfl ⟨_, rfl, by omega, by omega, _, _, V⟩
        · show wp_R (d + 1 + 1) 308 92 [some (.ref a), some (wp_i o1), some (wp_i o2), some (wp_i (n + 1)), some (wp_i (all + 1)), some (wp_i 1), some (wp_i k)] [wp_i 1] h _
          refine wp_s (pc' := 94) (lv' := [some (.ref a), some (wp_i o1), some (wp_i o2), some (wp_i (n + 1)), some (wp_i (all + 1)), some (wp_i 1), some (wp_i k)]) ji_308_92 rfl rfl rfl ?_
          refine wp_goto (t := 12) ji_308_94 rfl ?_
          exact ih q1 rl1 tl h (n + 1) (all + 1) _ (by rw [hq1] at hok2; exact hok2) V hr1 (by omega) (by omega)
      · refine wp_s (pc' := 69) ji_308_68 rfl rfl rfl ?_
        refine wp_s (pc' := 70) ji_308_69 rfl rfl rfl ?_
        refine rv_vc V ji_308_70 jc_308_461 jk_310 (rest := [wp_i n]) rfl (Nat.le_of_ble_eq_true rfl) rfl (by rw [jn_310]; rfl) (ws_where V hr hg (by omega)) (fun v h R => ?_)
        obtain ⟨rfl, y3, rfl, q4, q5⟩ := R
        show wp_R (d + 1 + 1) 308 73 [some (.ref a), some (wp_i o1), some (wp_i o2), some (wp_i n), some (wp_i (all + 1)), some (wp_i 1), some (wp_i k)] [wp_i y3, wp_i n] h _
        refine wp_s (pc' := 74) ji_308_73 rfl rfl rfl ?_
        refine wp_s (pc' := 75) ji_308_74 rfl rfl rfl ?_
        refine rv_vc V ji_308_75 jc_308_461 jk_310 (rest := [wp_i y3, wp_i n]) rfl (Nat.le_of_ble_eq_true rfl) rfl (by rw [jn_310]; rfl) (ws_where V hr hg (by omega)) (fun v h R => ?_)
        obtain ⟨rfl, y6, rfl, q7, q8⟩ := R
        show wp_R (d + 1 + 1) 308 78 [some (.ref a), some (wp_i o1), some (wp_i o2), some (wp_i n), some (wp_i (all + 1)), some (wp_i 1), some (wp_i k)] [wp_i y6, wp_i y3, wp_i n] h _
        refine wp_icmp (t := 85) ji_308_78 rfl (by omega) (by omega) (fun (hb9 : (y6 : Int) ≤ y3) => ?_) (fun (hb9 : ¬ ((y6 : Int) ≤ y3)) => ?_)
        · refine wp_s (pc' := 86) ji_308_85 rfl rfl rfl ?_
          refine wp_iadd (x := n) (y := 0) (z := n) ji_308_86 (by omega) ?_
          refine wp_s (pc' := 88) (lv' := [some (.ref a), some (wp_i o1), some (wp_i o2), some (wp_i n), some (wp_i (all + 1)), some (wp_i 1), some (wp_i k)]) ji_308_87 rfl rfl rfl ?_
          refine wp_s (pc' := 89) ji_308_88 rfl rfl rfl ?_
          refine rv_vc V ji_308_89 jc_308_443 jk_296 (rest := []) rfl (Nat.le_of_ble_eq_true rfl) rfl (by rw [jn_296]; rfl) (ws_nextRow hM V hr) (fun v h R => ?_)
          rcases R with ⟨hno, rfl, rfl⟩ | ⟨q1, hq1, rfl, rl1, V, hr1⟩
          · show wp_R (d + 1 + 1) 308 92 [some (.ref a), some (wp_i o1), some (wp_i o2), some (wp_i n), some (wp_i (all + 1)), some (wp_i 1), some (wp_i k)] [wp_i 0] h _
            refine wp_s (pc' := 94) (lv' := [some (.ref a), some (wp_i o1), some (wp_i o2), some (wp_i n), some (wp_i (all + 1)), some (wp_i 0), some (wp_i k)]) ji_308_92 rfl rfl rfl ?_
            refine wp_goto (t := 12) ji_308_94 rfl ?_
            refine wp_s (pc' := 14) ji_308_12 rfl rfl rfl ?_
            refine wp_if (t := 97) ji_308_14 rfl (by omega) (fun (hb10 : (0 : Int) = 0) => ?_) (fun (hb10 : ¬ ((0 : Int) = 0)) => (by exfalso; omega))
            refine wp_s (pc' := 98) ji_308_97 rfl rfl rfl ?_
            exact wp_ri ji_308_98 jr_308 rfl ⟨_, rfl, by omega, by omega, _, _, V⟩
          · show wp_R (d + 1 + 1) 308 92 [some (.ref a), some (wp_i o1), some (wp_i o2), some (wp_i n), some (wp_i (all + 1)), some (wp_i 1), some (wp_i k)] [wp_i 1] h _
            refine wp_s (pc' := 94) (lv' := [some (.ref a), some (wp_i o1), some (wp_i o2), some (wp_i n), some (wp_i (all + 1)), some (wp_i 1), some (wp_i k)]) ji_308_92 rfl rfl rfl ?_
            refine wp_goto (t := 12) ji_308_94 rfl ?_
            exact ih q1 rl1 tl h n (all + 1) _ (by rw [hq1] at hok2; exact hok2) V hr1 (by omega) (by omega)
        · refine wp_s (pc' := 82) ji_308_81 rfl rfl rfl ?_
          refine wp_goto (t := 86) ji_308_82 rfl ?_
          refine wp_iadd (x := n) (y := 1) (z := n + 1) ji_308_86 (by omega) ?_
          refine wp_s (pc' := 88) (lv' := [some (.ref a), some (wp_i o1), some (wp_i o2), some (wp_i (n + 1)), some (wp_i (all + 1)), some (wp_i 1), some (wp_i k)]) ji_308_87 rfl rfl rfl ?_
          refine wp_s (pc' := 89) ji_308_88 rfl rfl rfl ?_
          refine rv_vc V ji_308_89 jc_308_443 jk_296 (rest := []) rfl (Nat.le_of_ble_eq_true rfl) rfl (by rw [jn_296]; rfl) (ws_nextRow hM V hr) (fun v h R => ?_)
          rcases R with ⟨hno, rfl, rfl⟩ | ⟨q1, hq1, rfl, rl1, V, hr1⟩
          · show wp_R (d + 1 + 1) 308 92 [some (.ref a), some (wp_i o1), some (wp_i o2), some (wp_i (n + 1)), some (wp_i (all + 1)), some (wp_i 1), some (wp_i k)] [wp_i 0] h _
            refine wp_s (pc' := 94) (lv' := [some (.ref a), some (wp_i o1), some (wp_i o2), some (wp_i (n + 1)), some (wp_i (all + 1)), some (wp_i 0), some (wp_i k)]) ji_308_92 rfl rfl rfl ?_
            refine wp_goto (t := 12) ji_308_94 rfl ?_
            refine wp_s (pc' := 14) ji_308_12 rfl rfl rfl ?_
            refine wp_if (t := 97) ji_308_14 rfl (by omega) (fun (hb11 : (0 : Int) = 0) => ?_) (fun (hb11 : ¬ ((0 : Int) = 0)) => (by exfalso; omega))
            refine wp_s (pc' := 98) ji_308_97 rfl rfl rfl ?_
            exact wp_ri ji_308_98 jr_308 rfl ⟨_, rfl, by omega, by omega, _, _, V⟩
          · show wp_R (d + 1 + 1) 308 92 [some (.ref a), some (wp_i o1), some (wp_i o2), some (wp_i (n + 1)), some (wp_i (all + 1)), some (wp_i 1), some (wp_i k)] [wp_i 1] h _
            refine wp_s (pc' := 94) (lv' := [some (.ref a), some (wp_i o1), some (wp_i o2), some (wp_i (n + 1)), some (wp_i (all + 1)), some (wp_i 1), some (wp_i k)]) ji_308_92 rfl rfl rfl ?_
            refine wp_goto (t := 12) ji_308_94 rfl ?_
            exact ih q1 rl1 tl h (n + 1) (all + 1) _ (by rw [hq1] at hok2; exact hok2) V hr1 (by omega) (by omega)
