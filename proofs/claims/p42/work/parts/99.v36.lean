/-! -/
set_option maxRecDepth 100000 in
theorem ji_155_4 : mj_ins 155 4 = some (.iload_n 3) := by decide +kernel
set_option maxRecDepth 100000 in
theorem ji_155_5 : mj_ins 155 5 = some (.aload_n 0) := by decide +kernel
set_option maxRecDepth 100000 in
theorem ji_155_6 : mj_ins 155 6 = some (.getfield 21) := by decide +kernel
set_option maxRecDepth 100000 in
theorem jf_155_21 : mj_fld 155 21 = some (7, 3, .int, true) := by decide +kernel
set_option maxRecDepth 100000 in
theorem ji_155_9 : mj_ins 155 9 = some (.if_icmp .ge 30) := by decide +kernel
set_option maxRecDepth 100000 in
theorem ji_155_39 : mj_ins 155 39 = some (.iload_n 2) := by decide +kernel
set_option maxRecDepth 100000 in
theorem ji_155_40 : mj_ins 155 40 = some (.ireturn) := by decide +kernel
set_option maxRecDepth 100000 in
theorem jr_155 : mj_ret 155 = some .int := by decide +kernel
set_option maxRecDepth 100000 in
theorem ji_155_12 : mj_ins 155 12 = some (.aload_n 0) := by decide +kernel
set_option maxRecDepth 100000 in
theorem ji_155_13 : mj_ins 155 13 = some (.getfield 15) := by decide +kernel
set_option maxRecDepth 100000 in
theorem jf_155_15 : mj_fld 155 15 = some (7, 1, (.array .int), false) := by decide +kernel
set_option maxRecDepth 100000 in
theorem ji_155_16 : mj_ins 155 16 = some (.iload_n 3) := by decide +kernel
set_option maxRecDepth 100000 in
theorem ji_155_17 : mj_ins 155 17 = some (.iaload) := by decide +kernel
set_option maxRecDepth 100000 in
theorem ji_155_18 : mj_ins 155 18 = some (.iload_n 1) := by decide +kernel
set_option maxRecDepth 100000 in
theorem ji_155_19 : mj_ins 155 19 = some (.if_icmp .ne 14) := by decide +kernel
set_option maxRecDepth 100000 in
theorem ji_155_33 : mj_ins 155 33 = some (.iinc 3 1) := by decide +kernel
set_option maxRecDepth 100000 in
theorem ji_155_36 : mj_ins 155 36 = some (.goto (-32)) := by decide +kernel
set_option maxRecDepth 100000 in
theorem ji_155_22 : mj_ins 155 22 = some (.iload_n 2) := by decide +kernel
set_option maxRecDepth 100000 in
theorem ji_155_23 : mj_ins 155 23 = some (.iconst 1) := by decide +kernel
set_option maxRecDepth 100000 in
theorem ji_155_24 : mj_ins 155 24 = some (.aload_n 0) := by decide +kernel
set_option maxRecDepth 100000 in
theorem ji_155_25 : mj_ins 155 25 = some (.getfield 11) := by decide +kernel
set_option maxRecDepth 100000 in
theorem jf_155_11 : mj_fld 155 11 = some (7, 0, (.array .int), false) := by decide +kernel
set_option maxRecDepth 100000 in
theorem ji_155_28 : mj_ins 155 28 = some (.iload_n 3) := by decide +kernel
set_option maxRecDepth 100000 in
theorem ji_155_29 : mj_ins 155 29 = some (.iaload) := by decide +kernel
set_option maxRecDepth 100000 in
theorem ji_155_30 : mj_ins 155 30 = some (.ishl) := by decide +kernel
set_option maxRecDepth 100000 in
theorem ji_155_31 : mj_ins 155 31 = some (.ior) := by decide +kernel
set_option maxRecDepth 100000 in
theorem ji_155_32 : mj_ins 155 32 = some (.istore_n 2) := by decide +kernel
set_option maxRecDepth 100000 in
theorem ji_155_0 : mj_ins 155 0 = some (.iconst 0) := by decide +kernel
set_option maxRecDepth 100000 in
theorem ji_155_1 : mj_ins 155 1 = some (.istore_n 2) := by decide +kernel
set_option maxRecDepth 100000 in
theorem ji_155_2 : mj_ins 155 2 = some (.iconst 0) := by decide +kernel
set_option maxRecDepth 100000 in
theorem ji_155_3 : mj_ins 155 3 = some (.istore_n 3) := by decide +kernel
set_option maxRecDepth 100000 in
theorem ji_154_30 : mj_ins 154 30 = some (.iload 4) := by decide +kernel
set_option maxRecDepth 100000 in
theorem ji_154_32 : mj_ins 154 32 = some (.iload_n 1) := by decide +kernel
set_option maxRecDepth 100000 in
theorem ji_154_33 : mj_ins 154 33 = some (.if_icmp .ge 55) := by decide +kernel
set_option maxRecDepth 100000 in
theorem ji_154_88 : mj_ins 154 88 = some (.iinc 3 1) := by decide +kernel
set_option maxRecDepth 100000 in
theorem ji_154_91 : mj_ins 154 91 = some (.goto (-76)) := by decide +kernel
set_option maxRecDepth 100000 in
theorem ji_154_15 : mj_ins 154 15 = some (.iload_n 3) := by decide +kernel
set_option maxRecDepth 100000 in
theorem ji_154_16 : mj_ins 154 16 = some (.iload_n 2) := by decide +kernel
set_option maxRecDepth 100000 in
theorem ji_154_17 : mj_ins 154 17 = some (.if_icmp .gt 77) := by decide +kernel
set_option maxRecDepth 100000 in
theorem ji_154_94 : mj_ins 154 94 = some (.aload_n 0) := by decide +kernel
set_option maxRecDepth 100000 in
theorem ji_154_95 : mj_ins 154 95 = some (.getfield 18) := by decide +kernel
set_option maxRecDepth 100000 in
theorem jf_154_18 : mj_fld 154 18 = some (7, 2, (.array .int), false) := by decide +kernel
set_option maxRecDepth 100000 in
theorem ji_154_98 : mj_ins 154 98 = some (.iload_n 2) := by decide +kernel
set_option maxRecDepth 100000 in
theorem ji_154_99 : mj_ins 154 99 = some (.iaload) := by decide +kernel
set_option maxRecDepth 100000 in
theorem sq_68 : sh_T[68]? = some (1000, [], 64, 0) := by decide +kernel
set_option maxRecDepth 100000 in
theorem ji_154_100 : mj_ins 154 100 = some (.ireturn) := by decide +kernel
set_option maxRecDepth 100000 in
theorem jr_154 : mj_ret 154 = some .int := by decide +kernel
set_option maxRecDepth 100000 in
theorem ji_154_20 : mj_ins 154 20 = some (.aload_n 0) := by decide +kernel
set_option maxRecDepth 100000 in
theorem ji_154_21 : mj_ins 154 21 = some (.getfield 18) := by decide +kernel
set_option maxRecDepth 100000 in
theorem ji_154_24 : mj_ins 154 24 = some (.iload_n 3) := by decide +kernel
set_option maxRecDepth 100000 in
theorem ji_154_25 : mj_ins 154 25 = some (.iconst 0) := by decide +kernel
set_option maxRecDepth 100000 in
theorem ji_154_26 : mj_ins 154 26 = some (.iastore) := by decide +kernel
set_option maxRecDepth 100000 in
theorem ji_154_27 : mj_ins 154 27 = some (.iconst 0) := by decide +kernel
set_option maxRecDepth 100000 in
theorem ji_154_28 : mj_ins 154 28 = some (.istore 4) := by decide +kernel
set_option maxRecDepth 100000 in
theorem ji_154_36 : mj_ins 154 36 = some (.iload_n 3) := by decide +kernel
set_option maxRecDepth 100000 in
theorem ji_154_37 : mj_ins 154 37 = some (.iconst 1) := by decide +kernel
set_option maxRecDepth 100000 in
theorem ji_154_38 : mj_ins 154 38 = some (.iload 4) := by decide +kernel
set_option maxRecDepth 100000 in
theorem ji_154_40 : mj_ins 154 40 = some (.ishl) := by decide +kernel
set_option maxRecDepth 100000 in
theorem ji_154_41 : mj_ins 154 41 = some (.iconst (-1)) := by decide +kernel
set_option maxRecDepth 100000 in
theorem ji_154_42 : mj_ins 154 42 = some (.ixor) := by decide +kernel
set_option maxRecDepth 100000 in
theorem ji_154_43 : mj_ins 154 43 = some (.iand) := by decide +kernel
set_option maxRecDepth 100000 in
theorem ji_154_44 : mj_ins 154 44 = some (.istore 5) := by decide +kernel
set_option maxRecDepth 100000 in
theorem ji_154_46 : mj_ins 154 46 = some (.iload 5) := by decide +kernel
set_option maxRecDepth 100000 in
theorem ji_154_48 : mj_ins 154 48 = some (.iload_n 3) := by decide +kernel
set_option maxRecDepth 100000 in
theorem ji_154_49 : mj_ins 154 49 = some (.if_icmp .eq 33) := by decide +kernel
set_option maxRecDepth 100000 in
theorem ji_154_82 : mj_ins 154 82 = some (.iinc 4 1) := by decide +kernel
set_option maxRecDepth 100000 in
theorem ji_154_85 : mj_ins 154 85 = some (.goto (-55)) := by decide +kernel
set_option maxRecDepth 100000 in
theorem ji_154_52 : mj_ins 154 52 = some (.aload_n 0) := by decide +kernel
set_option maxRecDepth 100000 in
theorem ji_154_53 : mj_ins 154 53 = some (.iload 4) := by decide +kernel
set_option maxRecDepth 100000 in
theorem ji_154_55 : mj_ins 154 55 = some (.invokevirtual 31) := by decide +kernel
set_option maxRecDepth 100000 in
theorem jc_154_31 : mj_cal 154 31 = some (2, 155, 1) := by decide +kernel
set_option maxRecDepth 100000 in
theorem jn_155 : mj_nl 155 = 4 := by decide +kernel
set_option maxRecDepth 100000 in
theorem jk_155 : mj_cls 155 = 7 := by decide +kernel
set_option maxRecDepth 100000 in
theorem ji_154_58 : mj_ins 154 58 = some (.iload 5) := by decide +kernel
set_option maxRecDepth 100000 in
theorem ji_154_60 : mj_ins 154 60 = some (.iconst (-1)) := by decide +kernel
set_option maxRecDepth 100000 in
theorem ji_154_61 : mj_ins 154 61 = some (.ixor) := by decide +kernel
set_option maxRecDepth 100000 in
theorem ji_154_62 : mj_ins 154 62 = some (.iand) := by decide +kernel
set_option maxRecDepth 100000 in
theorem ji_154_63 : mj_ins 154 63 = some (.ifCond .ne 19) := by decide +kernel
set_option maxRecDepth 100000 in
theorem ji_154_66 : mj_ins 154 66 = some (.aload_n 0) := by decide +kernel
set_option maxRecDepth 100000 in
theorem ji_154_67 : mj_ins 154 67 = some (.getfield 18) := by decide +kernel
set_option maxRecDepth 100000 in
theorem ji_154_70 : mj_ins 154 70 = some (.iload_n 3) := by decide +kernel
set_option maxRecDepth 100000 in
theorem ji_154_71 : mj_ins 154 71 = some (.dup2) := by decide +kernel
set_option maxRecDepth 100000 in
theorem ji_154_72 : mj_ins 154 72 = some (.iaload) := by decide +kernel
set_option maxRecDepth 100000 in
theorem ji_154_73 : mj_ins 154 73 = some (.aload_n 0) := by decide +kernel
set_option maxRecDepth 100000 in
theorem ji_154_74 : mj_ins 154 74 = some (.getfield 18) := by decide +kernel
set_option maxRecDepth 100000 in
theorem ji_154_77 : mj_ins 154 77 = some (.iload 5) := by decide +kernel
set_option maxRecDepth 100000 in
theorem ji_154_79 : mj_ins 154 79 = some (.iaload) := by decide +kernel
set_option maxRecDepth 100000 in
theorem ji_154_80 : mj_ins 154 80 = some (.iadd) := by decide +kernel
set_option maxRecDepth 100000 in
theorem ji_154_81 : mj_ins 154 81 = some (.iastore) := by decide +kernel
set_option maxRecDepth 100000 in
theorem ji_154_0 : mj_ins 154 0 = some (.iconst 1) := by decide +kernel
set_option maxRecDepth 100000 in
theorem ji_154_1 : mj_ins 154 1 = some (.iload_n 1) := by decide +kernel
set_option maxRecDepth 100000 in
theorem ji_154_2 : mj_ins 154 2 = some (.ishl) := by decide +kernel
set_option maxRecDepth 100000 in
theorem ji_154_3 : mj_ins 154 3 = some (.iconst 1) := by decide +kernel
set_option maxRecDepth 100000 in
theorem ji_154_4 : mj_ins 154 4 = some (.isub) := by decide +kernel
set_option maxRecDepth 100000 in
theorem ji_154_5 : mj_ins 154 5 = some (.istore_n 2) := by decide +kernel
set_option maxRecDepth 100000 in
theorem ji_154_6 : mj_ins 154 6 = some (.aload_n 0) := by decide +kernel
set_option maxRecDepth 100000 in
theorem ji_154_7 : mj_ins 154 7 = some (.getfield 18) := by decide +kernel
set_option maxRecDepth 100000 in
theorem ji_154_10 : mj_ins 154 10 = some (.iconst 0) := by decide +kernel
set_option maxRecDepth 100000 in
theorem ji_154_11 : mj_ins 154 11 = some (.iconst 1) := by decide +kernel
set_option maxRecDepth 100000 in
theorem ji_154_12 : mj_ins 154 12 = some (.iastore) := by decide +kernel
set_option maxRecDepth 100000 in
theorem ji_154_13 : mj_ins 154 13 = some (.iconst 1) := by decide +kernel
set_option maxRecDepth 100000 in
theorem ji_154_14 : mj_ins 154 14 = some (.istore_n 3) := by decide +kernel
set_option maxRecDepth 100000 in
theorem ji_157_2 : mj_ins 157 2 = some (.iload_n 3) := by decide +kernel
set_option maxRecDepth 100000 in
theorem ji_157_3 : mj_ins 157 3 = some (.iload_n 1) := by decide +kernel
set_option maxRecDepth 100000 in
theorem ji_157_4 : mj_ins 157 4 = some (.if_icmp .ge 44) := by decide +kernel
set_option maxRecDepth 100000 in
theorem ji_157_48 : mj_ins 157 48 = some (.iconst 0) := by decide +kernel
set_option maxRecDepth 100000 in
theorem ji_157_49 : mj_ins 157 49 = some (.ireturn) := by decide +kernel
set_option maxRecDepth 100000 in
theorem jr_157 : mj_ret 157 = some .int := by decide +kernel
set_option maxRecDepth 100000 in
theorem ji_157_7 : mj_ins 157 7 = some (.iload_n 2) := by decide +kernel
set_option maxRecDepth 100000 in
theorem ji_157_8 : mj_ins 157 8 = some (.iload_n 3) := by decide +kernel
set_option maxRecDepth 100000 in
theorem ji_157_9 : mj_ins 157 9 = some (.ishr) := by decide +kernel
set_option maxRecDepth 100000 in
theorem ji_157_10 : mj_ins 157 10 = some (.iconst 1) := by decide +kernel
set_option maxRecDepth 100000 in
theorem ji_157_11 : mj_ins 157 11 = some (.iand) := by decide +kernel
set_option maxRecDepth 100000 in
theorem ji_157_12 : mj_ins 157 12 = some (.iconst 1) := by decide +kernel
set_option maxRecDepth 100000 in
theorem ji_157_13 : mj_ins 157 13 = some (.if_icmp .ne 7) := by decide +kernel
set_option maxRecDepth 100000 in
theorem ji_157_20 : mj_ins 157 20 = some (.iconst 0) := by decide +kernel
set_option maxRecDepth 100000 in
theorem ji_157_21 : mj_ins 157 21 = some (.istore 4) := by decide +kernel
set_option maxRecDepth 100000 in
theorem ji_157_23 : mj_ins 157 23 = some (.iload 4) := by decide +kernel
set_option maxRecDepth 100000 in
theorem ji_157_25 : mj_ins 157 25 = some (.ifCond .ne 17) := by decide +kernel
set_option maxRecDepth 100000 in
theorem ji_157_28 : mj_ins 157 28 = some (.aload_n 0) := by decide +kernel
set_option maxRecDepth 100000 in
theorem ji_157_29 : mj_ins 157 29 = some (.iload_n 3) := by decide +kernel
set_option maxRecDepth 100000 in
theorem ji_157_30 : mj_ins 157 30 = some (.invokevirtual 31) := by decide +kernel
set_option maxRecDepth 100000 in
theorem jc_157_31 : mj_cal 157 31 = some (2, 155, 1) := by decide +kernel
set_option maxRecDepth 100000 in
theorem ji_157_33 : mj_ins 157 33 = some (.iload_n 2) := by decide +kernel
set_option maxRecDepth 100000 in
theorem ji_157_34 : mj_ins 157 34 = some (.iconst (-1)) := by decide +kernel
set_option maxRecDepth 100000 in
theorem ji_157_35 : mj_ins 157 35 = some (.ixor) := by decide +kernel
set_option maxRecDepth 100000 in
theorem ji_157_36 : mj_ins 157 36 = some (.iand) := by decide +kernel
set_option maxRecDepth 100000 in
theorem ji_157_37 : mj_ins 157 37 = some (.ifCond .ne 5) := by decide +kernel
set_option maxRecDepth 100000 in
theorem ji_157_42 : mj_ins 157 42 = some (.iinc 3 1) := by decide +kernel
set_option maxRecDepth 100000 in
theorem ji_157_45 : mj_ins 157 45 = some (.goto (-43)) := by decide +kernel
set_option maxRecDepth 100000 in
theorem ji_157_40 : mj_ins 157 40 = some (.iload_n 3) := by decide +kernel
set_option maxRecDepth 100000 in
theorem ji_157_41 : mj_ins 157 41 = some (.ireturn) := by decide +kernel
set_option maxRecDepth 100000 in
theorem ji_157_16 : mj_ins 157 16 = some (.iconst 1) := by decide +kernel
set_option maxRecDepth 100000 in
theorem ji_157_17 : mj_ins 157 17 = some (.goto 4) := by decide +kernel
set_option maxRecDepth 100000 in
theorem ji_157_0 : mj_ins 157 0 = some (.iconst 0) := by decide +kernel
set_option maxRecDepth 100000 in
theorem ji_157_1 : mj_ins 157 1 = some (.istore_n 3) := by decide +kernel
set_option maxRecDepth 100000 in
theorem ji_156_5 : mj_ins 156 5 = some (.iload 4) := by decide +kernel
set_option maxRecDepth 100000 in
theorem ji_156_7 : mj_ins 156 7 = some (.iload_n 2) := by decide +kernel
set_option maxRecDepth 100000 in
theorem ji_156_8 : mj_ins 156 8 = some (.if_icmp .ge 20) := by decide +kernel
set_option maxRecDepth 100000 in
theorem ji_156_28 : mj_ins 156 28 = some (.aload_n 0) := by decide +kernel
set_option maxRecDepth 100000 in
theorem ji_156_29 : mj_ins 156 29 = some (.iload_n 1) := by decide +kernel
set_option maxRecDepth 100000 in
theorem ji_156_30 : mj_ins 156 30 = some (.iload_n 3) := by decide +kernel
set_option maxRecDepth 100000 in
theorem ji_156_31 : mj_ins 156 31 = some (.invokevirtual 35) := by decide +kernel
set_option maxRecDepth 100000 in
theorem jc_156_35 : mj_cal 156 35 = some (2, 157, 2) := by decide +kernel
set_option maxRecDepth 100000 in
theorem jn_157 : mj_nl 157 = 5 := by decide +kernel
set_option maxRecDepth 100000 in
theorem jk_157 : mj_cls 157 = 7 := by decide +kernel
set_option maxRecDepth 100000 in
theorem ji_156_34 : mj_ins 156 34 = some (.ireturn) := by decide +kernel
set_option maxRecDepth 100000 in
theorem jr_156 : mj_ret 156 = some .int := by decide +kernel
set_option maxRecDepth 100000 in
theorem ji_156_11 : mj_ins 156 11 = some (.iload_n 3) := by decide +kernel
set_option maxRecDepth 100000 in
theorem ji_156_12 : mj_ins 156 12 = some (.iconst 1) := by decide +kernel
set_option maxRecDepth 100000 in
theorem ji_156_13 : mj_ins 156 13 = some (.aload_n 0) := by decide +kernel
set_option maxRecDepth 100000 in
theorem ji_156_14 : mj_ins 156 14 = some (.iload_n 1) := by decide +kernel
set_option maxRecDepth 100000 in
theorem ji_156_15 : mj_ins 156 15 = some (.iload_n 3) := by decide +kernel
set_option maxRecDepth 100000 in
theorem ji_156_16 : mj_ins 156 16 = some (.invokevirtual 35) := by decide +kernel
set_option maxRecDepth 100000 in
theorem ji_156_19 : mj_ins 156 19 = some (.ishl) := by decide +kernel
set_option maxRecDepth 100000 in
theorem ji_156_20 : mj_ins 156 20 = some (.ior) := by decide +kernel
set_option maxRecDepth 100000 in
theorem ji_156_21 : mj_ins 156 21 = some (.istore_n 3) := by decide +kernel
set_option maxRecDepth 100000 in
theorem ji_156_22 : mj_ins 156 22 = some (.iinc 4 1) := by decide +kernel
set_option maxRecDepth 100000 in
theorem ji_156_25 : mj_ins 156 25 = some (.goto (-20)) := by decide +kernel
set_option maxRecDepth 100000 in
theorem ji_156_0 : mj_ins 156 0 = some (.iconst 0) := by decide +kernel
set_option maxRecDepth 100000 in
theorem ji_156_1 : mj_ins 156 1 = some (.istore_n 3) := by decide +kernel
set_option maxRecDepth 100000 in
theorem ji_156_2 : mj_ins 156 2 = some (.iconst 0) := by decide +kernel
set_option maxRecDepth 100000 in
theorem ji_156_3 : mj_ins 156 3 = some (.istore 4) := by decide +kernel
set_option maxRecDepth 100000 in
theorem ji_159_17 : mj_ins 159 17 = some (.iload 4) := by decide +kernel
set_option maxRecDepth 100000 in
theorem ji_159_19 : mj_ins 159 19 = some (.bipush 6) := by decide +kernel
set_option maxRecDepth 100000 in
theorem ji_159_21 : mj_ins 159 21 = some (.if_icmp .ge 28) := by decide +kernel
set_option maxRecDepth 100000 in
theorem ji_159_49 : mj_ins 159 49 = some (.iinc 3 1) := by decide +kernel
set_option maxRecDepth 100000 in
theorem ji_159_52 : mj_ins 159 52 = some (.goto (-44)) := by decide +kernel
set_option maxRecDepth 100000 in
theorem ji_159_8 : mj_ins 159 8 = some (.iload_n 3) := by decide +kernel
set_option maxRecDepth 100000 in
theorem ji_159_9 : mj_ins 159 9 = some (.bipush 6) := by decide +kernel
set_option maxRecDepth 100000 in
theorem ji_159_11 : mj_ins 159 11 = some (.if_icmp .ge 44) := by decide +kernel
set_option maxRecDepth 100000 in
theorem ji_159_55 : mj_ins 159 55 = some (.iload_n 2) := by decide +kernel
set_option maxRecDepth 100000 in
theorem ji_159_56 : mj_ins 159 56 = some (.ireturn) := by decide +kernel
set_option maxRecDepth 100000 in
theorem jr_159 : mj_ret 159 = some .int := by decide +kernel
set_option maxRecDepth 100000 in
theorem ji_159_14 : mj_ins 159 14 = some (.iconst 0) := by decide +kernel
set_option maxRecDepth 100000 in
theorem ji_159_15 : mj_ins 159 15 = some (.istore 4) := by decide +kernel
set_option maxRecDepth 100000 in
theorem ji_159_24 : mj_ins 159 24 = some (.iload_n 2) := by decide +kernel
set_option maxRecDepth 100000 in
theorem ji_159_25 : mj_ins 159 25 = some (.iload 4) := by decide +kernel
set_option maxRecDepth 100000 in
theorem ji_159_27 : mj_ins 159 27 = some (.ishr) := by decide +kernel
set_option maxRecDepth 100000 in
theorem ji_159_28 : mj_ins 159 28 = some (.iconst 1) := by decide +kernel
set_option maxRecDepth 100000 in
theorem ji_159_29 : mj_ins 159 29 = some (.iand) := by decide +kernel
set_option maxRecDepth 100000 in
theorem ji_159_30 : mj_ins 159 30 = some (.iconst 1) := by decide +kernel
set_option maxRecDepth 100000 in
theorem ji_159_31 : mj_ins 159 31 = some (.if_icmp .ne 12) := by decide +kernel
set_option maxRecDepth 100000 in
theorem ji_159_43 : mj_ins 159 43 = some (.iinc 4 1) := by decide +kernel
set_option maxRecDepth 100000 in
theorem ji_159_46 : mj_ins 159 46 = some (.goto (-29)) := by decide +kernel
set_option maxRecDepth 100000 in
theorem ji_159_34 : mj_ins 159 34 = some (.iload_n 2) := by decide +kernel
set_option maxRecDepth 100000 in
theorem ji_159_35 : mj_ins 159 35 = some (.aload_n 0) := by decide +kernel
set_option maxRecDepth 100000 in
theorem ji_159_36 : mj_ins 159 36 = some (.iload 4) := by decide +kernel
set_option maxRecDepth 100000 in
theorem ji_159_38 : mj_ins 159 38 = some (.invokevirtual 31) := by decide +kernel
set_option maxRecDepth 100000 in
theorem jc_159_31 : mj_cal 159 31 = some (2, 155, 1) := by decide +kernel
set_option maxRecDepth 100000 in
theorem ji_159_41 : mj_ins 159 41 = some (.ior) := by decide +kernel
set_option maxRecDepth 100000 in
theorem ji_159_42 : mj_ins 159 42 = some (.istore_n 2) := by decide +kernel
set_option maxRecDepth 100000 in
theorem ji_159_0 : mj_ins 159 0 = some (.aload_n 0) := by decide +kernel
set_option maxRecDepth 100000 in
theorem ji_159_1 : mj_ins 159 1 = some (.iload_n 1) := by decide +kernel
set_option maxRecDepth 100000 in
theorem ji_159_2 : mj_ins 159 2 = some (.invokevirtual 31) := by decide +kernel
set_option maxRecDepth 100000 in
theorem ji_159_5 : mj_ins 159 5 = some (.istore_n 2) := by decide +kernel
set_option maxRecDepth 100000 in
theorem ji_159_6 : mj_ins 159 6 = some (.iconst 0) := by decide +kernel
set_option maxRecDepth 100000 in
theorem ji_159_7 : mj_ins 159 7 = some (.istore_n 3) := by decide +kernel
set_option maxRecDepth 100000 in
theorem ji_153_0 : mj_ins 153 0 = some (.aload_n 0) := by decide +kernel
set_option maxRecDepth 100000 in
theorem ji_153_1 : mj_ins 153 1 = some (.getfield 19) := by decide +kernel
set_option maxRecDepth 100000 in
theorem jf_153_19 : mj_fld 153 19 = some (0, 0, (.object "ForestOfPoles$State"), false) := by decide +kernel
set_option maxRecDepth 100000 in
theorem ji_153_4 : mj_ins 153 4 = some (.getfield 49) := by decide +kernel
set_option maxRecDepth 100000 in
theorem jf_153_49 : mj_fld 153 49 = some (2, 0, (.object "ForestOfPoles$Forest"), false) := by decide +kernel
set_option maxRecDepth 100000 in
theorem ji_153_7 : mj_ins 153 7 = some (.getfield 139) := by decide +kernel
set_option maxRecDepth 100000 in
theorem jf_153_139 : mj_fld 153 139 = some (3, 1, .int, true) := by decide +kernel
set_option maxRecDepth 100000 in
theorem ji_153_10 : mj_ins 153 10 = some (.istore_n 2) := by decide +kernel
set_option maxRecDepth 100000 in
theorem ji_153_11 : mj_ins 153 11 = some (.aload_n 0) := by decide +kernel
set_option maxRecDepth 100000 in
theorem ji_153_12 : mj_ins 153 12 = some (.getfield 19) := by decide +kernel
set_option maxRecDepth 100000 in
theorem ji_153_15 : mj_ins 153 15 = some (.getfield 304) := by decide +kernel
set_option maxRecDepth 100000 in
theorem jf_153_304 : mj_fld 153 304 = some (2, 4, (.object "ForestOfPoles$Claims"), false) := by decide +kernel
set_option maxRecDepth 100000 in
theorem ji_153_18 : mj_ins 153 18 = some (.iload_n 2) := by decide +kernel
set_option maxRecDepth 100000 in
theorem ji_153_19 : mj_ins 153 19 = some (.invokevirtual 313) := by decide +kernel
set_option maxRecDepth 100000 in
theorem jc_153_313 : mj_cal 153 313 = some (2, 154, 1) := by decide +kernel
set_option maxRecDepth 100000 in
theorem jn_154 : mj_nl 154 = 6 := by decide +kernel
set_option maxRecDepth 100000 in
theorem jk_154 : mj_cls 154 = 7 := by decide +kernel
set_option maxRecDepth 100000 in
theorem ji_153_22 : mj_ins 153 22 = some (.istore_n 3) := by decide +kernel
set_option maxRecDepth 100000 in
theorem ji_153_23 : mj_ins 153 23 = some (.iload_n 1) := by decide +kernel
set_option maxRecDepth 100000 in
theorem ji_153_24 : mj_ins 153 24 = some (.iconst (-1)) := by decide +kernel
set_option maxRecDepth 100000 in
theorem ji_153_25 : mj_ins 153 25 = some (.if_icmp .ne 5) := by decide +kernel
set_option maxRecDepth 100000 in
theorem ji_153_30 : mj_ins 153 30 = some (.iload_n 3) := by decide +kernel
set_option maxRecDepth 100000 in
theorem ji_153_31 : mj_ins 153 31 = some (.ifCond .eq 12) := by decide +kernel
set_option maxRecDepth 100000 in
theorem ji_153_43 : mj_ins 153 43 = some (.iconst (-1)) := by decide +kernel
set_option maxRecDepth 100000 in
theorem ji_153_44 : mj_ins 153 44 = some (.goto 15) := by decide +kernel
set_option maxRecDepth 100000 in
theorem ji_153_59 : mj_ins 153 59 = some (.ireturn) := by decide +kernel
set_option maxRecDepth 100000 in
theorem jr_153 : mj_ret 153 = some .int := by decide +kernel
set_option maxRecDepth 100000 in
theorem ji_153_34 : mj_ins 153 34 = some (.iload_n 1) := by decide +kernel
set_option maxRecDepth 100000 in
theorem ji_153_35 : mj_ins 153 35 = some (.ifCond .lt 8) := by decide +kernel
set_option maxRecDepth 100000 in
theorem ji_153_38 : mj_ins 153 38 = some (.iload_n 1) := by decide +kernel
set_option maxRecDepth 100000 in
theorem ji_153_39 : mj_ins 153 39 = some (.iload_n 2) := by decide +kernel
set_option maxRecDepth 100000 in
theorem ji_153_40 : mj_ins 153 40 = some (.if_icmp .lt 7) := by decide +kernel
set_option maxRecDepth 100000 in
theorem ji_153_47 : mj_ins 153 47 = some (.aload_n 0) := by decide +kernel
set_option maxRecDepth 100000 in
theorem ji_153_48 : mj_ins 153 48 = some (.getfield 19) := by decide +kernel
set_option maxRecDepth 100000 in
theorem ji_153_51 : mj_ins 153 51 = some (.getfield 304) := by decide +kernel
set_option maxRecDepth 100000 in
theorem ji_153_54 : mj_ins 153 54 = some (.iload_n 2) := by decide +kernel
set_option maxRecDepth 100000 in
theorem ji_153_55 : mj_ins 153 55 = some (.iload_n 1) := by decide +kernel
set_option maxRecDepth 100000 in
theorem ji_153_56 : mj_ins 153 56 = some (.invokevirtual 316) := by decide +kernel
set_option maxRecDepth 100000 in
theorem jc_153_316 : mj_cal 153 316 = some (2, 156, 2) := by decide +kernel
set_option maxRecDepth 100000 in
theorem jn_156 : mj_nl 156 = 5 := by decide +kernel
set_option maxRecDepth 100000 in
theorem jk_156 : mj_cls 156 = 7 := by decide +kernel
set_option maxRecDepth 100000 in
theorem ji_153_28 : mj_ins 153 28 = some (.iload_n 3) := by decide +kernel
set_option maxRecDepth 100000 in
theorem ji_153_29 : mj_ins 153 29 = some (.ireturn) := by decide +kernel
set_option maxRecDepth 100000 in
theorem ji_158_0 : mj_ins 158 0 = some (.aload_n 0) := by decide +kernel
set_option maxRecDepth 100000 in
theorem ji_158_1 : mj_ins 158 1 = some (.getfield 19) := by decide +kernel
set_option maxRecDepth 100000 in
theorem jf_158_19 : mj_fld 158 19 = some (0, 0, (.object "ForestOfPoles$State"), false) := by decide +kernel
set_option maxRecDepth 100000 in
theorem ji_158_4 : mj_ins 158 4 = some (.getfield 49) := by decide +kernel
set_option maxRecDepth 100000 in
theorem jf_158_49 : mj_fld 158 49 = some (2, 0, (.object "ForestOfPoles$Forest"), false) := by decide +kernel
set_option maxRecDepth 100000 in
theorem ji_158_7 : mj_ins 158 7 = some (.astore_n 3) := by decide +kernel
set_option maxRecDepth 100000 in
theorem ji_158_8 : mj_ins 158 8 = some (.aload_n 3) := by decide +kernel
set_option maxRecDepth 100000 in
theorem ji_158_9 : mj_ins 158 9 = some (.iload_n 1) := by decide +kernel
set_option maxRecDepth 100000 in
theorem ji_158_10 : mj_ins 158 10 = some (.invokevirtual 177) := by decide +kernel
set_option maxRecDepth 100000 in
theorem jc_158_177 : mj_cal 158 177 = some (2, 80, 1) := by decide +kernel
set_option maxRecDepth 100000 in
theorem ji_158_13 : mj_ins 158 13 = some (.ifCond .eq 33) := by decide +kernel
set_option maxRecDepth 100000 in
theorem ji_158_46 : mj_ins 158 46 = some (.iconst (-1)) := by decide +kernel
set_option maxRecDepth 100000 in
theorem ji_158_47 : mj_ins 158 47 = some (.ireturn) := by decide +kernel
set_option maxRecDepth 100000 in
theorem jr_158 : mj_ret 158 = some .int := by decide +kernel
set_option maxRecDepth 100000 in
theorem ji_158_16 : mj_ins 158 16 = some (.aload_n 3) := by decide +kernel
set_option maxRecDepth 100000 in
theorem ji_158_17 : mj_ins 158 17 = some (.iload_n 2) := by decide +kernel
set_option maxRecDepth 100000 in
theorem ji_158_18 : mj_ins 158 18 = some (.invokevirtual 177) := by decide +kernel
set_option maxRecDepth 100000 in
theorem ji_158_21 : mj_ins 158 21 = some (.ifCond .eq 25) := by decide +kernel
set_option maxRecDepth 100000 in
theorem ji_158_24 : mj_ins 158 24 = some (.iload_n 1) := by decide +kernel
set_option maxRecDepth 100000 in
theorem ji_158_25 : mj_ins 158 25 = some (.iload_n 2) := by decide +kernel
set_option maxRecDepth 100000 in
theorem ji_158_26 : mj_ins 158 26 = some (.if_icmp .eq 20) := by decide +kernel
set_option maxRecDepth 100000 in
theorem ji_158_29 : mj_ins 158 29 = some (.aload_n 0) := by decide +kernel
set_option maxRecDepth 100000 in
theorem ji_158_30 : mj_ins 158 30 = some (.getfield 19) := by decide +kernel
set_option maxRecDepth 100000 in
theorem ji_158_33 : mj_ins 158 33 = some (.getfield 304) := by decide +kernel
set_option maxRecDepth 100000 in
theorem jf_158_304 : mj_fld 158 304 = some (2, 4, (.object "ForestOfPoles$Claims"), false) := by decide +kernel
set_option maxRecDepth 100000 in
theorem ji_158_36 : mj_ins 158 36 = some (.aload_n 3) := by decide +kernel
set_option maxRecDepth 100000 in
theorem ji_158_37 : mj_ins 158 37 = some (.getfield 139) := by decide +kernel
set_option maxRecDepth 100000 in
theorem jf_158_139 : mj_fld 158 139 = some (3, 1, .int, true) := by decide +kernel
set_option maxRecDepth 100000 in
theorem ji_158_40 : mj_ins 158 40 = some (.invokevirtual 313) := by decide +kernel
set_option maxRecDepth 100000 in
theorem jc_158_313 : mj_cal 158 313 = some (2, 154, 1) := by decide +kernel
set_option maxRecDepth 100000 in
theorem ji_158_43 : mj_ins 158 43 = some (.ifCond .ne 5) := by decide +kernel
set_option maxRecDepth 100000 in
theorem ji_158_48 : mj_ins 158 48 = some (.aload_n 0) := by decide +kernel
set_option maxRecDepth 100000 in
theorem ji_158_49 : mj_ins 158 49 = some (.getfield 19) := by decide +kernel
set_option maxRecDepth 100000 in
theorem ji_158_52 : mj_ins 158 52 = some (.getfield 304) := by decide +kernel
set_option maxRecDepth 100000 in
theorem ji_158_55 : mj_ins 158 55 = some (.iload_n 2) := by decide +kernel
set_option maxRecDepth 100000 in
theorem ji_158_56 : mj_ins 158 56 = some (.invokevirtual 319) := by decide +kernel
set_option maxRecDepth 100000 in
theorem jc_158_319 : mj_cal 158 319 = some (2, 159, 1) := by decide +kernel
set_option maxRecDepth 100000 in
theorem jn_159 : mj_nl 159 = 5 := by decide +kernel
set_option maxRecDepth 100000 in
theorem jk_159 : mj_cls 159 = 7 := by decide +kernel
set_option maxRecDepth 100000 in
theorem ji_158_59 : mj_ins 158 59 = some (.iload_n 1) := by decide +kernel
set_option maxRecDepth 100000 in
theorem ji_158_60 : mj_ins 158 60 = some (.ishr) := by decide +kernel
set_option maxRecDepth 100000 in
theorem ji_158_61 : mj_ins 158 61 = some (.iconst 1) := by decide +kernel
set_option maxRecDepth 100000 in
theorem ji_158_62 : mj_ins 158 62 = some (.iand) := by decide +kernel
set_option maxRecDepth 100000 in
theorem ji_158_63 : mj_ins 158 63 = some (.ireturn) := by decide +kernel
/-! orders and surely, in the class; laid by program (wp_v36.py) -/
def CLM (s : sg_) (n P : Nat) (o e : Nat → Nat) : Prop := (s 65 3 = (n : Int) ∧ s 48 1 = (P : Int)) ∧ n ≤ 10 ∧ P ≤ 6 ∧ ∀ k : Nat, k < n → s 66 (k : Int) = (o k : Int) ∧ s 67 (k : Int) = (e k : Int) ∧ o k < P ∧ e k < P ∧ ¬ o k = e k
theorem CLM_f {s s1 : sg_} {n P : Nat} {o e : Nat → Nat} (H : CLM s n P o e) (f : ∀ (a : Nat) (j : Int), ¬ a = 68 → s1 a j = s a j) : CLM s1 n P o e := by
  obtain ⟨⟨a, b⟩, c, d, g⟩ := H
  exact ⟨⟨(f _ _ (by decide)).trans a, (f _ _ (by decide)).trans b⟩, c, d, fun k hk => by
    rw [f 66 _ (by decide), f 67 _ (by decide)]
    exact g k hk⟩
theorem or_i : ∀ b : Fin 64, ∀ w : Fin 6, Int32.ofInt b.val ||| (Int32.ofInt 1 <<< (Int32.ofInt w.val &&& 31)) = Int32.ofInt ((b.val ||| 2 ^ w.val : Nat) : Int) := by decide +kernel
theorem sh_P : ∀ P : Fin 7, Int32.ofInt 1 <<< (Int32.ofInt P.val &&& 31) = Int32.ofInt ((2 ^ P.val : Nat) : Int) := by decide +kernel
def bf_ (m l : Nat) : Nat := if m.testBit l = true then m - 2 ^ l else m
theorem be_i : ∀ m : Fin 64, ∀ w : Fin 6, Int32.ofInt m.val &&& ((Int32.ofInt 1 <<< (Int32.ofInt w.val &&& 31)) ^^^ Int32.ofInt (-1)) = Int32.ofInt ((bf_ m.val w.val : Nat) : Int) := by decide +kernel
theorem bf_e : ∀ m : Fin 64, ∀ w : Fin 6, bf_ m.val w.val ≤ m.val ∧ (bf_ m.val w.val = m.val ↔ ¬ m.val.testBit w.val = true) := by decide +kernel
theorem an_2 : ∀ t b : Fin 64, Int32.ofInt t.val &&& (Int32.ofInt b.val ^^^ Int32.ofInt (-1)) = Int32.ofInt ((t.val &&& (63 ^^^ b.val) : Nat) : Int) := by decide +kernel
theorem an_b : ∀ t b : Fin 64, t.val &&& (63 ^^^ b.val) < 64 := by decide +kernel
theorem oo_i : ∀ a b : Fin 64, Int32.ofInt a.val ||| Int32.ofInt b.val = Int32.ofInt ((a.val ||| b.val : Nat) : Int) := by decide +kernel
def bt_ (m l : Nat) : Nat := if m.testBit l = true then 1 else 0
theorem bs_i : ∀ m : Fin 64, ∀ w : Fin 6, (Int32.ofInt m.val >>> (Int32.ofInt w.val &&& 31)) &&& Int32.ofInt 1 = Int32.ofInt ((bt_ m.val w.val : Nat) : Int) := by decide +kernel
theorem btx_b (m l : Nat) : bt_ m l ≤ 1 := by
  unfold bt_
  split <;> decide
theorem bt_1 {m l : Nat} (h : bt_ m l = 1) : m.testBit l = true := by
  unfold bt_ at h
  split at h
  · assumption
  · cases h
theorem bt_0 {m l : Nat} (h : ¬ bt_ m l = 1) : m.testBit l = false := by
  cases c : m.testBit l with
  | false => rfl
  | true =>
    exfalso
    apply h
    unfold bt_
    rw [c]
    rfl
/-- as many as by the last -/
def wg (T : Nat → Nat → Bool) (P m l : Nat) : Nat := if m.testBit l = true ∧ sb6 (T l) (fun i => (m - 2 ^ l).testBit i) = true then wy T P 63 (m - 2 ^ l) else 0
theorem wy_u {T : Nat → Nat → Bool} {P m : Nat} (h : 1 ≤ m) : wy T P 64 m = sm_ (wg T P m) P := by
  show (if m = 0 then 1 else sm_ (fun l => if m.testBit l = true ∧ sb6 (T l) (fun i => (m - 2 ^ l).testBit i) = true then wy T P 63 (m - 2 ^ l) else 0) P) = _
  rw [if_neg (by omega)]
  rfl
theorem sm_le {g : Nat → Nat} {l : Nat} : ∀ k : Nat, l ≤ k → sm_ g l ≤ sm_ g k
  | 0, h => by
    rw [show l = 0 by omega]
    exact Nat.le_refl _
  | k + 1, h => by
    by_cases c : l = k + 1
    · rw [c]
      exact Nat.le_refl _
    · have ih := sm_le (g := g) (l := l) k (by omega)
      show sm_ g l ≤ sm_ g k + g k
      omega
theorem bl_720 : ∀ P : Fin 7, ∀ m : Fin 64, (bl P.val 64 m.val).length ≤ 720 := by decide +kernel
theorem wy_720 {T : Nat → Nat → Bool} {P m : Nat} (hP : P ≤ 6) (hm : m < 64) : wy T P 64 m ≤ 720 := by
  rw [← bl_cnt hP 64 m hm]
  exact Nat.le_trans List.countP_le_length (bl_720 ⟨P, by omega⟩ ⟨m, hm⟩)
theorem sm_720 {T : Nat → Nat → Bool} {P m l : Nat} (hP : P ≤ 6) (hm : m < 64) (h1 : 1 ≤ m) (hl : l ≤ P) : sm_ (wg T P m) l ≤ 720 := by
  have a := wy_720 (T := T) hP hm
  rw [wy_u h1] at a
  exact Nat.le_trans (sm_le P hl) a
theorem tk_f {n l : Nat} {o e : Nat → Nat} : (tk_ o e l n).testBit = tT n o e l := funext fun _ => tkx_t n
theorem wg_1 {n P m l : Nat} {o e : Nat → Nat} (hP : P ≤ 6) (hm : m < 64) (hl : l < 6) (ho : ∀ k, k < n → o k < 6) (b : ¬ bf_ m l = m) (z : tk_ o e l n &&& (63 ^^^ bf_ m l) = 0) : wg (tT n o e) P m l = wy (tT n o e) P 64 (bf_ m l) := by
  have k := bf_e ⟨m, hm⟩ ⟨l, hl⟩
  have b1 : m.testBit l = true := by
    cases c : m.testBit l with
    | true => rfl
    | false => exact absurd (k.2.mpr (by rw [c]; decide)) b
  have eb : bf_ m l = m - 2 ^ l := if_pos b1
  have lt : m - 2 ^ l < m := (tb_s ⟨m, hm⟩ ⟨l, hl⟩ b1).1
  rw [eb] at z ⊢
  have s := (an_0 ⟨tk_ o e l n, tk_64 n ho⟩ ⟨m - 2 ^ l, by omega⟩).mp z
  have s : sb6 ((tk_ o e l n).testBit) ((m - 2 ^ l).testBit) = true := s
  rw [tk_f] at s
  show (if m.testBit l = true ∧ sb6 (tT n o e l) (fun i => (m - 2 ^ l).testBit i) = true then wy (tT n o e) P 63 (m - 2 ^ l) else 0) = _
  rw [if_pos ⟨b1, s⟩]
  exact wy_f hP 63 64 (m - 2 ^ l) (by omega) (by omega) (by omega)
theorem wg_a {n P m l : Nat} {o e : Nat → Nat} (hm : m < 64) (hl : l < 6) (b : bf_ m l = m) : wg (tT n o e) P m l = 0 := if_neg (fun y => (bf_e ⟨m, hm⟩ ⟨l, hl⟩).2.mp b y.1)
theorem wg_b {n P m l : Nat} {o e : Nat → Nat} (hm : m < 64) (hl : l < 6) (ho : ∀ k, k < n → o k < 6) (z : ¬ tk_ o e l n &&& (63 ^^^ bf_ m l) = 0) : wg (tT n o e) P m l = 0 := by
  refine if_neg (fun y => z ?_)
  have eb : bf_ m l = m - 2 ^ l := if_pos y.1
  have lt : m - 2 ^ l < m := (tb_s ⟨m, hm⟩ ⟨l, hl⟩ y.1).1
  rw [eb]
  refine (an_0 ⟨tk_ o e l n, tk_64 n ho⟩ ⟨m - 2 ^ l, by omega⟩).mpr ?_
  show sb6 ((tk_ o e l n).testBit) ((m - 2 ^ l).testBit) = true
  rw [tk_f]
  exact y.2
theorem fr_a {n q p : Nat} {o e : Nat → Nat} {c : List Nat} (hp : p < 6) (hc : ∀ i, i < 6 → q.testBit i = mem_ c i) (b : q.testBit p = true) : fre (tT n o e) c p = false := by
  unfold fre
  rw [← hc p hp, b]
  rfl
theorem fr_s {n q p : Nat} {o e : Nat → Nat} {c : List Nat} (hq : q < 64) (ho : ∀ k, k < n → o k < 6) (hc : ∀ i, i < 6 → q.testBit i = mem_ c i) : (tk_ o e p n &&& (63 ^^^ q) = 0 ↔ sb6 (tT n o e p) (mem_ c) = true) := by
  have k := an_0 ⟨tk_ o e p n, tk_64 n ho⟩ ⟨q, hq⟩
  have k : tk_ o e p n &&& (63 ^^^ q) = 0 ↔ sb6 ((tk_ o e p n).testBit) (q.testBit) = true := k
  rw [k, tk_f, sb6_c hc]
theorem fr_b {n q p : Nat} {o e : Nat → Nat} {c : List Nat} (hq : q < 64) (ho : ∀ k, k < n → o k < 6) (hc : ∀ i, i < 6 → q.testBit i = mem_ c i) (z : ¬ tk_ o e p n &&& (63 ^^^ q) = 0) : fre (tT n o e) c p = false := by
  unfold fre
  cases y : sb6 (tT n o e p) (mem_ c) with
  | false => exact Bool.and_false _
  | true => exact absurd ((fr_s hq ho hc).mpr y) z
theorem fr_c {n q p : Nat} {o e : Nat → Nat} {c : List Nat} (hq : q < 64) (hp : p < 6) (ho : ∀ k, k < n → o k < 6) (hc : ∀ i, i < 6 → q.testBit i = mem_ c i) (b : q.testBit p = false) (z : tk_ o e p n &&& (63 ^^^ q) = 0) : fre (tT n o e) c p = true := by
  unfold fre
  rw [← hc p hp, b, (fr_s hq ho hc).mp z]
  rfl
theorem mk_c {q : Nat} {c : List Nat} (hc : ∀ i, i < 6 → q.testBit i = mem_ c i) {x : Nat} (hx : x < 6) : ∀ i, i < 6 → (q ||| 2 ^ x).testBit i = mem_ (x :: c) i := by
  intro i hi
  rw [Nat.testBit_or, Nat.testBit_two_pow, hc i hi]
  unfold mem_
  by_cases c1 : x = i
  · subst c1
    rw [decide_eq_true rfl, Bool.or_true, decide_eq_true List.mem_cons_self]
  · rw [decide_eq_false c1, Bool.or_false]
    by_cases c2 : i ∈ c
    · rw [decide_eq_true c2, decide_eq_true (List.mem_cons_of_mem _ c2)]
    · rw [decide_eq_false c2, decide_eq_false (fun z => (List.mem_cons.mp z).elim (fun y => c1 y.symm) c2)]
theorem lo_n {T : Nat → Nat → Bool} {c : List Nat} {k : Nat} (h : lo_ T c k = none) (f : fre T c k = false) : lo_ T c (k + 1) = none := by
  show (match lo_ T c k with
    | some p => some p
    | none => if fre T c k = true then some k else none) = none
  rw [h]
  show (if fre T c k = true then some k else none) = none
  rw [f]
  rfl
theorem lo_s {T : Nat → Nat → Bool} {c : List Nat} {k : Nat} (h : lo_ T c k = none) (f : fre T c k = true) : ∀ P : Nat, k < P → lo_ T c P = some k
  | 0, z => absurd z (Nat.not_lt_zero _)
  | P + 1, z => by
    show (match lo_ T c P with
      | some p => some p
      | none => if fre T c P = true then some P else none) = some k
    by_cases y : P = k
    · subst y
      rw [h]
      show (if fre T c P = true then some P else none) = some P
      exact if_pos f
    · rw [lo_s h f P (by omega)]
theorem lo_6 {T : Nat → Nat → Bool} {c : List Nat} {P : Nat} (hP : P ≤ 6) : (lo_ T c P).getD 0 < 6 := by
  cases h : lo_ T c P with
  | none => decide
  | some p =>
    have k := ((lo_v P).1 p h).1
    show p < 6
    omega
theorem st_s {tm : Nat → Nat} {m k : Nat} : stm tm m (k + 1) = if (stm tm m k).testBit k = true then stm tm m k ||| tm k else stm tm m k := rfl
theorem uc_155l {d : Nat} {h : mj_H} {s : sg_} (C : CS h s) {n P : Nat} {o e : Nat → Nat} (CL : CLM s n P o e) {p : Nat} (hp : p < 6) : ∀ (nn k : Nat), k ≤ n → wl_R nn d 155 4 [some (.ref 65), some (wp_i ((p : Int))), some (wp_i (((tk_ o e p k : Nat) : Int))), some (wp_i ((k : Int)))] [] h (fun v1 h1 => h1 = h ∧ v1 = some (wp_i ((tk_ o e p n : Nat) : Int))) := by
  obtain ⟨⟨en, eP⟩, hn, hP, hk⟩ := CL
  have ho : ∀ k, k < n → o k < 6 := fun k hq => by have := (hk k hq).2.2.1; omega
  intro nn
  induction nn with
  | zero => intros; exact wl_0
  | succ nn ih =>
    intro k hkn
    have t64 := tk_64 (o := o) (e := e) (p := p) k (fun i hi => ho i (by omega))
    refine wl_s1 (pc' := 5) ji_155_4 rfl rfl rfl ?_
    refine wl_s (pc' := 6) ji_155_5 rfl rfl rfl ?_
    refine cs_gi (k := 3) (kI := 3) C (by decide) (by decide) sq_65 rfl rfl ji_155_6 jf_155_21 ?_
    rw [en]
    have bd1 : wp_r ((n : Int)) := en ▸ cs_ri (k := 3) (kI := 3) C (by decide) (by decide) sq_65 rfl rfl (show 3 < 4 by decide)
    refine wl_icmp (t := 39) ji_155_9 rfl (by omega) (by omega) (fun (hb2 : ((n : Int) : Int) ≤ ((k : Int))) => ?_) (fun (hb2 : ¬ (((n : Int) : Int) ≤ ((k : Int)))) => ?_)
    · refine wl_s (pc' := 40) ji_155_39 rfl rfl rfl ?_
      exact wl_ri ji_155_40 jr_155 rfl (⟨rfl, by rw [show k = n by omega]⟩)
    · refine wl_s (pc' := 13) ji_155_12 rfl rfl rfl ?_
      refine cs_gr (r := 67) (k := 1) C (by decide) sq_65 rfl ji_155_13 jf_155_15 ?_
      refine wl_s (pc' := 17) ji_155_16 rfl rfl rfl ?_
      refine cs_l (x := (k : Int)) C (by decide) (by decide) sq_67 (by omega) ji_155_17 (fun ld30 ld31 ld32 => ?_)
      have bd4 := hk k (by omega)
      refine wl_s (pc' := 19) ji_155_18 rfl rfl rfl ?_
      refine wl_icmp (t := 33) ji_155_19 rfl (by omega) (by omega) (fun (hb5 : ¬ (s 67 ((k : Int)) : Int) = ((p : Int))) => ?_) (fun (hb5 : ¬ (¬ (s 67 ((k : Int)) : Int) = ((p : Int)))) => ?_)
      · refine wl_iinc (x := (k : Int)) (z := (k : Int) + 1) (lv' := [some (.ref 65), some (wp_i ((p : Int))), some (wp_i (((tk_ o e p k : Nat) : Int))), some (wp_i ((k : Int) + 1))]) ji_155_33 rfl (Nat.le_of_ble_eq_true rfl) (by omega) rfl ?_
        refine wl_goto (t := 4) ji_155_36 rfl ?_
        have ek := hk k (by omega)
        rw [show (k : Int) + 1 = ((k + 1 : Nat) : Int) by omega, show ((tk_ o e p k : Nat) : Int) = ((tk_ o e p (k + 1) : Nat) : Int) by show _ = (((if e k = p then tk_ o e p k ||| 2 ^ o k else tk_ o e p k) : Nat) : Int); rw [if_neg (by omega)]]
        exact ih (k + 1) (by omega)
      · refine wl_s (pc' := 23) ji_155_22 rfl rfl rfl ?_
        refine wl_s (pc' := 24) ji_155_23 rfl rfl rfl ?_
        refine wl_s (pc' := 25) ji_155_24 rfl rfl rfl ?_
        refine cs_gr (r := 66) (k := 0) C (by decide) sq_65 rfl ji_155_25 jf_155_11 ?_
        refine wl_s (pc' := 29) ji_155_28 rfl rfl rfl ?_
        refine cs_l (x := (k : Int)) C (by decide) (by decide) sq_66 (by omega) ji_155_29 (fun ld60 ld61 ld62 => ?_)
        have bd7 := hk k (by omega)
        refine wl_s (pc' := 31) (st' := [.int ((Int32.ofInt 1) <<< ((Int32.ofInt (s 66 ((k : Int)))) &&& 31)), wp_i (((tk_ o e p k : Nat) : Int))]) ji_155_30 rfl rfl rfl ?_
        refine wl_s (pc' := 32) (lv' := [some (.ref 65), some (wp_i ((p : Int))), some (wp_i (((tk_ o e p k : Nat) : Int))), some (wp_i ((k : Int)))]) (st' := [wp_i (((tk_ o e p k ||| 2 ^ o k : Nat) : Int))]) (h' := h) ji_155_31 rfl rfl (congrArg (fun z => (some (32, [some (.ref 65), some (wp_i ((p : Int))), some (wp_i (((tk_ o e p k : Nat) : Int))), some (wp_i ((k : Int)))], [Value.int z], h) : Option mj_S)) (by rw [(hk k (by omega)).1]; exact or_i ⟨tk_ o e p k, tk_64 k (fun i hi => ho i (by omega))⟩ ⟨o k, ho k (by omega)⟩)) ?_
        refine wl_s (pc' := 33) (lv' := [some (.ref 65), some (wp_i ((p : Int))), some (wp_i (((tk_ o e p k ||| 2 ^ o k : Nat) : Int))), some (wp_i ((k : Int)))]) ji_155_32 rfl rfl rfl ?_
        refine wl_iinc (x := (k : Int)) (z := (k : Int) + 1) (lv' := [some (.ref 65), some (wp_i ((p : Int))), some (wp_i (((tk_ o e p k ||| 2 ^ o k : Nat) : Int))), some (wp_i ((k : Int) + 1))]) ji_155_33 rfl (Nat.le_of_ble_eq_true rfl) (by omega) rfl ?_
        refine wl_goto (t := 4) ji_155_36 rfl ?_
        have ek := hk k (by omega)
        rw [show (k : Int) + 1 = ((k + 1 : Nat) : Int) by omega, show ((tk_ o e p k ||| 2 ^ o k : Nat) : Int) = ((tk_ o e p (k + 1) : Nat) : Int) by show _ = (((if e k = p then tk_ o e p k ||| 2 ^ o k else tk_ o e p k) : Nat) : Int); rw [if_pos (by omega)]]
        exact ih (k + 1) (by omega)
theorem uc_155 {nn d : Nat} {h : mj_H} {s : sg_} (C : CS h s) {n P : Nat} {o e : Nat → Nat} (CL : CLM s n P o e) {p : Nat} (hp : p < 6) : wl_R nn d 155 0 [some (.ref 65), some (wp_i ((p : Int))), none, none] [] h (fun v1 h1 => h1 = h ∧ v1 = some (wp_i ((tk_ o e p n : Nat) : Int))) := by
  refine wl_s (pc' := 1) ji_155_0 rfl rfl rfl ?_
  refine wl_s (pc' := 2) (lv' := [some (.ref 65), some (wp_i ((p : Int))), some (wp_i 0), none]) ji_155_1 rfl rfl rfl ?_
  refine wl_s (pc' := 3) ji_155_2 rfl rfl rfl ?_
  refine wl_s (pc' := 4) (lv' := [some (.ref 65), some (wp_i ((p : Int))), some (wp_i 0), some (wp_i 0)]) ji_155_3 rfl rfl rfl ?_
  exact uc_155l C CL hp nn 0 (by omega)
theorem uc_154l {d n P N : Nat} {o e : Nat → Nat} {s0 : sg_} (CL0 : CLM s0 n P o e) (hN : 2 ^ P - 1 = N) : ∀ (nn m l : Nat) (h : mj_H) (s : sg_) (l5 : Option Value), CS h s → (∀ (a : Nat) (j : Int), ¬ a = 68 → s a j = s0 a j) → 1 ≤ m → m ≤ N → l ≤ P → s 68 (m : Int) = ((sm_ (wg (tT n o e) P m) l : Nat) : Int) → (∀ j : Nat, j < m → s 68 (j : Int) = ((wy (tT n o e) P 64 j : Nat) : Int) ∧ wy (tT n o e) P 64 j ≤ 720) → wl_R nn (d + 1) 154 30 [some (.ref 65), some (wp_i ((P : Int))), some (wp_i ((N : Int))), some (wp_i ((m : Int))), some (wp_i ((l : Int))), l5] [] h (fun v1 h1 => ∃ s1, CS h1 s1 ∧ (∀ (a : Nat) (j : Int), ¬ a = 68 → s1 a j = s0 a j) ∧ v1 = some (wp_i ((wy (tT n o e) P 64 N : Nat) : Int))) := by
  intro nn
  induction nn with
  | zero => intros; exact wl_0
  | succ nn ih =>
    intro m l h s l5 C FR h1 hm2 hlP hm0 hW
    have CL := CLM_f CL0 FR
    obtain ⟨⟨en, eP⟩, hn, hP, hk⟩ := id CL
    have ho : ∀ k, k < n → o k < 6 := fun k hq => by have := (hk k hq).2.2.1; omega
    have p6 := p2_64 hP
    have s720 := sm_720 (T := tT n o e) hP (show m < 64 by omega) h1 hlP
    refine wl_s1 (pc' := 32) ji_154_30 rfl rfl rfl ?_
    refine wl_s (pc' := 33) ji_154_32 rfl rfl rfl ?_
    refine wl_icmp (t := 88) ji_154_33 rfl (by omega) (by omega) (fun (hb1 : ((P : Int) : Int) ≤ ((l : Int))) => ?_) (fun (hb1 : ¬ (((P : Int) : Int) ≤ ((l : Int)))) => ?_)
    · refine wl_iinc (x := (m : Int)) (z := (m : Int) + 1) (lv' := [some (.ref 65), some (wp_i ((P : Int))), some (wp_i ((N : Int))), some (wp_i ((m : Int) + 1)), some (wp_i ((l : Int))), l5]) ji_154_88 rfl (Nat.le_of_ble_eq_true rfl) (by omega) rfl ?_
      refine wl_goto (t := 15) ji_154_91 rfl ?_
      refine wl_s (pc' := 16) ji_154_15 rfl rfl rfl ?_
      refine wl_s (pc' := 17) ji_154_16 rfl rfl rfl ?_
      refine wl_icmp (t := 94) ji_154_17 rfl (by omega) (by omega) (fun (hb2 : ((N : Int) : Int) < ((m : Int) + 1)) => ?_) (fun (hb2 : ¬ (((N : Int) : Int) < ((m : Int) + 1))) => ?_)
      · refine wl_s (pc' := 95) ji_154_94 rfl rfl rfl ?_
        refine cs_gr (r := 68) (k := 2) C (by decide) sq_65 rfl ji_154_95 jf_154_18 ?_
        refine wl_s (pc' := 99) ji_154_98 rfl rfl rfl ?_
        refine cs_l (x := (N : Int)) C (by decide) (by decide) sq_68 (by omega) ji_154_99 (fun ld30 ld31 ld32 => ?_)
        exact wl_ri ji_154_100 jr_154 rfl (⟨s, C, FR, congrArg (fun z => some (wp_i z)) (by have em : N = m := (by omega); have el : l = P := (by omega); rw [em, hm0, el, ← wy_u h1])⟩)
      · refine wl_s (pc' := 21) ji_154_20 rfl rfl rfl ?_
        refine cs_gr (r := 68) (k := 2) C (by decide) sq_65 rfl ji_154_21 jf_154_18 ?_
        refine wl_s (pc' := 25) ji_154_24 rfl rfl rfl ?_
        refine wl_s (pc' := 26) ji_154_25 rfl rfl rfl ?_
        refine cs_s (x := (m : Int) + 1) (y := 0) C (by decide) sq_68 (by omega) (by omega) ji_154_26 (fun h st40 st41 C => ?_)
        obtain ⟨s5, es5⟩ : ∃ z9_, up s 68 ((m : Int) + 1) 0 = z9_ := ⟨_, rfl⟩
        rw [es5] at C
        refine wl_s (pc' := 28) ji_154_27 rfl rfl rfl ?_
        refine wl_s (pc' := 30) (lv' := [some (.ref 65), some (wp_i ((P : Int))), some (wp_i ((N : Int))), some (wp_i ((m : Int) + 1)), some (wp_i 0), l5]) ji_154_28 rfl rfl rfl ?_
        have em : l = P := by omega
        have eS : s5 68 ((m + 1 : Nat) : Int) = ((sm_ (wg (tT n o e) P (m + 1)) 0 : Nat) : Int) := by rw [← es5, show ((m + 1 : Nat) : Int) = (m : Int) + 1 by omega, up_e]; rfl
        rw [show (m : Int) + 1 = ((m + 1 : Nat) : Int) by omega]
        refine ih (m + 1) 0 h s5 _ C (fun a j ha => (show s5 a j = s a j by rw [← es5, up_a (by omega)]).trans ((FR a j ha))) (by omega) (by omega) (by omega) eS (fun j hj => ?_)
        rw [← es5, up_k (by omega)]
        by_cases cj : j = m
        · subst cj
          exact ⟨hm0.trans (congrArg (fun z : Nat => (z : Int)) ((congrArg (sm_ (wg (tT n o e) P j)) em).trans (wy_u h1).symm)), wy_720 hP (by omega)⟩
        · exact hW j (by omega)
    · refine wl_s (pc' := 37) ji_154_36 rfl rfl rfl ?_
      refine wl_s (pc' := 38) ji_154_37 rfl rfl rfl ?_
      refine wl_s (pc' := 40) ji_154_38 rfl rfl rfl ?_
      refine wl_s (pc' := 41) (st' := [.int ((Int32.ofInt 1) <<< ((Int32.ofInt ((l : Int))) &&& 31)), wp_i ((m : Int))]) ji_154_40 rfl rfl rfl ?_
      refine wl_s (pc' := 42) ji_154_41 rfl rfl rfl ?_
      refine wl_s (pc' := 43) (st' := [.int (((Int32.ofInt 1) <<< ((Int32.ofInt ((l : Int))) &&& 31)) ^^^ (Int32.ofInt (-1))), wp_i ((m : Int))]) ji_154_42 rfl rfl rfl ?_
      have hbe := bf_e ⟨m, by omega⟩ ⟨l, by omega⟩
      have hbe : bf_ m l ≤ m ∧ (bf_ m l = m ↔ ¬ m.testBit l = true) := hbe
      refine wl_s (pc' := 44) (lv' := [some (.ref 65), some (wp_i ((P : Int))), some (wp_i ((N : Int))), some (wp_i ((m : Int))), some (wp_i ((l : Int))), l5]) (st' := [wp_i (((bf_ m l : Nat) : Int))]) (h' := h) ji_154_43 rfl rfl (congrArg (fun z => (some (44, [some (.ref 65), some (wp_i ((P : Int))), some (wp_i ((N : Int))), some (wp_i ((m : Int))), some (wp_i ((l : Int))), l5], [Value.int z], h) : Option mj_S)) (be_i ⟨m, by omega⟩ ⟨l, by omega⟩)) ?_
      refine wl_s (pc' := 46) (lv' := [some (.ref 65), some (wp_i ((P : Int))), some (wp_i ((N : Int))), some (wp_i ((m : Int))), some (wp_i ((l : Int))), some (wp_i (((bf_ m l : Nat) : Int)))]) ji_154_44 rfl rfl rfl ?_
      refine wl_s (pc' := 48) ji_154_46 rfl rfl rfl ?_
      refine wl_s (pc' := 49) ji_154_48 rfl rfl rfl ?_
      refine wl_icmp (t := 82) ji_154_49 rfl (by omega) (by omega) (fun (hb6 : (((bf_ m l : Nat) : Int) : Int) = ((m : Int))) => ?_) (fun (hb6 : ¬ ((((bf_ m l : Nat) : Int) : Int) = ((m : Int)))) => ?_)
      · refine wl_iinc (x := (l : Int)) (z := (l : Int) + 1) (lv' := [some (.ref 65), some (wp_i ((P : Int))), some (wp_i ((N : Int))), some (wp_i ((m : Int))), some (wp_i ((l : Int) + 1)), some (wp_i (((bf_ m l : Nat) : Int)))]) ji_154_82 rfl (Nat.le_of_ble_eq_true rfl) (by omega) rfl ?_
        refine wl_goto (t := 30) ji_154_85 rfl ?_
        have eg : wg (tT n o e) P m l = 0 := wg_a (by omega) (by omega) (by omega)
        have hm1 : s 68 (m : Int) = ((sm_ (wg (tT n o e) P m) (l + 1) : Nat) : Int) := by show _ = ((sm_ (wg (tT n o e) P m) l + wg (tT n o e) P m l : Nat) : Int); rw [eg]; exact hm0
        rw [show (l : Int) + 1 = ((l + 1 : Nat) : Int) by omega]
        exact ih m (l + 1) h s _ C FR h1 hm2 (by omega) hm1 hW
      · refine wl_s (pc' := 53) ji_154_52 rfl rfl rfl ?_
        refine wl_s (pc' := 55) ji_154_53 rfl rfl rfl ?_
        obtain ⟨q8, hq8⟩ := cs_c C (by decide) sq_65
        refine wl_vc (d := d) (as := [.ref 65, wp_i ((l : Int))]) (rest := []) ji_154_55 jc_154_31 rfl hq8 jk_155.symm (Nat.le_of_ble_eq_true rfl) rfl (by rw [jn_155]; rfl) (uc_155 (d := d) C CL (by omega)) (fun v1 h7 R => ?_)
        obtain ⟨ee, rfl⟩ := R
        rw [ee]
        clear ee
        have t69 := tk_64 (o := o) (e := e) (p := l) n ho
        show wl_R _ _ 154 58 [some (.ref 65), some (wp_i ((P : Int))), some (wp_i ((N : Int))), some (wp_i ((m : Int))), some (wp_i ((l : Int))), some (wp_i (((bf_ m l : Nat) : Int)))] [wp_i (((tk_ o e l n : Nat) : Int))] _ _
        refine wl_s (pc' := 60) ji_154_58 rfl rfl rfl ?_
        refine wl_s (pc' := 61) ji_154_60 rfl rfl rfl ?_
        refine wl_s (pc' := 62) (st' := [.int ((Int32.ofInt (((bf_ m l : Nat) : Int))) ^^^ (Int32.ofInt (-1))), wp_i (((tk_ o e l n : Nat) : Int))]) ji_154_61 rfl rfl rfl ?_
        have anb := an_b ⟨tk_ o e l n, tk_64 n ho⟩ ⟨bf_ m l, by omega⟩
        have anb : tk_ o e l n &&& (63 ^^^ bf_ m l) < 64 := anb
        refine wl_s (pc' := 63) (lv' := [some (.ref 65), some (wp_i ((P : Int))), some (wp_i ((N : Int))), some (wp_i ((m : Int))), some (wp_i ((l : Int))), some (wp_i (((bf_ m l : Nat) : Int)))]) (st' := [wp_i (((tk_ o e l n &&& (63 ^^^ bf_ m l) : Nat) : Int))]) (h' := h) ji_154_62 rfl rfl (congrArg (fun z => (some (63, [some (.ref 65), some (wp_i ((P : Int))), some (wp_i ((N : Int))), some (wp_i ((m : Int))), some (wp_i ((l : Int))), some (wp_i (((bf_ m l : Nat) : Int)))], [Value.int z], h) : Option mj_S)) (an_2 ⟨tk_ o e l n, tk_64 n ho⟩ ⟨bf_ m l, by omega⟩)) ?_
        refine wl_if (t := 82) ji_154_63 rfl (by omega) (fun (hb10 : ¬ (((tk_ o e l n &&& (63 ^^^ bf_ m l) : Nat) : Int) : Int) = 0) => ?_) (fun (hb10 : ¬ (¬ (((tk_ o e l n &&& (63 ^^^ bf_ m l) : Nat) : Int) : Int) = 0)) => ?_)
        · refine wl_iinc (x := (l : Int)) (z := (l : Int) + 1) (lv' := [some (.ref 65), some (wp_i ((P : Int))), some (wp_i ((N : Int))), some (wp_i ((m : Int))), some (wp_i ((l : Int) + 1)), some (wp_i (((bf_ m l : Nat) : Int)))]) ji_154_82 rfl (Nat.le_of_ble_eq_true rfl) (by omega) rfl ?_
          refine wl_goto (t := 30) ji_154_85 rfl ?_
          have eg : wg (tT n o e) P m l = 0 := wg_b (by omega) (by omega) ho (by omega)
          have hm1 : s 68 (m : Int) = ((sm_ (wg (tT n o e) P m) (l + 1) : Nat) : Int) := by show _ = ((sm_ (wg (tT n o e) P m) l + wg (tT n o e) P m l : Nat) : Int); rw [eg]; exact hm0
          rw [show (l : Int) + 1 = ((l + 1 : Nat) : Int) by omega]
          exact ih m (l + 1) h s _ C FR h1 hm2 (by omega) hm1 hW
        · refine wl_s (pc' := 67) ji_154_66 rfl rfl rfl ?_
          refine cs_gr (r := 68) (k := 2) C (by decide) sq_65 rfl ji_154_67 jf_154_18 ?_
          refine wl_s (pc' := 71) ji_154_70 rfl rfl rfl ?_
          refine wl_s (pc' := 72) ji_154_71 rfl rfl rfl ?_
          refine cs_l (x := (m : Int)) C (by decide) (by decide) sq_68 (by omega) ji_154_72 (fun ld110 ld111 ld112 => ?_)
          have bd12 := hm0
          refine wl_s (pc' := 74) ji_154_73 rfl rfl rfl ?_
          refine cs_gr (r := 68) (k := 2) C (by decide) sq_65 rfl ji_154_74 jf_154_18 ?_
          refine wl_s (pc' := 79) ji_154_77 rfl rfl rfl ?_
          refine cs_l (x := ((bf_ m l : Nat) : Int)) C (by decide) (by decide) sq_68 (by omega) ji_154_79 (fun ld130 ld131 ld132 => ?_)
          have bd14 := hW (bf_ m l) (by omega)
          refine wl_iadd (x := s 68 ((m : Int))) (y := s 68 (((bf_ m l : Nat) : Int))) (z := s 68 ((m : Int)) + (s 68 (((bf_ m l : Nat) : Int)))) ji_154_80 (by omega) ?_
          refine cs_s (x := (m : Int)) (y := s 68 ((m : Int)) + (s 68 (((bf_ m l : Nat) : Int)))) C (by decide) sq_68 (by omega) (by omega) ji_154_81 (fun h st150 st151 C => ?_)
          obtain ⟨s16, es16⟩ : ∃ z9_, up s 68 ((m : Int)) (s 68 ((m : Int)) + (s 68 (((bf_ m l : Nat) : Int)))) = z9_ := ⟨_, rfl⟩
          rw [es16] at C
          refine wl_iinc (x := (l : Int)) (z := (l : Int) + 1) (lv' := [some (.ref 65), some (wp_i ((P : Int))), some (wp_i ((N : Int))), some (wp_i ((m : Int))), some (wp_i ((l : Int) + 1)), some (wp_i (((bf_ m l : Nat) : Int)))]) ji_154_82 rfl (Nat.le_of_ble_eq_true rfl) (by omega) rfl ?_
          refine wl_goto (t := 30) ji_154_85 rfl ?_
          have eg : wg (tT n o e) P m l = wy (tT n o e) P 64 (bf_ m l) := wg_1 hP (by omega) (by omega) ho (by omega) (by omega)
          have hw9 := hW (bf_ m l) (by omega)
          have hm1 : s16 68 (m : Int) = ((sm_ (wg (tT n o e) P m) (l + 1) : Nat) : Int) := by
            show _ = ((sm_ (wg (tT n o e) P m) l + wg (tT n o e) P m l : Nat) : Int)
            rw [← es16, up_e, eg]
            omega
          rw [show (l : Int) + 1 = ((l + 1 : Nat) : Int) by omega]
          exact ih m (l + 1) h s16 _ C (fun a j ha => (show s16 a j = s a j by rw [← es16, up_a (by omega)]).trans ((FR a j ha))) h1 hm2 (by omega) hm1 (fun j hj => by rw [← es16, up_k (by omega)]; exact hW j hj)
theorem uc_154 {nn d : Nat} {h : mj_H} {s : sg_} (C : CS h s) {n P : Nat} {o e : Nat → Nat} (CL : CLM s n P o e) : wl_R nn (d + 1) 154 0 [some (.ref 65), some (wp_i ((P : Int))), none, none, none, none] [] h (fun v1 h1 => ∃ s1, CS h1 s1 ∧ (∀ (a : Nat) (j : Int), ¬ a = 68 → s1 a j = s a j) ∧ v1 = some (wp_i ((wy (tT n o e) P 64 (2 ^ P - 1) : Nat) : Int))) := by
  obtain ⟨⟨en, eP⟩, hn, hP, hk⟩ := id CL
  have ho : ∀ k, k < n → o k < 6 := fun k hq => by have := (hk k hq).2.2.1; omega
  refine wl_s (pc' := 1) ji_154_0 rfl rfl rfl ?_
  refine wl_s (pc' := 2) ji_154_1 rfl rfl rfl ?_
  have p6 := p2_64 hP
  refine wl_s (pc' := 3) (lv' := [some (.ref 65), some (wp_i ((P : Int))), none, none, none, none]) (st' := [wp_i (((2 ^ P : Nat) : Int))]) (h' := h) ji_154_2 rfl rfl (congrArg (fun z => (some (3, [some (.ref 65), some (wp_i ((P : Int))), none, none, none, none], [Value.int z], h) : Option mj_S)) (sh_P ⟨P, by omega⟩)) ?_
  refine wl_s (pc' := 4) ji_154_3 rfl rfl rfl ?_
  refine wl_isub (x := ((2 ^ P : Nat) : Int)) (y := 1) (z := ((2 ^ P : Nat) : Int) - 1) ji_154_4 (by omega) ?_
  refine wl_s (pc' := 6) (lv' := [some (.ref 65), some (wp_i ((P : Int))), some (wp_i (((2 ^ P : Nat) : Int) - 1)), none, none, none]) ji_154_5 rfl rfl rfl ?_
  refine wl_s (pc' := 7) ji_154_6 rfl rfl rfl ?_
  refine cs_gr (r := 68) (k := 2) C (by decide) sq_65 rfl ji_154_7 jf_154_18 ?_
  refine wl_s (pc' := 11) ji_154_10 rfl rfl rfl ?_
  refine wl_s (pc' := 12) ji_154_11 rfl rfl rfl ?_
  refine cs_s (x := 0) (y := 1) C (by decide) sq_68 (by omega) (by omega) ji_154_12 (fun h st10 st11 C => ?_)
  obtain ⟨s2, es2⟩ : ∃ z9_, up s 68 0 1 = z9_ := ⟨_, rfl⟩
  rw [es2] at C
  refine wl_s (pc' := 14) ji_154_13 rfl rfl rfl ?_
  refine wl_s (pc' := 15) (lv' := [some (.ref 65), some (wp_i ((P : Int))), some (wp_i (((2 ^ P : Nat) : Int) - 1)), some (wp_i 1), none, none]) ji_154_14 rfl rfl rfl ?_
  refine wl_s (pc' := 16) ji_154_15 rfl rfl rfl ?_
  refine wl_s (pc' := 17) ji_154_16 rfl rfl rfl ?_
  refine wl_icmp (t := 94) ji_154_17 rfl (by omega) (by omega) (fun (hb3 : (((2 ^ P : Nat) : Int) - 1 : Int) < 1) => ?_) (fun (hb3 : ¬ ((((2 ^ P : Nat) : Int) - 1 : Int) < 1)) => ?_)
  · refine wl_s (pc' := 95) ji_154_94 rfl rfl rfl ?_
    refine cs_gr (r := 68) (k := 2) C (by decide) sq_65 rfl ji_154_95 jf_154_18 ?_
    refine wl_s (pc' := 99) ji_154_98 rfl rfl rfl ?_
    refine cs_l (x := ((2 ^ P : Nat) : Int) - 1) C (by decide) (by decide) sq_68 (by omega) ji_154_99 (fun ld40 ld41 ld42 => ?_)
    exact wl_ri ji_154_100 jr_154 rfl (⟨_, C, fun a j ha => (show s2 a j = s a j by rw [← es2, up_a (by omega)]).trans (rfl), congrArg (fun z => some (wp_i z)) (by have e0 : 2 ^ P - 1 = 0 := (by omega); rw [e0]; rw [show ((2 ^ P : Nat) : Int) - 1 = 0 by omega, ← es2, up_e]; rfl)⟩)
  · refine wl_s (pc' := 21) ji_154_20 rfl rfl rfl ?_
    refine cs_gr (r := 68) (k := 2) C (by decide) sq_65 rfl ji_154_21 jf_154_18 ?_
    refine wl_s (pc' := 25) ji_154_24 rfl rfl rfl ?_
    refine wl_s (pc' := 26) ji_154_25 rfl rfl rfl ?_
    refine cs_s (x := 1) (y := 0) C (by decide) sq_68 (by omega) (by omega) ji_154_26 (fun h st50 st51 C => ?_)
    obtain ⟨s6, es6⟩ : ∃ z9_, up s2 68 1 0 = z9_ := ⟨_, rfl⟩
    rw [es6] at C
    refine wl_s (pc' := 28) ji_154_27 rfl rfl rfl ?_
    refine wl_s (pc' := 30) (lv' := [some (.ref 65), some (wp_i ((P : Int))), some (wp_i (((2 ^ P : Nat) : Int) - 1)), some (wp_i 1), some (wp_i 0), none]) ji_154_28 rfl rfl rfl ?_
    have e1 : s6 68 (1 : Int) = ((sm_ (wg (tT n o e) P 1) 0 : Nat) : Int) := by rw [← es6, up_e]; rfl
    have e0 : s6 68 ((0 : Nat) : Int) = ((wy (tT n o e) P 64 0 : Nat) : Int) := by rw [← es6, up_k (by decide), ← es2]; exact (up_e _ _ _ _).trans rfl
    rw [show ((2 ^ P : Nat) : Int) - 1 = ((2 ^ P - 1 : Nat) : Int) by omega]
    refine uc_154l CL rfl nn 1 0 h s6 none C (fun a j ha => (show s6 a j = s2 a j by rw [← es6, up_a (by omega)]).trans ((show s2 a j = s a j by rw [← es2, up_a (by omega)]).trans (rfl))) (by omega) (by omega) (by omega) e1 (fun j hj => ?_)
    have ej : j = 0 := by omega
    subst ej
    exact ⟨e0, wy_720 hP (by decide)⟩
theorem uc_157l {d : Nat} {h : mj_H} {s : sg_} (C : CS h s) {n P : Nat} {o e : Nat → Nat} (CL : CLM s n P o e) {q : Nat} (hq : q < 64) {c : List Nat} (hc : ∀ i, i < 6 → q.testBit i = mem_ c i) : ∀ (nn k : Nat) (l4 : Option Value), k ≤ P → lo_ (tT n o e) c k = none → wl_R nn (d + 1) 157 2 [some (.ref 65), some (wp_i ((P : Int))), some (wp_i ((q : Int))), some (wp_i ((k : Int))), l4] [] h (fun v1 h1 => h1 = h ∧ v1 = some (wp_i (((lo_ (tT n o e) c P).getD 0 : Nat) : Int))) := by
  obtain ⟨⟨en, eP⟩, hn, hP, hk⟩ := id CL
  have ho : ∀ k, k < n → o k < 6 := fun k hq => by have := (hk k hq).2.2.1; omega
  intro nn
  induction nn with
  | zero => intros; exact wl_0
  | succ nn ih =>
    intro k l4 hkP hlo
    refine wl_s1 (pc' := 3) ji_157_2 rfl rfl rfl ?_
    refine wl_s (pc' := 4) ji_157_3 rfl rfl rfl ?_
    refine wl_icmp (t := 48) ji_157_4 rfl (by omega) (by omega) (fun (hb1 : ((P : Int) : Int) ≤ ((k : Int))) => ?_) (fun (hb1 : ¬ (((P : Int) : Int) ≤ ((k : Int)))) => ?_)
    · refine wl_s (pc' := 49) ji_157_48 rfl rfl rfl ?_
      exact wl_ri ji_157_49 jr_157 rfl (⟨rfl, by rw [show lo_ (tT n o e) c P = none by rw [show P = k by omega]; exact hlo]; rfl⟩)
    · refine wl_s (pc' := 8) ji_157_7 rfl rfl rfl ?_
      refine wl_s (pc' := 9) ji_157_8 rfl rfl rfl ?_
      refine wl_s (pc' := 10) (st' := [.int ((Int32.ofInt ((q : Int))) >>> ((Int32.ofInt ((k : Int))) &&& 31))]) ji_157_9 rfl rfl rfl ?_
      refine wl_s (pc' := 11) ji_157_10 rfl rfl rfl ?_
      have hbt := btx_b q k
      refine wl_s (pc' := 12) (lv' := [some (.ref 65), some (wp_i ((P : Int))), some (wp_i ((q : Int))), some (wp_i ((k : Int))), l4]) (st' := [wp_i (((bt_ q k : Nat) : Int))]) (h' := h) ji_157_11 rfl rfl (congrArg (fun z => (some (12, [some (.ref 65), some (wp_i ((P : Int))), some (wp_i ((q : Int))), some (wp_i ((k : Int))), l4], [Value.int z], h) : Option mj_S)) (bs_i ⟨q, hq⟩ ⟨k, by omega⟩)) ?_
      refine wl_s (pc' := 13) ji_157_12 rfl rfl rfl ?_
      refine wl_icmp (t := 20) ji_157_13 rfl (by omega) (by omega) (fun (hb2 : ¬ (((bt_ q k : Nat) : Int) : Int) = 1) => ?_) (fun (hb2 : ¬ (¬ (((bt_ q k : Nat) : Int) : Int) = 1)) => ?_)
      · refine wl_s (pc' := 21) ji_157_20 rfl rfl rfl ?_
        refine wl_s (pc' := 23) (lv' := [some (.ref 65), some (wp_i ((P : Int))), some (wp_i ((q : Int))), some (wp_i ((k : Int))), some (wp_i 0)]) ji_157_21 rfl rfl rfl ?_
        refine wl_s (pc' := 25) ji_157_23 rfl rfl rfl ?_
        refine wl_if (t := 42) ji_157_25 rfl (by omega) (fun (hb3 : ¬ (0 : Int) = 0) => (by exfalso; omega)) (fun (hb3 : ¬ (¬ (0 : Int) = 0)) => ?_)
        refine wl_s (pc' := 29) ji_157_28 rfl rfl rfl ?_
        refine wl_s (pc' := 30) ji_157_29 rfl rfl rfl ?_
        obtain ⟨q5, hq5⟩ := cs_c C (by decide) sq_65
        refine wl_vc (d := d) (as := [.ref 65, wp_i ((k : Int))]) (rest := []) ji_157_30 jc_157_31 rfl hq5 jk_155.symm (Nat.le_of_ble_eq_true rfl) rfl (by rw [jn_155]; rfl) (uc_155 (d := d) C CL (by omega)) (fun v1 h4 R => ?_)
        obtain ⟨ee, rfl⟩ := R
        rw [ee]
        clear ee
        have t66 := tk_64 (o := o) (e := e) (p := k) n ho
        show wl_R _ _ 157 33 [some (.ref 65), some (wp_i ((P : Int))), some (wp_i ((q : Int))), some (wp_i ((k : Int))), some (wp_i 0)] [wp_i (((tk_ o e k n : Nat) : Int))] _ _
        refine wl_s (pc' := 34) ji_157_33 rfl rfl rfl ?_
        refine wl_s (pc' := 35) ji_157_34 rfl rfl rfl ?_
        refine wl_s (pc' := 36) (st' := [.int ((Int32.ofInt ((q : Int))) ^^^ (Int32.ofInt (-1))), wp_i (((tk_ o e k n : Nat) : Int))]) ji_157_35 rfl rfl rfl ?_
        have anb := an_b ⟨tk_ o e k n, tk_64 n ho⟩ ⟨q, hq⟩
        have anb : tk_ o e k n &&& (63 ^^^ q) < 64 := anb
        refine wl_s (pc' := 37) (lv' := [some (.ref 65), some (wp_i ((P : Int))), some (wp_i ((q : Int))), some (wp_i ((k : Int))), some (wp_i 0)]) (st' := [wp_i (((tk_ o e k n &&& (63 ^^^ q) : Nat) : Int))]) (h' := h) ji_157_36 rfl rfl (congrArg (fun z => (some (37, [some (.ref 65), some (wp_i ((P : Int))), some (wp_i ((q : Int))), some (wp_i ((k : Int))), some (wp_i 0)], [Value.int z], h) : Option mj_S)) (an_2 ⟨tk_ o e k n, tk_64 n ho⟩ ⟨q, hq⟩)) ?_
        refine wl_if (t := 42) ji_157_37 rfl (by omega) (fun (hb7 : ¬ (((tk_ o e k n &&& (63 ^^^ q) : Nat) : Int) : Int) = 0) => ?_) (fun (hb7 : ¬ (¬ (((tk_ o e k n &&& (63 ^^^ q) : Nat) : Int) : Int) = 0)) => ?_)
        · refine wl_iinc (x := (k : Int)) (z := (k : Int) + 1) (lv' := [some (.ref 65), some (wp_i ((P : Int))), some (wp_i ((q : Int))), some (wp_i ((k : Int) + 1)), some (wp_i 0)]) ji_157_42 rfl (Nat.le_of_ble_eq_true rfl) (by omega) rfl ?_
          refine wl_goto (t := 2) ji_157_45 rfl ?_
          rw [show (k : Int) + 1 = ((k + 1 : Nat) : Int) by omega]
          exact ih (k + 1) _ (by omega) (lo_n hlo (fr_b hq ho hc (by omega)))
        · refine wl_s (pc' := 41) ji_157_40 rfl rfl rfl ?_
          exact wl_ri ji_157_41 jr_157 rfl (⟨rfl, by rw [lo_s hlo (fr_c hq (by omega) ho hc (bt_0 (by omega)) (by omega)) P (by omega)]; rfl⟩)
      · refine wl_s (pc' := 17) ji_157_16 rfl rfl rfl ?_
        refine wl_goto (t := 21) ji_157_17 rfl ?_
        refine wl_s (pc' := 23) (lv' := [some (.ref 65), some (wp_i ((P : Int))), some (wp_i ((q : Int))), some (wp_i ((k : Int))), some (wp_i 1)]) ji_157_21 rfl rfl rfl ?_
        refine wl_s (pc' := 25) ji_157_23 rfl rfl rfl ?_
        refine wl_if (t := 42) ji_157_25 rfl (by omega) (fun (hb8 : ¬ (1 : Int) = 0) => ?_) (fun (hb8 : ¬ (¬ (1 : Int) = 0)) => (by exfalso; omega))
        refine wl_iinc (x := (k : Int)) (z := (k : Int) + 1) (lv' := [some (.ref 65), some (wp_i ((P : Int))), some (wp_i ((q : Int))), some (wp_i ((k : Int) + 1)), some (wp_i 1)]) ji_157_42 rfl (Nat.le_of_ble_eq_true rfl) (by omega) rfl ?_
        refine wl_goto (t := 2) ji_157_45 rfl ?_
        rw [show (k : Int) + 1 = ((k + 1 : Nat) : Int) by omega]
        exact ih (k + 1) _ (by omega) (lo_n hlo (fr_a (by omega) hc (bt_1 (by omega))))
theorem uc_157 {nn d : Nat} {h : mj_H} {s : sg_} (C : CS h s) {n P : Nat} {o e : Nat → Nat} (CL : CLM s n P o e) {q : Nat} (hq : q < 64) {c : List Nat} (hc : ∀ i, i < 6 → q.testBit i = mem_ c i) : wl_R nn (d + 1) 157 0 [some (.ref 65), some (wp_i ((P : Int))), some (wp_i ((q : Int))), none, none] [] h (fun v1 h1 => h1 = h ∧ v1 = some (wp_i (((lo_ (tT n o e) c P).getD 0 : Nat) : Int))) := by
  refine wl_s (pc' := 1) ji_157_0 rfl rfl rfl ?_
  refine wl_s (pc' := 2) (lv' := [some (.ref 65), some (wp_i ((P : Int))), some (wp_i ((q : Int))), some (wp_i 0), none]) ji_157_1 rfl rfl rfl ?_
  exact uc_157l C CL hq hc nn 0 none (by omega) rfl
theorem uc_156l {d : Nat} {h : mj_H} {s : sg_} (C : CS h s) {n P : Nat} {o e : Nat → Nat} (CL : CLM s n P o e) {i : Nat} (hi : i < 6) : ∀ (nn k q : Nat), k ≤ i → ∀ hq : q < 64, (∀ j, j < 6 → q.testBit j = mem_ (gk (tT n o e) P k) j) → wl_R nn (d + 2) 156 5 [some (.ref 65), some (wp_i ((P : Int))), some (wp_i ((i : Int))), some (wp_i ((q : Int))), some (wp_i ((k : Int)))] [] h (fun v1 h1 => h1 = h ∧ v1 = some (wp_i (((lo_ (tT n o e) (gk (tT n o e) P i) P).getD 0 : Nat) : Int))) := by
  obtain ⟨⟨en, eP⟩, hn, hP, hk⟩ := id CL
  have ho : ∀ k, k < n → o k < 6 := fun k hq => by have := (hk k hq).2.2.1; omega
  intro nn
  induction nn with
  | zero => intros; exact wl_0
  | succ nn ih =>
    intro k q hki hq hc
    refine wl_s1 (pc' := 7) ji_156_5 rfl rfl rfl ?_
    refine wl_s (pc' := 8) ji_156_7 rfl rfl rfl ?_
    refine wl_icmp (t := 28) ji_156_8 rfl (by omega) (by omega) (fun (hb1 : ((i : Int) : Int) ≤ ((k : Int))) => ?_) (fun (hb1 : ¬ (((i : Int) : Int) ≤ ((k : Int)))) => ?_)
    · refine wl_s (pc' := 29) ji_156_28 rfl rfl rfl ?_
      refine wl_s (pc' := 30) ji_156_29 rfl rfl rfl ?_
      refine wl_s (pc' := 31) ji_156_30 rfl rfl rfl ?_
      obtain ⟨q3, hq3⟩ := cs_c C (by decide) sq_65
      refine wl_vc (d := d + 1) (as := [.ref 65, wp_i ((P : Int)), wp_i ((q : Int))]) (rest := []) ji_156_31 jc_156_35 rfl hq3 jk_157.symm (Nat.le_of_ble_eq_true rfl) rfl (by rw [jn_157]; rfl) (uc_157 (d := d) C CL hq hc) (fun v1 h2 R => ?_)
      obtain ⟨ee, rfl⟩ := R
      rw [ee]
      clear ee
      have l6 := lo_6 (T := tT n o e) (c := gk (tT n o e) P k) hP
      show wl_R _ _ 156 34 [some (.ref 65), some (wp_i ((P : Int))), some (wp_i ((i : Int))), some (wp_i ((q : Int))), some (wp_i ((k : Int)))] [wp_i ((((lo_ (tT n o e) (gk (tT n o e) P k) P).getD 0 : Nat) : Int))] _ _
      exact wl_ri ji_156_34 jr_156 rfl (⟨rfl, by rw [show i = k by omega]⟩)
    · refine wl_s (pc' := 12) ji_156_11 rfl rfl rfl ?_
      refine wl_s (pc' := 13) ji_156_12 rfl rfl rfl ?_
      refine wl_s (pc' := 14) ji_156_13 rfl rfl rfl ?_
      refine wl_s (pc' := 15) ji_156_14 rfl rfl rfl ?_
      refine wl_s (pc' := 16) ji_156_15 rfl rfl rfl ?_
      obtain ⟨q5, hq5⟩ := cs_c C (by decide) sq_65
      refine wl_vc (d := d + 1) (as := [.ref 65, wp_i ((P : Int)), wp_i ((q : Int))]) (rest := [wp_i 1, wp_i ((q : Int))]) ji_156_16 jc_156_35 rfl hq5 jk_157.symm (Nat.le_of_ble_eq_true rfl) rfl (by rw [jn_157]; rfl) (uc_157 (d := d) C CL hq hc) (fun v1 h4 R => ?_)
      obtain ⟨ee, rfl⟩ := R
      rw [ee]
      clear ee
      have l6 := lo_6 (T := tT n o e) (c := gk (tT n o e) P k) hP
      show wl_R _ _ 156 19 [some (.ref 65), some (wp_i ((P : Int))), some (wp_i ((i : Int))), some (wp_i ((q : Int))), some (wp_i ((k : Int)))] [wp_i ((((lo_ (tT n o e) (gk (tT n o e) P k) P).getD 0 : Nat) : Int)), wp_i 1, wp_i ((q : Int))] _ _
      refine wl_s (pc' := 20) (st' := [.int ((Int32.ofInt 1) <<< ((Int32.ofInt ((((lo_ (tT n o e) (gk (tT n o e) P k) P).getD 0 : Nat) : Int))) &&& 31)), wp_i ((q : Int))]) ji_156_19 rfl rfl rfl ?_
      refine wl_s (pc' := 21) (lv' := [some (.ref 65), some (wp_i ((P : Int))), some (wp_i ((i : Int))), some (wp_i ((q : Int))), some (wp_i ((k : Int)))]) (st' := [wp_i (((q ||| 2 ^ ((lo_ (tT n o e) (gk (tT n o e) P k) P).getD 0) : Nat) : Int))]) (h' := h) ji_156_20 rfl rfl (congrArg (fun z => (some (21, [some (.ref 65), some (wp_i ((P : Int))), some (wp_i ((i : Int))), some (wp_i ((q : Int))), some (wp_i ((k : Int)))], [Value.int z], h) : Option mj_S)) (or_i ⟨q, hq⟩ ⟨(lo_ (tT n o e) (gk (tT n o e) P k) P).getD 0, l6⟩)) ?_
      refine wl_s (pc' := 22) (lv' := [some (.ref 65), some (wp_i ((P : Int))), some (wp_i ((i : Int))), some (wp_i (((q ||| 2 ^ ((lo_ (tT n o e) (gk (tT n o e) P k) P).getD 0) : Nat) : Int))), some (wp_i ((k : Int)))]) ji_156_21 rfl rfl rfl ?_
      refine wl_iinc (x := (k : Int)) (z := (k : Int) + 1) (lv' := [some (.ref 65), some (wp_i ((P : Int))), some (wp_i ((i : Int))), some (wp_i (((q ||| 2 ^ ((lo_ (tT n o e) (gk (tT n o e) P k) P).getD 0) : Nat) : Int))), some (wp_i ((k : Int) + 1))]) ji_156_22 rfl (Nat.le_of_ble_eq_true rfl) (by omega) rfl ?_
      refine wl_goto (t := 5) ji_156_25 rfl ?_
      rw [show (k : Int) + 1 = ((k + 1 : Nat) : Int) by omega]
      exact ih (k + 1) (q ||| 2 ^ ((lo_ (tT n o e) (gk (tT n o e) P k) P).getD 0)) (by omega) (or_64 ⟨q, hq⟩ ⟨_, p2_5 ⟨_, l6⟩⟩) (mk_c hc l6)
theorem uc_156 {nn d : Nat} {h : mj_H} {s : sg_} (C : CS h s) {n P : Nat} {o e : Nat → Nat} (CL : CLM s n P o e) {i : Nat} (hi : i < 6) : wl_R nn (d + 2) 156 0 [some (.ref 65), some (wp_i ((P : Int))), some (wp_i ((i : Int))), none, none] [] h (fun v1 h1 => h1 = h ∧ v1 = some (wp_i (((lo_ (tT n o e) (gk (tT n o e) P i) P).getD 0 : Nat) : Int))) := by
  refine wl_s (pc' := 1) ji_156_0 rfl rfl rfl ?_
  refine wl_s (pc' := 2) (lv' := [some (.ref 65), some (wp_i ((P : Int))), some (wp_i ((i : Int))), some (wp_i 0), none]) ji_156_1 rfl rfl rfl ?_
  refine wl_s (pc' := 3) ji_156_2 rfl rfl rfl ?_
  refine wl_s (pc' := 5) (lv' := [some (.ref 65), some (wp_i ((P : Int))), some (wp_i ((i : Int))), some (wp_i 0), some (wp_i 0)]) ji_156_3 rfl rfl rfl ?_
  exact uc_156l C CL hi nn 0 0 (by omega) (by omega) (fun j hj => (Nat.zero_testBit j).trans (decide_eq_false List.not_mem_nil).symm)
theorem uc_159l {d : Nat} {h : mj_H} {s : sg_} (C : CS h s) {n P : Nat} {o e : Nat → Nat} (CL : CLM s n P o e) {b : Nat} (hb : b < 6) : ∀ (nn j k : Nat), j < 6 → k ≤ 6 → wl_R nn (d + 1) 159 17 [some (.ref 65), some (wp_i ((b : Int))), some (wp_i (((stm (fun k => tk_ o e k n) (tnm (fun k => tk_ o e k n) (tk_ o e b n) j) k : Nat) : Int))), some (wp_i ((j : Int))), some (wp_i ((k : Int)))] [] h (fun v1 h1 => h1 = h ∧ v1 = some (wp_i ((tnm (fun k => tk_ o e k n) (tk_ o e b n) 6 : Nat) : Int))) := by
  obtain ⟨⟨en, eP⟩, hn, hP, hk⟩ := id CL
  have ho : ∀ k, k < n → o k < 6 := fun k hq => by have := (hk k hq).2.2.1; omega
  intro nn
  induction nn with
  | zero => intros; exact wl_0
  | succ nn ih =>
    intro j k hj6 hk6
    have hst : stm (fun k => tk_ o e k n) (tnm (fun k => tk_ o e k n) (tk_ o e b n) j) k < 64 := stm_l (fun k _ => tk_64 n ho) (tnm_l (fun k _ => tk_64 n ho) (tk_64 n ho) j) k hk6
    refine wl_s1 (pc' := 19) ji_159_17 rfl rfl rfl ?_
    refine wl_bp ji_159_19 rfl ?_
    refine wl_icmp (t := 49) ji_159_21 rfl (by omega) (by omega) (fun (hb1 : (6 : Int) ≤ ((k : Int))) => ?_) (fun (hb1 : ¬ ((6 : Int) ≤ ((k : Int)))) => ?_)
    · refine wl_iinc (x := (j : Int)) (z := (j : Int) + 1) (lv' := [some (.ref 65), some (wp_i ((b : Int))), some (wp_i (((stm (fun k => tk_ o e k n) (tnm (fun k => tk_ o e k n) (tk_ o e b n) j) k : Nat) : Int))), some (wp_i ((j : Int) + 1)), some (wp_i ((k : Int)))]) ji_159_49 rfl (Nat.le_of_ble_eq_true rfl) (by omega) rfl ?_
      refine wl_goto (t := 8) ji_159_52 rfl ?_
      refine wl_s (pc' := 9) ji_159_8 rfl rfl rfl ?_
      refine wl_bp ji_159_9 rfl ?_
      refine wl_icmp (t := 55) ji_159_11 rfl (by omega) (by omega) (fun (hb2 : (6 : Int) ≤ ((j : Int) + 1)) => ?_) (fun (hb2 : ¬ ((6 : Int) ≤ ((j : Int) + 1))) => ?_)
      · refine wl_s (pc' := 56) ji_159_55 rfl rfl rfl ?_
        exact wl_ri ji_159_56 jr_159 rfl (⟨rfl, by have ej : j = 5 := (by omega); have ek : k = 6 := (by omega); subst ej; subst ek; rfl⟩)
      · refine wl_s (pc' := 15) ji_159_14 rfl rfl rfl ?_
        refine wl_s (pc' := 17) (lv' := [some (.ref 65), some (wp_i ((b : Int))), some (wp_i (((stm (fun k => tk_ o e k n) (tnm (fun k => tk_ o e k n) (tk_ o e b n) j) k : Nat) : Int))), some (wp_i ((j : Int) + 1)), some (wp_i 0)]) ji_159_15 rfl rfl rfl ?_
        have ek : k = 6 := by omega
        subst ek
        rw [show (j : Int) + 1 = ((j + 1 : Nat) : Int) by omega, show stm (fun k => tk_ o e k n) (tnm (fun k => tk_ o e k n) (tk_ o e b n) j) 6 = stm (fun k => tk_ o e k n) (tnm (fun k => tk_ o e k n) (tk_ o e b n) (j + 1)) 0 from rfl]
        exact ih (j + 1) 0 (by omega) (by omega)
    · refine wl_s (pc' := 25) ji_159_24 rfl rfl rfl ?_
      refine wl_s (pc' := 27) ji_159_25 rfl rfl rfl ?_
      refine wl_s (pc' := 28) (st' := [.int ((Int32.ofInt (((stm (fun k => tk_ o e k n) (tnm (fun k => tk_ o e k n) (tk_ o e b n) j) k : Nat) : Int))) >>> ((Int32.ofInt ((k : Int))) &&& 31))]) ji_159_27 rfl rfl rfl ?_
      refine wl_s (pc' := 29) ji_159_28 rfl rfl rfl ?_
      have hbt := btx_b (stm (fun k => tk_ o e k n) (tnm (fun k => tk_ o e k n) (tk_ o e b n) j) k) k
      refine wl_s (pc' := 30) (lv' := [some (.ref 65), some (wp_i ((b : Int))), some (wp_i (((stm (fun k => tk_ o e k n) (tnm (fun k => tk_ o e k n) (tk_ o e b n) j) k : Nat) : Int))), some (wp_i ((j : Int))), some (wp_i ((k : Int)))]) (st' := [wp_i (((bt_ (stm (fun k => tk_ o e k n) (tnm (fun k => tk_ o e k n) (tk_ o e b n) j) k) k : Nat) : Int))]) (h' := h) ji_159_29 rfl rfl (congrArg (fun z => (some (30, [some (.ref 65), some (wp_i ((b : Int))), some (wp_i (((stm (fun k => tk_ o e k n) (tnm (fun k => tk_ o e k n) (tk_ o e b n) j) k : Nat) : Int))), some (wp_i ((j : Int))), some (wp_i ((k : Int)))], [Value.int z], h) : Option mj_S)) (bs_i ⟨stm (fun k => tk_ o e k n) (tnm (fun k => tk_ o e k n) (tk_ o e b n) j) k, hst⟩ ⟨k, by omega⟩)) ?_
      refine wl_s (pc' := 31) ji_159_30 rfl rfl rfl ?_
      refine wl_icmp (t := 43) ji_159_31 rfl (by omega) (by omega) (fun (hb3 : ¬ (((bt_ (stm (fun k => tk_ o e k n) (tnm (fun k => tk_ o e k n) (tk_ o e b n) j) k) k : Nat) : Int) : Int) = 1) => ?_) (fun (hb3 : ¬ (¬ (((bt_ (stm (fun k => tk_ o e k n) (tnm (fun k => tk_ o e k n) (tk_ o e b n) j) k) k : Nat) : Int) : Int) = 1)) => ?_)
      · refine wl_iinc (x := (k : Int)) (z := (k : Int) + 1) (lv' := [some (.ref 65), some (wp_i ((b : Int))), some (wp_i (((stm (fun k => tk_ o e k n) (tnm (fun k => tk_ o e k n) (tk_ o e b n) j) k : Nat) : Int))), some (wp_i ((j : Int))), some (wp_i ((k : Int) + 1))]) ji_159_43 rfl (Nat.le_of_ble_eq_true rfl) (by omega) rfl ?_
        refine wl_goto (t := 17) ji_159_46 rfl ?_
        have eg : stm (fun k => tk_ o e k n) (tnm (fun k => tk_ o e k n) (tk_ o e b n) j) (k + 1) = stm (fun k => tk_ o e k n) (tnm (fun k => tk_ o e k n) (tk_ o e b n) j) k := st_s.trans (if_neg (by rw [bt_0 (show ¬ bt_ (stm (fun k => tk_ o e k n) (tnm (fun k => tk_ o e k n) (tk_ o e b n) j) k) k = 1 by omega)]; decide))
        rw [show (k : Int) + 1 = ((k + 1 : Nat) : Int) by omega, ← eg]
        exact ih j (k + 1) (by omega) (by omega)
      · refine wl_s (pc' := 35) ji_159_34 rfl rfl rfl ?_
        refine wl_s (pc' := 36) ji_159_35 rfl rfl rfl ?_
        refine wl_s (pc' := 38) ji_159_36 rfl rfl rfl ?_
        obtain ⟨q5, hq5⟩ := cs_c C (by decide) sq_65
        refine wl_vc (d := d) (as := [.ref 65, wp_i ((k : Int))]) (rest := [wp_i (((stm (fun k => tk_ o e k n) (tnm (fun k => tk_ o e k n) (tk_ o e b n) j) k : Nat) : Int))]) ji_159_38 jc_159_31 rfl hq5 jk_155.symm (Nat.le_of_ble_eq_true rfl) rfl (by rw [jn_155]; rfl) (uc_155 (d := d) C CL (by omega)) (fun v1 h4 R => ?_)
        obtain ⟨ee, rfl⟩ := R
        rw [ee]
        clear ee
        have t66 := tk_64 (o := o) (e := e) (p := k) n ho
        show wl_R _ _ 159 41 [some (.ref 65), some (wp_i ((b : Int))), some (wp_i (((stm (fun k => tk_ o e k n) (tnm (fun k => tk_ o e k n) (tk_ o e b n) j) k : Nat) : Int))), some (wp_i ((j : Int))), some (wp_i ((k : Int)))] [wp_i (((tk_ o e k n : Nat) : Int)), wp_i (((stm (fun k => tk_ o e k n) (tnm (fun k => tk_ o e k n) (tk_ o e b n) j) k : Nat) : Int))] _ _
        refine wl_s (pc' := 42) (lv' := [some (.ref 65), some (wp_i ((b : Int))), some (wp_i (((stm (fun k => tk_ o e k n) (tnm (fun k => tk_ o e k n) (tk_ o e b n) j) k : Nat) : Int))), some (wp_i ((j : Int))), some (wp_i ((k : Int)))]) (st' := [wp_i (((stm (fun k => tk_ o e k n) (tnm (fun k => tk_ o e k n) (tk_ o e b n) j) k ||| tk_ o e k n : Nat) : Int))]) (h' := h) ji_159_41 rfl rfl (congrArg (fun z => (some (42, [some (.ref 65), some (wp_i ((b : Int))), some (wp_i (((stm (fun k => tk_ o e k n) (tnm (fun k => tk_ o e k n) (tk_ o e b n) j) k : Nat) : Int))), some (wp_i ((j : Int))), some (wp_i ((k : Int)))], [Value.int z], h) : Option mj_S)) (oo_i ⟨stm (fun k => tk_ o e k n) (tnm (fun k => tk_ o e k n) (tk_ o e b n) j) k, hst⟩ ⟨tk_ o e k n, tk_64 n ho⟩)) ?_
        refine wl_s (pc' := 43) (lv' := [some (.ref 65), some (wp_i ((b : Int))), some (wp_i (((stm (fun k => tk_ o e k n) (tnm (fun k => tk_ o e k n) (tk_ o e b n) j) k ||| tk_ o e k n : Nat) : Int))), some (wp_i ((j : Int))), some (wp_i ((k : Int)))]) ji_159_42 rfl rfl rfl ?_
        refine wl_iinc (x := (k : Int)) (z := (k : Int) + 1) (lv' := [some (.ref 65), some (wp_i ((b : Int))), some (wp_i (((stm (fun k => tk_ o e k n) (tnm (fun k => tk_ o e k n) (tk_ o e b n) j) k ||| tk_ o e k n : Nat) : Int))), some (wp_i ((j : Int))), some (wp_i ((k : Int) + 1))]) ji_159_43 rfl (Nat.le_of_ble_eq_true rfl) (by omega) rfl ?_
        refine wl_goto (t := 17) ji_159_46 rfl ?_
        have eg : stm (fun k => tk_ o e k n) (tnm (fun k => tk_ o e k n) (tk_ o e b n) j) (k + 1) = stm (fun k => tk_ o e k n) (tnm (fun k => tk_ o e k n) (tk_ o e b n) j) k ||| tk_ o e k n := st_s.trans (if_pos (bt_1 (by omega)))
        rw [show (k : Int) + 1 = ((k + 1 : Nat) : Int) by omega, ← eg]
        exact ih j (k + 1) (by omega) (by omega)
theorem uc_159 {nn d : Nat} {h : mj_H} {s : sg_} (C : CS h s) {n P : Nat} {o e : Nat → Nat} (CL : CLM s n P o e) {b : Nat} (hb : b < 6) : wl_R nn (d + 1) 159 0 [some (.ref 65), some (wp_i ((b : Int))), none, none, none] [] h (fun v1 h1 => h1 = h ∧ v1 = some (wp_i ((tnm (fun k => tk_ o e k n) (tk_ o e b n) 6 : Nat) : Int))) := by
  have ho : ∀ k, k < n → o k < 6 := fun k hq => by have := (CL.2.2.2 k hq).2.2.1; have := CL.2.2.1; omega
  refine wl_s (pc' := 1) ji_159_0 rfl rfl rfl ?_
  refine wl_s (pc' := 2) ji_159_1 rfl rfl rfl ?_
  obtain ⟨q2, hq2⟩ := cs_c C (by decide) sq_65
  refine wl_vc (d := d) (as := [.ref 65, wp_i ((b : Int))]) (rest := []) ji_159_2 jc_159_31 rfl hq2 jk_155.symm (Nat.le_of_ble_eq_true rfl) rfl (by rw [jn_155]; rfl) (uc_155 (d := d) C CL (by omega)) (fun v1 h1 R => ?_)
  obtain ⟨ee, rfl⟩ := R
  rw [ee]
  clear ee
  have t63 := tk_64 (o := o) (e := e) (p := b) n ho
  show wl_R _ _ 159 5 [some (.ref 65), some (wp_i ((b : Int))), none, none, none] [wp_i (((tk_ o e b n : Nat) : Int))] _ _
  refine wl_s (pc' := 6) (lv' := [some (.ref 65), some (wp_i ((b : Int))), some (wp_i (((tk_ o e b n : Nat) : Int))), none, none]) ji_159_5 rfl rfl rfl ?_
  refine wl_s (pc' := 7) ji_159_6 rfl rfl rfl ?_
  refine wl_s (pc' := 8) (lv' := [some (.ref 65), some (wp_i ((b : Int))), some (wp_i (((tk_ o e b n : Nat) : Int))), some (wp_i 0), none]) ji_159_7 rfl rfl rfl ?_
  refine wl_s (pc' := 9) ji_159_8 rfl rfl rfl ?_
  refine wl_bp ji_159_9 rfl ?_
  refine wl_icmp (t := 55) ji_159_11 rfl (by omega) (by omega) (fun (hb4 : (6 : Int) ≤ 0) => (by exfalso; omega)) (fun (hb4 : ¬ ((6 : Int) ≤ 0)) => ?_)
  refine wl_s (pc' := 15) ji_159_14 rfl rfl rfl ?_
  refine wl_s (pc' := 17) (lv' := [some (.ref 65), some (wp_i ((b : Int))), some (wp_i (((tk_ o e b n : Nat) : Int))), some (wp_i 0), some (wp_i 0)]) ji_159_15 rfl rfl rfl ?_
  exact uc_159l C CL hb nn 0 0 (by omega) (by omega)
/-- orders: how many, or who stands there in the first -/
def orV (n P : Nat) (o e : Nat → Nat) (i : Int) : Int := if i = -1 then ((wy (tT n o e) P 64 (2 ^ P - 1) : Nat) : Int) else if (¬ wy (tT n o e) P 64 (2 ^ P - 1) = 0 ∧ 0 ≤ i) ∧ i < (P : Int) then (((lo_ (tT n o e) (gk (tT n o e) P i.toNat) P).getD 0 : Nat) : Int) else -1
def suV (n P : Nat) (o e : Nat → Nat) (a b : Int) : Int := if ((0 ≤ a ∧ a < (P : Int)) ∧ 0 ≤ b ∧ b < (P : Int)) ∧ ¬ a = b ∧ ¬ wy (tT n o e) P 64 (2 ^ P - 1) = 0 then ((bt_ (tnm (fun k => tk_ o e k n) (tk_ o e b.toNat n) 6) a.toNat : Nat) : Int) else -1
theorem uc_153 {nn d : Nat} {h : mj_H} {s : sg_} (C : CS h s) {n P : Nat} {o e : Nat → Nat} (CL : CLM s n P o e) {i : Int} (hi : wp_r i) : wl_R nn (d + 3) 153 0 [some (.ref 9), some (wp_i i), none, none] [] h (fun v1 h1 => v1 = some (wp_i (orV n P o e i))) := by
  obtain ⟨⟨en, eP⟩, hn, hP, hk⟩ := id CL
  refine wl_s (pc' := 1) ji_153_0 rfl rfl rfl ?_
  refine cs_gr (r := 47) (k := 0) C (by decide) sq_9 rfl ji_153_1 jf_153_19 ?_
  refine cs_gr (r := 48) (k := 0) C (by decide) sq_47 rfl ji_153_4 jf_153_49 ?_
  refine cs_gi (k := 1) (kI := 1) C (by decide) (by decide) sq_48 rfl rfl ji_153_7 jf_153_139 ?_
  rw [eP]
  have bd1 : wp_r ((P : Int)) := eP ▸ cs_ri (k := 1) (kI := 1) C (by decide) (by decide) sq_48 rfl rfl (show 1 < 13 by decide)
  refine wl_s (pc' := 11) (lv' := [some (.ref 9), some (wp_i i), some (wp_i ((P : Int))), none]) ji_153_10 rfl rfl rfl ?_
  refine wl_s (pc' := 12) ji_153_11 rfl rfl rfl ?_
  refine cs_gr (r := 47) (k := 0) C (by decide) sq_9 rfl ji_153_12 jf_153_19 ?_
  refine cs_gr (r := 65) (k := 4) C (by decide) sq_47 rfl ji_153_15 jf_153_304 ?_
  refine wl_s (pc' := 19) ji_153_18 rfl rfl rfl ?_
  obtain ⟨q3, hq3⟩ := cs_c C (by decide) sq_65
  refine wl_vc (d := d + 2) (as := [.ref 65, wp_i ((P : Int))]) (rest := []) ji_153_19 jc_153_313 rfl hq3 jk_154.symm (Nat.le_of_ble_eq_true rfl) rfl (by rw [jn_154]; rfl) (uc_154 (d := d + 1) C CL) (fun v1 h2 R => ?_)
  obtain ⟨t4, C, FR, ee⟩ := R
  rw [ee]
  clear ee
  have CL := CLM_f CL FR
  obtain ⟨⟨en, eP⟩, hn, hP, hk⟩ := id CL
  have w720 := wy_720 (T := tT n o e) hP (show 2 ^ P - 1 < 64 by have := p2_64 hP; omega)
  show wl_R _ _ 153 22 [some (.ref 9), some (wp_i i), some (wp_i ((P : Int))), none] [wp_i (((wy (tT n o e) P 64 (2 ^ P - 1) : Nat) : Int))] h2 _
  refine wl_s (pc' := 23) (lv' := [some (.ref 9), some (wp_i i), some (wp_i ((P : Int))), some (wp_i (((wy (tT n o e) P 64 (2 ^ P - 1) : Nat) : Int)))]) ji_153_22 rfl rfl rfl ?_
  refine wl_s (pc' := 24) ji_153_23 rfl rfl rfl ?_
  refine wl_s (pc' := 25) ji_153_24 rfl rfl rfl ?_
  refine wl_icmp (t := 30) ji_153_25 rfl (by omega) (by omega) (fun (hb5 : ¬ (i : Int) = (-1)) => ?_) (fun (hb5 : ¬ (¬ (i : Int) = (-1))) => ?_)
  · refine wl_s (pc' := 31) ji_153_30 rfl rfl rfl ?_
    refine wl_if (t := 43) ji_153_31 rfl (by omega) (fun (hb6 : (((wy (tT n o e) P 64 (2 ^ P - 1) : Nat) : Int) : Int) = 0) => ?_) (fun (hb6 : ¬ ((((wy (tT n o e) P 64 (2 ^ P - 1) : Nat) : Int) : Int) = 0)) => ?_)
    · refine wl_s (pc' := 44) ji_153_43 rfl rfl rfl ?_
      refine wl_goto (t := 59) ji_153_44 rfl ?_
      exact wl_ri ji_153_59 jr_153 rfl (congrArg (fun z => some (wp_i z)) ((if_neg (by omega)).trans (if_neg (by omega))).symm)
    · refine wl_s (pc' := 35) ji_153_34 rfl rfl rfl ?_
      refine wl_if (t := 43) ji_153_35 rfl (by omega) (fun (hb7 : (i : Int) < 0) => ?_) (fun (hb7 : ¬ ((i : Int) < 0)) => ?_)
      · refine wl_s (pc' := 44) ji_153_43 rfl rfl rfl ?_
        refine wl_goto (t := 59) ji_153_44 rfl ?_
        exact wl_ri ji_153_59 jr_153 rfl (congrArg (fun z => some (wp_i z)) ((if_neg (by omega)).trans (if_neg (by omega))).symm)
      · refine wl_s (pc' := 39) ji_153_38 rfl rfl rfl ?_
        refine wl_s (pc' := 40) ji_153_39 rfl rfl rfl ?_
        refine wl_icmp (t := 47) ji_153_40 rfl (by omega) (by omega) (fun (hb8 : (i : Int) < ((P : Int))) => ?_) (fun (hb8 : ¬ ((i : Int) < ((P : Int)))) => ?_)
        · refine wl_s (pc' := 48) ji_153_47 rfl rfl rfl ?_
          refine cs_gr (r := 47) (k := 0) C (by decide) sq_9 rfl ji_153_48 jf_153_19 ?_
          refine cs_gr (r := 65) (k := 4) C (by decide) sq_47 rfl ji_153_51 jf_153_304 ?_
          refine wl_s (pc' := 55) ji_153_54 rfl rfl rfl ?_
          refine wl_s (pc' := 56) ji_153_55 rfl rfl rfl ?_
          obtain ⟨q10, hq10⟩ := cs_c C (by decide) sq_65
          refine wl_vc (d := d + 2) (as := [.ref 65, wp_i ((P : Int)), wp_i i]) (rest := []) ji_153_56 jc_153_316 rfl hq10 jk_156.symm (Nat.le_of_ble_eq_true rfl) rfl (by rw [jn_156]; rfl) ((by have k := uc_156 (nn := nn) (d := d) C CL (i := i.toNat) (by omega); rw [show ((i.toNat : Nat) : Int) = i by omega] at k; exact k)) (fun v1 h9 R => ?_)
          obtain ⟨ee, rfl⟩ := R
          rw [ee]
          clear ee
          have l6 := lo_6 (T := tT n o e) (c := gk (tT n o e) P i.toNat) hP
          show wl_R _ _ 153 59 [some (.ref 9), some (wp_i i), some (wp_i ((P : Int))), some (wp_i (((wy (tT n o e) P 64 (2 ^ P - 1) : Nat) : Int)))] [wp_i ((((lo_ (tT n o e) (gk (tT n o e) P i.toNat) P).getD 0 : Nat) : Int))] _ _
          exact wl_ri ji_153_59 jr_153 rfl (congrArg (fun z => some (wp_i z)) ((if_neg (by omega)).trans (if_pos (by omega))).symm)
        · refine wl_s (pc' := 44) ji_153_43 rfl rfl rfl ?_
          refine wl_goto (t := 59) ji_153_44 rfl ?_
          exact wl_ri ji_153_59 jr_153 rfl (congrArg (fun z => some (wp_i z)) ((if_neg (by omega)).trans (if_neg (by omega))).symm)
  · refine wl_s (pc' := 29) ji_153_28 rfl rfl rfl ?_
    exact wl_ri ji_153_29 jr_153 rfl (congrArg (fun z => some (wp_i z)) (if_pos (by omega)).symm)
theorem uc_158 {nn d : Nat} {h : mj_H} {s : sg_} (C : CS h s) {n P : Nat} {o e : Nat → Nat} (CL : CLM s n P o e) {a b : Int} (ha : wp_r a) (hb : wp_r b) : wl_R nn (d + 3) 158 0 [some (.ref 9), some (wp_i a), some (wp_i b), none] [] h (fun v1 h1 => v1 = some (wp_i (suV n P o e a b))) := by
  obtain ⟨⟨en, eP⟩, hn, hP, hk⟩ := id CL
  refine wl_s (pc' := 1) ji_158_0 rfl rfl rfl ?_
  refine cs_gr (r := 47) (k := 0) C (by decide) sq_9 rfl ji_158_1 jf_158_19 ?_
  refine cs_gr (r := 48) (k := 0) C (by decide) sq_47 rfl ji_158_4 jf_158_49 ?_
  refine wl_s (pc' := 8) (lv' := [some (.ref 9), some (wp_i a), some (wp_i b), some (.ref 48)]) ji_158_7 rfl rfl rfl ?_
  refine wl_s (pc' := 9) ji_158_8 rfl rfl rfl ?_
  refine wl_s (pc' := 10) ji_158_9 rfl rfl rfl ?_
  obtain ⟨q2, hq2⟩ := cs_c C (by decide) sq_48
  refine wl_vc (d := d + 2) (as := [.ref 48, wp_i a]) (rest := []) ji_158_10 jc_158_177 rfl hq2 jk_80.symm (Nat.le_of_ble_eq_true rfl) rfl (by rw [jn_80]; rfl) (uc_80 (d := d + 2) C isF_48 (p := a) ha) (fun v1 h1 R => ?_)
  obtain ⟨ee, y3, rfl, hy3a, hy3b⟩ := R
  rw [ee]
  clear ee
  show wl_R _ _ 158 13 [some (.ref 9), some (wp_i a), some (wp_i b), some (.ref 48)] [wp_i y3] _ _
  refine wl_if (t := 46) ji_158_13 rfl (by omega) (fun (hb4 : (y3 : Int) = 0) => ?_) (fun (hb4 : ¬ ((y3 : Int) = 0)) => ?_)
  · refine wl_s (pc' := 47) ji_158_46 rfl rfl rfl ?_
    exact wl_ri ji_158_47 jr_158 rfl (congrArg (fun z => some (wp_i z)) (if_neg (by omega)).symm)
  · refine wl_s (pc' := 17) ji_158_16 rfl rfl rfl ?_
    refine wl_s (pc' := 18) ji_158_17 rfl rfl rfl ?_
    obtain ⟨q6, hq6⟩ := cs_c C (by decide) sq_48
    refine wl_vc (d := d + 2) (as := [.ref 48, wp_i b]) (rest := []) ji_158_18 jc_158_177 rfl hq6 jk_80.symm (Nat.le_of_ble_eq_true rfl) rfl (by rw [jn_80]; rfl) (uc_80 (d := d + 2) C isF_48 (p := b) hb) (fun v1 h5 R => ?_)
    obtain ⟨ee, y7, rfl, hy7a, hy7b⟩ := R
    rw [ee]
    clear ee
    show wl_R _ _ 158 21 [some (.ref 9), some (wp_i a), some (wp_i b), some (.ref 48)] [wp_i y7] _ _
    refine wl_if (t := 46) ji_158_21 rfl (by omega) (fun (hb8 : (y7 : Int) = 0) => ?_) (fun (hb8 : ¬ ((y7 : Int) = 0)) => ?_)
    · refine wl_s (pc' := 47) ji_158_46 rfl rfl rfl ?_
      exact wl_ri ji_158_47 jr_158 rfl (congrArg (fun z => some (wp_i z)) (if_neg (by omega)).symm)
    · refine wl_s (pc' := 25) ji_158_24 rfl rfl rfl ?_
      refine wl_s (pc' := 26) ji_158_25 rfl rfl rfl ?_
      refine wl_icmp (t := 46) ji_158_26 rfl (by omega) (by omega) (fun (hb9 : (a : Int) = b) => ?_) (fun (hb9 : ¬ ((a : Int) = b)) => ?_)
      · refine wl_s (pc' := 47) ji_158_46 rfl rfl rfl ?_
        exact wl_ri ji_158_47 jr_158 rfl (congrArg (fun z => some (wp_i z)) (if_neg (by omega)).symm)
      · refine wl_s (pc' := 30) ji_158_29 rfl rfl rfl ?_
        refine cs_gr (r := 47) (k := 0) C (by decide) sq_9 rfl ji_158_30 jf_158_19 ?_
        refine cs_gr (r := 65) (k := 4) C (by decide) sq_47 rfl ji_158_33 jf_158_304 ?_
        refine wl_s (pc' := 37) ji_158_36 rfl rfl rfl ?_
        refine cs_gi (k := 1) (kI := 1) C (by decide) (by decide) sq_48 rfl rfl ji_158_37 jf_158_139 ?_
        rw [eP]
        have bd10 : wp_r ((P : Int)) := eP ▸ cs_ri (k := 1) (kI := 1) C (by decide) (by decide) sq_48 rfl rfl (show 1 < 13 by decide)
        obtain ⟨q12, hq12⟩ := cs_c C (by decide) sq_65
        refine wl_vc (d := d + 2) (as := [.ref 65, wp_i ((P : Int))]) (rest := []) ji_158_40 jc_158_313 rfl hq12 jk_154.symm (Nat.le_of_ble_eq_true rfl) rfl (by rw [jn_154]; rfl) (uc_154 (d := d + 1) C CL) (fun v1 h11 R => ?_)
        obtain ⟨t13, C, FR, ee⟩ := R
        rw [ee]
        clear ee
        have CL := CLM_f CL FR
        obtain ⟨⟨en, eP⟩, hn, hP, hk⟩ := id CL
        have w720 := wy_720 (T := tT n o e) hP (show 2 ^ P - 1 < 64 by have := p2_64 hP; omega)
        show wl_R _ _ 158 43 [some (.ref 9), some (wp_i a), some (wp_i b), some (.ref 48)] [wp_i (((wy (tT n o e) P 64 (2 ^ P - 1) : Nat) : Int))] h11 _
        refine wl_if (t := 48) ji_158_43 rfl (by omega) (fun (hb14 : ¬ (((wy (tT n o e) P 64 (2 ^ P - 1) : Nat) : Int) : Int) = 0) => ?_) (fun (hb14 : ¬ (¬ (((wy (tT n o e) P 64 (2 ^ P - 1) : Nat) : Int) : Int) = 0)) => ?_)
        · refine wl_s (pc' := 49) ji_158_48 rfl rfl rfl ?_
          refine cs_gr (r := 47) (k := 0) C (by decide) sq_9 rfl ji_158_49 jf_158_19 ?_
          refine cs_gr (r := 65) (k := 4) C (by decide) sq_47 rfl ji_158_52 jf_158_304 ?_
          refine wl_s (pc' := 56) ji_158_55 rfl rfl rfl ?_
          obtain ⟨q16, hq16⟩ := cs_c C (by decide) sq_65
          refine wl_vc (d := d + 2) (as := [.ref 65, wp_i b]) (rest := []) ji_158_56 jc_158_319 rfl hq16 jk_159.symm (Nat.le_of_ble_eq_true rfl) rfl (by rw [jn_159]; rfl) ((by have k := uc_159 (nn := nn) (d := d + 1) C CL (b := b.toNat) (by omega); rw [show ((b.toNat : Nat) : Int) = b by omega] at k; exact k)) (fun v1 h15 R => ?_)
          obtain ⟨ee, rfl⟩ := R
          rw [ee]
          clear ee
          have ho : ∀ k, k < n → o k < 6 := fun k hq => by have := (hk k hq).2.2.1; omega
          have t64 := tnm_l (tm := (fun k => tk_ o e k n)) (fun k _ => tk_64 n ho) (tk_64 (p := b.toNat) (e := e) n ho) 6
          show wl_R _ _ 158 59 [some (.ref 9), some (wp_i a), some (wp_i b), some (.ref 48)] [wp_i (((tnm (fun k => tk_ o e k n) (tk_ o e b.toNat n) 6 : Nat) : Int))] _ _
          refine wl_s (pc' := 60) ji_158_59 rfl rfl rfl ?_
          refine wl_s (pc' := 61) (st' := [.int ((Int32.ofInt (((tnm (fun k => tk_ o e k n) (tk_ o e b.toNat n) 6 : Nat) : Int))) >>> ((Int32.ofInt a) &&& 31))]) ji_158_60 rfl rfl rfl ?_
          refine wl_s (pc' := 62) ji_158_61 rfl rfl rfl ?_
          have hbt := btx_b (tnm (fun k => tk_ o e k n) (tk_ o e b.toNat n) 6) a.toNat
          refine wl_s (pc' := 63) (lv' := [some (.ref 9), some (wp_i a), some (wp_i b), some (.ref 48)]) (st' := [wp_i (((bt_ (tnm (fun k => tk_ o e k n) (tk_ o e b.toNat n) 6) a.toNat : Nat) : Int))]) (h' := h11) ji_158_62 rfl rfl (congrArg (fun z => (some (63, [some (.ref 9), some (wp_i a), some (wp_i b), some (.ref 48)], [Value.int z], h11) : Option mj_S)) (by have k := bs_i ⟨tnm (fun k => tk_ o e k n) (tk_ o e b.toNat n) 6, t64⟩ ⟨a.toNat, by omega⟩; rw [show ((a.toNat : Nat) : Int) = a by omega] at k; exact k)) ?_
          exact wl_ri ji_158_63 jr_158 rfl (congrArg (fun z => some (wp_i z)) (if_pos (by omega)).symm)
        · refine wl_s (pc' := 47) ji_158_46 rfl rfl rfl ?_
          exact wl_ri ji_158_47 jr_158 rfl (congrArg (fun z => some (wp_i z)) (if_neg (by omega)).symm)
