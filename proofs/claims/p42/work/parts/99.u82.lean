/-! -/
set_option maxRecDepth 100000 in
theorem ji_99_4 : mj_ins 99 4 = some (.iload_n 3) := by decide +kernel
set_option maxRecDepth 100000 in
theorem ji_99_5 : mj_ins 99 5 = some (.aload_n 0) := by decide +kernel
set_option maxRecDepth 100000 in
theorem ji_99_6 : mj_ins 99 6 = some (.getfield 9) := by decide +kernel
set_option maxRecDepth 100000 in
theorem jf_99_9 : mj_fld 99 9 = some (3, 0, .int, true) := by decide +kernel
set_option maxRecDepth 100000 in
theorem ji_99_9 : mj_ins 99 9 = some (.if_icmp .ge 30) := by decide +kernel
set_option maxRecDepth 100000 in
theorem ji_99_39 : mj_ins 99 39 = some (.iload_n 2) := by decide +kernel
set_option maxRecDepth 100000 in
theorem ji_99_40 : mj_ins 99 40 = some (.ireturn) := by decide +kernel
set_option maxRecDepth 100000 in
theorem jr_99 : mj_ret 99 = some .int := by decide +kernel
set_option maxRecDepth 100000 in
theorem ji_99_12 : mj_ins 99 12 = some (.aload_n 0) := by decide +kernel
set_option maxRecDepth 100000 in
theorem ji_99_13 : mj_ins 99 13 = some (.getfield 34) := by decide +kernel
set_option maxRecDepth 100000 in
theorem jf_99_34 : mj_fld 99 34 = some (3, 7, (.array .int), false) := by decide +kernel
set_option maxRecDepth 100000 in
theorem ji_99_16 : mj_ins 99 16 = some (.iload_n 3) := by decide +kernel
set_option maxRecDepth 100000 in
theorem ji_99_17 : mj_ins 99 17 = some (.bipush 6) := by decide +kernel
set_option maxRecDepth 100000 in
theorem ji_99_19 : mj_ins 99 19 = some (.imul) := by decide +kernel
set_option maxRecDepth 100000 in
theorem ji_99_20 : mj_ins 99 20 = some (.iload_n 1) := by decide +kernel
set_option maxRecDepth 100000 in
theorem ji_99_21 : mj_ins 99 21 = some (.iadd) := by decide +kernel
set_option maxRecDepth 100000 in
theorem ji_99_22 : mj_ins 99 22 = some (.iaload) := by decide +kernel
set_option maxRecDepth 100000 in
theorem ji_99_23 : mj_ins 99 23 = some (.iconst (-1)) := by decide +kernel
set_option maxRecDepth 100000 in
theorem ji_99_24 : mj_ins 99 24 = some (.if_icmp .eq 9) := by decide +kernel
set_option maxRecDepth 100000 in
theorem ji_99_33 : mj_ins 99 33 = some (.iinc 3 1) := by decide +kernel
set_option maxRecDepth 100000 in
theorem ji_99_36 : mj_ins 99 36 = some (.goto (-32)) := by decide +kernel
set_option maxRecDepth 100000 in
theorem ji_99_27 : mj_ins 99 27 = some (.iload_n 2) := by decide +kernel
set_option maxRecDepth 100000 in
theorem ji_99_28 : mj_ins 99 28 = some (.iconst 1) := by decide +kernel
set_option maxRecDepth 100000 in
theorem ji_99_29 : mj_ins 99 29 = some (.iload_n 3) := by decide +kernel
set_option maxRecDepth 100000 in
theorem ji_99_30 : mj_ins 99 30 = some (.ishl) := by decide +kernel
set_option maxRecDepth 100000 in
theorem ji_99_31 : mj_ins 99 31 = some (.ior) := by decide +kernel
set_option maxRecDepth 100000 in
theorem ji_99_32 : mj_ins 99 32 = some (.istore_n 2) := by decide +kernel
set_option maxRecDepth 100000 in
theorem ji_99_0 : mj_ins 99 0 = some (.iconst 0) := by decide +kernel
set_option maxRecDepth 100000 in
theorem ji_99_1 : mj_ins 99 1 = some (.istore_n 2) := by decide +kernel
set_option maxRecDepth 100000 in
theorem ji_99_2 : mj_ins 99 2 = some (.iconst 0) := by decide +kernel
set_option maxRecDepth 100000 in
theorem ji_99_3 : mj_ins 99 3 = some (.istore_n 3) := by decide +kernel
set_option maxRecDepth 100000 in
theorem ji_100_4 : mj_ins 100 4 = some (.iload_n 3) := by decide +kernel
set_option maxRecDepth 100000 in
theorem ji_100_5 : mj_ins 100 5 = some (.aload_n 0) := by decide +kernel
set_option maxRecDepth 100000 in
theorem ji_100_6 : mj_ins 100 6 = some (.getfield 9) := by decide +kernel
set_option maxRecDepth 100000 in
theorem jf_100_9 : mj_fld 100 9 = some (3, 0, .int, true) := by decide +kernel
set_option maxRecDepth 100000 in
theorem ji_100_9 : mj_ins 100 9 = some (.if_icmp .ge 25) := by decide +kernel
set_option maxRecDepth 100000 in
theorem ji_100_34 : mj_ins 100 34 = some (.iload_n 2) := by decide +kernel
set_option maxRecDepth 100000 in
theorem ji_100_35 : mj_ins 100 35 = some (.ireturn) := by decide +kernel
set_option maxRecDepth 100000 in
theorem jr_100 : mj_ret 100 = some .int := by decide +kernel
set_option maxRecDepth 100000 in
theorem ji_100_12 : mj_ins 100 12 = some (.iload_n 2) := by decide +kernel
set_option maxRecDepth 100000 in
theorem ji_100_13 : mj_ins 100 13 = some (.aload_n 0) := by decide +kernel
set_option maxRecDepth 100000 in
theorem ji_100_14 : mj_ins 100 14 = some (.getfield 34) := by decide +kernel
set_option maxRecDepth 100000 in
theorem jf_100_34 : mj_fld 100 34 = some (3, 7, (.array .int), false) := by decide +kernel
set_option maxRecDepth 100000 in
theorem ji_100_17 : mj_ins 100 17 = some (.iload_n 3) := by decide +kernel
set_option maxRecDepth 100000 in
theorem ji_100_18 : mj_ins 100 18 = some (.bipush 6) := by decide +kernel
set_option maxRecDepth 100000 in
theorem ji_100_20 : mj_ins 100 20 = some (.imul) := by decide +kernel
set_option maxRecDepth 100000 in
theorem ji_100_21 : mj_ins 100 21 = some (.iload_n 1) := by decide +kernel
set_option maxRecDepth 100000 in
theorem ji_100_22 : mj_ins 100 22 = some (.iadd) := by decide +kernel
set_option maxRecDepth 100000 in
theorem ji_100_23 : mj_ins 100 23 = some (.iaload) := by decide +kernel
set_option maxRecDepth 100000 in
theorem ji_100_24 : mj_ins 100 24 = some (.invokestatic 69) := by decide +kernel
set_option maxRecDepth 100000 in
theorem jc_100_69 : mj_cal 100 69 = some (10, 0, 0) := by decide +kernel
set_option maxRecDepth 100000 in
theorem ji_100_27 : mj_ins 100 27 = some (.istore_n 2) := by decide +kernel
set_option maxRecDepth 100000 in
theorem ji_100_28 : mj_ins 100 28 = some (.iinc 3 1) := by decide +kernel
set_option maxRecDepth 100000 in
theorem ji_100_31 : mj_ins 100 31 = some (.goto (-27)) := by decide +kernel
set_option maxRecDepth 100000 in
theorem ji_100_0 : mj_ins 100 0 = some (.iconst (-1)) := by decide +kernel
set_option maxRecDepth 100000 in
theorem ji_100_1 : mj_ins 100 1 = some (.istore_n 2) := by decide +kernel
set_option maxRecDepth 100000 in
theorem ji_100_2 : mj_ins 100 2 = some (.iconst 0) := by decide +kernel
set_option maxRecDepth 100000 in
theorem ji_100_3 : mj_ins 100 3 = some (.istore_n 3) := by decide +kernel
set_option maxRecDepth 100000 in
theorem ji_262_4 : mj_ins 262 4 = some (.iload_n 3) := by decide +kernel
set_option maxRecDepth 100000 in
theorem ji_262_5 : mj_ins 262 5 = some (.aload_n 0) := by decide +kernel
set_option maxRecDepth 100000 in
theorem ji_262_6 : mj_ins 262 6 = some (.getfield 7) := by decide +kernel
set_option maxRecDepth 100000 in
theorem jf_262_7 : mj_fld 262 7 = some (11, 0, (.array .int), false) := by decide +kernel
set_option maxRecDepth 100000 in
theorem ji_262_9 : mj_ins 262 9 = some (.iconst 0) := by decide +kernel
set_option maxRecDepth 100000 in
theorem ji_262_10 : mj_ins 262 10 = some (.iaload) := by decide +kernel
set_option maxRecDepth 100000 in
theorem ji_262_11 : mj_ins 262 11 = some (.if_icmp .ge 28) := by decide +kernel
set_option maxRecDepth 100000 in
theorem ji_262_39 : mj_ins 262 39 = some (.iload_n 2) := by decide +kernel
set_option maxRecDepth 100000 in
theorem ji_262_40 : mj_ins 262 40 = some (.ireturn) := by decide +kernel
set_option maxRecDepth 100000 in
theorem jr_262 : mj_ret 262 = some .int := by decide +kernel
set_option maxRecDepth 100000 in
theorem ji_262_14 : mj_ins 262 14 = some (.iload_n 2) := by decide +kernel
set_option maxRecDepth 100000 in
theorem ji_262_15 : mj_ins 262 15 = some (.aload_n 0) := by decide +kernel
set_option maxRecDepth 100000 in
theorem ji_262_16 : mj_ins 262 16 = some (.iload_n 1) := by decide +kernel
set_option maxRecDepth 100000 in
theorem ji_262_17 : mj_ins 262 17 = some (.iload_n 3) := by decide +kernel
set_option maxRecDepth 100000 in
theorem ji_262_18 : mj_ins 262 18 = some (.invokevirtual 74) := by decide +kernel
set_option maxRecDepth 100000 in
theorem jc_262_74 : mj_cal 262 74 = some (2, 223, 2) := by decide +kernel
set_option maxRecDepth 100000 in
theorem ji_262_21 : mj_ins 262 21 = some (.ifCond .eq 9) := by decide +kernel
set_option maxRecDepth 100000 in
theorem ji_262_30 : mj_ins 262 30 = some (.iconst 0) := by decide +kernel
set_option maxRecDepth 100000 in
theorem ji_262_31 : mj_ins 262 31 = some (.ior) := by decide +kernel
set_option maxRecDepth 100000 in
theorem ji_262_32 : mj_ins 262 32 = some (.istore_n 2) := by decide +kernel
set_option maxRecDepth 100000 in
theorem ji_262_33 : mj_ins 262 33 = some (.iinc 3 1) := by decide +kernel
set_option maxRecDepth 100000 in
theorem ji_262_36 : mj_ins 262 36 = some (.goto (-32)) := by decide +kernel
set_option maxRecDepth 100000 in
theorem ji_262_24 : mj_ins 262 24 = some (.iconst 1) := by decide +kernel
set_option maxRecDepth 100000 in
theorem ji_262_25 : mj_ins 262 25 = some (.iload_n 3) := by decide +kernel
set_option maxRecDepth 100000 in
theorem ji_262_26 : mj_ins 262 26 = some (.ishl) := by decide +kernel
set_option maxRecDepth 100000 in
theorem ji_262_27 : mj_ins 262 27 = some (.goto 4) := by decide +kernel
set_option maxRecDepth 100000 in
theorem ji_262_0 : mj_ins 262 0 = some (.iconst 0) := by decide +kernel
set_option maxRecDepth 100000 in
theorem ji_262_1 : mj_ins 262 1 = some (.istore_n 2) := by decide +kernel
set_option maxRecDepth 100000 in
theorem ji_262_2 : mj_ins 262 2 = some (.iconst 0) := by decide +kernel
set_option maxRecDepth 100000 in
theorem ji_262_3 : mj_ins 262 3 = some (.istore_n 3) := by decide +kernel
set_option maxRecDepth 100000 in
theorem ji_263_4 : mj_ins 263 4 = some (.iload_n 3) := by decide +kernel
set_option maxRecDepth 100000 in
theorem ji_263_5 : mj_ins 263 5 = some (.aload_n 0) := by decide +kernel
set_option maxRecDepth 100000 in
theorem ji_263_6 : mj_ins 263 6 = some (.getfield 7) := by decide +kernel
set_option maxRecDepth 100000 in
theorem jf_263_7 : mj_fld 263 7 = some (11, 0, (.array .int), false) := by decide +kernel
set_option maxRecDepth 100000 in
theorem ji_263_9 : mj_ins 263 9 = some (.iconst 0) := by decide +kernel
set_option maxRecDepth 100000 in
theorem ji_263_10 : mj_ins 263 10 = some (.iaload) := by decide +kernel
set_option maxRecDepth 100000 in
theorem ji_263_11 : mj_ins 263 11 = some (.if_icmp .ge 32) := by decide +kernel
set_option maxRecDepth 100000 in
theorem ji_263_43 : mj_ins 263 43 = some (.iload_n 2) := by decide +kernel
set_option maxRecDepth 100000 in
theorem ji_263_44 : mj_ins 263 44 = some (.ireturn) := by decide +kernel
set_option maxRecDepth 100000 in
theorem jr_263 : mj_ret 263 = some .int := by decide +kernel
set_option maxRecDepth 100000 in
theorem ji_263_14 : mj_ins 263 14 = some (.aload_n 0) := by decide +kernel
set_option maxRecDepth 100000 in
theorem ji_263_15 : mj_ins 263 15 = some (.iload_n 1) := by decide +kernel
set_option maxRecDepth 100000 in
theorem ji_263_16 : mj_ins 263 16 = some (.iload_n 3) := by decide +kernel
set_option maxRecDepth 100000 in
theorem ji_263_17 : mj_ins 263 17 = some (.iconst 0) := by decide +kernel
set_option maxRecDepth 100000 in
theorem ji_263_18 : mj_ins 263 18 = some (.invokevirtual 70) := by decide +kernel
set_option maxRecDepth 100000 in
theorem jc_263_70 : mj_cal 263 70 = some (2, 224, 3) := by decide +kernel
set_option maxRecDepth 100000 in
theorem ji_263_21 : mj_ins 263 21 = some (.iload_n 2) := by decide +kernel
set_option maxRecDepth 100000 in
theorem ji_263_22 : mj_ins 263 22 = some (.if_icmp .le 13) := by decide +kernel
set_option maxRecDepth 100000 in
theorem ji_263_35 : mj_ins 263 35 = some (.iload_n 2) := by decide +kernel
set_option maxRecDepth 100000 in
theorem ji_263_36 : mj_ins 263 36 = some (.istore_n 2) := by decide +kernel
set_option maxRecDepth 100000 in
theorem ji_263_37 : mj_ins 263 37 = some (.iinc 3 1) := by decide +kernel
set_option maxRecDepth 100000 in
theorem ji_263_40 : mj_ins 263 40 = some (.goto (-36)) := by decide +kernel
set_option maxRecDepth 100000 in
theorem ji_263_25 : mj_ins 263 25 = some (.aload_n 0) := by decide +kernel
set_option maxRecDepth 100000 in
theorem ji_263_26 : mj_ins 263 26 = some (.iload_n 1) := by decide +kernel
set_option maxRecDepth 100000 in
theorem ji_263_27 : mj_ins 263 27 = some (.iload_n 3) := by decide +kernel
set_option maxRecDepth 100000 in
theorem ji_263_28 : mj_ins 263 28 = some (.iconst 0) := by decide +kernel
set_option maxRecDepth 100000 in
theorem ji_263_29 : mj_ins 263 29 = some (.invokevirtual 70) := by decide +kernel
set_option maxRecDepth 100000 in
theorem ji_263_32 : mj_ins 263 32 = some (.goto 4) := by decide +kernel
set_option maxRecDepth 100000 in
theorem ji_263_0 : mj_ins 263 0 = some (.iconst (-1)) := by decide +kernel
set_option maxRecDepth 100000 in
theorem ji_263_1 : mj_ins 263 1 = some (.istore_n 2) := by decide +kernel
set_option maxRecDepth 100000 in
theorem ji_263_2 : mj_ins 263 2 = some (.iconst 0) := by decide +kernel
set_option maxRecDepth 100000 in
theorem ji_263_3 : mj_ins 263 3 = some (.istore_n 3) := by decide +kernel
set_option maxRecDepth 100000 in
theorem ji_261_0 : mj_ins 261 0 = some (.aload_n 0) := by decide +kernel
set_option maxRecDepth 100000 in
theorem ji_261_1 : mj_ins 261 1 = some (.getfield 7) := by decide +kernel
set_option maxRecDepth 100000 in
theorem jf_261_7 : mj_fld 261 7 = some (11, 0, (.array .int), false) := by decide +kernel
set_option maxRecDepth 100000 in
theorem ji_261_4 : mj_ins 261 4 = some (.bipush 40) := by decide +kernel
set_option maxRecDepth 100000 in
theorem ji_261_6 : mj_ins 261 6 = some (.iconst 2) := by decide +kernel
set_option maxRecDepth 100000 in
theorem ji_261_7 : mj_ins 261 7 = some (.iload_n 1) := by decide +kernel
set_option maxRecDepth 100000 in
theorem ji_261_8 : mj_ins 261 8 = some (.imul) := by decide +kernel
set_option maxRecDepth 100000 in
theorem ji_261_9 : mj_ins 261 9 = some (.iadd) := by decide +kernel
set_option maxRecDepth 100000 in
theorem ji_261_10 : mj_ins 261 10 = some (.iconst 1) := by decide +kernel
set_option maxRecDepth 100000 in
theorem ji_261_11 : mj_ins 261 11 = some (.iadd) := by decide +kernel
set_option maxRecDepth 100000 in
theorem ji_261_12 : mj_ins 261 12 = some (.iaload) := by decide +kernel
set_option maxRecDepth 100000 in
theorem ji_261_13 : mj_ins 261 13 = some (.ireturn) := by decide +kernel
set_option maxRecDepth 100000 in
theorem jr_261 : mj_ret 261 = some .int := by decide +kernel
set_option maxRecDepth 100000 in
theorem ji_98_0 : mj_ins 98 0 = some (.aload_n 0) := by decide +kernel
set_option maxRecDepth 100000 in
theorem ji_98_1 : mj_ins 98 1 = some (.getfield 19) := by decide +kernel
set_option maxRecDepth 100000 in
theorem jf_98_19 : mj_fld 98 19 = some (0, 0, (.object "ForestOfPoles$State"), false) := by decide +kernel
set_option maxRecDepth 100000 in
theorem ji_98_4 : mj_ins 98 4 = some (.getfield 49) := by decide +kernel
set_option maxRecDepth 100000 in
theorem jf_98_49 : mj_fld 98 49 = some (2, 0, (.object "ForestOfPoles$Forest"), false) := by decide +kernel
set_option maxRecDepth 100000 in
theorem ji_98_7 : mj_ins 98 7 = some (.astore_n 3) := by decide +kernel
set_option maxRecDepth 100000 in
theorem ji_98_8 : mj_ins 98 8 = some (.aload_n 3) := by decide +kernel
set_option maxRecDepth 100000 in
theorem ji_98_9 : mj_ins 98 9 = some (.iload_n 1) := by decide +kernel
set_option maxRecDepth 100000 in
theorem ji_98_10 : mj_ins 98 10 = some (.invokevirtual 177) := by decide +kernel
set_option maxRecDepth 100000 in
theorem jc_98_177 : mj_cal 98 177 = some (2, 80, 1) := by decide +kernel
set_option maxRecDepth 100000 in
theorem ji_98_13 : mj_ins 98 13 = some (.ifCond .ne 6) := by decide +kernel
set_option maxRecDepth 100000 in
theorem ji_98_19 : mj_ins 98 19 = some (.iload_n 2) := by decide +kernel
set_option maxRecDepth 100000 in
theorem ji_98_20 : mj_ins 98 20 = some (.tableswitch 58 0 3 #[32, 39, 46, 52]) := by decide +kernel
set_option maxRecDepth 100000 in
theorem ji_98_52 : mj_ins 98 52 = some (.aload_n 3) := by decide +kernel
set_option maxRecDepth 100000 in
theorem ji_98_53 : mj_ins 98 53 = some (.getfield 180) := by decide +kernel
set_option maxRecDepth 100000 in
theorem jf_98_180 : mj_fld 98 180 = some (3, 5, (.array .int), false) := by decide +kernel
set_option maxRecDepth 100000 in
theorem ji_98_56 : mj_ins 98 56 = some (.iload_n 1) := by decide +kernel
set_option maxRecDepth 100000 in
theorem ji_98_57 : mj_ins 98 57 = some (.iaload) := by decide +kernel
set_option maxRecDepth 100000 in
theorem sq_52 : sh_T[52]? = some (1000, [], 6, 0) := by decide +kernel
set_option maxRecDepth 100000 in
theorem ji_98_58 : mj_ins 98 58 = some (.ireturn) := by decide +kernel
set_option maxRecDepth 100000 in
theorem jr_98 : mj_ret 98 = some .int := by decide +kernel
set_option maxRecDepth 100000 in
theorem ji_98_59 : mj_ins 98 59 = some (.aload_n 3) := by decide +kernel
set_option maxRecDepth 100000 in
theorem ji_98_60 : mj_ins 98 60 = some (.getfield 183) := by decide +kernel
set_option maxRecDepth 100000 in
theorem jf_98_183 : mj_fld 98 183 = some (3, 6, (.array .int), false) := by decide +kernel
set_option maxRecDepth 100000 in
theorem ji_98_63 : mj_ins 98 63 = some (.iload_n 1) := by decide +kernel
set_option maxRecDepth 100000 in
theorem ji_98_64 : mj_ins 98 64 = some (.iaload) := by decide +kernel
set_option maxRecDepth 100000 in
theorem sq_53 : sh_T[53]? = some (1000, [], 6, 0) := by decide +kernel
set_option maxRecDepth 100000 in
theorem ji_98_65 : mj_ins 98 65 = some (.ireturn) := by decide +kernel
set_option maxRecDepth 100000 in
theorem ji_98_66 : mj_ins 98 66 = some (.aload_n 3) := by decide +kernel
set_option maxRecDepth 100000 in
theorem ji_98_67 : mj_ins 98 67 = some (.iload_n 1) := by decide +kernel
set_option maxRecDepth 100000 in
theorem ji_98_68 : mj_ins 98 68 = some (.invokevirtual 186) := by decide +kernel
set_option maxRecDepth 100000 in
theorem jc_98_186 : mj_cal 98 186 = some (2, 99, 1) := by decide +kernel
set_option maxRecDepth 100000 in
theorem jn_99 : mj_nl 99 = 4 := by decide +kernel
set_option maxRecDepth 100000 in
theorem jk_99 : mj_cls 99 = 3 := by decide +kernel
set_option maxRecDepth 100000 in
theorem ji_98_71 : mj_ins 98 71 = some (.ireturn) := by decide +kernel
set_option maxRecDepth 100000 in
theorem ji_98_72 : mj_ins 98 72 = some (.aload_n 3) := by decide +kernel
set_option maxRecDepth 100000 in
theorem ji_98_73 : mj_ins 98 73 = some (.iload_n 1) := by decide +kernel
set_option maxRecDepth 100000 in
theorem ji_98_74 : mj_ins 98 74 = some (.invokevirtual 189) := by decide +kernel
set_option maxRecDepth 100000 in
theorem jc_98_189 : mj_cal 98 189 = some (2, 100, 1) := by decide +kernel
set_option maxRecDepth 100000 in
theorem jn_100 : mj_nl 100 = 4 := by decide +kernel
set_option maxRecDepth 100000 in
theorem jk_100 : mj_cls 100 = 3 := by decide +kernel
set_option maxRecDepth 100000 in
theorem ji_98_77 : mj_ins 98 77 = some (.ireturn) := by decide +kernel
set_option maxRecDepth 100000 in
theorem ji_98_78 : mj_ins 98 78 = some (.bipush (-2)) := by decide +kernel
set_option maxRecDepth 100000 in
theorem ji_98_80 : mj_ins 98 80 = some (.ireturn) := by decide +kernel
set_option maxRecDepth 100000 in
theorem ji_98_16 : mj_ins 98 16 = some (.bipush (-2)) := by decide +kernel
set_option maxRecDepth 100000 in
theorem ji_98_18 : mj_ins 98 18 = some (.ireturn) := by decide +kernel
set_option maxRecDepth 100000 in
theorem ji_260_0 : mj_ins 260 0 = some (.aload_n 0) := by decide +kernel
set_option maxRecDepth 100000 in
theorem ji_260_1 : mj_ins 260 1 = some (.iload_n 1) := by decide +kernel
set_option maxRecDepth 100000 in
theorem ji_260_2 : mj_ins 260 2 = some (.invokevirtual 345) := by decide +kernel
set_option maxRecDepth 100000 in
theorem jc_260_345 : mj_cal 260 345 = some (2, 247, 1) := by decide +kernel
set_option maxRecDepth 100000 in
theorem ji_260_5 : mj_ins 260 5 = some (.ifCond .ne 6) := by decide +kernel
set_option maxRecDepth 100000 in
theorem ji_260_11 : mj_ins 260 11 = some (.iload_n 2) := by decide +kernel
set_option maxRecDepth 100000 in
theorem ji_260_12 : mj_ins 260 12 = some (.tableswitch 56 0 3 #[32, 38, 44, 50]) := by decide +kernel
set_option maxRecDepth 100000 in
theorem ji_260_44 : mj_ins 260 44 = some (.aload_n 0) := by decide +kernel
set_option maxRecDepth 100000 in
theorem ji_260_45 : mj_ins 260 45 = some (.iload_n 1) := by decide +kernel
set_option maxRecDepth 100000 in
theorem ji_260_46 : mj_ins 260 46 = some (.invokevirtual 286) := by decide +kernel
set_option maxRecDepth 100000 in
theorem jc_260_286 : mj_cal 260 286 = some (2, 227, 1) := by decide +kernel
set_option maxRecDepth 100000 in
theorem ji_260_49 : mj_ins 260 49 = some (.ireturn) := by decide +kernel
set_option maxRecDepth 100000 in
theorem jr_260 : mj_ret 260 = some .int := by decide +kernel
set_option maxRecDepth 100000 in
theorem ji_260_50 : mj_ins 260 50 = some (.aload_n 0) := by decide +kernel
set_option maxRecDepth 100000 in
theorem ji_260_51 : mj_ins 260 51 = some (.iload_n 1) := by decide +kernel
set_option maxRecDepth 100000 in
theorem ji_260_52 : mj_ins 260 52 = some (.invokevirtual 384) := by decide +kernel
set_option maxRecDepth 100000 in
theorem jc_260_384 : mj_cal 260 384 = some (2, 261, 1) := by decide +kernel
set_option maxRecDepth 100000 in
theorem jn_261 : mj_nl 261 = 2 := by decide +kernel
set_option maxRecDepth 100000 in
theorem jk_261 : mj_cls 261 = 11 := by decide +kernel
set_option maxRecDepth 100000 in
theorem ji_260_55 : mj_ins 260 55 = some (.ireturn) := by decide +kernel
set_option maxRecDepth 100000 in
theorem ji_260_56 : mj_ins 260 56 = some (.aload_n 0) := by decide +kernel
set_option maxRecDepth 100000 in
theorem ji_260_57 : mj_ins 260 57 = some (.iload_n 1) := by decide +kernel
set_option maxRecDepth 100000 in
theorem ji_260_58 : mj_ins 260 58 = some (.invokevirtual 387) := by decide +kernel
set_option maxRecDepth 100000 in
theorem jc_260_387 : mj_cal 260 387 = some (2, 262, 1) := by decide +kernel
set_option maxRecDepth 100000 in
theorem jn_262 : mj_nl 262 = 4 := by decide +kernel
set_option maxRecDepth 100000 in
theorem jk_262 : mj_cls 262 = 11 := by decide +kernel
set_option maxRecDepth 100000 in
theorem ji_260_61 : mj_ins 260 61 = some (.ireturn) := by decide +kernel
set_option maxRecDepth 100000 in
theorem ji_260_62 : mj_ins 260 62 = some (.aload_n 0) := by decide +kernel
set_option maxRecDepth 100000 in
theorem ji_260_63 : mj_ins 260 63 = some (.iload_n 1) := by decide +kernel
set_option maxRecDepth 100000 in
theorem ji_260_64 : mj_ins 260 64 = some (.invokevirtual 390) := by decide +kernel
set_option maxRecDepth 100000 in
theorem jc_260_390 : mj_cal 260 390 = some (2, 263, 1) := by decide +kernel
set_option maxRecDepth 100000 in
theorem jn_263 : mj_nl 263 = 4 := by decide +kernel
set_option maxRecDepth 100000 in
theorem jk_263 : mj_cls 263 = 11 := by decide +kernel
set_option maxRecDepth 100000 in
theorem ji_260_67 : mj_ins 260 67 = some (.ireturn) := by decide +kernel
set_option maxRecDepth 100000 in
theorem ji_260_68 : mj_ins 260 68 = some (.bipush (-2)) := by decide +kernel
set_option maxRecDepth 100000 in
theorem ji_260_70 : mj_ins 260 70 = some (.ireturn) := by decide +kernel
set_option maxRecDepth 100000 in
theorem ji_260_8 : mj_ins 260 8 = some (.bipush (-2)) := by decide +kernel
set_option maxRecDepth 100000 in
theorem ji_260_10 : mj_ins 260 10 = some (.ireturn) := by decide +kernel
/-! ofPower, in both; laid by program (wp_u82.py) -/
theorem bi_or8 : ∀ b : Fin 256, ∀ w : Fin 8, b.val < 2 ^ w.val → Int32.ofInt b.val ||| (Int32.ofInt 1 <<< (Int32.ofInt w.val &&& 31)) = Int32.ofInt (b.val + 2 ^ w.val) := by decide +kernel
theorem p2_8 {w : Nat} (hw : w < 8) : (2 : Int) ^ w ≤ 128 := by
  have : w = 0 ∨ w = 1 ∨ w = 2 ∨ w = 3 ∨ w = 4 ∨ w = 5 ∨ w = 6 ∨ w = 7 := by omega
  rcases this with e | e | e | e | e | e | e | e <;> (subst e; decide)
theorem bi_or9 {b : Int} {w : Nat} (hb : 0 ≤ b ∧ b < 2 ^ w) (hw : w < 8) : Int32.ofInt b ||| (Int32.ofInt 1 <<< (Int32.ofInt (w : Int) &&& 31)) = Int32.ofInt (b + 2 ^ w) := by
  have h64 := p2_8 hw
  have e : ((b.toNat : Nat) : Int) = b := by omega
  have hp : ((2 ^ w : Nat) : Int) = (2 : Int) ^ w := by exact_mod_cast rfl
  have := bi_or8 ⟨b.toNat, by omega⟩ ⟨w, hw⟩ (by show b.toNat < 2 ^ w; omega)
  simp only [e] at this
  exact this
theorem bi_or0 (b : Int) : Int32.ofInt b ||| Int32.ofInt 0 = Int32.ofInt b := by
  show Int32.ofInt b ||| 0 = _
  exact Int32.or_zero
/-- the greatest of the first n, or -1 -/
def gmx (g : Int → Int) : Nat → Int
  | 0 => -1
  | n + 1 => max (gmx g n) (g (n : Int))
theorem gmx_b {g : Int → Int} : ∀ n : Nat, (∀ j : Int, 0 ≤ j → j < n → -1 ≤ g j ∧ g j ≤ 99) → -1 ≤ gmx g n ∧ gmx g n ≤ 99
  | 0, _ => by show (-1 : Int) ≤ -1 ∧ (-1 : Int) ≤ 99; decide
  | n + 1, h => by
    have a := gmx_b n (fun j h1 h2 => h j h1 (by omega))
    have b := h n (by omega) (by omega)
    show -1 ≤ max (gmx g n) (g (n : Int)) ∧ max (gmx g n) (g (n : Int)) ≤ 99
    omega
theorem gmx_c {g k : Int → Int} : ∀ n : Nat, (∀ j : Int, 0 ≤ j → j < n → g j = k j) → gmx g n = gmx k n
  | 0, _ => rfl
  | n + 1, h => by
    show max (gmx g n) (g (n : Int)) = max (gmx k n) (k (n : Int))
    rw [gmx_c n (fun j a b => h j a (by omega)), h n (by omega) (by omega)]
theorem uc_99l {d : Nat} {h : mj_H} {s : sg_} (C : CS h s) (i0 : 0 ≤ s 48 0 ∧ s 48 0 ≤ 8) {w : Int} (hw : 0 ≤ w ∧ w < 6) : ∀ (nn i : Nat), (i : Int) ≤ s 48 0 → wl_R nn d 99 4 [some (.ref 48), some (wp_i w), some (wp_i (flg (fun j => s 54 (j * 6 + w)) i)), some (wp_i ((i : Int)))] [] h (fun v1 h1 => h1 = h ∧ v1 = some (wp_i (flg (fun j => s 54 (j * 6 + w)) (s 48 0).toNat))) := by
  intro nn
  induction nn with
  | zero => intros; exact wl_0
  | succ nn ih =>
    intro i hi
    have hfl := flg_r (fun j => s 54 (j * 6 + w)) i
    refine wl_s1 (pc' := 5) ji_99_4 rfl rfl rfl ?_
    refine wl_s (pc' := 6) ji_99_5 rfl rfl rfl ?_
    refine cs_gi (k := 0) (kI := 0) C (by decide) (by decide) sq_48 rfl rfl ji_99_6 jf_99_9 ?_
    have bd1 : wp_r (s 48 0) := cs_ri (k := 0) (kI := 0) C (by decide) (by decide) sq_48 rfl rfl (show 0 < 13 by decide)
    refine wl_icmp (t := 39) ji_99_9 rfl (by omega) (by omega) (fun (hb2 : (s 48 0 : Int) ≤ ((i : Int))) => ?_) (fun (hb2 : ¬ ((s 48 0 : Int) ≤ ((i : Int)))) => ?_)
    · refine wl_s (pc' := 40) ji_99_39 rfl rfl rfl ?_
      exact wl_ri ji_99_40 jr_99 rfl (⟨rfl, by rw [show i = (s 48 0).toNat by omega]⟩)
    · refine wl_s (pc' := 13) ji_99_12 rfl rfl rfl ?_
      refine cs_gr (r := 54) (k := 7) C (by decide) sq_48 rfl ji_99_13 jf_99_34 ?_
      refine wl_s (pc' := 17) ji_99_16 rfl rfl rfl ?_
      refine wl_bp ji_99_17 rfl ?_
      refine wl_imul (x := (i : Int)) (y := 6) (z := ((i : Int)) * 6) ji_99_19 (by omega) ?_
      refine wl_s (pc' := 21) ji_99_20 rfl rfl rfl ?_
      refine wl_iadd (x := ((i : Int)) * 6) (y := w) (z := ((i : Int)) * 6 + w) ji_99_21 (by omega) ?_
      refine cs_l (x := ((i : Int)) * 6 + w) C (by decide) (by decide) sq_54 (by omega) ji_99_22 (fun ld30 ld31 ld32 => ?_)
      refine wl_s (pc' := 24) ji_99_23 rfl rfl rfl ?_
      refine wl_icmp (t := 33) ji_99_24 rfl (by omega) (by omega) (fun (hb4 : (s 54 (((i : Int)) * 6 + w) : Int) = (-1)) => ?_) (fun (hb4 : ¬ ((s 54 (((i : Int)) * 6 + w) : Int) = (-1))) => ?_)
      · refine wl_iinc (x := (i : Int)) (z := (i : Int) + 1) (lv' := [some (.ref 48), some (wp_i w), some (wp_i (flg (fun j => s 54 (j * 6 + w)) i)), some (wp_i ((i : Int) + 1))]) ji_99_33 rfl (Nat.le_of_ble_eq_true rfl) (by omega) rfl ?_
        refine wl_goto (t := 4) ji_99_36 rfl ?_
        rw [show (i : Int) + 1 = ((i + 1 : Nat) : Int) by omega]
        rw [show flg (fun j => s 54 (j * 6 + w)) i = flg (fun j => s 54 (j * 6 + w)) (i + 1) by show _ = flg (fun j => s 54 (j * 6 + w)) i + _; rw [if_pos (by dsimp only; omega)]; omega]
        exact ih (i + 1) (by omega)
      · refine wl_s (pc' := 28) ji_99_27 rfl rfl rfl ?_
        refine wl_s (pc' := 29) ji_99_28 rfl rfl rfl ?_
        refine wl_s (pc' := 30) ji_99_29 rfl rfl rfl ?_
        refine wl_s (pc' := 31) (st' := [.int (Int32.ofInt 1 <<< (Int32.ofInt (i : Int) &&& 31)), wp_i (flg (fun j => s 54 (j * 6 + w)) i)]) ji_99_30 rfl rfl rfl ?_
        refine wl_s (pc' := 32) (lv' := [some (.ref 48), some (wp_i w), some (wp_i (flg (fun j => s 54 (j * 6 + w)) i)), some (wp_i ((i : Int)))]) (st' := [wp_i (flg (fun j => s 54 (j * 6 + w)) i + 2 ^ i)]) (h' := h) ji_99_31 rfl rfl (congrArg (fun z => (some (32, [some (.ref 48), some (wp_i w), some (wp_i (flg (fun j => s 54 (j * 6 + w)) i)), some (wp_i ((i : Int)))], [Value.int z], h) : Option mj_S)) (bi_or9 hfl (by omega))) ?_
        refine wl_s (pc' := 33) (lv' := [some (.ref 48), some (wp_i w), some (wp_i (flg (fun j => s 54 (j * 6 + w)) i + 2 ^ i)), some (wp_i ((i : Int)))]) ji_99_32 rfl rfl rfl ?_
        refine wl_iinc (x := (i : Int)) (z := (i : Int) + 1) (lv' := [some (.ref 48), some (wp_i w), some (wp_i (flg (fun j => s 54 (j * 6 + w)) i + 2 ^ i)), some (wp_i ((i : Int) + 1))]) ji_99_33 rfl (Nat.le_of_ble_eq_true rfl) (by omega) rfl ?_
        refine wl_goto (t := 4) ji_99_36 rfl ?_
        rw [show (i : Int) + 1 = ((i + 1 : Nat) : Int) by omega]
        rw [show flg (fun j => s 54 (j * 6 + w)) i + 2 ^ i = flg (fun j => s 54 (j * 6 + w)) (i + 1) by show _ = flg (fun j => s 54 (j * 6 + w)) i + _; rw [if_neg (by dsimp only; omega)]]
        exact ih (i + 1) (by omega)
theorem uc_99 {nn d : Nat} {h : mj_H} {s : sg_} (C : CS h s) (i0 : 0 ≤ s 48 0 ∧ s 48 0 ≤ 8) {w : Int} (hw : 0 ≤ w ∧ w < 6) : wl_R nn d 99 0 [some (.ref 48), some (wp_i w), none, none] [] h (fun v1 h1 => h1 = h ∧ v1 = some (wp_i (flg (fun j => s 54 (j * 6 + w)) (s 48 0).toNat))) := by
  refine wl_s (pc' := 1) ji_99_0 rfl rfl rfl ?_
  refine wl_s (pc' := 2) (lv' := [some (.ref 48), some (wp_i w), some (wp_i (0)), none]) ji_99_1 rfl rfl rfl ?_
  refine wl_s (pc' := 3) ji_99_2 rfl rfl rfl ?_
  refine wl_s (pc' := 4) (lv' := [some (.ref 48), some (wp_i w), some (wp_i (0)), some (wp_i 0)]) ji_99_3 rfl rfl rfl ?_
  exact uc_99l C i0 hw nn 0 (by omega)
theorem uc_100l {d : Nat} {h : mj_H} {s : sg_} (C : CS h s) (i0 : 0 ≤ s 48 0 ∧ s 48 0 ≤ 8) (hg : ∀ k, 0 ≤ k → k < 48 → -1 ≤ s 54 k ∧ s 54 k ≤ 99) {w : Int} (hw : 0 ≤ w ∧ w < 6) : ∀ (nn i : Nat), (i : Int) ≤ s 48 0 → wl_R nn d 100 4 [some (.ref 48), some (wp_i w), some (wp_i (gmx (fun j => s 54 (j * 6 + w)) i)), some (wp_i ((i : Int)))] [] h (fun v1 h1 => h1 = h ∧ v1 = some (wp_i (gmx (fun j => s 54 (j * 6 + w)) (s 48 0).toNat))) := by
  intro nn
  induction nn with
  | zero => intros; exact wl_0
  | succ nn ih =>
    intro i hi
    have gb := gmx_b (g := (fun j => s 54 (j * 6 + w))) i (fun j a b => hg _ (by omega) (by omega))
    refine wl_s1 (pc' := 5) ji_100_4 rfl rfl rfl ?_
    refine wl_s (pc' := 6) ji_100_5 rfl rfl rfl ?_
    refine cs_gi (k := 0) (kI := 0) C (by decide) (by decide) sq_48 rfl rfl ji_100_6 jf_100_9 ?_
    have bd1 : wp_r (s 48 0) := cs_ri (k := 0) (kI := 0) C (by decide) (by decide) sq_48 rfl rfl (show 0 < 13 by decide)
    refine wl_icmp (t := 34) ji_100_9 rfl (by omega) (by omega) (fun (hb2 : (s 48 0 : Int) ≤ ((i : Int))) => ?_) (fun (hb2 : ¬ ((s 48 0 : Int) ≤ ((i : Int)))) => ?_)
    · refine wl_s (pc' := 35) ji_100_34 rfl rfl rfl ?_
      exact wl_ri ji_100_35 jr_100 rfl (⟨rfl, by rw [show i = (s 48 0).toNat by omega]⟩)
    · refine wl_s (pc' := 13) ji_100_12 rfl rfl rfl ?_
      refine wl_s (pc' := 14) ji_100_13 rfl rfl rfl ?_
      refine cs_gr (r := 54) (k := 7) C (by decide) sq_48 rfl ji_100_14 jf_100_34 ?_
      refine wl_s (pc' := 18) ji_100_17 rfl rfl rfl ?_
      refine wl_bp ji_100_18 rfl ?_
      refine wl_imul (x := (i : Int)) (y := 6) (z := ((i : Int)) * 6) ji_100_20 (by omega) ?_
      refine wl_s (pc' := 22) ji_100_21 rfl rfl rfl ?_
      refine wl_iadd (x := ((i : Int)) * 6) (y := w) (z := ((i : Int)) * 6 + w) ji_100_22 (by omega) ?_
      refine cs_l (x := ((i : Int)) * 6 + w) C (by decide) (by decide) sq_54 (by omega) ji_100_23 (fun ld30 ld31 ld32 => ?_)
      refine wl_mx (a := gmx (fun j => s 54 (j * 6 + w)) i) (b := s 54 (((i : Int)) * 6 + w)) ji_100_24 jc_100_69 (Nat.le_of_ble_eq_true rfl) (by omega) (by omega) ?_
      refine wl_s (pc' := 28) (lv' := [some (.ref 48), some (wp_i w), some (wp_i (max (gmx (fun j => s 54 (j * 6 + w)) i) (s 54 (((i : Int)) * 6 + w)))), some (wp_i ((i : Int)))]) ji_100_27 rfl rfl rfl ?_
      refine wl_iinc (x := (i : Int)) (z := (i : Int) + 1) (lv' := [some (.ref 48), some (wp_i w), some (wp_i (max (gmx (fun j => s 54 (j * 6 + w)) i) (s 54 (((i : Int)) * 6 + w)))), some (wp_i ((i : Int) + 1))]) ji_100_28 rfl (Nat.le_of_ble_eq_true rfl) (by omega) rfl ?_
      refine wl_goto (t := 4) ji_100_31 rfl ?_
      rw [show (i : Int) + 1 = ((i + 1 : Nat) : Int) by omega]
      rw [show max (gmx (fun j => s 54 (j * 6 + w)) i) (s 54 (((i : Int)) * 6 + w)) = gmx (fun j => s 54 (j * 6 + w)) (i + 1) from rfl]
      exact ih (i + 1) (by omega)
theorem uc_100 {nn d : Nat} {h : mj_H} {s : sg_} (C : CS h s) (i0 : 0 ≤ s 48 0 ∧ s 48 0 ≤ 8) (hg : ∀ k, 0 ≤ k → k < 48 → -1 ≤ s 54 k ∧ s 54 k ≤ 99) {w : Int} (hw : 0 ≤ w ∧ w < 6) : wl_R nn d 100 0 [some (.ref 48), some (wp_i w), none, none] [] h (fun v1 h1 => h1 = h ∧ v1 = some (wp_i (gmx (fun j => s 54 (j * 6 + w)) (s 48 0).toNat))) := by
  refine wl_s (pc' := 1) ji_100_0 rfl rfl rfl ?_
  refine wl_s (pc' := 2) (lv' := [some (.ref 48), some (wp_i w), some (wp_i (-1)), none]) ji_100_1 rfl rfl rfl ?_
  refine wl_s (pc' := 3) ji_100_2 rfl rfl rfl ?_
  refine wl_s (pc' := 4) (lv' := [some (.ref 48), some (wp_i w), some (wp_i (-1)), some (wp_i 0)]) ji_100_3 rfl rfl rfl ?_
  exact uc_100l C i0 hg hw nn 0 (by omega)
theorem uc_262l {d : Nat} {h : mj_H} {s : sg_} (C : CS h s) (i0 : 0 ≤ s 139 0 ∧ s 139 0 ≤ 8) {w : Int} (hw : 0 ≤ w ∧ w < 6) : ∀ (nn i : Nat), (i : Int) ≤ s 139 0 → wl_R nn (d + 2) 262 4 [some (.ref 138), some (wp_i w), some (wp_i (flg (fun j => s 139 (52 + 2 * (8 * w + j) + 0)) i)), some (wp_i ((i : Int)))] [] h (fun v1 h1 => h1 = h ∧ v1 = some (wp_i (flg (fun j => s 139 (52 + 2 * (8 * w + j) + 0)) (s 139 0).toNat))) := by
  intro nn
  induction nn with
  | zero => intros; exact wl_0
  | succ nn ih =>
    intro i hi
    have hfl := flg_r (fun j => s 139 (52 + 2 * (8 * w + j) + 0)) i
    refine wl_s1 (pc' := 5) ji_262_4 rfl rfl rfl ?_
    refine wl_s (pc' := 6) ji_262_5 rfl rfl rfl ?_
    refine cs_gr (r := 139) (k := 0) C (by decide) sq_138 rfl ji_262_6 jf_262_7 ?_
    refine wl_s (pc' := 10) ji_262_9 rfl rfl rfl ?_
    refine cs_l (x := 0) C (by decide) (by decide) sq_139 (by omega) ji_262_10 (fun ld10 ld11 ld12 => ?_)
    refine wl_icmp (t := 39) ji_262_11 rfl (by omega) (by omega) (fun (hb2 : (s 139 0 : Int) ≤ ((i : Int))) => ?_) (fun (hb2 : ¬ ((s 139 0 : Int) ≤ ((i : Int)))) => ?_)
    · refine wl_s (pc' := 40) ji_262_39 rfl rfl rfl ?_
      exact wl_ri ji_262_40 jr_262 rfl (⟨rfl, by rw [show i = (s 139 0).toNat by omega]⟩)
    · refine wl_s (pc' := 15) ji_262_14 rfl rfl rfl ?_
      refine wl_s (pc' := 16) ji_262_15 rfl rfl rfl ?_
      refine wl_s (pc' := 17) ji_262_16 rfl rfl rfl ?_
      refine wl_s (pc' := 18) ji_262_17 rfl rfl rfl ?_
      obtain ⟨q4, hq4⟩ := cs_c C (by decide) sq_138
      refine wl_vc (d := d + 1) (as := [.ref 138, wp_i w, wp_i ((i : Int))]) (rest := [wp_i (flg (fun j => s 139 (52 + 2 * (8 * w + j) + 0)) i)]) ji_262_18 jc_262_74 rfl hq4 jk_223.symm (Nat.le_of_ble_eq_true rfl) rfl (by rw [jn_223]; rfl) (uc_223 (d := d) C (w := w) (p := (i : Int)) (by omega) (by omega)) (fun v1 h3 R => ?_)
      obtain ⟨ee, y5, rfl, hy5a, hy5b⟩ := R
      rw [ee]
      clear ee
      show wl_R _ _ 262 21 [some (.ref 138), some (wp_i w), some (wp_i (flg (fun j => s 139 (52 + 2 * (8 * w + j) + 0)) i)), some (wp_i ((i : Int)))] [wp_i y5, wp_i (flg (fun j => s 139 (52 + 2 * (8 * w + j) + 0)) i)] _ _
      refine wl_if (t := 30) ji_262_21 rfl (by omega) (fun (hb6 : (y5 : Int) = 0) => ?_) (fun (hb6 : ¬ ((y5 : Int) = 0)) => ?_)
      · refine wl_s (pc' := 31) ji_262_30 rfl rfl rfl ?_
        refine wl_s (pc' := 32) (lv' := [some (.ref 138), some (wp_i w), some (wp_i (flg (fun j => s 139 (52 + 2 * (8 * w + j) + 0)) i)), some (wp_i ((i : Int)))]) (st' := [wp_i (flg (fun j => s 139 (52 + 2 * (8 * w + j) + 0)) i)]) (h' := h) ji_262_31 rfl rfl (congrArg (fun z => (some (32, [some (.ref 138), some (wp_i w), some (wp_i (flg (fun j => s 139 (52 + 2 * (8 * w + j) + 0)) i)), some (wp_i ((i : Int)))], [Value.int z], h) : Option mj_S)) (bi_or0 _)) ?_
        refine wl_s (pc' := 33) (lv' := [some (.ref 138), some (wp_i w), some (wp_i (flg (fun j => s 139 (52 + 2 * (8 * w + j) + 0)) i)), some (wp_i ((i : Int)))]) ji_262_32 rfl rfl rfl ?_
        refine wl_iinc (x := (i : Int)) (z := (i : Int) + 1) (lv' := [some (.ref 138), some (wp_i w), some (wp_i (flg (fun j => s 139 (52 + 2 * (8 * w + j) + 0)) i)), some (wp_i ((i : Int) + 1))]) ji_262_33 rfl (Nat.le_of_ble_eq_true rfl) (by omega) rfl ?_
        refine wl_goto (t := 4) ji_262_36 rfl ?_
        rw [show (i : Int) + 1 = ((i + 1 : Nat) : Int) by omega]
        rw [show flg (fun j => s 139 (52 + 2 * (8 * w + j) + 0)) i = flg (fun j => s 139 (52 + 2 * (8 * w + j) + 0)) (i + 1) by show _ = flg (fun j => s 139 (52 + 2 * (8 * w + j) + 0)) i + _; rw [if_pos (by dsimp only; omega)]; omega]
        exact ih (i + 1) (by omega)
      · refine wl_s (pc' := 25) ji_262_24 rfl rfl rfl ?_
        refine wl_s (pc' := 26) ji_262_25 rfl rfl rfl ?_
        refine wl_s (pc' := 27) (st' := [.int (Int32.ofInt 1 <<< (Int32.ofInt (i : Int) &&& 31)), wp_i (flg (fun j => s 139 (52 + 2 * (8 * w + j) + 0)) i)]) ji_262_26 rfl rfl rfl ?_
        refine wl_goto (t := 31) ji_262_27 rfl ?_
        refine wl_s (pc' := 32) (lv' := [some (.ref 138), some (wp_i w), some (wp_i (flg (fun j => s 139 (52 + 2 * (8 * w + j) + 0)) i)), some (wp_i ((i : Int)))]) (st' := [wp_i (flg (fun j => s 139 (52 + 2 * (8 * w + j) + 0)) i + 2 ^ i)]) (h' := h) ji_262_31 rfl rfl (congrArg (fun z => (some (32, [some (.ref 138), some (wp_i w), some (wp_i (flg (fun j => s 139 (52 + 2 * (8 * w + j) + 0)) i)), some (wp_i ((i : Int)))], [Value.int z], h) : Option mj_S)) (bi_or9 hfl (by omega))) ?_
        refine wl_s (pc' := 33) (lv' := [some (.ref 138), some (wp_i w), some (wp_i (flg (fun j => s 139 (52 + 2 * (8 * w + j) + 0)) i + 2 ^ i)), some (wp_i ((i : Int)))]) ji_262_32 rfl rfl rfl ?_
        refine wl_iinc (x := (i : Int)) (z := (i : Int) + 1) (lv' := [some (.ref 138), some (wp_i w), some (wp_i (flg (fun j => s 139 (52 + 2 * (8 * w + j) + 0)) i + 2 ^ i)), some (wp_i ((i : Int) + 1))]) ji_262_33 rfl (Nat.le_of_ble_eq_true rfl) (by omega) rfl ?_
        refine wl_goto (t := 4) ji_262_36 rfl ?_
        rw [show (i : Int) + 1 = ((i + 1 : Nat) : Int) by omega]
        rw [show flg (fun j => s 139 (52 + 2 * (8 * w + j) + 0)) i + 2 ^ i = flg (fun j => s 139 (52 + 2 * (8 * w + j) + 0)) (i + 1) by show _ = flg (fun j => s 139 (52 + 2 * (8 * w + j) + 0)) i + _; rw [if_neg (by dsimp only; omega)]]
        exact ih (i + 1) (by omega)
theorem uc_262 {nn d : Nat} {h : mj_H} {s : sg_} (C : CS h s) (i0 : 0 ≤ s 139 0 ∧ s 139 0 ≤ 8) {w : Int} (hw : 0 ≤ w ∧ w < 6) : wl_R nn (d + 2) 262 0 [some (.ref 138), some (wp_i w), none, none] [] h (fun v1 h1 => h1 = h ∧ v1 = some (wp_i (flg (fun j => s 139 (52 + 2 * (8 * w + j) + 0)) (s 139 0).toNat))) := by
  refine wl_s (pc' := 1) ji_262_0 rfl rfl rfl ?_
  refine wl_s (pc' := 2) (lv' := [some (.ref 138), some (wp_i w), some (wp_i (0)), none]) ji_262_1 rfl rfl rfl ?_
  refine wl_s (pc' := 3) ji_262_2 rfl rfl rfl ?_
  refine wl_s (pc' := 4) (lv' := [some (.ref 138), some (wp_i w), some (wp_i (0)), some (wp_i 0)]) ji_262_3 rfl rfl rfl ?_
  exact uc_262l C i0 hw nn 0 (by omega)
theorem uc_263l {d : Nat} {h : mj_H} {s : sg_} (C : CS h s) (i0 : 0 ≤ s 139 0 ∧ s 139 0 ≤ 8) (hg : ∀ w p, (0 ≤ w ∧ w < 6) → (0 ≤ p ∧ p < 8) → -1 ≤ s 139 (52 + 2 * (8 * w + p) + 0) ∧ s 139 (52 + 2 * (8 * w + p) + 0) ≤ 99) {w : Int} (hw : 0 ≤ w ∧ w < 6) : ∀ (nn i : Nat), (i : Int) ≤ s 139 0 → wl_R nn (d + 1) 263 4 [some (.ref 138), some (wp_i w), some (wp_i (gmx (fun j => s 139 (52 + 2 * (8 * w + j) + 0)) i)), some (wp_i ((i : Int)))] [] h (fun v1 h1 => h1 = h ∧ v1 = some (wp_i (gmx (fun j => s 139 (52 + 2 * (8 * w + j) + 0)) (s 139 0).toNat))) := by
  intro nn
  induction nn with
  | zero => intros; exact wl_0
  | succ nn ih =>
    intro i hi
    have gb := gmx_b (g := (fun j => s 139 (52 + 2 * (8 * w + j) + 0))) i (fun j a b => hg w j hw (by omega))
    refine wl_s1 (pc' := 5) ji_263_4 rfl rfl rfl ?_
    refine wl_s (pc' := 6) ji_263_5 rfl rfl rfl ?_
    refine cs_gr (r := 139) (k := 0) C (by decide) sq_138 rfl ji_263_6 jf_263_7 ?_
    refine wl_s (pc' := 10) ji_263_9 rfl rfl rfl ?_
    refine cs_l (x := 0) C (by decide) (by decide) sq_139 (by omega) ji_263_10 (fun ld10 ld11 ld12 => ?_)
    refine wl_icmp (t := 43) ji_263_11 rfl (by omega) (by omega) (fun (hb2 : (s 139 0 : Int) ≤ ((i : Int))) => ?_) (fun (hb2 : ¬ ((s 139 0 : Int) ≤ ((i : Int)))) => ?_)
    · refine wl_s (pc' := 44) ji_263_43 rfl rfl rfl ?_
      exact wl_ri ji_263_44 jr_263 rfl (⟨rfl, by rw [show i = (s 139 0).toNat by omega]⟩)
    · refine wl_s (pc' := 15) ji_263_14 rfl rfl rfl ?_
      refine wl_s (pc' := 16) ji_263_15 rfl rfl rfl ?_
      refine wl_s (pc' := 17) ji_263_16 rfl rfl rfl ?_
      refine wl_s (pc' := 18) ji_263_17 rfl rfl rfl ?_
      obtain ⟨q4, hq4⟩ := cs_c C (by decide) sq_138
      refine wl_vc (d := d) (as := [.ref 138, wp_i w, wp_i ((i : Int)), wp_i 0]) (rest := []) ji_263_18 jc_263_70 rfl hq4 jk_224.symm (Nat.le_of_ble_eq_true rfl) rfl (by rw [jn_224]; rfl) (uc_224 (d := d) C (w := w) (p := (i : Int)) (k := 0) (by omega) (by omega) (by omega)) (fun v1 h3 R => ?_)
      obtain ⟨ee, rfl⟩ := R
      rw [ee]
      clear ee
      show wl_R _ _ 263 21 [some (.ref 138), some (wp_i w), some (wp_i (gmx (fun j => s 139 (52 + 2 * (8 * w + j) + 0)) i)), some (wp_i ((i : Int)))] [wp_i (s 139 (52 + 2 * (8 * w + ((i : Int))) + 0))] _ _
      have gr5 := hg w (i : Int) hw (by omega)
      refine wl_s (pc' := 22) ji_263_21 rfl rfl rfl ?_
      refine wl_icmp (t := 35) ji_263_22 rfl (by omega) (by omega) (fun (hb6 : (s 139 (52 + 2 * (8 * w + ((i : Int))) + 0) : Int) ≤ (gmx (fun j => s 139 (52 + 2 * (8 * w + j) + 0)) i)) => ?_) (fun (hb6 : ¬ ((s 139 (52 + 2 * (8 * w + ((i : Int))) + 0) : Int) ≤ (gmx (fun j => s 139 (52 + 2 * (8 * w + j) + 0)) i))) => ?_)
      · refine wl_s (pc' := 36) ji_263_35 rfl rfl rfl ?_
        refine wl_s (pc' := 37) (lv' := [some (.ref 138), some (wp_i w), some (wp_i (gmx (fun j => s 139 (52 + 2 * (8 * w + j) + 0)) i)), some (wp_i ((i : Int)))]) ji_263_36 rfl rfl rfl ?_
        refine wl_iinc (x := (i : Int)) (z := (i : Int) + 1) (lv' := [some (.ref 138), some (wp_i w), some (wp_i (gmx (fun j => s 139 (52 + 2 * (8 * w + j) + 0)) i)), some (wp_i ((i : Int) + 1))]) ji_263_37 rfl (Nat.le_of_ble_eq_true rfl) (by omega) rfl ?_
        refine wl_goto (t := 4) ji_263_40 rfl ?_
        rw [show (i : Int) + 1 = ((i + 1 : Nat) : Int) by omega]
        rw [show gmx (fun j => s 139 (52 + 2 * (8 * w + j) + 0)) i = gmx (fun j => s 139 (52 + 2 * (8 * w + j) + 0)) (i + 1) by show _ = max (gmx (fun j => s 139 (52 + 2 * (8 * w + j) + 0)) i) ((fun j => s 139 (52 + 2 * (8 * w + j) + 0)) (i : Int)); dsimp only; omega]
        exact ih (i + 1) (by omega)
      · refine wl_s (pc' := 26) ji_263_25 rfl rfl rfl ?_
        refine wl_s (pc' := 27) ji_263_26 rfl rfl rfl ?_
        refine wl_s (pc' := 28) ji_263_27 rfl rfl rfl ?_
        refine wl_s (pc' := 29) ji_263_28 rfl rfl rfl ?_
        obtain ⟨q8, hq8⟩ := cs_c C (by decide) sq_138
        refine wl_vc (d := d) (as := [.ref 138, wp_i w, wp_i ((i : Int)), wp_i 0]) (rest := []) ji_263_29 jc_263_70 rfl hq8 jk_224.symm (Nat.le_of_ble_eq_true rfl) rfl (by rw [jn_224]; rfl) (uc_224 (d := d) C (w := w) (p := (i : Int)) (k := 0) (by omega) (by omega) (by omega)) (fun v1 h7 R => ?_)
        obtain ⟨ee, rfl⟩ := R
        rw [ee]
        clear ee
        show wl_R _ _ 263 32 [some (.ref 138), some (wp_i w), some (wp_i (gmx (fun j => s 139 (52 + 2 * (8 * w + j) + 0)) i)), some (wp_i ((i : Int)))] [wp_i (s 139 (52 + 2 * (8 * w + ((i : Int))) + 0))] _ _
        have gr9 := hg w (i : Int) hw (by omega)
        refine wl_goto (t := 36) ji_263_32 rfl ?_
        refine wl_s (pc' := 37) (lv' := [some (.ref 138), some (wp_i w), some (wp_i (s 139 (52 + 2 * (8 * w + ((i : Int))) + 0))), some (wp_i ((i : Int)))]) ji_263_36 rfl rfl rfl ?_
        refine wl_iinc (x := (i : Int)) (z := (i : Int) + 1) (lv' := [some (.ref 138), some (wp_i w), some (wp_i (s 139 (52 + 2 * (8 * w + ((i : Int))) + 0))), some (wp_i ((i : Int) + 1))]) ji_263_37 rfl (Nat.le_of_ble_eq_true rfl) (by omega) rfl ?_
        refine wl_goto (t := 4) ji_263_40 rfl ?_
        rw [show (i : Int) + 1 = ((i + 1 : Nat) : Int) by omega]
        rw [show s 139 (52 + 2 * (8 * w + ((i : Int))) + 0) = gmx (fun j => s 139 (52 + 2 * (8 * w + j) + 0)) (i + 1) by show _ = max (gmx (fun j => s 139 (52 + 2 * (8 * w + j) + 0)) i) ((fun j => s 139 (52 + 2 * (8 * w + j) + 0)) (i : Int)); dsimp only; omega]
        exact ih (i + 1) (by omega)
theorem uc_263 {nn d : Nat} {h : mj_H} {s : sg_} (C : CS h s) (i0 : 0 ≤ s 139 0 ∧ s 139 0 ≤ 8) (hg : ∀ w p, (0 ≤ w ∧ w < 6) → (0 ≤ p ∧ p < 8) → -1 ≤ s 139 (52 + 2 * (8 * w + p) + 0) ∧ s 139 (52 + 2 * (8 * w + p) + 0) ≤ 99) {w : Int} (hw : 0 ≤ w ∧ w < 6) : wl_R nn (d + 1) 263 0 [some (.ref 138), some (wp_i w), none, none] [] h (fun v1 h1 => h1 = h ∧ v1 = some (wp_i (gmx (fun j => s 139 (52 + 2 * (8 * w + j) + 0)) (s 139 0).toNat))) := by
  refine wl_s (pc' := 1) ji_263_0 rfl rfl rfl ?_
  refine wl_s (pc' := 2) (lv' := [some (.ref 138), some (wp_i w), some (wp_i (-1)), none]) ji_263_1 rfl rfl rfl ?_
  refine wl_s (pc' := 3) ji_263_2 rfl rfl rfl ?_
  refine wl_s (pc' := 4) (lv' := [some (.ref 138), some (wp_i w), some (wp_i (-1)), some (wp_i 0)]) ji_263_3 rfl rfl rfl ?_
  exact uc_263l C i0 hg hw nn 0 (by omega)
theorem uc_261 {nn d : Nat} {h : mj_H} {s : sg_} (C : CS h s) {w : Int} (hw : 0 ≤ w ∧ w < 6) : wl_R nn d 261 0 [some (.ref 138), some (wp_i w)] [] h (fun v1 h1 => h1 = h ∧ v1 = some (wp_i (s 139 (40 + 2 * w + 1)))) := by
  refine wl_s (pc' := 1) ji_261_0 rfl rfl rfl ?_
  refine cs_gr (r := 139) (k := 0) C (by decide) sq_138 rfl ji_261_1 jf_261_7 ?_
  refine wl_bp ji_261_4 rfl ?_
  refine wl_s (pc' := 7) ji_261_6 rfl rfl rfl ?_
  refine wl_s (pc' := 8) ji_261_7 rfl rfl rfl ?_
  refine wl_imul (x := 2) (y := w) (z := 2 * w) ji_261_8 (by omega) ?_
  refine wl_iadd (x := 40) (y := 2 * w) (z := 40 + (2 * w)) ji_261_9 (by omega) ?_
  refine wl_s (pc' := 11) ji_261_10 rfl rfl rfl ?_
  refine wl_iadd (x := 40 + (2 * w)) (y := 1) (z := 40 + (2 * w) + 1) ji_261_11 (by omega) ?_
  refine cs_l (x := 40 + (2 * w) + 1) C (by decide) (by decide) sq_139 (by omega) ji_261_12 (fun ld10 ld11 ld12 => ?_)
  exact wl_ri ji_261_13 jr_261 rfl (⟨rfl, rfl⟩)
def owC (s : sg_) (w k : Int) : Int := if 0 ≤ w ∧ w < s 48 1 then (if k = 0 then s 52 w else if k = 1 then s 53 w else if k = 2 then flg (fun j => s 54 (j * 6 + w)) (s 48 0).toNat else if k = 3 then gmx (fun j => s 54 (j * 6 + w)) (s 48 0).toNat else -2) else -2
def owR (s : sg_) (w k : Int) : Int := if 0 ≤ w ∧ w < s 139 1 then (if k = 0 then s 139 (40 + 2 * w) else if k = 1 then s 139 (40 + 2 * w + 1) else if k = 2 then flg (fun j => s 139 (52 + 2 * (8 * w + j) + 0)) (s 139 0).toNat else if k = 3 then gmx (fun j => s 139 (52 + 2 * (8 * w + j) + 0)) (s 139 0).toNat else -2) else -2
theorem uc_98 {nn d : Nat} {h : mj_H} {s : sg_} (C : CS h s) (i0 : 0 ≤ s 48 0 ∧ s 48 0 ≤ 8) (i1 : 0 ≤ s 48 1 ∧ s 48 1 ≤ 6) (hg : ∀ k, 0 ≤ k → k < 48 → -1 ≤ s 54 k ∧ s 54 k ≤ 99) {w k : Int} (hw : wp_r w) (hk : wp_r k) : wl_R nn (d + 1) 98 0 [some (.ref 9), some (wp_i w), some (wp_i k), none] [] h (fun v1 h1 => h1 = h ∧ v1 = some (wp_i (owC s w k))) := by
  refine wl_s (pc' := 1) ji_98_0 rfl rfl rfl ?_
  refine cs_gr (r := 47) (k := 0) C (by decide) sq_9 rfl ji_98_1 jf_98_19 ?_
  refine cs_gr (r := 48) (k := 0) C (by decide) sq_47 rfl ji_98_4 jf_98_49 ?_
  refine wl_s (pc' := 8) (lv' := [some (.ref 9), some (wp_i w), some (wp_i k), some (.ref 48)]) ji_98_7 rfl rfl rfl ?_
  refine wl_s (pc' := 9) ji_98_8 rfl rfl rfl ?_
  refine wl_s (pc' := 10) ji_98_9 rfl rfl rfl ?_
  obtain ⟨q2, hq2⟩ := cs_c C (by decide) sq_48
  refine wl_vc (d := d) (as := [.ref 48, wp_i w]) (rest := []) ji_98_10 jc_98_177 rfl hq2 jk_80.symm (Nat.le_of_ble_eq_true rfl) rfl (by rw [jn_80]; rfl) (uc_80 (d := d) C isF_48 (p := w) (by omega)) (fun v1 h1 R => ?_)
  obtain ⟨ee, y3, rfl, hy3a, hy3b⟩ := R
  rw [ee]
  clear ee
  show wl_R _ _ 98 13 [some (.ref 9), some (wp_i w), some (wp_i k), some (.ref 48)] [wp_i y3] _ _
  refine wl_if (t := 19) ji_98_13 rfl (by omega) (fun (hb4 : ¬ (y3 : Int) = 0) => ?_) (fun (hb4 : ¬ (¬ (y3 : Int) = 0)) => ?_)
  · refine wl_s (pc' := 20) ji_98_19 rfl rfl rfl ?_
    rcases (show k = 0 ∨ k = 1 ∨ k = 2 ∨ k = 3 ∨ (k < 0 ∨ 3 < k) by omega) with q0 | q0 | q0 | q0 | q0
    · subst q0
      refine wl_s (pc' := 52) ji_98_20 rfl rfl rfl ?_
      refine wl_s (pc' := 53) ji_98_52 rfl rfl rfl ?_
      refine cs_gr (r := 52) (k := 5) C (by decide) sq_48 rfl ji_98_53 jf_98_180 ?_
      refine wl_s (pc' := 57) ji_98_56 rfl rfl rfl ?_
      refine cs_l (x := w) C (by decide) (by decide) sq_52 (by omega) ji_98_57 (fun ld50 ld51 ld52 => ?_)
      exact wl_ri ji_98_58 jr_98 rfl (⟨rfl, congrArg (fun z => some (wp_i z)) (by unfold owC; rw [if_pos (by omega), if_pos rfl])⟩)
    · subst q0
      refine wl_s (pc' := 59) ji_98_20 rfl rfl rfl ?_
      refine wl_s (pc' := 60) ji_98_59 rfl rfl rfl ?_
      refine cs_gr (r := 53) (k := 6) C (by decide) sq_48 rfl ji_98_60 jf_98_183 ?_
      refine wl_s (pc' := 64) ji_98_63 rfl rfl rfl ?_
      refine cs_l (x := w) C (by decide) (by decide) sq_53 (by omega) ji_98_64 (fun ld60 ld61 ld62 => ?_)
      exact wl_ri ji_98_65 jr_98 rfl (⟨rfl, congrArg (fun z => some (wp_i z)) (by unfold owC; rw [if_pos (by omega), if_neg (by omega), if_pos rfl])⟩)
    · subst q0
      refine wl_s (pc' := 66) ji_98_20 rfl rfl rfl ?_
      refine wl_s (pc' := 67) ji_98_66 rfl rfl rfl ?_
      refine wl_s (pc' := 68) ji_98_67 rfl rfl rfl ?_
      obtain ⟨q8, hq8⟩ := cs_c C (by decide) sq_48
      refine wl_vc (d := d) (as := [.ref 48, wp_i w]) (rest := []) ji_98_68 jc_98_186 rfl hq8 jk_99.symm (Nat.le_of_ble_eq_true rfl) rfl (by rw [jn_99]; rfl) (uc_99 (d := d) C i0 (w := w) (by omega)) (fun v1 h7 R => ?_)
      obtain ⟨ee, rfl⟩ := R
      rw [ee]
      clear ee
      show wl_R _ _ 98 71 [some (.ref 9), some (wp_i w), some (wp_i 2), some (.ref 48)] [wp_i (flg (fun j => s 54 (j * 6 + w)) (s 48 0).toNat)] _ _
      exact wl_ri ji_98_71 jr_98 rfl (⟨rfl, congrArg (fun z => some (wp_i z)) (by unfold owC; rw [if_pos (by omega), if_neg (by omega), if_neg (by omega), if_pos rfl])⟩)
    · subst q0
      refine wl_s (pc' := 72) ji_98_20 rfl rfl rfl ?_
      refine wl_s (pc' := 73) ji_98_72 rfl rfl rfl ?_
      refine wl_s (pc' := 74) ji_98_73 rfl rfl rfl ?_
      obtain ⟨q10, hq10⟩ := cs_c C (by decide) sq_48
      refine wl_vc (d := d) (as := [.ref 48, wp_i w]) (rest := []) ji_98_74 jc_98_189 rfl hq10 jk_100.symm (Nat.le_of_ble_eq_true rfl) rfl (by rw [jn_100]; rfl) (uc_100 (d := d) C i0 hg (w := w) (by omega)) (fun v1 h9 R => ?_)
      obtain ⟨ee, rfl⟩ := R
      rw [ee]
      clear ee
      show wl_R _ _ 98 77 [some (.ref 9), some (wp_i w), some (wp_i 3), some (.ref 48)] [wp_i (gmx (fun j => s 54 (j * 6 + w)) (s 48 0).toNat)] _ _
      exact wl_ri ji_98_77 jr_98 rfl (⟨rfl, congrArg (fun z => some (wp_i z)) (by unfold owC; rw [if_pos (by omega), if_neg (by omega), if_neg (by omega), if_neg (by omega), if_pos rfl])⟩)
    · refine wl_s (pc' := 78) (lv' := [some (.ref 9), some (wp_i w), some (wp_i k), some (.ref 48)]) (st' := []) (h' := h) ji_98_20 rfl rfl ?_ ?_
      · simp only [mj_st, wp_ti hk]
        rw [if_pos q0]
        rfl
      refine wl_bp ji_98_78 rfl ?_
      exact wl_ri ji_98_80 jr_98 rfl (⟨rfl, congrArg (fun z => some (wp_i z)) (by unfold owC; (repeat' split) <;> omega)⟩)
  · refine wl_bp ji_98_16 rfl ?_
    exact wl_ri ji_98_18 jr_98 rfl (⟨rfl, congrArg (fun z => some (wp_i z)) (by unfold owC; (repeat' split) <;> omega)⟩)
theorem uc_260 {nn d : Nat} {h : mj_H} {s : sg_} (C : CS h s) (i0 : 0 ≤ s 139 0 ∧ s 139 0 ≤ 8) (i1 : 0 ≤ s 139 1 ∧ s 139 1 ≤ 6) (hg : ∀ w p, (0 ≤ w ∧ w < 6) → (0 ≤ p ∧ p < 8) → -1 ≤ s 139 (52 + 2 * (8 * w + p) + 0) ∧ s 139 (52 + 2 * (8 * w + p) + 0) ≤ 99) {w k : Int} (hw : wp_r w) (hk : wp_r k) : wl_R nn (d + 3) 260 0 [some (.ref 138), some (wp_i w), some (wp_i k)] [] h (fun v1 h1 => h1 = h ∧ v1 = some (wp_i (owR s w k))) := by
  refine wl_s (pc' := 1) ji_260_0 rfl rfl rfl ?_
  refine wl_s (pc' := 2) ji_260_1 rfl rfl rfl ?_
  obtain ⟨q2, hq2⟩ := cs_c C (by decide) sq_138
  refine wl_vc (d := d + 2) (as := [.ref 138, wp_i w]) (rest := []) ji_260_2 jc_260_345 rfl hq2 jk_247.symm (Nat.le_of_ble_eq_true rfl) rfl (by rw [jn_247]; rfl) (uc_247 (d := d + 1) C i1 (w := w) (by omega)) (fun v1 h1 R => ?_)
  obtain ⟨ee, y3, rfl, hy3a, hy3b⟩ := R
  rw [ee]
  clear ee
  show wl_R _ _ 260 5 [some (.ref 138), some (wp_i w), some (wp_i k)] [wp_i y3] _ _
  refine wl_if (t := 11) ji_260_5 rfl (by omega) (fun (hb4 : ¬ (y3 : Int) = 0) => ?_) (fun (hb4 : ¬ (¬ (y3 : Int) = 0)) => ?_)
  · refine wl_s (pc' := 12) ji_260_11 rfl rfl rfl ?_
    rcases (show k = 0 ∨ k = 1 ∨ k = 2 ∨ k = 3 ∨ (k < 0 ∨ 3 < k) by omega) with q0 | q0 | q0 | q0 | q0
    · subst q0
      refine wl_s (pc' := 44) ji_260_12 rfl rfl rfl ?_
      refine wl_s (pc' := 45) ji_260_44 rfl rfl rfl ?_
      refine wl_s (pc' := 46) ji_260_45 rfl rfl rfl ?_
      obtain ⟨q6, hq6⟩ := cs_c C (by decide) sq_138
      refine wl_vc (d := d + 2) (as := [.ref 138, wp_i w]) (rest := []) ji_260_46 jc_260_286 rfl hq6 jk_227.symm (Nat.le_of_ble_eq_true rfl) rfl (by rw [jn_227]; rfl) (uc_227 (d := d + 2) C (w := w) (by omega)) (fun v1 h5 R => ?_)
      obtain ⟨ee, rfl⟩ := R
      rw [ee]
      clear ee
      show wl_R _ _ 260 49 [some (.ref 138), some (wp_i w), some (wp_i 0)] [wp_i (s 139 (40 + 2 * w))] _ _
      exact wl_ri ji_260_49 jr_260 rfl (⟨rfl, congrArg (fun z => some (wp_i z)) (by unfold owR; rw [if_pos (by omega), if_pos rfl])⟩)
    · subst q0
      refine wl_s (pc' := 50) ji_260_12 rfl rfl rfl ?_
      refine wl_s (pc' := 51) ji_260_50 rfl rfl rfl ?_
      refine wl_s (pc' := 52) ji_260_51 rfl rfl rfl ?_
      obtain ⟨q8, hq8⟩ := cs_c C (by decide) sq_138
      refine wl_vc (d := d + 2) (as := [.ref 138, wp_i w]) (rest := []) ji_260_52 jc_260_384 rfl hq8 jk_261.symm (Nat.le_of_ble_eq_true rfl) rfl (by rw [jn_261]; rfl) (uc_261 (d := d + 2) C (w := w) (by omega)) (fun v1 h7 R => ?_)
      obtain ⟨ee, rfl⟩ := R
      rw [ee]
      clear ee
      show wl_R _ _ 260 55 [some (.ref 138), some (wp_i w), some (wp_i 1)] [wp_i (s 139 (40 + 2 * w + 1))] _ _
      exact wl_ri ji_260_55 jr_260 rfl (⟨rfl, congrArg (fun z => some (wp_i z)) (by unfold owR; rw [if_pos (by omega), if_neg (by omega), if_pos rfl])⟩)
    · subst q0
      refine wl_s (pc' := 56) ji_260_12 rfl rfl rfl ?_
      refine wl_s (pc' := 57) ji_260_56 rfl rfl rfl ?_
      refine wl_s (pc' := 58) ji_260_57 rfl rfl rfl ?_
      obtain ⟨q10, hq10⟩ := cs_c C (by decide) sq_138
      refine wl_vc (d := d + 2) (as := [.ref 138, wp_i w]) (rest := []) ji_260_58 jc_260_387 rfl hq10 jk_262.symm (Nat.le_of_ble_eq_true rfl) rfl (by rw [jn_262]; rfl) (uc_262 (d := d) C i0 (w := w) (by omega)) (fun v1 h9 R => ?_)
      obtain ⟨ee, rfl⟩ := R
      rw [ee]
      clear ee
      show wl_R _ _ 260 61 [some (.ref 138), some (wp_i w), some (wp_i 2)] [wp_i (flg (fun j => s 139 (52 + 2 * (8 * w + j) + 0)) (s 139 0).toNat)] _ _
      exact wl_ri ji_260_61 jr_260 rfl (⟨rfl, congrArg (fun z => some (wp_i z)) (by unfold owR; rw [if_pos (by omega), if_neg (by omega), if_neg (by omega), if_pos rfl])⟩)
    · subst q0
      refine wl_s (pc' := 62) ji_260_12 rfl rfl rfl ?_
      refine wl_s (pc' := 63) ji_260_62 rfl rfl rfl ?_
      refine wl_s (pc' := 64) ji_260_63 rfl rfl rfl ?_
      obtain ⟨q12, hq12⟩ := cs_c C (by decide) sq_138
      refine wl_vc (d := d + 2) (as := [.ref 138, wp_i w]) (rest := []) ji_260_64 jc_260_390 rfl hq12 jk_263.symm (Nat.le_of_ble_eq_true rfl) rfl (by rw [jn_263]; rfl) (uc_263 (d := d + 1) C i0 hg (w := w) (by omega)) (fun v1 h11 R => ?_)
      obtain ⟨ee, rfl⟩ := R
      rw [ee]
      clear ee
      show wl_R _ _ 260 67 [some (.ref 138), some (wp_i w), some (wp_i 3)] [wp_i (gmx (fun j => s 139 (52 + 2 * (8 * w + j) + 0)) (s 139 0).toNat)] _ _
      exact wl_ri ji_260_67 jr_260 rfl (⟨rfl, congrArg (fun z => some (wp_i z)) (by unfold owR; rw [if_pos (by omega), if_neg (by omega), if_neg (by omega), if_neg (by omega), if_pos rfl])⟩)
    · refine wl_s (pc' := 68) (lv' := [some (.ref 138), some (wp_i w), some (wp_i k)]) (st' := []) (h' := h) ji_260_12 rfl rfl ?_ ?_
      · simp only [mj_st, wp_ti hk]
        rw [if_pos q0]
        rfl
      refine wl_bp ji_260_68 rfl ?_
      exact wl_ri ji_260_70 jr_260 rfl (⟨rfl, congrArg (fun z => some (wp_i z)) (by unfold owR; (repeat' split) <;> omega)⟩)
  · refine wl_bp ji_260_8 rfl ?_
    exact wl_ri ji_260_10 jr_260 rfl (⟨rfl, congrArg (fun z => some (wp_i z)) (by unfold owR; (repeat' split) <;> omega)⟩)
theorem eq_ofPower {tc : tcs} {tr : Int → crs} {s : sg_} {M : Int} (L : LAWS tc tr s M) {w k : Int} : owR s w k = owC s w k := by
  have H := L.1.1.2.1
  have N := L.1.1.1.1
  have h0 : s 139 0 = s 48 0 := H.1.1
  have h1 : s 139 1 = s 48 1 := H.1.2
  have i0 := N.1.1
  have i1 := N.1.2.1
  unfold owR owC
  rw [h0, h1]
  by_cases q : 0 ≤ w ∧ w < s 48 1
  · rw [if_pos q, if_pos q]
    have q6 : 0 ≤ w ∧ w < 6 := ⟨q.1, by have : s 48 1 ≤ 6 := i1.2; omega⟩
    have a := H.2.2.1 w q6
    have a1 : s 139 (40 + 2 * w) = s 52 w := a.1
    have a2 : s 139 (40 + 2 * w + 1) = s 53 w := a.2
    have e : ∀ j : Int, 0 ≤ j → j < (s 48 0).toNat → s 139 (52 + 2 * (8 * w + j) + 0) = s 54 (j * 6 + w) := fun j b1 b2 => (H.2.2.2.1 w j q6 (by have : s 48 0 ≤ 8 := i0.2; omega)).1
    have f := flg_c (g := fun j => s 139 (52 + 2 * (8 * w + j) + 0)) (k := fun j => s 54 (j * 6 + w)) (s 48 0).toNat e
    have g := gmx_c (g := fun j => s 139 (52 + 2 * (8 * w + j) + 0)) (k := fun j => s 54 (j * 6 + w)) (s 48 0).toNat e
    rw [a1, a2, f, g]
  · rw [if_neg q, if_neg q]
