/-! -/
set_option maxRecDepth 100000 in
theorem ji_170_0 : mj_ins 170 0 = some (.iload_n 1) := by decide +kernel
set_option maxRecDepth 100000 in
theorem ji_170_1 : mj_ins 170 1 = some (.iconst 1) := by decide +kernel
set_option maxRecDepth 100000 in
theorem ji_170_2 : mj_ins 170 2 = some (.bipush 99) := by decide +kernel
set_option maxRecDepth 100000 in
theorem ji_170_4 : mj_ins 170 4 = some (.invokestatic 66) := by decide +kernel
set_option maxRecDepth 100000 in
theorem jc_170_66 : mj_cal 170 66 = some (1, 171, 3) := by decide +kernel
set_option maxRecDepth 100000 in
theorem ji_170_7 : mj_ins 170 7 = some (.ifCond .eq 24) := by decide +kernel
set_option maxRecDepth 100000 in
theorem ji_170_31 : mj_ins 170 31 = some (.iconst (-1)) := by decide +kernel
set_option maxRecDepth 100000 in
theorem ji_170_32 : mj_ins 170 32 = some (.ireturn) := by decide +kernel
set_option maxRecDepth 100000 in
theorem jr_170 : mj_ret 170 = some .int := by decide +kernel
set_option maxRecDepth 100000 in
theorem ji_170_10 : mj_ins 170 10 = some (.iload_n 2) := by decide +kernel
set_option maxRecDepth 100000 in
theorem ji_170_11 : mj_ins 170 11 = some (.iconst 0) := by decide +kernel
set_option maxRecDepth 100000 in
theorem ji_170_12 : mj_ins 170 12 = some (.bipush 99) := by decide +kernel
set_option maxRecDepth 100000 in
theorem ji_170_14 : mj_ins 170 14 = some (.invokestatic 66) := by decide +kernel
set_option maxRecDepth 100000 in
theorem ji_170_17 : mj_ins 170 17 = some (.ifCond .eq 14) := by decide +kernel
set_option maxRecDepth 100000 in
theorem ji_170_20 : mj_ins 170 20 = some (.aload_n 0) := by decide +kernel
set_option maxRecDepth 100000 in
theorem ji_170_21 : mj_ins 170 21 = some (.getfield 7) := by decide +kernel
set_option maxRecDepth 100000 in
theorem jf_170_7 : mj_fld 170 7 = some (11, 0, (.array .int), false) := by decide +kernel
set_option maxRecDepth 100000 in
theorem ji_170_24 : mj_ins 170 24 = some (.iconst 0) := by decide +kernel
set_option maxRecDepth 100000 in
theorem ji_170_25 : mj_ins 170 25 = some (.iaload) := by decide +kernel
set_option maxRecDepth 100000 in
theorem ji_170_26 : mj_ins 170 26 = some (.bipush 8) := by decide +kernel
set_option maxRecDepth 100000 in
theorem ji_170_28 : mj_ins 170 28 = some (.if_icmp .ne 5) := by decide +kernel
set_option maxRecDepth 100000 in
theorem ji_170_33 : mj_ins 170 33 = some (.bipush 16) := by decide +kernel
set_option maxRecDepth 100000 in
theorem ji_170_35 : mj_ins 170 35 = some (.iconst 3) := by decide +kernel
set_option maxRecDepth 100000 in
theorem ji_170_36 : mj_ins 170 36 = some (.aload_n 0) := by decide +kernel
set_option maxRecDepth 100000 in
theorem ji_170_37 : mj_ins 170 37 = some (.getfield 7) := by decide +kernel
set_option maxRecDepth 100000 in
theorem ji_170_40 : mj_ins 170 40 = some (.iconst 0) := by decide +kernel
set_option maxRecDepth 100000 in
theorem ji_170_41 : mj_ins 170 41 = some (.iaload) := by decide +kernel
set_option maxRecDepth 100000 in
theorem ji_170_42 : mj_ins 170 42 = some (.imul) := by decide +kernel
set_option maxRecDepth 100000 in
theorem ji_170_43 : mj_ins 170 43 = some (.iadd) := by decide +kernel
set_option maxRecDepth 100000 in
theorem ji_170_44 : mj_ins 170 44 = some (.istore_n 3) := by decide +kernel
set_option maxRecDepth 100000 in
theorem ji_170_45 : mj_ins 170 45 = some (.aload_n 0) := by decide +kernel
set_option maxRecDepth 100000 in
theorem ji_170_46 : mj_ins 170 46 = some (.getfield 7) := by decide +kernel
set_option maxRecDepth 100000 in
theorem ji_170_49 : mj_ins 170 49 = some (.iload_n 3) := by decide +kernel
set_option maxRecDepth 100000 in
theorem ji_170_50 : mj_ins 170 50 = some (.iload_n 1) := by decide +kernel
set_option maxRecDepth 100000 in
theorem ji_170_51 : mj_ins 170 51 = some (.iastore) := by decide +kernel
set_option maxRecDepth 100000 in
theorem ji_170_52 : mj_ins 170 52 = some (.aload_n 0) := by decide +kernel
set_option maxRecDepth 100000 in
theorem ji_170_53 : mj_ins 170 53 = some (.getfield 7) := by decide +kernel
set_option maxRecDepth 100000 in
theorem ji_170_56 : mj_ins 170 56 = some (.iload_n 3) := by decide +kernel
set_option maxRecDepth 100000 in
theorem ji_170_57 : mj_ins 170 57 = some (.iconst 1) := by decide +kernel
set_option maxRecDepth 100000 in
theorem ji_170_58 : mj_ins 170 58 = some (.iadd) := by decide +kernel
set_option maxRecDepth 100000 in
theorem ji_170_59 : mj_ins 170 59 = some (.iload_n 2) := by decide +kernel
set_option maxRecDepth 100000 in
theorem ji_170_60 : mj_ins 170 60 = some (.iastore) := by decide +kernel
set_option maxRecDepth 100000 in
theorem ji_170_61 : mj_ins 170 61 = some (.aload_n 0) := by decide +kernel
set_option maxRecDepth 100000 in
theorem ji_170_62 : mj_ins 170 62 = some (.getfield 7) := by decide +kernel
set_option maxRecDepth 100000 in
theorem ji_170_65 : mj_ins 170 65 = some (.iload_n 3) := by decide +kernel
set_option maxRecDepth 100000 in
theorem ji_170_66 : mj_ins 170 66 = some (.iconst 2) := by decide +kernel
set_option maxRecDepth 100000 in
theorem ji_170_67 : mj_ins 170 67 = some (.iadd) := by decide +kernel
set_option maxRecDepth 100000 in
theorem ji_170_68 : mj_ins 170 68 = some (.iload_n 1) := by decide +kernel
set_option maxRecDepth 100000 in
theorem ji_170_69 : mj_ins 170 69 = some (.iastore) := by decide +kernel
set_option maxRecDepth 100000 in
theorem ji_170_70 : mj_ins 170 70 = some (.aload_n 0) := by decide +kernel
set_option maxRecDepth 100000 in
theorem ji_170_71 : mj_ins 170 71 = some (.getfield 7) := by decide +kernel
set_option maxRecDepth 100000 in
theorem ji_170_74 : mj_ins 170 74 = some (.iconst 0) := by decide +kernel
set_option maxRecDepth 100000 in
theorem ji_170_75 : mj_ins 170 75 = some (.dup2) := by decide +kernel
set_option maxRecDepth 100000 in
theorem ji_170_76 : mj_ins 170 76 = some (.iaload) := by decide +kernel
set_option maxRecDepth 100000 in
theorem ji_170_77 : mj_ins 170 77 = some (.iconst 1) := by decide +kernel
set_option maxRecDepth 100000 in
theorem ji_170_78 : mj_ins 170 78 = some (.iadd) := by decide +kernel
set_option maxRecDepth 100000 in
theorem ji_170_79 : mj_ins 170 79 = some (.iastore) := by decide +kernel
set_option maxRecDepth 100000 in
theorem ji_170_80 : mj_ins 170 80 = some (.aload_n 0) := by decide +kernel
set_option maxRecDepth 100000 in
theorem ji_170_81 : mj_ins 170 81 = some (.getfield 7) := by decide +kernel
set_option maxRecDepth 100000 in
theorem ji_170_84 : mj_ins 170 84 = some (.iconst 0) := by decide +kernel
set_option maxRecDepth 100000 in
theorem ji_170_85 : mj_ins 170 85 = some (.iaload) := by decide +kernel
set_option maxRecDepth 100000 in
theorem ji_170_86 : mj_ins 170 86 = some (.iconst 1) := by decide +kernel
set_option maxRecDepth 100000 in
theorem ji_170_87 : mj_ins 170 87 = some (.isub) := by decide +kernel
set_option maxRecDepth 100000 in
theorem ji_170_88 : mj_ins 170 88 = some (.ireturn) := by decide +kernel
set_option maxRecDepth 100000 in
theorem ji_172_0 : mj_ins 172 0 = some (.iload_n 1) := by decide +kernel
set_option maxRecDepth 100000 in
theorem ji_172_1 : mj_ins 172 1 = some (.iconst 1) := by decide +kernel
set_option maxRecDepth 100000 in
theorem ji_172_2 : mj_ins 172 2 = some (.bipush 9) := by decide +kernel
set_option maxRecDepth 100000 in
theorem ji_172_4 : mj_ins 172 4 = some (.invokestatic 66) := by decide +kernel
set_option maxRecDepth 100000 in
theorem jc_172_66 : mj_cal 172 66 = some (1, 171, 3) := by decide +kernel
set_option maxRecDepth 100000 in
theorem ji_172_7 : mj_ins 172 7 = some (.ifCond .eq 25) := by decide +kernel
set_option maxRecDepth 100000 in
theorem ji_172_32 : mj_ins 172 32 = some (.iconst (-1)) := by decide +kernel
set_option maxRecDepth 100000 in
theorem ji_172_33 : mj_ins 172 33 = some (.ireturn) := by decide +kernel
set_option maxRecDepth 100000 in
theorem jr_172 : mj_ret 172 = some .int := by decide +kernel
set_option maxRecDepth 100000 in
theorem ji_172_10 : mj_ins 172 10 = some (.iload_n 2) := by decide +kernel
set_option maxRecDepth 100000 in
theorem ji_172_11 : mj_ins 172 11 = some (.iconst 0) := by decide +kernel
set_option maxRecDepth 100000 in
theorem ji_172_12 : mj_ins 172 12 = some (.sipush 511) := by decide +kernel
set_option maxRecDepth 100000 in
theorem ji_172_15 : mj_ins 172 15 = some (.invokestatic 66) := by decide +kernel
set_option maxRecDepth 100000 in
theorem ji_172_18 : mj_ins 172 18 = some (.ifCond .eq 14) := by decide +kernel
set_option maxRecDepth 100000 in
theorem ji_172_21 : mj_ins 172 21 = some (.aload_n 0) := by decide +kernel
set_option maxRecDepth 100000 in
theorem ji_172_22 : mj_ins 172 22 = some (.getfield 7) := by decide +kernel
set_option maxRecDepth 100000 in
theorem jf_172_7 : mj_fld 172 7 = some (11, 0, (.array .int), false) := by decide +kernel
set_option maxRecDepth 100000 in
theorem ji_172_25 : mj_ins 172 25 = some (.iconst 1) := by decide +kernel
set_option maxRecDepth 100000 in
theorem ji_172_26 : mj_ins 172 26 = some (.iaload) := by decide +kernel
set_option maxRecDepth 100000 in
theorem ji_172_27 : mj_ins 172 27 = some (.bipush 6) := by decide +kernel
set_option maxRecDepth 100000 in
theorem ji_172_29 : mj_ins 172 29 = some (.if_icmp .ne 5) := by decide +kernel
set_option maxRecDepth 100000 in
theorem ji_172_34 : mj_ins 172 34 = some (.aload_n 0) := by decide +kernel
set_option maxRecDepth 100000 in
theorem ji_172_35 : mj_ins 172 35 = some (.getfield 7) := by decide +kernel
set_option maxRecDepth 100000 in
theorem ji_172_38 : mj_ins 172 38 = some (.bipush 40) := by decide +kernel
set_option maxRecDepth 100000 in
theorem ji_172_40 : mj_ins 172 40 = some (.iconst 2) := by decide +kernel
set_option maxRecDepth 100000 in
theorem ji_172_41 : mj_ins 172 41 = some (.aload_n 0) := by decide +kernel
set_option maxRecDepth 100000 in
theorem ji_172_42 : mj_ins 172 42 = some (.getfield 7) := by decide +kernel
set_option maxRecDepth 100000 in
theorem ji_172_45 : mj_ins 172 45 = some (.iconst 1) := by decide +kernel
set_option maxRecDepth 100000 in
theorem ji_172_46 : mj_ins 172 46 = some (.iaload) := by decide +kernel
set_option maxRecDepth 100000 in
theorem ji_172_47 : mj_ins 172 47 = some (.imul) := by decide +kernel
set_option maxRecDepth 100000 in
theorem ji_172_48 : mj_ins 172 48 = some (.iadd) := by decide +kernel
set_option maxRecDepth 100000 in
theorem ji_172_49 : mj_ins 172 49 = some (.iload_n 1) := by decide +kernel
set_option maxRecDepth 100000 in
theorem ji_172_50 : mj_ins 172 50 = some (.iastore) := by decide +kernel
set_option maxRecDepth 100000 in
theorem ji_172_51 : mj_ins 172 51 = some (.aload_n 0) := by decide +kernel
set_option maxRecDepth 100000 in
theorem ji_172_52 : mj_ins 172 52 = some (.getfield 7) := by decide +kernel
set_option maxRecDepth 100000 in
theorem ji_172_55 : mj_ins 172 55 = some (.bipush 40) := by decide +kernel
set_option maxRecDepth 100000 in
theorem ji_172_57 : mj_ins 172 57 = some (.iconst 2) := by decide +kernel
set_option maxRecDepth 100000 in
theorem ji_172_58 : mj_ins 172 58 = some (.aload_n 0) := by decide +kernel
set_option maxRecDepth 100000 in
theorem ji_172_59 : mj_ins 172 59 = some (.getfield 7) := by decide +kernel
set_option maxRecDepth 100000 in
theorem ji_172_62 : mj_ins 172 62 = some (.iconst 1) := by decide +kernel
set_option maxRecDepth 100000 in
theorem ji_172_63 : mj_ins 172 63 = some (.iaload) := by decide +kernel
set_option maxRecDepth 100000 in
theorem ji_172_64 : mj_ins 172 64 = some (.imul) := by decide +kernel
set_option maxRecDepth 100000 in
theorem ji_172_65 : mj_ins 172 65 = some (.iadd) := by decide +kernel
set_option maxRecDepth 100000 in
theorem ji_172_66 : mj_ins 172 66 = some (.iconst 1) := by decide +kernel
set_option maxRecDepth 100000 in
theorem ji_172_67 : mj_ins 172 67 = some (.iadd) := by decide +kernel
set_option maxRecDepth 100000 in
theorem ji_172_68 : mj_ins 172 68 = some (.iload_n 2) := by decide +kernel
set_option maxRecDepth 100000 in
theorem ji_172_69 : mj_ins 172 69 = some (.iastore) := by decide +kernel
set_option maxRecDepth 100000 in
theorem ji_172_70 : mj_ins 172 70 = some (.aload_n 0) := by decide +kernel
set_option maxRecDepth 100000 in
theorem ji_172_71 : mj_ins 172 71 = some (.getfield 7) := by decide +kernel
set_option maxRecDepth 100000 in
theorem ji_172_74 : mj_ins 172 74 = some (.iconst 1) := by decide +kernel
set_option maxRecDepth 100000 in
theorem ji_172_75 : mj_ins 172 75 = some (.dup2) := by decide +kernel
set_option maxRecDepth 100000 in
theorem ji_172_76 : mj_ins 172 76 = some (.iaload) := by decide +kernel
set_option maxRecDepth 100000 in
theorem ji_172_77 : mj_ins 172 77 = some (.iconst 1) := by decide +kernel
set_option maxRecDepth 100000 in
theorem ji_172_78 : mj_ins 172 78 = some (.iadd) := by decide +kernel
set_option maxRecDepth 100000 in
theorem ji_172_79 : mj_ins 172 79 = some (.iastore) := by decide +kernel
set_option maxRecDepth 100000 in
theorem ji_172_80 : mj_ins 172 80 = some (.aload_n 0) := by decide +kernel
set_option maxRecDepth 100000 in
theorem ji_172_81 : mj_ins 172 81 = some (.getfield 7) := by decide +kernel
set_option maxRecDepth 100000 in
theorem ji_172_84 : mj_ins 172 84 = some (.iconst 1) := by decide +kernel
set_option maxRecDepth 100000 in
theorem ji_172_85 : mj_ins 172 85 = some (.iaload) := by decide +kernel
set_option maxRecDepth 100000 in
theorem ji_172_86 : mj_ins 172 86 = some (.iconst 1) := by decide +kernel
set_option maxRecDepth 100000 in
theorem ji_172_87 : mj_ins 172 87 = some (.isub) := by decide +kernel
set_option maxRecDepth 100000 in
theorem ji_172_88 : mj_ins 172 88 = some (.ireturn) := by decide +kernel
set_option maxRecDepth 100000 in
theorem ji_256_0 : mj_ins 256 0 = some (.aload_n 0) := by decide +kernel
set_option maxRecDepth 100000 in
theorem ji_256_1 : mj_ins 256 1 = some (.getfield 16) := by decide +kernel
set_option maxRecDepth 100000 in
theorem jf_256_16 : mj_fld 256 16 = some (11, 2, (.array .int), false) := by decide +kernel
set_option maxRecDepth 100000 in
theorem ji_256_4 : mj_ins 256 4 = some (.iload_n 1) := by decide +kernel
set_option maxRecDepth 100000 in
theorem ji_256_5 : mj_ins 256 5 = some (.iconst 1) := by decide +kernel
set_option maxRecDepth 100000 in
theorem ji_256_6 : mj_ins 256 6 = some (.iadd) := by decide +kernel
set_option maxRecDepth 100000 in
theorem ji_256_7 : mj_ins 256 7 = some (.iaload) := by decide +kernel
set_option maxRecDepth 100000 in
theorem ji_256_8 : mj_ins 256 8 = some (.istore_n 2) := by decide +kernel
set_option maxRecDepth 100000 in
theorem ji_256_9 : mj_ins 256 9 = some (.aload_n 0) := by decide +kernel
set_option maxRecDepth 100000 in
theorem ji_256_10 : mj_ins 256 10 = some (.getfield 16) := by decide +kernel
set_option maxRecDepth 100000 in
theorem ji_256_13 : mj_ins 256 13 = some (.iload_n 1) := by decide +kernel
set_option maxRecDepth 100000 in
theorem ji_256_14 : mj_ins 256 14 = some (.iconst 2) := by decide +kernel
set_option maxRecDepth 100000 in
theorem ji_256_15 : mj_ins 256 15 = some (.iadd) := by decide +kernel
set_option maxRecDepth 100000 in
theorem ji_256_16 : mj_ins 256 16 = some (.iaload) := by decide +kernel
set_option maxRecDepth 100000 in
theorem ji_256_17 : mj_ins 256 17 = some (.istore_n 3) := by decide +kernel
set_option maxRecDepth 100000 in
theorem ji_256_18 : mj_ins 256 18 = some (.aload_n 0) := by decide +kernel
set_option maxRecDepth 100000 in
theorem ji_256_19 : mj_ins 256 19 = some (.getfield 16) := by decide +kernel
set_option maxRecDepth 100000 in
theorem ji_256_22 : mj_ins 256 22 = some (.iload_n 1) := by decide +kernel
set_option maxRecDepth 100000 in
theorem ji_256_23 : mj_ins 256 23 = some (.iaload) := by decide +kernel
set_option maxRecDepth 100000 in
theorem ji_256_24 : mj_ins 256 24 = some (.tableswitch 115 3 9 #[44, 59, 74, 81, 88, 103, 109]) := by decide +kernel
set_option maxRecDepth 100000 in
theorem ji_256_68 : mj_ins 256 68 = some (.aload_n 0) := by decide +kernel
set_option maxRecDepth 100000 in
theorem ji_256_69 : mj_ins 256 69 = some (.iload_n 2) := by decide +kernel
set_option maxRecDepth 100000 in
theorem ji_256_70 : mj_ins 256 70 = some (.iload_n 3) := by decide +kernel
set_option maxRecDepth 100000 in
theorem ji_256_71 : mj_ins 256 71 = some (.invokevirtual 360) := by decide +kernel
set_option maxRecDepth 100000 in
theorem jc_256_360 : mj_cal 256 360 = some (2, 170, 2) := by decide +kernel
set_option maxRecDepth 100000 in
theorem jn_170 : mj_nl 170 = 4 := by decide +kernel
set_option maxRecDepth 100000 in
theorem jk_170 : mj_cls 170 = 11 := by decide +kernel
set_option maxRecDepth 100000 in
theorem ji_256_74 : mj_ins 256 74 = some (.ifCond .lt 7) := by decide +kernel
set_option maxRecDepth 100000 in
theorem ji_256_77 : mj_ins 256 77 = some (.iconst 1) := by decide +kernel
set_option maxRecDepth 100000 in
theorem ji_256_78 : mj_ins 256 78 = some (.goto 4) := by decide +kernel
set_option maxRecDepth 100000 in
theorem ji_256_82 : mj_ins 256 82 = some (.ireturn) := by decide +kernel
set_option maxRecDepth 100000 in
theorem jr_256 : mj_ret 256 = some .boolean := by decide +kernel
set_option maxRecDepth 100000 in
theorem ji_256_81 : mj_ins 256 81 = some (.iconst 0) := by decide +kernel
set_option maxRecDepth 100000 in
theorem ji_256_83 : mj_ins 256 83 = some (.aload_n 0) := by decide +kernel
set_option maxRecDepth 100000 in
theorem ji_256_84 : mj_ins 256 84 = some (.iload_n 2) := by decide +kernel
set_option maxRecDepth 100000 in
theorem ji_256_85 : mj_ins 256 85 = some (.iconst 0) := by decide +kernel
set_option maxRecDepth 100000 in
theorem ji_256_86 : mj_ins 256 86 = some (.invokevirtual 363) := by decide +kernel
set_option maxRecDepth 100000 in
theorem jc_256_363 : mj_cal 256 363 = some (2, 172, 2) := by decide +kernel
set_option maxRecDepth 100000 in
theorem jn_172 : mj_nl 172 = 3 := by decide +kernel
set_option maxRecDepth 100000 in
theorem jk_172 : mj_cls 172 = 11 := by decide +kernel
set_option maxRecDepth 100000 in
theorem ji_256_89 : mj_ins 256 89 = some (.ifCond .lt 7) := by decide +kernel
set_option maxRecDepth 100000 in
theorem ji_256_92 : mj_ins 256 92 = some (.iconst 1) := by decide +kernel
set_option maxRecDepth 100000 in
theorem ji_256_93 : mj_ins 256 93 = some (.goto 4) := by decide +kernel
set_option maxRecDepth 100000 in
theorem ji_256_97 : mj_ins 256 97 = some (.ireturn) := by decide +kernel
set_option maxRecDepth 100000 in
theorem ji_256_96 : mj_ins 256 96 = some (.iconst 0) := by decide +kernel
set_option maxRecDepth 100000 in
theorem ji_256_98 : mj_ins 256 98 = some (.aload_n 0) := by decide +kernel
set_option maxRecDepth 100000 in
theorem ji_256_99 : mj_ins 256 99 = some (.iload_n 2) := by decide +kernel
set_option maxRecDepth 100000 in
theorem ji_256_100 : mj_ins 256 100 = some (.iload_n 3) := by decide +kernel
set_option maxRecDepth 100000 in
theorem ji_256_101 : mj_ins 256 101 = some (.invokevirtual 366) := by decide +kernel
set_option maxRecDepth 100000 in
theorem jc_256_366 : mj_cal 256 366 = some (2, 246, 2) := by decide +kernel
set_option maxRecDepth 100000 in
theorem jn_246 : mj_nl 246 = 3 := by decide +kernel
set_option maxRecDepth 100000 in
theorem jk_246 : mj_cls 246 = 11 := by decide +kernel
set_option maxRecDepth 100000 in
theorem ji_256_104 : mj_ins 256 104 = some (.ireturn) := by decide +kernel
set_option maxRecDepth 100000 in
theorem ji_256_105 : mj_ins 256 105 = some (.aload_n 0) := by decide +kernel
set_option maxRecDepth 100000 in
theorem ji_256_106 : mj_ins 256 106 = some (.iload_n 2) := by decide +kernel
set_option maxRecDepth 100000 in
theorem ji_256_107 : mj_ins 256 107 = some (.iload_n 3) := by decide +kernel
set_option maxRecDepth 100000 in
theorem ji_256_108 : mj_ins 256 108 = some (.invokevirtual 369) := by decide +kernel
set_option maxRecDepth 100000 in
theorem jc_256_369 : mj_cal 256 369 = some (2, 251, 2) := by decide +kernel
set_option maxRecDepth 100000 in
theorem jn_251 : mj_nl 251 = 3 := by decide +kernel
set_option maxRecDepth 100000 in
theorem jk_251 : mj_cls 251 = 11 := by decide +kernel
set_option maxRecDepth 100000 in
theorem ji_256_111 : mj_ins 256 111 = some (.ireturn) := by decide +kernel
set_option maxRecDepth 100000 in
theorem ji_256_112 : mj_ins 256 112 = some (.aload_n 0) := by decide +kernel
set_option maxRecDepth 100000 in
theorem ji_256_113 : mj_ins 256 113 = some (.iload_n 2) := by decide +kernel
set_option maxRecDepth 100000 in
theorem ji_256_114 : mj_ins 256 114 = some (.iload_n 3) := by decide +kernel
set_option maxRecDepth 100000 in
theorem ji_256_115 : mj_ins 256 115 = some (.invokevirtual 372) := by decide +kernel
set_option maxRecDepth 100000 in
theorem jc_256_372 : mj_cal 256 372 = some (2, 252, 2) := by decide +kernel
set_option maxRecDepth 100000 in
theorem jn_252 : mj_nl 252 = 3 := by decide +kernel
set_option maxRecDepth 100000 in
theorem jk_252 : mj_cls 252 = 11 := by decide +kernel
set_option maxRecDepth 100000 in
theorem ji_256_118 : mj_ins 256 118 = some (.ifCond .lt 7) := by decide +kernel
set_option maxRecDepth 100000 in
theorem ji_256_121 : mj_ins 256 121 = some (.iconst 1) := by decide +kernel
set_option maxRecDepth 100000 in
theorem ji_256_122 : mj_ins 256 122 = some (.goto 4) := by decide +kernel
set_option maxRecDepth 100000 in
theorem ji_256_126 : mj_ins 256 126 = some (.ireturn) := by decide +kernel
set_option maxRecDepth 100000 in
theorem ji_256_125 : mj_ins 256 125 = some (.iconst 0) := by decide +kernel
set_option maxRecDepth 100000 in
theorem ji_256_127 : mj_ins 256 127 = some (.aload_n 0) := by decide +kernel
set_option maxRecDepth 100000 in
theorem ji_256_128 : mj_ins 256 128 = some (.iload_n 2) := by decide +kernel
set_option maxRecDepth 100000 in
theorem ji_256_129 : mj_ins 256 129 = some (.invokevirtual 375) := by decide +kernel
set_option maxRecDepth 100000 in
theorem jc_256_375 : mj_cal 256 375 = some (2, 254, 1) := by decide +kernel
set_option maxRecDepth 100000 in
theorem jn_254 : mj_nl 254 = 2 := by decide +kernel
set_option maxRecDepth 100000 in
theorem jk_254 : mj_cls 254 = 11 := by decide +kernel
set_option maxRecDepth 100000 in
theorem ji_256_132 : mj_ins 256 132 = some (.ireturn) := by decide +kernel
set_option maxRecDepth 100000 in
theorem ji_256_133 : mj_ins 256 133 = some (.aload_n 0) := by decide +kernel
set_option maxRecDepth 100000 in
theorem ji_256_134 : mj_ins 256 134 = some (.iload_n 2) := by decide +kernel
set_option maxRecDepth 100000 in
theorem ji_256_135 : mj_ins 256 135 = some (.invokevirtual 342) := by decide +kernel
set_option maxRecDepth 100000 in
theorem jc_256_342 : mj_cal 256 342 = some (2, 218, 1) := by decide +kernel
set_option maxRecDepth 100000 in
theorem jn_218 : mj_nl 218 = 3 := by decide +kernel
set_option maxRecDepth 100000 in
theorem jk_218 : mj_cls 218 = 11 := by decide +kernel
set_option maxRecDepth 100000 in
theorem ji_256_138 : mj_ins 256 138 = some (.ireturn) := by decide +kernel
set_option maxRecDepth 100000 in
theorem ji_256_139 : mj_ins 256 139 = some (.iconst 1) := by decide +kernel
set_option maxRecDepth 100000 in
theorem ji_256_140 : mj_ins 256 140 = some (.ireturn) := by decide +kernel
/-! poles, powers, rulers, a clause played, in the reference; laid by program (wp_u54.py) -/
def plR (s : sg_) (x z : Int) : sg_ := up (up (up (up s 139 (16 + 3 * s 139 0) x) 139 (16 + 3 * s 139 0 + 1) z) 139 (16 + 3 * s 139 0 + 2) x) 139 0 (s 139 0 + 1)
def pwR (s : sg_) (x z : Int) : sg_ := up (up (up s 139 (40 + 2 * s 139 1) x) 139 (40 + 2 * s 139 1 + 1) z) 139 1 (s 139 1 + 1)
theorem uc_170 {nn d : Nat} {h : mj_H} {s : sg_} (C : CS h s) (i0 : 0 ≤ s 139 0 ∧ s 139 0 ≤ 8) {x z : Int} (hx : wp_r x) (hz : wp_r z) : wl_R nn (d + 1) 170 0 [some (.ref 138), some (wp_i x), some (wp_i z), none] [] h (fun v1 h1 => ((s 139 0 < 8 ∧ (1 ≤ x ∧ x ≤ 99) ∧ (0 ≤ z ∧ z ≤ 99)) ∧ v1 = some (wp_i (s 139 0)) ∧ CS h1 (plR s x z)) ∨ (¬ (s 139 0 < 8 ∧ (1 ≤ x ∧ x ≤ 99) ∧ (0 ≤ z ∧ z ≤ 99)) ∧ v1 = some (wp_i (-1)) ∧ CS h1 s)) := by
  refine wl_s (pc' := 1) ji_170_0 rfl rfl rfl ?_
  refine wl_s (pc' := 2) ji_170_1 rfl rfl rfl ?_
  refine wl_bp ji_170_2 rfl ?_
  refine wl_sc (d := d) (as := [wp_i x, wp_i 1, wp_i 99]) (rest := []) ji_170_4 jc_170_66 (Nat.le_of_ble_eq_true rfl) rfl (Nat.le_of_ble_eq_true rfl) rfl (by rw [jn_171]; rfl) (uc_171 (d := d) (x := x) (a := 1) (b := 99) (by omega) (by omega) (by omega)) (fun v1 h1 R => ?_)
  obtain ⟨ee, y2, rfl, hy2a, hy2b⟩ := R
  rw [ee]
  clear ee
  show wl_R _ _ 170 7 [some (.ref 138), some (wp_i x), some (wp_i z), none] [wp_i y2] _ _
  refine wl_if (t := 31) ji_170_7 rfl (by omega) (fun (hb3 : (y2 : Int) = 0) => ?_) (fun (hb3 : ¬ ((y2 : Int) = 0)) => ?_)
  · refine wl_s (pc' := 32) ji_170_31 rfl rfl rfl ?_
    exact wl_ri ji_170_32 jr_170 rfl (Or.inr ⟨by omega, rfl, C⟩)
  · refine wl_s (pc' := 11) ji_170_10 rfl rfl rfl ?_
    refine wl_s (pc' := 12) ji_170_11 rfl rfl rfl ?_
    refine wl_bp ji_170_12 rfl ?_
    refine wl_sc (d := d) (as := [wp_i z, wp_i 0, wp_i 99]) (rest := []) ji_170_14 jc_170_66 (Nat.le_of_ble_eq_true rfl) rfl (Nat.le_of_ble_eq_true rfl) rfl (by rw [jn_171]; rfl) (uc_171 (d := d) (x := z) (a := 0) (b := 99) (by omega) (by omega) (by omega)) (fun v1 h4 R => ?_)
    obtain ⟨ee, y5, rfl, hy5a, hy5b⟩ := R
    rw [ee]
    clear ee
    show wl_R _ _ 170 17 [some (.ref 138), some (wp_i x), some (wp_i z), none] [wp_i y5] _ _
    refine wl_if (t := 31) ji_170_17 rfl (by omega) (fun (hb6 : (y5 : Int) = 0) => ?_) (fun (hb6 : ¬ ((y5 : Int) = 0)) => ?_)
    · refine wl_s (pc' := 32) ji_170_31 rfl rfl rfl ?_
      exact wl_ri ji_170_32 jr_170 rfl (Or.inr ⟨by omega, rfl, C⟩)
    · refine wl_s (pc' := 21) ji_170_20 rfl rfl rfl ?_
      refine cs_gr (r := 139) (k := 0) C (by decide) sq_138 rfl ji_170_21 jf_170_7 ?_
      refine wl_s (pc' := 25) ji_170_24 rfl rfl rfl ?_
      refine cs_l (x := 0) C (by decide) (by decide) sq_139 (by omega) ji_170_25 (fun ld70 ld71 ld72 => ?_)
      refine wl_bp ji_170_26 rfl ?_
      refine wl_icmp (t := 33) ji_170_28 rfl (by omega) (by omega) (fun (hb8 : ¬ (s 139 0 : Int) = 8) => ?_) (fun (hb8 : ¬ (¬ (s 139 0 : Int) = 8)) => ?_)
      · refine wl_bp ji_170_33 rfl ?_
        refine wl_s (pc' := 36) ji_170_35 rfl rfl rfl ?_
        refine wl_s (pc' := 37) ji_170_36 rfl rfl rfl ?_
        refine cs_gr (r := 139) (k := 0) C (by decide) sq_138 rfl ji_170_37 jf_170_7 ?_
        refine wl_s (pc' := 41) ji_170_40 rfl rfl rfl ?_
        refine cs_l (x := 0) C (by decide) (by decide) sq_139 (by omega) ji_170_41 (fun ld90 ld91 ld92 => ?_)
        refine wl_imul (x := 3) (y := s 139 0) (z := 3 * (s 139 0)) ji_170_42 (by omega) ?_
        refine wl_iadd (x := 16) (y := 3 * (s 139 0)) (z := 16 + (3 * (s 139 0))) ji_170_43 (by omega) ?_
        refine wl_s (pc' := 45) (lv' := [some (.ref 138), some (wp_i x), some (wp_i z), some (wp_i (16 + (3 * (s 139 0))))]) ji_170_44 rfl rfl rfl ?_
        refine wl_s (pc' := 46) ji_170_45 rfl rfl rfl ?_
        refine cs_gr (r := 139) (k := 0) C (by decide) sq_138 rfl ji_170_46 jf_170_7 ?_
        refine wl_s (pc' := 50) ji_170_49 rfl rfl rfl ?_
        refine wl_s (pc' := 51) ji_170_50 rfl rfl rfl ?_
        refine cs_s (x := 16 + (3 * (s 139 0))) (y := x) C (by decide) sq_139 (by omega) (by omega) ji_170_51 (fun h st100 st101 C => ?_)
        obtain ⟨s11, es11⟩ : ∃ z9_, up s 139 (16 + (3 * (s 139 0))) x = z9_ := ⟨_, rfl⟩
        rw [es11] at C
        refine wl_s (pc' := 53) ji_170_52 rfl rfl rfl ?_
        refine cs_gr (r := 139) (k := 0) C (by decide) sq_138 rfl ji_170_53 jf_170_7 ?_
        refine wl_s (pc' := 57) ji_170_56 rfl rfl rfl ?_
        refine wl_s (pc' := 58) ji_170_57 rfl rfl rfl ?_
        refine wl_iadd (x := 16 + (3 * (s 139 0))) (y := 1) (z := 16 + (3 * (s 139 0)) + 1) ji_170_58 (by omega) ?_
        refine wl_s (pc' := 60) ji_170_59 rfl rfl rfl ?_
        refine cs_s (x := 16 + (3 * (s 139 0)) + 1) (y := z) C (by decide) sq_139 (by omega) (by omega) ji_170_60 (fun h st120 st121 C => ?_)
        obtain ⟨s13, es13⟩ : ∃ z9_, up s11 139 (16 + (3 * (s 139 0)) + 1) z = z9_ := ⟨_, rfl⟩
        rw [es13] at C
        refine wl_s (pc' := 62) ji_170_61 rfl rfl rfl ?_
        refine cs_gr (r := 139) (k := 0) C (by decide) sq_138 rfl ji_170_62 jf_170_7 ?_
        refine wl_s (pc' := 66) ji_170_65 rfl rfl rfl ?_
        refine wl_s (pc' := 67) ji_170_66 rfl rfl rfl ?_
        refine wl_iadd (x := 16 + (3 * (s 139 0))) (y := 2) (z := 16 + (3 * (s 139 0)) + 2) ji_170_67 (by omega) ?_
        refine wl_s (pc' := 69) ji_170_68 rfl rfl rfl ?_
        refine cs_s (x := 16 + (3 * (s 139 0)) + 2) (y := x) C (by decide) sq_139 (by omega) (by omega) ji_170_69 (fun h st140 st141 C => ?_)
        obtain ⟨s15, es15⟩ : ∃ z9_, up s13 139 (16 + (3 * (s 139 0)) + 2) x = z9_ := ⟨_, rfl⟩
        rw [es15] at C
        refine wl_s (pc' := 71) ji_170_70 rfl rfl rfl ?_
        refine cs_gr (r := 139) (k := 0) C (by decide) sq_138 rfl ji_170_71 jf_170_7 ?_
        refine wl_s (pc' := 75) ji_170_74 rfl rfl rfl ?_
        refine wl_s (pc' := 76) ji_170_75 rfl rfl rfl ?_
        refine cs_l (x := 0) C (by decide) (by decide) sq_139 (by omega) ji_170_76 (fun ld160 ld161 ld162 => ?_)
        have rd17 : s15 139 0 = s 139 0 := by rw [← es15, up_k (by omega)]; rw [← es13, up_k (by omega)]; rw [← es11, up_k (by omega)]
        rw [rd17] at ld162 ⊢
        refine wl_s (pc' := 78) ji_170_77 rfl rfl rfl ?_
        refine wl_iadd (x := s 139 0) (y := 1) (z := s 139 0 + 1) ji_170_78 (by omega) ?_
        refine cs_s (x := 0) (y := s 139 0 + 1) C (by decide) sq_139 (by omega) (by omega) ji_170_79 (fun h st180 st181 C => ?_)
        obtain ⟨s19, es19⟩ : ∃ z9_, up s15 139 0 (s 139 0 + 1) = z9_ := ⟨_, rfl⟩
        rw [es19] at C
        refine wl_s (pc' := 81) ji_170_80 rfl rfl rfl ?_
        refine cs_gr (r := 139) (k := 0) C (by decide) sq_138 rfl ji_170_81 jf_170_7 ?_
        refine wl_s (pc' := 85) ji_170_84 rfl rfl rfl ?_
        refine cs_l (x := 0) C (by decide) (by decide) sq_139 (by omega) ji_170_85 (fun ld200 ld201 ld202 => ?_)
        have rd21 : s19 139 0 = s 139 0 + 1 := by rw [← es19, up_e]
        rw [rd21] at ld202 ⊢
        refine wl_s (pc' := 87) ji_170_86 rfl rfl rfl ?_
        refine wl_isub (x := s 139 0 + 1) (y := 1) (z := s 139 0 + 1 - 1) ji_170_87 (by omega) ?_
        exact wl_ri ji_170_88 jr_170 rfl (Or.inl ⟨by omega, congrArg (fun z => some (wp_i z)) (by omega), cs_mono C (by unfold plR; rw [es11, es13, es15, es19])⟩)
      · refine wl_s (pc' := 32) ji_170_31 rfl rfl rfl ?_
        exact wl_ri ji_170_32 jr_170 rfl (Or.inr ⟨by omega, rfl, C⟩)
theorem uc_172 {nn d : Nat} {h : mj_H} {s : sg_} (C : CS h s) (i1 : 0 ≤ s 139 1 ∧ s 139 1 ≤ 6) {x z : Int} (hx : wp_r x) (hz : wp_r z) : wl_R nn (d + 1) 172 0 [some (.ref 138), some (wp_i x), some (wp_i z)] [] h (fun v1 h1 => ((s 139 1 < 6 ∧ (1 ≤ x ∧ x ≤ 9) ∧ (0 ≤ z ∧ z ≤ 511)) ∧ v1 = some (wp_i (s 139 1)) ∧ CS h1 (pwR s x z)) ∨ (¬ (s 139 1 < 6 ∧ (1 ≤ x ∧ x ≤ 9) ∧ (0 ≤ z ∧ z ≤ 511)) ∧ v1 = some (wp_i (-1)) ∧ CS h1 s)) := by
  refine wl_s (pc' := 1) ji_172_0 rfl rfl rfl ?_
  refine wl_s (pc' := 2) ji_172_1 rfl rfl rfl ?_
  refine wl_bp ji_172_2 rfl ?_
  refine wl_sc (d := d) (as := [wp_i x, wp_i 1, wp_i 9]) (rest := []) ji_172_4 jc_172_66 (Nat.le_of_ble_eq_true rfl) rfl (Nat.le_of_ble_eq_true rfl) rfl (by rw [jn_171]; rfl) (uc_171 (d := d) (x := x) (a := 1) (b := 9) (by omega) (by omega) (by omega)) (fun v1 h1 R => ?_)
  obtain ⟨ee, y2, rfl, hy2a, hy2b⟩ := R
  rw [ee]
  clear ee
  show wl_R _ _ 172 7 [some (.ref 138), some (wp_i x), some (wp_i z)] [wp_i y2] _ _
  refine wl_if (t := 32) ji_172_7 rfl (by omega) (fun (hb3 : (y2 : Int) = 0) => ?_) (fun (hb3 : ¬ ((y2 : Int) = 0)) => ?_)
  · refine wl_s (pc' := 33) ji_172_32 rfl rfl rfl ?_
    exact wl_ri ji_172_33 jr_172 rfl (Or.inr ⟨by omega, rfl, C⟩)
  · refine wl_s (pc' := 11) ji_172_10 rfl rfl rfl ?_
    refine wl_s (pc' := 12) ji_172_11 rfl rfl rfl ?_
    refine wl_sp ji_172_12 rfl ?_
    refine wl_sc (d := d) (as := [wp_i z, wp_i 0, wp_i 511]) (rest := []) ji_172_15 jc_172_66 (Nat.le_of_ble_eq_true rfl) rfl (Nat.le_of_ble_eq_true rfl) rfl (by rw [jn_171]; rfl) (uc_171 (d := d) (x := z) (a := 0) (b := 511) (by omega) (by omega) (by omega)) (fun v1 h4 R => ?_)
    obtain ⟨ee, y5, rfl, hy5a, hy5b⟩ := R
    rw [ee]
    clear ee
    show wl_R _ _ 172 18 [some (.ref 138), some (wp_i x), some (wp_i z)] [wp_i y5] _ _
    refine wl_if (t := 32) ji_172_18 rfl (by omega) (fun (hb6 : (y5 : Int) = 0) => ?_) (fun (hb6 : ¬ ((y5 : Int) = 0)) => ?_)
    · refine wl_s (pc' := 33) ji_172_32 rfl rfl rfl ?_
      exact wl_ri ji_172_33 jr_172 rfl (Or.inr ⟨by omega, rfl, C⟩)
    · refine wl_s (pc' := 22) ji_172_21 rfl rfl rfl ?_
      refine cs_gr (r := 139) (k := 0) C (by decide) sq_138 rfl ji_172_22 jf_172_7 ?_
      refine wl_s (pc' := 26) ji_172_25 rfl rfl rfl ?_
      refine cs_l (x := 1) C (by decide) (by decide) sq_139 (by omega) ji_172_26 (fun ld70 ld71 ld72 => ?_)
      refine wl_bp ji_172_27 rfl ?_
      refine wl_icmp (t := 34) ji_172_29 rfl (by omega) (by omega) (fun (hb8 : ¬ (s 139 1 : Int) = 6) => ?_) (fun (hb8 : ¬ (¬ (s 139 1 : Int) = 6)) => ?_)
      · refine wl_s (pc' := 35) ji_172_34 rfl rfl rfl ?_
        refine cs_gr (r := 139) (k := 0) C (by decide) sq_138 rfl ji_172_35 jf_172_7 ?_
        refine wl_bp ji_172_38 rfl ?_
        refine wl_s (pc' := 41) ji_172_40 rfl rfl rfl ?_
        refine wl_s (pc' := 42) ji_172_41 rfl rfl rfl ?_
        refine cs_gr (r := 139) (k := 0) C (by decide) sq_138 rfl ji_172_42 jf_172_7 ?_
        refine wl_s (pc' := 46) ji_172_45 rfl rfl rfl ?_
        refine cs_l (x := 1) C (by decide) (by decide) sq_139 (by omega) ji_172_46 (fun ld90 ld91 ld92 => ?_)
        refine wl_imul (x := 2) (y := s 139 1) (z := 2 * (s 139 1)) ji_172_47 (by omega) ?_
        refine wl_iadd (x := 40) (y := 2 * (s 139 1)) (z := 40 + (2 * (s 139 1))) ji_172_48 (by omega) ?_
        refine wl_s (pc' := 50) ji_172_49 rfl rfl rfl ?_
        refine cs_s (x := 40 + (2 * (s 139 1))) (y := x) C (by decide) sq_139 (by omega) (by omega) ji_172_50 (fun h st100 st101 C => ?_)
        obtain ⟨s11, es11⟩ : ∃ z9_, up s 139 (40 + (2 * (s 139 1))) x = z9_ := ⟨_, rfl⟩
        rw [es11] at C
        refine wl_s (pc' := 52) ji_172_51 rfl rfl rfl ?_
        refine cs_gr (r := 139) (k := 0) C (by decide) sq_138 rfl ji_172_52 jf_172_7 ?_
        refine wl_bp ji_172_55 rfl ?_
        refine wl_s (pc' := 58) ji_172_57 rfl rfl rfl ?_
        refine wl_s (pc' := 59) ji_172_58 rfl rfl rfl ?_
        refine cs_gr (r := 139) (k := 0) C (by decide) sq_138 rfl ji_172_59 jf_172_7 ?_
        refine wl_s (pc' := 63) ji_172_62 rfl rfl rfl ?_
        refine cs_l (x := 1) C (by decide) (by decide) sq_139 (by omega) ji_172_63 (fun ld120 ld121 ld122 => ?_)
        have rd13 : s11 139 1 = s 139 1 := by rw [← es11, up_k (by omega)]
        rw [rd13] at ld122 ⊢
        refine wl_imul (x := 2) (y := s 139 1) (z := 2 * (s 139 1)) ji_172_64 (by omega) ?_
        refine wl_iadd (x := 40) (y := 2 * (s 139 1)) (z := 40 + (2 * (s 139 1))) ji_172_65 (by omega) ?_
        refine wl_s (pc' := 67) ji_172_66 rfl rfl rfl ?_
        refine wl_iadd (x := 40 + (2 * (s 139 1))) (y := 1) (z := 40 + (2 * (s 139 1)) + 1) ji_172_67 (by omega) ?_
        refine wl_s (pc' := 69) ji_172_68 rfl rfl rfl ?_
        refine cs_s (x := 40 + (2 * (s 139 1)) + 1) (y := z) C (by decide) sq_139 (by omega) (by omega) ji_172_69 (fun h st140 st141 C => ?_)
        obtain ⟨s15, es15⟩ : ∃ z9_, up s11 139 (40 + (2 * (s 139 1)) + 1) z = z9_ := ⟨_, rfl⟩
        rw [es15] at C
        refine wl_s (pc' := 71) ji_172_70 rfl rfl rfl ?_
        refine cs_gr (r := 139) (k := 0) C (by decide) sq_138 rfl ji_172_71 jf_172_7 ?_
        refine wl_s (pc' := 75) ji_172_74 rfl rfl rfl ?_
        refine wl_s (pc' := 76) ji_172_75 rfl rfl rfl ?_
        refine cs_l (x := 1) C (by decide) (by decide) sq_139 (by omega) ji_172_76 (fun ld160 ld161 ld162 => ?_)
        have rd17 : s15 139 1 = s 139 1 := by rw [← es15, up_k (by omega)]; rw [← es11, up_k (by omega)]
        rw [rd17] at ld162 ⊢
        refine wl_s (pc' := 78) ji_172_77 rfl rfl rfl ?_
        refine wl_iadd (x := s 139 1) (y := 1) (z := s 139 1 + 1) ji_172_78 (by omega) ?_
        refine cs_s (x := 1) (y := s 139 1 + 1) C (by decide) sq_139 (by omega) (by omega) ji_172_79 (fun h st180 st181 C => ?_)
        obtain ⟨s19, es19⟩ : ∃ z9_, up s15 139 1 (s 139 1 + 1) = z9_ := ⟨_, rfl⟩
        rw [es19] at C
        refine wl_s (pc' := 81) ji_172_80 rfl rfl rfl ?_
        refine cs_gr (r := 139) (k := 0) C (by decide) sq_138 rfl ji_172_81 jf_172_7 ?_
        refine wl_s (pc' := 85) ji_172_84 rfl rfl rfl ?_
        refine cs_l (x := 1) C (by decide) (by decide) sq_139 (by omega) ji_172_85 (fun ld200 ld201 ld202 => ?_)
        have rd21 : s19 139 1 = s 139 1 + 1 := by rw [← es19, up_e]
        rw [rd21] at ld202 ⊢
        refine wl_s (pc' := 87) ji_172_86 rfl rfl rfl ?_
        refine wl_isub (x := s 139 1 + 1) (y := 1) (z := s 139 1 + 1 - 1) ji_172_87 (by omega) ?_
        exact wl_ri ji_172_88 jr_172 rfl (Or.inl ⟨by omega, congrArg (fun z => some (wp_i z)) (by omega), cs_mono C (by unfold pwR; rw [es11, es15, es19])⟩)
      · refine wl_s (pc' := 33) ji_172_32 rfl rfl rfl ?_
        exact wl_ri ji_172_33 jr_172 rfl (Or.inr ⟨by omega, rfl, C⟩)
theorem uc_215 {nn d : Nat} {h : mj_H} {s : sg_} (C : CS h s) {x : Int} (hx : wp_r x) (i2 : 0 ≤ s 139 2 ∧ s 139 2 ≤ 4) : wl_R nn (d + 1) 215 0 [some (.ref 138), some (wp_i x)] [] h (fun v1 h1 => ((-1 ≤ x ∧ x < s 139 2) ∧ v1 = some (wp_i 1) ∧ CS h1 (up s 139 3 x)) ∨ (¬ (-1 ≤ x ∧ x < s 139 2) ∧ v1 = some (wp_i 0) ∧ CS h1 s)) := by
  refine wl_s (pc' := 1) ji_215_0 rfl rfl rfl ?_
  refine wl_s (pc' := 2) ji_215_1 rfl rfl rfl ?_
  refine wl_s (pc' := 3) ji_215_2 rfl rfl rfl ?_
  refine cs_gr (r := 139) (k := 0) C (by decide) sq_138 rfl ji_215_3 jf_215_7 ?_
  refine wl_s (pc' := 7) ji_215_6 rfl rfl rfl ?_
  refine cs_l (x := 2) C (by decide) (by decide) sq_139 (by omega) ji_215_7 (fun ld10 ld11 ld12 => ?_)
  refine wl_s (pc' := 9) ji_215_8 rfl rfl rfl ?_
  refine wl_isub (x := s 139 2) (y := 1) (z := s 139 2 - 1) ji_215_9 (by omega) ?_
  refine wl_sc (d := d) (as := [wp_i x, wp_i (-1), wp_i (s 139 2 - 1)]) (rest := []) ji_215_10 jc_215_66 (Nat.le_of_ble_eq_true rfl) rfl (Nat.le_of_ble_eq_true rfl) rfl (by rw [jn_171]; rfl) (uc_171 (d := d) (x := x) (a := -1) (b := s 139 2 - 1) (by omega) (by omega) (by omega)) (fun v1 h2 R => ?_)
  obtain ⟨ee, y3, rfl, hy3a, hy3b⟩ := R
  rw [ee]
  clear ee
  show wl_R _ _ 215 13 [some (.ref 138), some (wp_i x)] [wp_i y3] _ _
  refine wl_if (t := 18) ji_215_13 rfl (by omega) (fun (hb4 : ¬ (y3 : Int) = 0) => ?_) (fun (hb4 : ¬ (¬ (y3 : Int) = 0)) => ?_)
  · refine wl_s (pc' := 19) ji_215_18 rfl rfl rfl ?_
    refine cs_gr (r := 139) (k := 0) C (by decide) sq_138 rfl ji_215_19 jf_215_7 ?_
    refine wl_s (pc' := 23) ji_215_22 rfl rfl rfl ?_
    refine wl_s (pc' := 24) ji_215_23 rfl rfl rfl ?_
    refine cs_s (x := 3) (y := x) C (by decide) sq_139 (by omega) (by omega) ji_215_24 (fun h st50 st51 C => ?_)
    obtain ⟨s6, es6⟩ : ∃ z9_, up s 139 3 x = z9_ := ⟨_, rfl⟩
    rw [es6] at C
    refine wl_s (pc' := 26) ji_215_25 rfl rfl rfl ?_
    exact wl_ri ji_215_26 jr_215 (pv_nb (by omega)) (Or.inl ⟨by omega, congrArg (fun z => some (wp_i z)) (by omega), cs_mono C (by rw [es6])⟩)
  · refine wl_s (pc' := 17) ji_215_16 rfl rfl rfl ?_
    exact wl_ri ji_215_17 jr_215 (pv_nb (by omega)) (Or.inr ⟨by omega, rfl, C⟩)
/-- what a clause does: whether it can be, what is then -/
def doR (cr : crs) (s : sg_) (k v w : Int) : Int × sg_ :=
  if k = 3 then (if s 139 0 < 8 ∧ (1 ≤ v ∧ v ≤ 99) ∧ (0 ≤ w ∧ w ≤ 99) then (1, plR s v w) else (0, s))
  else if k = 4 then (if s 139 1 < 6 ∧ (1 ≤ v ∧ v ≤ 9) then (1, pwR s v 0) else (0, s))
  else if k = 5 then (if (0 ≤ v ∧ v < s 139 1) ∧ (0 ≤ w ∧ w < s 139 0) ∧ mrR s v w then (1, rsR (keepR s) v w) else (0, s))
  else if k = 6 then (if (0 ≤ v ∧ v < s 139 1) ∧ (0 ≤ w ∧ w < s 139 0) ∧ ¬ s 139 (52 + 2 * (8 * v + w) + 0) = -1 then (1, gnR (keepR s) v w) else (0, s))
  else if k = 7 then (if (0 ≤ v ∧ v < s 139 0) ∧ 1 ≤ w ∧ w ≤ 99 ∧ w < s 139 (16 + 3 * v) then (1, prR (keepR s) v w) else (0, s))
  else if k = 8 then (if (0 ≤ v ∧ v ≤ 9) ∧ ¬ v = s 139 9 then (1, up (keepR s) 139 9 v) else (0, s))
  else if k = 9 then (if min v (9999 - s 139 8) = v then 1 else 0, hrsR cr s (min v (9999 - s 139 8)).toNat)
  else (1, s)
theorem uc_256 {nn d : Nat} {h : mj_H} {s : sg_} (C : CS h s) {cr : crs} {M : Int} (hM : M ≤ 1000000000) (T : RT s cr M) {x k v w : Int} (hx : 0 ≤ x ∧ x ≤ 2800) (ek : s 141 x = k) (ev : s 141 (x + 1) = v) (ew : s 141 (x + 2) = w) (hk : 0 ≤ k ∧ k ≤ 9) (h9 : k = 9 → 0 ≤ v ∧ v ≤ 60) : wl_R nn (d + 10) 256 0 [some (.ref 138), some (wp_i x), none, none] [] h (fun v1 h1 => v1 = some (wp_i (doR cr s k v w).1) ∧ CS h1 (doR cr s k v w).2) := by
  have i0 := T.rs.g.p0
  have i1 := T.rs.g.w0
  have rv : wp_r v := ev ▸ cs_ri (k := (x + 1).toNat) C (by decide) (by decide) sq_141 (by omega) rfl (by show _ < 0 + 2820; omega)
  have rw_ : wp_r w := ew ▸ cs_ri (k := (x + 2).toNat) C (by decide) (by decide) sq_141 (by omega) rfl (by show _ < 0 + 2820; omega)
  refine wl_s (pc' := 1) ji_256_0 rfl rfl rfl ?_
  refine cs_gr (r := 141) (k := 2) C (by decide) sq_138 rfl ji_256_1 jf_256_16 ?_
  refine wl_s (pc' := 5) ji_256_4 rfl rfl rfl ?_
  refine wl_s (pc' := 6) ji_256_5 rfl rfl rfl ?_
  refine wl_iadd (x := x) (y := 1) (z := x + 1) ji_256_6 (by omega) ?_
  refine cs_l (x := x + 1) C (by decide) (by decide) sq_141 (by omega) ji_256_7 (fun ld10 ld11 ld12 => ?_)
  rw [ev] at ld12 ⊢
  refine wl_s (pc' := 9) (lv' := [some (.ref 138), some (wp_i x), some (wp_i v), none]) ji_256_8 rfl rfl rfl ?_
  refine wl_s (pc' := 10) ji_256_9 rfl rfl rfl ?_
  refine cs_gr (r := 141) (k := 2) C (by decide) sq_138 rfl ji_256_10 jf_256_16 ?_
  refine wl_s (pc' := 14) ji_256_13 rfl rfl rfl ?_
  refine wl_s (pc' := 15) ji_256_14 rfl rfl rfl ?_
  refine wl_iadd (x := x) (y := 2) (z := x + 2) ji_256_15 (by omega) ?_
  refine cs_l (x := x + 2) C (by decide) (by decide) sq_141 (by omega) ji_256_16 (fun ld20 ld21 ld22 => ?_)
  rw [ew] at ld22 ⊢
  refine wl_s (pc' := 18) (lv' := [some (.ref 138), some (wp_i x), some (wp_i v), some (wp_i w)]) ji_256_17 rfl rfl rfl ?_
  refine wl_s (pc' := 19) ji_256_18 rfl rfl rfl ?_
  refine cs_gr (r := 141) (k := 2) C (by decide) sq_138 rfl ji_256_19 jf_256_16 ?_
  refine wl_s (pc' := 23) ji_256_22 rfl rfl rfl ?_
  refine cs_l (x := x) C (by decide) (by decide) sq_141 (by omega) ji_256_23 (fun ld30 ld31 ld32 => ?_)
  rw [ek] at ld32 ⊢
  have hq : k = 3 ∨ k = 4 ∨ k = 5 ∨ k = 6 ∨ k = 7 ∨ k = 8 ∨ k = 9 ∨ k = 0 ∨ k = 1 ∨ k = 2 := by omega
  rcases hq with hq | hq | hq | hq | hq | hq | hq | hq | hq | hq
  · rw [hq]
    refine wl_s (pc' := 68) ji_256_24 rfl rfl rfl ?_
    refine wl_s (pc' := 69) ji_256_68 rfl rfl rfl ?_
    refine wl_s (pc' := 70) ji_256_69 rfl rfl rfl ?_
    refine wl_s (pc' := 71) ji_256_70 rfl rfl rfl ?_
    obtain ⟨q5, hq5⟩ := cs_c C (by decide) sq_138
    refine wl_vc (d := d + 9) (as := [.ref 138, wp_i v, wp_i w]) (rest := []) ji_256_71 jc_256_360 rfl hq5 jk_170.symm (Nat.le_of_ble_eq_true rfl) rfl (by rw [jn_170]; rfl) (uc_170 (d := d + 8) C i0 (x := v) (z := w) rv rw_) (fun v1 h4 R => ?_)
    rcases R with ⟨hc, rfl, C⟩ | ⟨hc, rfl, C⟩
    · show wl_R _ _ 256 74 [some (.ref 138), some (wp_i x), some (wp_i v), some (wp_i w)] [wp_i (s 139 0)] h4 _
      refine wl_if (t := 81) ji_256_74 rfl (by omega) (fun (hb6 : (s 139 0 : Int) < 0) => (by exfalso; omega)) (fun (hb6 : ¬ ((s 139 0 : Int) < 0)) => ?_)
      refine wl_s (pc' := 78) ji_256_77 rfl rfl rfl ?_
      refine wl_goto (t := 82) ji_256_78 rfl ?_
      exact wl_ri ji_256_82 jr_256 (pv_nb (by omega)) ((by have e : doR cr s k v w = (1, plR s v w) := by { unfold doR; rw [if_pos hq, if_pos hc] }; rw [hq] at e; rw [e]; exact ⟨rfl, C⟩))
    · show wl_R _ _ 256 74 [some (.ref 138), some (wp_i x), some (wp_i v), some (wp_i w)] [wp_i (-1)] h4 _
      refine wl_if (t := 81) ji_256_74 rfl (by omega) (fun (hb7 : (-1 : Int) < 0) => ?_) (fun (hb7 : ¬ ((-1 : Int) < 0)) => (by exfalso; omega))
      refine wl_s (pc' := 82) ji_256_81 rfl rfl rfl ?_
      exact wl_ri ji_256_82 jr_256 (pv_nb (by omega)) ((by have e : doR cr s k v w = (0, s) := by { unfold doR; rw [if_pos hq, if_neg hc] }; rw [hq] at e; rw [e]; exact ⟨rfl, C⟩))
  · rw [hq]
    refine wl_s (pc' := 83) ji_256_24 rfl rfl rfl ?_
    refine wl_s (pc' := 84) ji_256_83 rfl rfl rfl ?_
    refine wl_s (pc' := 85) ji_256_84 rfl rfl rfl ?_
    refine wl_s (pc' := 86) ji_256_85 rfl rfl rfl ?_
    obtain ⟨q9, hq9⟩ := cs_c C (by decide) sq_138
    refine wl_vc (d := d + 9) (as := [.ref 138, wp_i v, wp_i 0]) (rest := []) ji_256_86 jc_256_363 rfl hq9 jk_172.symm (Nat.le_of_ble_eq_true rfl) rfl (by rw [jn_172]; rfl) (uc_172 (d := d + 8) C i1 (x := v) (z := 0) rv (by decide)) (fun v1 h8 R => ?_)
    rcases R with ⟨hc, rfl, C⟩ | ⟨hc, rfl, C⟩
    · show wl_R _ _ 256 89 [some (.ref 138), some (wp_i x), some (wp_i v), some (wp_i w)] [wp_i (s 139 1)] h8 _
      refine wl_if (t := 96) ji_256_89 rfl (by omega) (fun (hb10 : (s 139 1 : Int) < 0) => (by exfalso; omega)) (fun (hb10 : ¬ ((s 139 1 : Int) < 0)) => ?_)
      refine wl_s (pc' := 93) ji_256_92 rfl rfl rfl ?_
      refine wl_goto (t := 97) ji_256_93 rfl ?_
      exact wl_ri ji_256_97 jr_256 (pv_nb (by omega)) ((by have e : doR cr s k v w = (1, pwR s v 0) := by { unfold doR; rw [if_neg (by omega), if_pos hq, if_pos ⟨hc.1, hc.2.1⟩] }; rw [hq] at e; rw [e]; exact ⟨rfl, C⟩))
    · show wl_R _ _ 256 89 [some (.ref 138), some (wp_i x), some (wp_i v), some (wp_i w)] [wp_i (-1)] h8 _
      refine wl_if (t := 96) ji_256_89 rfl (by omega) (fun (hb11 : (-1 : Int) < 0) => ?_) (fun (hb11 : ¬ ((-1 : Int) < 0)) => (by exfalso; omega))
      refine wl_s (pc' := 97) ji_256_96 rfl rfl rfl ?_
      exact wl_ri ji_256_97 jr_256 (pv_nb (by omega)) ((by have e : doR cr s k v w = (0, s) := by { unfold doR; rw [if_neg (by omega), if_pos hq, if_neg (fun z => hc ⟨z.1, z.2, by decide⟩)] }; rw [hq] at e; rw [e]; exact ⟨rfl, C⟩))
  · rw [hq]
    refine wl_s (pc' := 98) ji_256_24 rfl rfl rfl ?_
    refine wl_s (pc' := 99) ji_256_98 rfl rfl rfl ?_
    refine wl_s (pc' := 100) ji_256_99 rfl rfl rfl ?_
    refine wl_s (pc' := 101) ji_256_100 rfl rfl rfl ?_
    obtain ⟨q13, hq13⟩ := cs_c C (by decide) sq_138
    refine wl_vc (d := d + 9) (as := [.ref 138, wp_i v, wp_i w]) (rest := []) ji_256_101 jc_256_366 rfl hq13 jk_246.symm (Nat.le_of_ble_eq_true rfl) rfl (by rw [jn_246]; rfl) (uc_246 (d := d + 5) C T (w := v) (p := w) rv rw_) (fun v1 h12 R => ?_)
    rcases R with ⟨rfl, hc, C⟩ | ⟨rfl, hc, C⟩
    · show wl_R _ _ 256 104 [some (.ref 138), some (wp_i x), some (wp_i v), some (wp_i w)] [wp_i 1] h12 _
      exact wl_ri ji_256_104 jr_256 (pv_nb (by omega)) ((by have e : doR cr s k v w = (1, rsR (keepR s) v w) := by { unfold doR; rw [if_neg (by omega), if_neg (by omega), if_pos hq, if_pos hc] }; rw [hq] at e; rw [e]; exact ⟨rfl, C⟩))
    · show wl_R _ _ 256 104 [some (.ref 138), some (wp_i x), some (wp_i v), some (wp_i w)] [wp_i 0] h12 _
      exact wl_ri ji_256_104 jr_256 (pv_nb (by omega)) ((by have e : doR cr s k v w = (0, s) := by { unfold doR; rw [if_neg (by omega), if_neg (by omega), if_pos hq, if_neg hc] }; rw [hq] at e; rw [e]; exact ⟨rfl, C⟩))
  · rw [hq]
    refine wl_s (pc' := 105) ji_256_24 rfl rfl rfl ?_
    refine wl_s (pc' := 106) ji_256_105 rfl rfl rfl ?_
    refine wl_s (pc' := 107) ji_256_106 rfl rfl rfl ?_
    refine wl_s (pc' := 108) ji_256_107 rfl rfl rfl ?_
    obtain ⟨q15, hq15⟩ := cs_c C (by decide) sq_138
    refine wl_vc (d := d + 9) (as := [.ref 138, wp_i v, wp_i w]) (rest := []) ji_256_108 jc_256_369 rfl hq15 jk_251.symm (Nat.le_of_ble_eq_true rfl) rfl (by rw [jn_251]; rfl) (uc_251 (d := d + 7) C T (w := v) (p := w) rv rw_) (fun v1 h14 R => ?_)
    rcases R with ⟨rfl, hc, C⟩ | ⟨rfl, hc, C⟩
    · show wl_R _ _ 256 111 [some (.ref 138), some (wp_i x), some (wp_i v), some (wp_i w)] [wp_i 1] h14 _
      exact wl_ri ji_256_111 jr_256 (pv_nb (by omega)) ((by have e : doR cr s k v w = (1, gnR (keepR s) v w) := by { unfold doR; rw [if_neg (by omega), if_neg (by omega), if_neg (by omega), if_pos hq, if_pos hc] }; rw [hq] at e; rw [e]; exact ⟨rfl, C⟩))
    · show wl_R _ _ 256 111 [some (.ref 138), some (wp_i x), some (wp_i v), some (wp_i w)] [wp_i 0] h14 _
      exact wl_ri ji_256_111 jr_256 (pv_nb (by omega)) ((by have e : doR cr s k v w = (0, s) := by { unfold doR; rw [if_neg (by omega), if_neg (by omega), if_neg (by omega), if_pos hq, if_neg hc] }; rw [hq] at e; rw [e]; exact ⟨rfl, C⟩))
  · rw [hq]
    refine wl_s (pc' := 112) ji_256_24 rfl rfl rfl ?_
    refine wl_s (pc' := 113) ji_256_112 rfl rfl rfl ?_
    refine wl_s (pc' := 114) ji_256_113 rfl rfl rfl ?_
    refine wl_s (pc' := 115) ji_256_114 rfl rfl rfl ?_
    obtain ⟨q17, hq17⟩ := cs_c C (by decide) sq_138
    refine wl_vc (d := d + 9) (as := [.ref 138, wp_i v, wp_i w]) (rest := []) ji_256_115 jc_256_372 rfl hq17 jk_252.symm (Nat.le_of_ble_eq_true rfl) rfl (by rw [jn_252]; rfl) (uc_252 (d := d + 7) C T (p := v) (n := w) rv rw_) (fun v1 h16 R => ?_)
    rcases R with ⟨rfl, hc, C⟩ | ⟨rfl, hc, C⟩
    · have rt := T.rs.g.a v (by omega)
      show wl_R _ _ 256 118 [some (.ref 138), some (wp_i x), some (wp_i v), some (wp_i w)] [wp_i (s 139 (16 + 3 * v) - w)] h16 _
      refine wl_if (t := 125) ji_256_118 rfl (by omega) (fun (hb18 : (s 139 (16 + 3 * v) - w : Int) < 0) => (by exfalso; omega)) (fun (hb18 : ¬ ((s 139 (16 + 3 * v) - w : Int) < 0)) => ?_)
      refine wl_s (pc' := 122) ji_256_121 rfl rfl rfl ?_
      refine wl_goto (t := 126) ji_256_122 rfl ?_
      exact wl_ri ji_256_126 jr_256 (pv_nb (by omega)) ((by have e : doR cr s k v w = (1, prR (keepR s) v w) := by { unfold doR; rw [if_neg (by omega), if_neg (by omega), if_neg (by omega), if_neg (by omega), if_pos hq, if_pos hc] }; rw [hq] at e; rw [e]; exact ⟨rfl, C⟩))
    · show wl_R _ _ 256 118 [some (.ref 138), some (wp_i x), some (wp_i v), some (wp_i w)] [wp_i (-1)] h16 _
      refine wl_if (t := 125) ji_256_118 rfl (by omega) (fun (hb19 : (-1 : Int) < 0) => ?_) (fun (hb19 : ¬ ((-1 : Int) < 0)) => (by exfalso; omega))
      refine wl_s (pc' := 126) ji_256_125 rfl rfl rfl ?_
      exact wl_ri ji_256_126 jr_256 (pv_nb (by omega)) ((by have e : doR cr s k v w = (0, s) := by { unfold doR; rw [if_neg (by omega), if_neg (by omega), if_neg (by omega), if_neg (by omega), if_pos hq, if_neg hc] }; rw [hq] at e; rw [e]; exact ⟨rfl, C⟩))
  · rw [hq]
    refine wl_s (pc' := 127) ji_256_24 rfl rfl rfl ?_
    refine wl_s (pc' := 128) ji_256_127 rfl rfl rfl ?_
    refine wl_s (pc' := 129) ji_256_128 rfl rfl rfl ?_
    obtain ⟨q21, hq21⟩ := cs_c C (by decide) sq_138
    refine wl_vc (d := d + 9) (as := [.ref 138, wp_i v]) (rest := []) ji_256_129 jc_256_375 rfl hq21 jk_254.symm (Nat.le_of_ble_eq_true rfl) rfl (by rw [jn_254]; rfl) (uc_254 (d := d + 7) C T (w := v) rv) (fun v1 h20 R => ?_)
    rcases R with ⟨rfl, hc, C⟩ | ⟨rfl, hc, C⟩
    · show wl_R _ _ 256 132 [some (.ref 138), some (wp_i x), some (wp_i v), some (wp_i w)] [wp_i 1] h20 _
      exact wl_ri ji_256_132 jr_256 (pv_nb (by omega)) ((by have e : doR cr s k v w = (1, up (keepR s) 139 9 v) := by { unfold doR; rw [if_neg (by omega), if_neg (by omega), if_neg (by omega), if_neg (by omega), if_neg (by omega), if_pos hq, if_pos hc] }; rw [hq] at e; rw [e]; exact ⟨rfl, C⟩))
    · show wl_R _ _ 256 132 [some (.ref 138), some (wp_i x), some (wp_i v), some (wp_i w)] [wp_i 0] h20 _
      exact wl_ri ji_256_132 jr_256 (pv_nb (by omega)) ((by have e : doR cr s k v w = (0, s) := by { unfold doR; rw [if_neg (by omega), if_neg (by omega), if_neg (by omega), if_neg (by omega), if_neg (by omega), if_pos hq, if_neg hc] }; rw [hq] at e; rw [e]; exact ⟨rfl, C⟩))
  · rw [hq]
    refine wl_s (pc' := 133) ji_256_24 rfl rfl rfl ?_
    refine wl_s (pc' := 134) ji_256_133 rfl rfl rfl ?_
    refine wl_s (pc' := 135) ji_256_134 rfl rfl rfl ?_
    obtain ⟨q23, hq23⟩ := cs_c C (by decide) sq_138
    refine wl_vc (d := d + 9) (as := [.ref 138, wp_i v]) (rest := []) ji_256_135 jc_256_342 rfl hq23 jk_218.symm (Nat.le_of_ble_eq_true rfl) rfl (by rw [jn_218]; rfl) (uc_218 (d := d) C (n := v) (by omega) hM T) (fun v1 h22 R => ?_)
    obtain ⟨y, rfl, hya, hyb, C⟩ := R
    show wl_R _ _ 256 138 [some (.ref 138), some (wp_i x), some (wp_i v), some (wp_i w)] [wp_i y] h22 _
    exact wl_ri ji_256_138 jr_256 (pv_nb (by omega)) ((by have e : doR cr s k v w = (y, hrsR cr s (min v (9999 - s 139 8)).toNat) := by { unfold doR; rw [if_neg (by omega), if_neg (by omega), if_neg (by omega), if_neg (by omega), if_neg (by omega), if_neg (by omega), if_pos hq, y01 hya hyb] }; rw [hq] at e; rw [e]; exact ⟨rfl, C⟩))
  · rw [hq]
    refine wl_s (pc' := 139) ji_256_24 rfl rfl rfl ?_
    refine wl_s (pc' := 140) ji_256_139 rfl rfl rfl ?_
    exact wl_ri ji_256_140 jr_256 (pv_nb (by omega)) ((by have e : doR cr s k v w = (1, s) := by { unfold doR; rw [if_neg (by omega), if_neg (by omega), if_neg (by omega), if_neg (by omega), if_neg (by omega), if_neg (by omega), if_neg (by omega)] }; rw [hq] at e; rw [e]; exact ⟨rfl, C⟩))
  · rw [hq]
    refine wl_s (pc' := 139) ji_256_24 rfl rfl rfl ?_
    refine wl_s (pc' := 140) ji_256_139 rfl rfl rfl ?_
    exact wl_ri ji_256_140 jr_256 (pv_nb (by omega)) ((by have e : doR cr s k v w = (1, s) := by { unfold doR; rw [if_neg (by omega), if_neg (by omega), if_neg (by omega), if_neg (by omega), if_neg (by omega), if_neg (by omega), if_neg (by omega)] }; rw [hq] at e; rw [e]; exact ⟨rfl, C⟩))
  · rw [hq]
    refine wl_s (pc' := 139) ji_256_24 rfl rfl rfl ?_
    refine wl_s (pc' := 140) ji_256_139 rfl rfl rfl ?_
    exact wl_ri ji_256_140 jr_256 (pv_nb (by omega)) ((by have e : doR cr s k v w = (1, s) := by { unfold doR; rw [if_neg (by omega), if_neg (by omega), if_neg (by omega), if_neg (by omega), if_neg (by omega), if_neg (by omega), if_neg (by omega)] }; rw [hq] at e; rw [e]; exact ⟨rfl, C⟩))
