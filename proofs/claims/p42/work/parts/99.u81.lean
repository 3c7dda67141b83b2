/-! -/
set_option maxRecDepth 100000 in
theorem ji_102_0 : mj_ins 102 0 = some (.iload_n 1) := by decide +kernel
set_option maxRecDepth 100000 in
theorem ji_102_1 : mj_ins 102 1 = some (.tableswitch 75 0 3 #[31, 42, 53, 64]) := by decide +kernel
set_option maxRecDepth 100000 in
theorem ji_102_32 : mj_ins 102 32 = some (.aload_n 0) := by decide +kernel
set_option maxRecDepth 100000 in
theorem ji_102_33 : mj_ins 102 33 = some (.getfield 19) := by decide +kernel
set_option maxRecDepth 100000 in
theorem jf_102_19 : mj_fld 102 19 = some (0, 0, (.object "ForestOfPoles$State"), false) := by decide +kernel
set_option maxRecDepth 100000 in
theorem ji_102_36 : mj_ins 102 36 = some (.getfield 49) := by decide +kernel
set_option maxRecDepth 100000 in
theorem jf_102_49 : mj_fld 102 49 = some (2, 0, (.object "ForestOfPoles$Forest"), false) := by decide +kernel
set_option maxRecDepth 100000 in
theorem ji_102_39 : mj_ins 102 39 = some (.getfield 98) := by decide +kernel
set_option maxRecDepth 100000 in
theorem jf_102_98 : mj_fld 102 98 = some (3, 10, .int, true) := by decide +kernel
set_option maxRecDepth 100000 in
theorem ji_102_42 : mj_ins 102 42 = some (.ireturn) := by decide +kernel
set_option maxRecDepth 100000 in
theorem jr_102 : mj_ret 102 = some .int := by decide +kernel
set_option maxRecDepth 100000 in
theorem ji_102_43 : mj_ins 102 43 = some (.aload_n 0) := by decide +kernel
set_option maxRecDepth 100000 in
theorem ji_102_44 : mj_ins 102 44 = some (.getfield 19) := by decide +kernel
set_option maxRecDepth 100000 in
theorem ji_102_47 : mj_ins 102 47 = some (.getfield 49) := by decide +kernel
set_option maxRecDepth 100000 in
theorem ji_102_50 : mj_ins 102 50 = some (.getfield 209) := by decide +kernel
set_option maxRecDepth 100000 in
theorem jf_102_209 : mj_fld 102 209 = some (3, 9, .int, true) := by decide +kernel
set_option maxRecDepth 100000 in
theorem ji_102_53 : mj_ins 102 53 = some (.ireturn) := by decide +kernel
set_option maxRecDepth 100000 in
theorem ji_102_54 : mj_ins 102 54 = some (.aload_n 0) := by decide +kernel
set_option maxRecDepth 100000 in
theorem ji_102_55 : mj_ins 102 55 = some (.getfield 19) := by decide +kernel
set_option maxRecDepth 100000 in
theorem ji_102_58 : mj_ins 102 58 = some (.getfield 49) := by decide +kernel
set_option maxRecDepth 100000 in
theorem ji_102_61 : mj_ins 102 61 = some (.getfield 104) := by decide +kernel
set_option maxRecDepth 100000 in
theorem jf_102_104 : mj_fld 102 104 = some (3, 11, .int, true) := by decide +kernel
set_option maxRecDepth 100000 in
theorem ji_102_64 : mj_ins 102 64 = some (.ireturn) := by decide +kernel
set_option maxRecDepth 100000 in
theorem ji_102_65 : mj_ins 102 65 = some (.aload_n 0) := by decide +kernel
set_option maxRecDepth 100000 in
theorem ji_102_66 : mj_ins 102 66 = some (.getfield 19) := by decide +kernel
set_option maxRecDepth 100000 in
theorem ji_102_69 : mj_ins 102 69 = some (.getfield 49) := by decide +kernel
set_option maxRecDepth 100000 in
theorem ji_102_72 : mj_ins 102 72 = some (.getfield 145) := by decide +kernel
set_option maxRecDepth 100000 in
theorem jf_102_145 : mj_fld 102 145 = some (3, 12, .int, true) := by decide +kernel
set_option maxRecDepth 100000 in
theorem ji_102_75 : mj_ins 102 75 = some (.ireturn) := by decide +kernel
set_option maxRecDepth 100000 in
theorem ji_102_76 : mj_ins 102 76 = some (.bipush (-2)) := by decide +kernel
set_option maxRecDepth 100000 in
theorem ji_102_78 : mj_ins 102 78 = some (.ireturn) := by decide +kernel
set_option maxRecDepth 100000 in
theorem ji_265_0 : mj_ins 265 0 = some (.iload_n 1) := by decide +kernel
set_option maxRecDepth 100000 in
theorem ji_265_1 : mj_ins 265 1 = some (.iconst 0) := by decide +kernel
set_option maxRecDepth 100000 in
theorem ji_265_2 : mj_ins 265 2 = some (.iconst 3) := by decide +kernel
set_option maxRecDepth 100000 in
theorem ji_265_3 : mj_ins 265 3 = some (.invokestatic 66) := by decide +kernel
set_option maxRecDepth 100000 in
theorem jc_265_66 : mj_cal 265 66 = some (1, 171, 3) := by decide +kernel
set_option maxRecDepth 100000 in
theorem ji_265_6 : mj_ins 265 6 = some (.ifCond .eq 15) := by decide +kernel
set_option maxRecDepth 100000 in
theorem ji_265_21 : mj_ins 265 21 = some (.bipush (-2)) := by decide +kernel
set_option maxRecDepth 100000 in
theorem ji_265_23 : mj_ins 265 23 = some (.ireturn) := by decide +kernel
set_option maxRecDepth 100000 in
theorem jr_265 : mj_ret 265 = some .int := by decide +kernel
set_option maxRecDepth 100000 in
theorem ji_265_9 : mj_ins 265 9 = some (.aload_n 0) := by decide +kernel
set_option maxRecDepth 100000 in
theorem ji_265_10 : mj_ins 265 10 = some (.getfield 7) := by decide +kernel
set_option maxRecDepth 100000 in
theorem jf_265_7 : mj_fld 265 7 = some (11, 0, (.array .int), false) := by decide +kernel
set_option maxRecDepth 100000 in
theorem ji_265_13 : mj_ins 265 13 = some (.bipush 8) := by decide +kernel
set_option maxRecDepth 100000 in
theorem ji_265_15 : mj_ins 265 15 = some (.iload_n 1) := by decide +kernel
set_option maxRecDepth 100000 in
theorem ji_265_16 : mj_ins 265 16 = some (.iadd) := by decide +kernel
set_option maxRecDepth 100000 in
theorem ji_265_17 : mj_ins 265 17 = some (.iaload) := by decide +kernel
set_option maxRecDepth 100000 in
theorem ji_265_18 : mj_ins 265 18 = some (.goto 5) := by decide +kernel
set_option maxRecDepth 100000 in
theorem ji_167_0 : mj_ins 167 0 = some (.iload_n 1) := by decide +kernel
set_option maxRecDepth 100000 in
theorem ji_167_1 : mj_ins 167 1 = some (.tableswitch 126 0 7 #[47, 58, 69, 77, 85, 96, 107, 118]) := by decide +kernel
set_option maxRecDepth 100000 in
theorem ji_167_48 : mj_ins 167 48 = some (.aload_n 0) := by decide +kernel
set_option maxRecDepth 100000 in
theorem ji_167_49 : mj_ins 167 49 = some (.getfield 19) := by decide +kernel
set_option maxRecDepth 100000 in
theorem jf_167_19 : mj_fld 167 19 = some (0, 0, (.object "ForestOfPoles$State"), false) := by decide +kernel
set_option maxRecDepth 100000 in
theorem ji_167_52 : mj_ins 167 52 = some (.getfield 49) := by decide +kernel
set_option maxRecDepth 100000 in
theorem jf_167_49 : mj_fld 167 49 = some (2, 0, (.object "ForestOfPoles$Forest"), false) := by decide +kernel
set_option maxRecDepth 100000 in
theorem ji_167_55 : mj_ins 167 55 = some (.getfield 136) := by decide +kernel
set_option maxRecDepth 100000 in
theorem jf_167_136 : mj_fld 167 136 = some (3, 0, .int, true) := by decide +kernel
set_option maxRecDepth 100000 in
theorem ji_167_58 : mj_ins 167 58 = some (.ireturn) := by decide +kernel
set_option maxRecDepth 100000 in
theorem jr_167 : mj_ret 167 = some .int := by decide +kernel
set_option maxRecDepth 100000 in
theorem ji_167_59 : mj_ins 167 59 = some (.aload_n 0) := by decide +kernel
set_option maxRecDepth 100000 in
theorem ji_167_60 : mj_ins 167 60 = some (.getfield 19) := by decide +kernel
set_option maxRecDepth 100000 in
theorem ji_167_63 : mj_ins 167 63 = some (.getfield 49) := by decide +kernel
set_option maxRecDepth 100000 in
theorem ji_167_66 : mj_ins 167 66 = some (.getfield 139) := by decide +kernel
set_option maxRecDepth 100000 in
theorem jf_167_139 : mj_fld 167 139 = some (3, 1, .int, true) := by decide +kernel
set_option maxRecDepth 100000 in
theorem ji_167_69 : mj_ins 167 69 = some (.ireturn) := by decide +kernel
set_option maxRecDepth 100000 in
theorem ji_167_70 : mj_ins 167 70 = some (.aload_n 0) := by decide +kernel
set_option maxRecDepth 100000 in
theorem ji_167_71 : mj_ins 167 71 = some (.getfield 19) := by decide +kernel
set_option maxRecDepth 100000 in
theorem ji_167_74 : mj_ins 167 74 = some (.getfield 70) := by decide +kernel
set_option maxRecDepth 100000 in
theorem jf_167_70 : mj_fld 167 70 = some (2, 6, .int, true) := by decide +kernel
set_option maxRecDepth 100000 in
theorem ji_167_77 : mj_ins 167 77 = some (.ireturn) := by decide +kernel
set_option maxRecDepth 100000 in
theorem ji_167_78 : mj_ins 167 78 = some (.aload_n 0) := by decide +kernel
set_option maxRecDepth 100000 in
theorem ji_167_79 : mj_ins 167 79 = some (.getfield 19) := by decide +kernel
set_option maxRecDepth 100000 in
theorem ji_167_82 : mj_ins 167 82 = some (.getfield 95) := by decide +kernel
set_option maxRecDepth 100000 in
theorem jf_167_95 : mj_fld 167 95 = some (2, 7, .int, true) := by decide +kernel
set_option maxRecDepth 100000 in
theorem ji_167_85 : mj_ins 167 85 = some (.ireturn) := by decide +kernel
set_option maxRecDepth 100000 in
theorem ji_167_86 : mj_ins 167 86 = some (.aload_n 0) := by decide +kernel
set_option maxRecDepth 100000 in
theorem ji_167_87 : mj_ins 167 87 = some (.getfield 19) := by decide +kernel
set_option maxRecDepth 100000 in
theorem ji_167_90 : mj_ins 167 90 = some (.getfield 151) := by decide +kernel
set_option maxRecDepth 100000 in
theorem jf_167_151 : mj_fld 167 151 = some (2, 2, (.object "ForestOfPoles$Steps"), false) := by decide +kernel
set_option maxRecDepth 100000 in
theorem ji_167_93 : mj_ins 167 93 = some (.getfield 165) := by decide +kernel
set_option maxRecDepth 100000 in
theorem jf_167_165 : mj_fld 167 165 = some (5, 2, .int, true) := by decide +kernel
set_option maxRecDepth 100000 in
theorem ji_167_96 : mj_ins 167 96 = some (.ireturn) := by decide +kernel
set_option maxRecDepth 100000 in
theorem ji_167_97 : mj_ins 167 97 = some (.aload_n 0) := by decide +kernel
set_option maxRecDepth 100000 in
theorem ji_167_98 : mj_ins 167 98 = some (.getfield 19) := by decide +kernel
set_option maxRecDepth 100000 in
theorem ji_167_101 : mj_ins 167 101 = some (.getfield 287) := by decide +kernel
set_option maxRecDepth 100000 in
theorem jf_167_287 : mj_fld 167 287 = some (2, 3, (.object "ForestOfPoles$Finds"), false) := by decide +kernel
set_option maxRecDepth 100000 in
theorem ji_167_104 : mj_ins 167 104 = some (.getfield 326) := by decide +kernel
set_option maxRecDepth 100000 in
theorem jf_167_326 : mj_fld 167 326 = some (6, 3, .int, true) := by decide +kernel
set_option maxRecDepth 100000 in
theorem ji_167_107 : mj_ins 167 107 = some (.ireturn) := by decide +kernel
set_option maxRecDepth 100000 in
theorem ji_167_108 : mj_ins 167 108 = some (.aload_n 0) := by decide +kernel
set_option maxRecDepth 100000 in
theorem ji_167_109 : mj_ins 167 109 = some (.getfield 19) := by decide +kernel
set_option maxRecDepth 100000 in
theorem ji_167_112 : mj_ins 167 112 = some (.getfield 304) := by decide +kernel
set_option maxRecDepth 100000 in
theorem jf_167_304 : mj_fld 167 304 = some (2, 4, (.object "ForestOfPoles$Claims"), false) := by decide +kernel
set_option maxRecDepth 100000 in
theorem ji_167_115 : mj_ins 167 115 = some (.getfield 308) := by decide +kernel
set_option maxRecDepth 100000 in
theorem jf_167_308 : mj_fld 167 308 = some (7, 3, .int, true) := by decide +kernel
set_option maxRecDepth 100000 in
theorem ji_167_118 : mj_ins 167 118 = some (.ireturn) := by decide +kernel
set_option maxRecDepth 100000 in
theorem ji_167_119 : mj_ins 167 119 = some (.aload_n 0) := by decide +kernel
set_option maxRecDepth 100000 in
theorem ji_167_120 : mj_ins 167 120 = some (.getfield 29) := by decide +kernel
set_option maxRecDepth 100000 in
theorem jf_167_29 : mj_fld 167 29 = some (0, 2, (.object "ForestOfPoles$Tape"), false) := by decide +kernel
set_option maxRecDepth 100000 in
theorem ji_167_123 : mj_ins 167 123 = some (.getfield 62) := by decide +kernel
set_option maxRecDepth 100000 in
theorem jf_167_62 : mj_fld 167 62 = some (8, 1, .int, true) := by decide +kernel
set_option maxRecDepth 100000 in
theorem ji_167_126 : mj_ins 167 126 = some (.ireturn) := by decide +kernel
set_option maxRecDepth 100000 in
theorem ji_167_127 : mj_ins 167 127 = some (.bipush (-2)) := by decide +kernel
set_option maxRecDepth 100000 in
theorem ji_167_129 : mj_ins 167 129 = some (.ireturn) := by decide +kernel
set_option maxRecDepth 100000 in
theorem ji_314_0 : mj_ins 314 0 = some (.iload_n 1) := by decide +kernel
set_option maxRecDepth 100000 in
theorem ji_314_1 : mj_ins 314 1 = some (.iconst 0) := by decide +kernel
set_option maxRecDepth 100000 in
theorem ji_314_2 : mj_ins 314 2 = some (.bipush 6) := by decide +kernel
set_option maxRecDepth 100000 in
theorem ji_314_4 : mj_ins 314 4 = some (.invokestatic 66) := by decide +kernel
set_option maxRecDepth 100000 in
theorem jc_314_66 : mj_cal 314 66 = some (1, 171, 3) := by decide +kernel
set_option maxRecDepth 100000 in
theorem ji_314_7 : mj_ins 314 7 = some (.ifCond .eq 12) := by decide +kernel
set_option maxRecDepth 100000 in
theorem ji_314_19 : mj_ins 314 19 = some (.iload_n 1) := by decide +kernel
set_option maxRecDepth 100000 in
theorem ji_314_20 : mj_ins 314 20 = some (.bipush 7) := by decide +kernel
set_option maxRecDepth 100000 in
theorem ji_314_22 : mj_ins 314 22 = some (.if_icmp .ne 10) := by decide +kernel
set_option maxRecDepth 100000 in
theorem ji_314_32 : mj_ins 314 32 = some (.bipush (-2)) := by decide +kernel
set_option maxRecDepth 100000 in
theorem ji_314_34 : mj_ins 314 34 = some (.ireturn) := by decide +kernel
set_option maxRecDepth 100000 in
theorem jr_314 : mj_ret 314 = some .int := by decide +kernel
set_option maxRecDepth 100000 in
theorem ji_314_25 : mj_ins 314 25 = some (.aload_n 0) := by decide +kernel
set_option maxRecDepth 100000 in
theorem ji_314_26 : mj_ins 314 26 = some (.getfield 78) := by decide +kernel
set_option maxRecDepth 100000 in
theorem jf_314_78 : mj_fld 314 78 = some (11, 4, .int, true) := by decide +kernel
set_option maxRecDepth 100000 in
theorem ji_314_29 : mj_ins 314 29 = some (.goto 5) := by decide +kernel
set_option maxRecDepth 100000 in
theorem ji_314_10 : mj_ins 314 10 = some (.aload_n 0) := by decide +kernel
set_option maxRecDepth 100000 in
theorem ji_314_11 : mj_ins 314 11 = some (.getfield 7) := by decide +kernel
set_option maxRecDepth 100000 in
theorem jf_314_7 : mj_fld 314 7 = some (11, 0, (.array .int), false) := by decide +kernel
set_option maxRecDepth 100000 in
theorem ji_314_14 : mj_ins 314 14 = some (.iload_n 1) := by decide +kernel
set_option maxRecDepth 100000 in
theorem ji_314_15 : mj_ins 314 15 = some (.iaload) := by decide +kernel
set_option maxRecDepth 100000 in
theorem ji_314_16 : mj_ins 314 16 = some (.goto 18) := by decide +kernel
set_option maxRecDepth 100000 in
theorem ji_97_0 : mj_ins 97 0 = some (.aload_n 0) := by decide +kernel
set_option maxRecDepth 100000 in
theorem ji_97_1 : mj_ins 97 1 = some (.getfield 19) := by decide +kernel
set_option maxRecDepth 100000 in
theorem jf_97_19 : mj_fld 97 19 = some (0, 0, (.object "ForestOfPoles$State"), false) := by decide +kernel
set_option maxRecDepth 100000 in
theorem ji_97_4 : mj_ins 97 4 = some (.getfield 49) := by decide +kernel
set_option maxRecDepth 100000 in
theorem jf_97_49 : mj_fld 97 49 = some (2, 0, (.object "ForestOfPoles$Forest"), false) := by decide +kernel
set_option maxRecDepth 100000 in
theorem ji_97_7 : mj_ins 97 7 = some (.astore_n 3) := by decide +kernel
set_option maxRecDepth 100000 in
theorem ji_97_8 : mj_ins 97 8 = some (.aload_n 3) := by decide +kernel
set_option maxRecDepth 100000 in
theorem ji_97_9 : mj_ins 97 9 = some (.iload_n 1) := by decide +kernel
set_option maxRecDepth 100000 in
theorem ji_97_10 : mj_ins 97 10 = some (.invokevirtual 168) := by decide +kernel
set_option maxRecDepth 100000 in
theorem jc_97_168 : mj_cal 97 168 = some (2, 81, 1) := by decide +kernel
set_option maxRecDepth 100000 in
theorem ji_97_13 : mj_ins 97 13 = some (.ifCond .ne 5) := by decide +kernel
set_option maxRecDepth 100000 in
theorem ji_97_18 : mj_ins 97 18 = some (.iload_n 2) := by decide +kernel
set_option maxRecDepth 100000 in
theorem ji_97_19 : mj_ins 97 19 = some (.tableswitch 45 0 2 #[25, 32, 39]) := by decide +kernel
set_option maxRecDepth 100000 in
theorem ji_97_44 : mj_ins 97 44 = some (.aload_n 3) := by decide +kernel
set_option maxRecDepth 100000 in
theorem ji_97_45 : mj_ins 97 45 = some (.getfield 117) := by decide +kernel
set_option maxRecDepth 100000 in
theorem jf_97_117 : mj_fld 97 117 = some (3, 3, (.array .int), false) := by decide +kernel
set_option maxRecDepth 100000 in
theorem ji_97_48 : mj_ins 97 48 = some (.iload_n 1) := by decide +kernel
set_option maxRecDepth 100000 in
theorem ji_97_49 : mj_ins 97 49 = some (.iaload) := by decide +kernel
set_option maxRecDepth 100000 in
theorem ji_97_50 : mj_ins 97 50 = some (.ireturn) := by decide +kernel
set_option maxRecDepth 100000 in
theorem jr_97 : mj_ret 97 = some .int := by decide +kernel
set_option maxRecDepth 100000 in
theorem ji_97_51 : mj_ins 97 51 = some (.aload_n 3) := by decide +kernel
set_option maxRecDepth 100000 in
theorem ji_97_52 : mj_ins 97 52 = some (.getfield 171) := by decide +kernel
set_option maxRecDepth 100000 in
theorem jf_97_171 : mj_fld 97 171 = some (3, 4, (.array .int), false) := by decide +kernel
set_option maxRecDepth 100000 in
theorem ji_97_55 : mj_ins 97 55 = some (.iload_n 1) := by decide +kernel
set_option maxRecDepth 100000 in
theorem ji_97_56 : mj_ins 97 56 = some (.iaload) := by decide +kernel
set_option maxRecDepth 100000 in
theorem sq_51 : sh_T[51]? = some (1000, [], 8, 0) := by decide +kernel
set_option maxRecDepth 100000 in
theorem ji_97_57 : mj_ins 97 57 = some (.ireturn) := by decide +kernel
set_option maxRecDepth 100000 in
theorem ji_97_58 : mj_ins 97 58 = some (.aload_n 3) := by decide +kernel
set_option maxRecDepth 100000 in
theorem ji_97_59 : mj_ins 97 59 = some (.iload_n 1) := by decide +kernel
set_option maxRecDepth 100000 in
theorem ji_97_60 : mj_ins 97 60 = some (.invokevirtual 173) := by decide +kernel
set_option maxRecDepth 100000 in
theorem jc_97_173 : mj_cal 97 173 = some (2, 69, 1) := by decide +kernel
set_option maxRecDepth 100000 in
theorem ji_97_63 : mj_ins 97 63 = some (.ireturn) := by decide +kernel
set_option maxRecDepth 100000 in
theorem ji_97_64 : mj_ins 97 64 = some (.iconst (-1)) := by decide +kernel
set_option maxRecDepth 100000 in
theorem ji_97_65 : mj_ins 97 65 = some (.ireturn) := by decide +kernel
set_option maxRecDepth 100000 in
theorem ji_97_16 : mj_ins 97 16 = some (.iconst (-1)) := by decide +kernel
set_option maxRecDepth 100000 in
theorem ji_97_17 : mj_ins 97 17 = some (.ireturn) := by decide +kernel
set_option maxRecDepth 100000 in
theorem ji_259_0 : mj_ins 259 0 = some (.aload_n 0) := by decide +kernel
set_option maxRecDepth 100000 in
theorem ji_259_1 : mj_ins 259 1 = some (.iload_n 1) := by decide +kernel
set_option maxRecDepth 100000 in
theorem ji_259_2 : mj_ins 259 2 = some (.invokevirtual 348) := by decide +kernel
set_option maxRecDepth 100000 in
theorem jc_259_348 : mj_cal 259 348 = some (2, 248, 1) := by decide +kernel
set_option maxRecDepth 100000 in
theorem ji_259_5 : mj_ins 259 5 = some (.ifCond .ne 5) := by decide +kernel
set_option maxRecDepth 100000 in
theorem ji_259_10 : mj_ins 259 10 = some (.iload_n 2) := by decide +kernel
set_option maxRecDepth 100000 in
theorem ji_259_11 : mj_ins 259 11 = some (.ifCond .ne 11) := by decide +kernel
set_option maxRecDepth 100000 in
theorem ji_259_22 : mj_ins 259 22 = some (.iload_n 2) := by decide +kernel
set_option maxRecDepth 100000 in
theorem ji_259_23 : mj_ins 259 23 = some (.iconst 1) := by decide +kernel
set_option maxRecDepth 100000 in
theorem ji_259_24 : mj_ins 259 24 = some (.if_icmp .ne 11) := by decide +kernel
set_option maxRecDepth 100000 in
theorem ji_259_35 : mj_ins 259 35 = some (.iload_n 2) := by decide +kernel
set_option maxRecDepth 100000 in
theorem ji_259_36 : mj_ins 259 36 = some (.iconst 2) := by decide +kernel
set_option maxRecDepth 100000 in
theorem ji_259_37 : mj_ins 259 37 = some (.if_icmp .ne 11) := by decide +kernel
set_option maxRecDepth 100000 in
theorem ji_259_48 : mj_ins 259 48 = some (.iconst (-1)) := by decide +kernel
set_option maxRecDepth 100000 in
theorem ji_259_49 : mj_ins 259 49 = some (.ireturn) := by decide +kernel
set_option maxRecDepth 100000 in
theorem jr_259 : mj_ret 259 = some .int := by decide +kernel
set_option maxRecDepth 100000 in
theorem ji_259_40 : mj_ins 259 40 = some (.aload_n 0) := by decide +kernel
set_option maxRecDepth 100000 in
theorem ji_259_41 : mj_ins 259 41 = some (.iload_n 1) := by decide +kernel
set_option maxRecDepth 100000 in
theorem ji_259_42 : mj_ins 259 42 = some (.invokevirtual 292) := by decide +kernel
set_option maxRecDepth 100000 in
theorem jc_259_292 : mj_cal 259 292 = some (2, 228, 1) := by decide +kernel
set_option maxRecDepth 100000 in
theorem ji_259_45 : mj_ins 259 45 = some (.goto 4) := by decide +kernel
set_option maxRecDepth 100000 in
theorem ji_259_27 : mj_ins 259 27 = some (.aload_n 0) := by decide +kernel
set_option maxRecDepth 100000 in
theorem ji_259_28 : mj_ins 259 28 = some (.iload_n 1) := by decide +kernel
set_option maxRecDepth 100000 in
theorem ji_259_29 : mj_ins 259 29 = some (.invokevirtual 298) := by decide +kernel
set_option maxRecDepth 100000 in
theorem jc_259_298 : mj_cal 259 298 = some (2, 230, 1) := by decide +kernel
set_option maxRecDepth 100000 in
theorem ji_259_32 : mj_ins 259 32 = some (.goto 17) := by decide +kernel
set_option maxRecDepth 100000 in
theorem ji_259_14 : mj_ins 259 14 = some (.aload_n 0) := by decide +kernel
set_option maxRecDepth 100000 in
theorem ji_259_15 : mj_ins 259 15 = some (.iload_n 1) := by decide +kernel
set_option maxRecDepth 100000 in
theorem ji_259_16 : mj_ins 259 16 = some (.invokevirtual 289) := by decide +kernel
set_option maxRecDepth 100000 in
theorem jc_259_289 : mj_cal 259 289 = some (2, 220, 1) := by decide +kernel
set_option maxRecDepth 100000 in
theorem ji_259_19 : mj_ins 259 19 = some (.goto 30) := by decide +kernel
set_option maxRecDepth 100000 in
theorem ji_259_8 : mj_ins 259 8 = some (.iconst (-1)) := by decide +kernel
set_option maxRecDepth 100000 in
theorem ji_259_9 : mj_ins 259 9 = some (.ireturn) := by decide +kernel
/-! is, about, ofPole, in both; laid by program (wp_u81.py) -/
def isC (s : sg_) (x : Int) : Int := if x = 0 then s 48 10 else if x = 1 then s 48 9 else if x = 2 then s 48 11 else if x = 3 then s 48 12 else -2
def isR (s : sg_) (x : Int) : Int := if 0 ≤ x ∧ x ≤ 3 then s 139 (8 + x) else -2
def abC (s : sg_) (x : Int) : Int := if x = 0 then s 48 0 else if x = 1 then s 48 1 else if x = 2 then s 47 6 else if x = 3 then s 47 7 else if x = 4 then s 59 2 else if x = 5 then s 61 3 else if x = 6 then s 65 3 else if x = 7 then s 91 1 else -2
def abR (s : sg_) (x : Int) : Int := if 0 ≤ x ∧ x ≤ 6 then s 139 x else if x = 7 then s 138 4 else -2
def opC (s : sg_) (p k : Int) : Int := if 0 ≤ p ∧ p < s 48 0 then (if k = 0 then s 50 p else if k = 1 then s 51 p else if k = 2 then flg (fun j => s 54 (p * 6 + j)) (s 48 1).toNat else -1) else -1
def opR (s : sg_) (p k : Int) : Int := if 0 ≤ p ∧ p < s 139 0 then (if k = 0 then s 139 (16 + 3 * p) else if k = 1 then s 139 (16 + 3 * p + 1) else if k = 2 then flg (fun j => s 139 (52 + 2 * (8 * j + p) + 0)) (s 139 1).toNat else -1) else -1
theorem uc_102 {nn d : Nat} {h : mj_H} {s : sg_} (C : CS h s) {x : Int} (hx : wp_r x) : wl_R nn d 102 0 [some (.ref 9), some (wp_i x)] [] h (fun v1 h1 => h1 = h ∧ v1 = some (wp_i (isC s x))) := by
  refine wl_s (pc' := 1) ji_102_0 rfl rfl rfl ?_
  rcases (show x = 0 ∨ x = 1 ∨ x = 2 ∨ x = 3 ∨ (x < 0 ∨ 3 < x) by omega) with q0 | q0 | q0 | q0 | q0
  · subst q0
    refine wl_s (pc' := 32) ji_102_1 rfl rfl rfl ?_
    refine wl_s (pc' := 33) ji_102_32 rfl rfl rfl ?_
    refine cs_gr (r := 47) (k := 0) C (by decide) sq_9 rfl ji_102_33 jf_102_19 ?_
    refine cs_gr (r := 48) (k := 0) C (by decide) sq_47 rfl ji_102_36 jf_102_49 ?_
    refine cs_gi (k := 10) (kI := 10) C (by decide) (by decide) sq_48 rfl rfl ji_102_39 jf_102_98 ?_
    have bd1 : wp_r (s 48 10) := cs_ri (k := 10) (kI := 10) C (by decide) (by decide) sq_48 rfl rfl (show 10 < 13 by decide)
    exact wl_ri ji_102_42 jr_102 rfl (⟨rfl, congrArg (fun z => some (wp_i z)) (by unfold isC; (repeat' split) <;> omega)⟩)
  · subst q0
    refine wl_s (pc' := 43) ji_102_1 rfl rfl rfl ?_
    refine wl_s (pc' := 44) ji_102_43 rfl rfl rfl ?_
    refine cs_gr (r := 47) (k := 0) C (by decide) sq_9 rfl ji_102_44 jf_102_19 ?_
    refine cs_gr (r := 48) (k := 0) C (by decide) sq_47 rfl ji_102_47 jf_102_49 ?_
    refine cs_gi (k := 9) (kI := 9) C (by decide) (by decide) sq_48 rfl rfl ji_102_50 jf_102_209 ?_
    have bd2 : wp_r (s 48 9) := cs_ri (k := 9) (kI := 9) C (by decide) (by decide) sq_48 rfl rfl (show 9 < 13 by decide)
    exact wl_ri ji_102_53 jr_102 rfl (⟨rfl, congrArg (fun z => some (wp_i z)) (by unfold isC; (repeat' split) <;> omega)⟩)
  · subst q0
    refine wl_s (pc' := 54) ji_102_1 rfl rfl rfl ?_
    refine wl_s (pc' := 55) ji_102_54 rfl rfl rfl ?_
    refine cs_gr (r := 47) (k := 0) C (by decide) sq_9 rfl ji_102_55 jf_102_19 ?_
    refine cs_gr (r := 48) (k := 0) C (by decide) sq_47 rfl ji_102_58 jf_102_49 ?_
    refine cs_gi (k := 11) (kI := 11) C (by decide) (by decide) sq_48 rfl rfl ji_102_61 jf_102_104 ?_
    have bd3 : wp_r (s 48 11) := cs_ri (k := 11) (kI := 11) C (by decide) (by decide) sq_48 rfl rfl (show 11 < 13 by decide)
    exact wl_ri ji_102_64 jr_102 rfl (⟨rfl, congrArg (fun z => some (wp_i z)) (by unfold isC; (repeat' split) <;> omega)⟩)
  · subst q0
    refine wl_s (pc' := 65) ji_102_1 rfl rfl rfl ?_
    refine wl_s (pc' := 66) ji_102_65 rfl rfl rfl ?_
    refine cs_gr (r := 47) (k := 0) C (by decide) sq_9 rfl ji_102_66 jf_102_19 ?_
    refine cs_gr (r := 48) (k := 0) C (by decide) sq_47 rfl ji_102_69 jf_102_49 ?_
    refine cs_gi (k := 12) (kI := 12) C (by decide) (by decide) sq_48 rfl rfl ji_102_72 jf_102_145 ?_
    have bd4 : wp_r (s 48 12) := cs_ri (k := 12) (kI := 12) C (by decide) (by decide) sq_48 rfl rfl (show 12 < 13 by decide)
    exact wl_ri ji_102_75 jr_102 rfl (⟨rfl, congrArg (fun z => some (wp_i z)) (by unfold isC; (repeat' split) <;> omega)⟩)
  · refine wl_s (pc' := 76) (lv' := [some (.ref 9), some (wp_i x)]) (st' := []) (h' := h) ji_102_1 rfl rfl ?_ ?_
    · simp only [mj_st, wp_ti hx]
      rw [if_pos q0]
      rfl
    refine wl_bp ji_102_76 rfl ?_
    exact wl_ri ji_102_78 jr_102 rfl (⟨rfl, congrArg (fun z => some (wp_i z)) (by unfold isC; (repeat' split) <;> omega)⟩)
theorem uc_265 {nn d : Nat} {h : mj_H} {s : sg_} (C : CS h s) {x : Int} (hx : wp_r x) : wl_R nn (d + 1) 265 0 [some (.ref 138), some (wp_i x)] [] h (fun v1 h1 => h1 = h ∧ v1 = some (wp_i (isR s x))) := by
  refine wl_s (pc' := 1) ji_265_0 rfl rfl rfl ?_
  refine wl_s (pc' := 2) ji_265_1 rfl rfl rfl ?_
  refine wl_s (pc' := 3) ji_265_2 rfl rfl rfl ?_
  refine wl_sc (d := d) (as := [wp_i x, wp_i 0, wp_i 3]) (rest := []) ji_265_3 jc_265_66 (Nat.le_of_ble_eq_true rfl) rfl (Nat.le_of_ble_eq_true rfl) rfl (by rw [jn_171]; rfl) (uc_171 (d := d) (x := x) (a := 0) (b := 3) (by omega) (by omega) (by omega)) (fun v1 h1 R => ?_)
  obtain ⟨ee, y2, rfl, hy2a, hy2b⟩ := R
  rw [ee]
  clear ee
  show wl_R _ _ 265 6 [some (.ref 138), some (wp_i x)] [wp_i y2] _ _
  refine wl_if (t := 21) ji_265_6 rfl (by omega) (fun (hb3 : (y2 : Int) = 0) => ?_) (fun (hb3 : ¬ ((y2 : Int) = 0)) => ?_)
  · refine wl_bp ji_265_21 rfl ?_
    exact wl_ri ji_265_23 jr_265 rfl (⟨rfl, congrArg (fun z => some (wp_i z)) (by unfold isR; (repeat' split) <;> omega)⟩)
  · refine wl_s (pc' := 10) ji_265_9 rfl rfl rfl ?_
    refine cs_gr (r := 139) (k := 0) C (by decide) sq_138 rfl ji_265_10 jf_265_7 ?_
    refine wl_bp ji_265_13 rfl ?_
    refine wl_s (pc' := 16) ji_265_15 rfl rfl rfl ?_
    refine wl_iadd (x := 8) (y := x) (z := 8 + x) ji_265_16 (by omega) ?_
    refine cs_l (x := 8 + x) C (by decide) (by decide) sq_139 (by omega) ji_265_17 (fun ld40 ld41 ld42 => ?_)
    refine wl_goto (t := 23) ji_265_18 rfl ?_
    exact wl_ri ji_265_23 jr_265 rfl (⟨rfl, congrArg (fun z => some (wp_i z)) (by unfold isR; (repeat' split) <;> omega)⟩)
theorem uc_167 {nn d : Nat} {h : mj_H} {s : sg_} (C : CS h s) {x : Int} (hx : wp_r x) : wl_R nn d 167 0 [some (.ref 9), some (wp_i x)] [] h (fun v1 h1 => h1 = h ∧ v1 = some (wp_i (abC s x))) := by
  refine wl_s (pc' := 1) ji_167_0 rfl rfl rfl ?_
  rcases (show x = 0 ∨ x = 1 ∨ x = 2 ∨ x = 3 ∨ x = 4 ∨ x = 5 ∨ x = 6 ∨ x = 7 ∨ (x < 0 ∨ 7 < x) by omega) with q0 | q0 | q0 | q0 | q0 | q0 | q0 | q0 | q0
  · subst q0
    refine wl_s (pc' := 48) ji_167_1 rfl rfl rfl ?_
    refine wl_s (pc' := 49) ji_167_48 rfl rfl rfl ?_
    refine cs_gr (r := 47) (k := 0) C (by decide) sq_9 rfl ji_167_49 jf_167_19 ?_
    refine cs_gr (r := 48) (k := 0) C (by decide) sq_47 rfl ji_167_52 jf_167_49 ?_
    refine cs_gi (k := 0) (kI := 0) C (by decide) (by decide) sq_48 rfl rfl ji_167_55 jf_167_136 ?_
    have bd1 : wp_r (s 48 0) := cs_ri (k := 0) (kI := 0) C (by decide) (by decide) sq_48 rfl rfl (show 0 < 13 by decide)
    exact wl_ri ji_167_58 jr_167 rfl (⟨rfl, congrArg (fun z => some (wp_i z)) (by unfold abC; (repeat' split) <;> omega)⟩)
  · subst q0
    refine wl_s (pc' := 59) ji_167_1 rfl rfl rfl ?_
    refine wl_s (pc' := 60) ji_167_59 rfl rfl rfl ?_
    refine cs_gr (r := 47) (k := 0) C (by decide) sq_9 rfl ji_167_60 jf_167_19 ?_
    refine cs_gr (r := 48) (k := 0) C (by decide) sq_47 rfl ji_167_63 jf_167_49 ?_
    refine cs_gi (k := 1) (kI := 1) C (by decide) (by decide) sq_48 rfl rfl ji_167_66 jf_167_139 ?_
    have bd2 : wp_r (s 48 1) := cs_ri (k := 1) (kI := 1) C (by decide) (by decide) sq_48 rfl rfl (show 1 < 13 by decide)
    exact wl_ri ji_167_69 jr_167 rfl (⟨rfl, congrArg (fun z => some (wp_i z)) (by unfold abC; (repeat' split) <;> omega)⟩)
  · subst q0
    refine wl_s (pc' := 70) ji_167_1 rfl rfl rfl ?_
    refine wl_s (pc' := 71) ji_167_70 rfl rfl rfl ?_
    refine cs_gr (r := 47) (k := 0) C (by decide) sq_9 rfl ji_167_71 jf_167_19 ?_
    refine cs_gi (k := 6) (kI := 6) C (by decide) (by decide) sq_47 rfl rfl ji_167_74 jf_167_70 ?_
    have bd3 : wp_r (s 47 6) := cs_ri (k := 6) (kI := 6) C (by decide) (by decide) sq_47 rfl rfl (show 6 < 8 by decide)
    exact wl_ri ji_167_77 jr_167 rfl (⟨rfl, congrArg (fun z => some (wp_i z)) (by unfold abC; (repeat' split) <;> omega)⟩)
  · subst q0
    refine wl_s (pc' := 78) ji_167_1 rfl rfl rfl ?_
    refine wl_s (pc' := 79) ji_167_78 rfl rfl rfl ?_
    refine cs_gr (r := 47) (k := 0) C (by decide) sq_9 rfl ji_167_79 jf_167_19 ?_
    refine cs_gi (k := 7) (kI := 7) C (by decide) (by decide) sq_47 rfl rfl ji_167_82 jf_167_95 ?_
    have bd4 : wp_r (s 47 7) := cs_ri (k := 7) (kI := 7) C (by decide) (by decide) sq_47 rfl rfl (show 7 < 8 by decide)
    exact wl_ri ji_167_85 jr_167 rfl (⟨rfl, congrArg (fun z => some (wp_i z)) (by unfold abC; (repeat' split) <;> omega)⟩)
  · subst q0
    refine wl_s (pc' := 86) ji_167_1 rfl rfl rfl ?_
    refine wl_s (pc' := 87) ji_167_86 rfl rfl rfl ?_
    refine cs_gr (r := 47) (k := 0) C (by decide) sq_9 rfl ji_167_87 jf_167_19 ?_
    refine cs_gr (r := 59) (k := 2) C (by decide) sq_47 rfl ji_167_90 jf_167_151 ?_
    refine cs_gi (k := 2) (kI := 2) C (by decide) (by decide) sq_59 rfl rfl ji_167_93 jf_167_165 ?_
    have bd5 : wp_r (s 59 2) := cs_ri (k := 2) (kI := 2) C (by decide) (by decide) sq_59 rfl rfl (show 2 < 3 by decide)
    exact wl_ri ji_167_96 jr_167 rfl (⟨rfl, congrArg (fun z => some (wp_i z)) (by unfold abC; (repeat' split) <;> omega)⟩)
  · subst q0
    refine wl_s (pc' := 97) ji_167_1 rfl rfl rfl ?_
    refine wl_s (pc' := 98) ji_167_97 rfl rfl rfl ?_
    refine cs_gr (r := 47) (k := 0) C (by decide) sq_9 rfl ji_167_98 jf_167_19 ?_
    refine cs_gr (r := 61) (k := 3) C (by decide) sq_47 rfl ji_167_101 jf_167_287 ?_
    refine cs_gi (k := 3) (kI := 3) C (by decide) (by decide) sq_61 rfl rfl ji_167_104 jf_167_326 ?_
    have bd6 : wp_r (s 61 3) := cs_ri (k := 3) (kI := 3) C (by decide) (by decide) sq_61 rfl rfl (show 3 < 4 by decide)
    exact wl_ri ji_167_107 jr_167 rfl (⟨rfl, congrArg (fun z => some (wp_i z)) (by unfold abC; (repeat' split) <;> omega)⟩)
  · subst q0
    refine wl_s (pc' := 108) ji_167_1 rfl rfl rfl ?_
    refine wl_s (pc' := 109) ji_167_108 rfl rfl rfl ?_
    refine cs_gr (r := 47) (k := 0) C (by decide) sq_9 rfl ji_167_109 jf_167_19 ?_
    refine cs_gr (r := 65) (k := 4) C (by decide) sq_47 rfl ji_167_112 jf_167_304 ?_
    refine cs_gi (k := 3) (kI := 3) C (by decide) (by decide) sq_65 rfl rfl ji_167_115 jf_167_308 ?_
    have bd7 : wp_r (s 65 3) := cs_ri (k := 3) (kI := 3) C (by decide) (by decide) sq_65 rfl rfl (show 3 < 4 by decide)
    exact wl_ri ji_167_118 jr_167 rfl (⟨rfl, congrArg (fun z => some (wp_i z)) (by unfold abC; (repeat' split) <;> omega)⟩)
  · subst q0
    refine wl_s (pc' := 119) ji_167_1 rfl rfl rfl ?_
    refine wl_s (pc' := 120) ji_167_119 rfl rfl rfl ?_
    refine cs_gr (r := 91) (k := 2) C (by decide) sq_9 rfl ji_167_120 jf_167_29 ?_
    refine cs_gi (k := 1) (kI := 1) C (by decide) (by decide) sq_91 rfl rfl ji_167_123 jf_167_62 ?_
    have bd8 : wp_r (s 91 1) := cs_ri (k := 1) (kI := 1) C (by decide) (by decide) sq_91 rfl rfl (show 1 < 6 by decide)
    exact wl_ri ji_167_126 jr_167 rfl (⟨rfl, congrArg (fun z => some (wp_i z)) (by unfold abC; (repeat' split) <;> omega)⟩)
  · refine wl_s (pc' := 127) (lv' := [some (.ref 9), some (wp_i x)]) (st' := []) (h' := h) ji_167_1 rfl rfl ?_ ?_
    · simp only [mj_st, wp_ti hx]
      rw [if_pos q0]
      rfl
    refine wl_bp ji_167_127 rfl ?_
    exact wl_ri ji_167_129 jr_167 rfl (⟨rfl, congrArg (fun z => some (wp_i z)) (by unfold abC; (repeat' split) <;> omega)⟩)
theorem uc_314 {nn d : Nat} {h : mj_H} {s : sg_} (C : CS h s) {x : Int} (hx : wp_r x) : wl_R nn (d + 1) 314 0 [some (.ref 138), some (wp_i x)] [] h (fun v1 h1 => h1 = h ∧ v1 = some (wp_i (abR s x))) := by
  refine wl_s (pc' := 1) ji_314_0 rfl rfl rfl ?_
  refine wl_s (pc' := 2) ji_314_1 rfl rfl rfl ?_
  refine wl_bp ji_314_2 rfl ?_
  refine wl_sc (d := d) (as := [wp_i x, wp_i 0, wp_i 6]) (rest := []) ji_314_4 jc_314_66 (Nat.le_of_ble_eq_true rfl) rfl (Nat.le_of_ble_eq_true rfl) rfl (by rw [jn_171]; rfl) (uc_171 (d := d) (x := x) (a := 0) (b := 6) (by omega) (by omega) (by omega)) (fun v1 h1 R => ?_)
  obtain ⟨ee, y2, rfl, hy2a, hy2b⟩ := R
  rw [ee]
  clear ee
  show wl_R _ _ 314 7 [some (.ref 138), some (wp_i x)] [wp_i y2] _ _
  refine wl_if (t := 19) ji_314_7 rfl (by omega) (fun (hb3 : (y2 : Int) = 0) => ?_) (fun (hb3 : ¬ ((y2 : Int) = 0)) => ?_)
  · refine wl_s (pc' := 20) ji_314_19 rfl rfl rfl ?_
    refine wl_bp ji_314_20 rfl ?_
    refine wl_icmp (t := 32) ji_314_22 rfl (by omega) (by omega) (fun (hb4 : ¬ (x : Int) = 7) => ?_) (fun (hb4 : ¬ (¬ (x : Int) = 7)) => ?_)
    · refine wl_bp ji_314_32 rfl ?_
      exact wl_ri ji_314_34 jr_314 rfl (⟨rfl, congrArg (fun z => some (wp_i z)) (by unfold abR; (repeat' split) <;> omega)⟩)
    · refine wl_s (pc' := 26) ji_314_25 rfl rfl rfl ?_
      refine cs_gi (k := 4) (kI := 4) C (by decide) (by decide) sq_138 rfl rfl ji_314_26 jf_314_78 ?_
      have bd5 : wp_r (s 138 4) := cs_ri (k := 4) (kI := 4) C (by decide) (by decide) sq_138 rfl rfl (show 4 < 31 by decide)
      refine wl_goto (t := 34) ji_314_29 rfl ?_
      exact wl_ri ji_314_34 jr_314 rfl (⟨rfl, congrArg (fun z => some (wp_i z)) (by unfold abR; (repeat' split) <;> omega)⟩)
  · refine wl_s (pc' := 11) ji_314_10 rfl rfl rfl ?_
    refine cs_gr (r := 139) (k := 0) C (by decide) sq_138 rfl ji_314_11 jf_314_7 ?_
    refine wl_s (pc' := 15) ji_314_14 rfl rfl rfl ?_
    refine cs_l (x := x) C (by decide) (by decide) sq_139 (by omega) ji_314_15 (fun ld60 ld61 ld62 => ?_)
    refine wl_goto (t := 34) ji_314_16 rfl ?_
    exact wl_ri ji_314_34 jr_314 rfl (⟨rfl, congrArg (fun z => some (wp_i z)) (by unfold abR; (repeat' split) <;> omega)⟩)
theorem uc_97 {nn d : Nat} {h : mj_H} {s : sg_} (C : CS h s) (I : IF s 48) {p k : Int} (hp : wp_r p) (hk : wp_r k) : wl_R nn (d + 1) 97 0 [some (.ref 9), some (wp_i p), some (wp_i k), none] [] h (fun v1 h1 => h1 = h ∧ v1 = some (wp_i (opC s p k))) := by
  have i0 := I.1
  have i1 := I.2.1
  refine wl_s (pc' := 1) ji_97_0 rfl rfl rfl ?_
  refine cs_gr (r := 47) (k := 0) C (by decide) sq_9 rfl ji_97_1 jf_97_19 ?_
  refine cs_gr (r := 48) (k := 0) C (by decide) sq_47 rfl ji_97_4 jf_97_49 ?_
  refine wl_s (pc' := 8) (lv' := [some (.ref 9), some (wp_i p), some (wp_i k), some (.ref 48)]) ji_97_7 rfl rfl rfl ?_
  refine wl_s (pc' := 9) ji_97_8 rfl rfl rfl ?_
  refine wl_s (pc' := 10) ji_97_9 rfl rfl rfl ?_
  obtain ⟨q2, hq2⟩ := cs_c C (by decide) sq_48
  refine wl_vc (d := d) (as := [.ref 48, wp_i p]) (rest := []) ji_97_10 jc_97_168 rfl hq2 jk_81.symm (Nat.le_of_ble_eq_true rfl) rfl (by rw [jn_81]; rfl) (uc_81 (d := d) C isF_48 (p := p) (by omega)) (fun v1 h1 R => ?_)
  obtain ⟨ee, y3, rfl, hy3a, hy3b⟩ := R
  rw [ee]
  clear ee
  show wl_R _ _ 97 13 [some (.ref 9), some (wp_i p), some (wp_i k), some (.ref 48)] [wp_i y3] _ _
  refine wl_if (t := 18) ji_97_13 rfl (by omega) (fun (hb4 : ¬ (y3 : Int) = 0) => ?_) (fun (hb4 : ¬ (¬ (y3 : Int) = 0)) => ?_)
  · refine wl_s (pc' := 19) ji_97_18 rfl rfl rfl ?_
    rcases (show k = 0 ∨ k = 1 ∨ k = 2 ∨ (k < 0 ∨ 2 < k) by omega) with q0 | q0 | q0 | q0
    · subst q0
      refine wl_s (pc' := 44) ji_97_19 rfl rfl rfl ?_
      refine wl_s (pc' := 45) ji_97_44 rfl rfl rfl ?_
      refine cs_gr (r := 50) (k := 3) C (by decide) sq_48 rfl ji_97_45 jf_97_117 ?_
      refine wl_s (pc' := 49) ji_97_48 rfl rfl rfl ?_
      refine cs_l (x := p) C (by decide) (by decide) sq_50 (by omega) ji_97_49 (fun ld50 ld51 ld52 => ?_)
      exact wl_ri ji_97_50 jr_97 rfl (⟨rfl, congrArg (fun z => some (wp_i z)) (by unfold opC; (repeat' split) <;> omega)⟩)
    · subst q0
      refine wl_s (pc' := 51) ji_97_19 rfl rfl rfl ?_
      refine wl_s (pc' := 52) ji_97_51 rfl rfl rfl ?_
      refine cs_gr (r := 51) (k := 4) C (by decide) sq_48 rfl ji_97_52 jf_97_171 ?_
      refine wl_s (pc' := 56) ji_97_55 rfl rfl rfl ?_
      refine cs_l (x := p) C (by decide) (by decide) sq_51 (by omega) ji_97_56 (fun ld60 ld61 ld62 => ?_)
      exact wl_ri ji_97_57 jr_97 rfl (⟨rfl, congrArg (fun z => some (wp_i z)) (by unfold opC; (repeat' split) <;> omega)⟩)
    · subst q0
      refine wl_s (pc' := 58) ji_97_19 rfl rfl rfl ?_
      refine wl_s (pc' := 59) ji_97_58 rfl rfl rfl ?_
      refine wl_s (pc' := 60) ji_97_59 rfl rfl rfl ?_
      obtain ⟨q8, hq8⟩ := cs_c C (by decide) sq_48
      refine wl_vc (d := d) (as := [.ref 48, wp_i p]) (rest := []) ji_97_60 jc_97_173 rfl hq8 jk_69.symm (Nat.le_of_ble_eq_true rfl) rfl (by rw [jn_69]; rfl) (uc_69 (d := d) C isF_48 I (p := p) (by omega)) (fun v1 h7 R => ?_)
      obtain ⟨ee, rfl⟩ := R
      rw [ee]
      clear ee
      show wl_R _ _ 97 63 [some (.ref 9), some (wp_i p), some (wp_i 2), some (.ref 48)] [wp_i (flg (fun j => s (54) (p * 6 + j)) (s 48 1).toNat)] _ _
      have fl9r := flg_6 (fun j => s (54) (p * 6 + j)) (n := (s 48 1).toNat) (by omega)
      obtain ⟨fl9, hfl9⟩ : ∃ z9_, flg (fun j => s (54) (p * 6 + j)) (s 48 1).toNat = z9_ := ⟨_, rfl⟩
      rw [hfl9] at fl9r ⊢
      exact wl_ri ji_97_63 jr_97 rfl (⟨rfl, congrArg (fun z => some (wp_i z)) (by unfold opC; rw [if_pos (by omega), if_neg (by omega), if_neg (by omega), if_pos (by omega)]; exact hfl9.symm)⟩)
    · refine wl_s (pc' := 64) (lv' := [some (.ref 9), some (wp_i p), some (wp_i k), some (.ref 48)]) (st' := []) (h' := h) ji_97_19 rfl rfl ?_ ?_
      · simp only [mj_st, wp_ti hk]
        rw [if_pos q0]
        rfl
      refine wl_s (pc' := 65) ji_97_64 rfl rfl rfl ?_
      exact wl_ri ji_97_65 jr_97 rfl (⟨rfl, congrArg (fun z => some (wp_i z)) (by unfold opC; (repeat' split) <;> omega)⟩)
  · refine wl_s (pc' := 17) ji_97_16 rfl rfl rfl ?_
    exact wl_ri ji_97_17 jr_97 rfl (⟨rfl, congrArg (fun z => some (wp_i z)) (by unfold opC; (repeat' split) <;> omega)⟩)
theorem uc_259 {nn d : Nat} {h : mj_H} {s : sg_} (C : CS h s) (i0 : 0 ≤ s 139 0 ∧ s 139 0 ≤ 8) (i1 : 0 ≤ s 139 1 ∧ s 139 1 ≤ 6) {p k : Int} (hp : wp_r p) (hk : wp_r k) : wl_R nn (d + 3) 259 0 [some (.ref 138), some (wp_i p), some (wp_i k)] [] h (fun v1 h1 => h1 = h ∧ v1 = some (wp_i (opR s p k))) := by
  refine wl_s (pc' := 1) ji_259_0 rfl rfl rfl ?_
  refine wl_s (pc' := 2) ji_259_1 rfl rfl rfl ?_
  obtain ⟨q2, hq2⟩ := cs_c C (by decide) sq_138
  refine wl_vc (d := d + 2) (as := [.ref 138, wp_i p]) (rest := []) ji_259_2 jc_259_348 rfl hq2 jk_248.symm (Nat.le_of_ble_eq_true rfl) rfl (by rw [jn_248]; rfl) (uc_248 (d := d + 1) C i0 (p := p) (by omega)) (fun v1 h1 R => ?_)
  obtain ⟨ee, y3, rfl, hy3a, hy3b⟩ := R
  rw [ee]
  clear ee
  show wl_R _ _ 259 5 [some (.ref 138), some (wp_i p), some (wp_i k)] [wp_i y3] _ _
  refine wl_if (t := 10) ji_259_5 rfl (by omega) (fun (hb4 : ¬ (y3 : Int) = 0) => ?_) (fun (hb4 : ¬ (¬ (y3 : Int) = 0)) => ?_)
  · refine wl_s (pc' := 11) ji_259_10 rfl rfl rfl ?_
    refine wl_if (t := 22) ji_259_11 rfl (by omega) (fun (hb5 : ¬ (k : Int) = 0) => ?_) (fun (hb5 : ¬ (¬ (k : Int) = 0)) => ?_)
    · refine wl_s (pc' := 23) ji_259_22 rfl rfl rfl ?_
      refine wl_s (pc' := 24) ji_259_23 rfl rfl rfl ?_
      refine wl_icmp (t := 35) ji_259_24 rfl (by omega) (by omega) (fun (hb6 : ¬ (k : Int) = 1) => ?_) (fun (hb6 : ¬ (¬ (k : Int) = 1)) => ?_)
      · refine wl_s (pc' := 36) ji_259_35 rfl rfl rfl ?_
        refine wl_s (pc' := 37) ji_259_36 rfl rfl rfl ?_
        refine wl_icmp (t := 48) ji_259_37 rfl (by omega) (by omega) (fun (hb7 : ¬ (k : Int) = 2) => ?_) (fun (hb7 : ¬ (¬ (k : Int) = 2)) => ?_)
        · refine wl_s (pc' := 49) ji_259_48 rfl rfl rfl ?_
          exact wl_ri ji_259_49 jr_259 rfl (⟨rfl, congrArg (fun z => some (wp_i z)) (by unfold opR; (repeat' split) <;> omega)⟩)
        · refine wl_s (pc' := 41) ji_259_40 rfl rfl rfl ?_
          refine wl_s (pc' := 42) ji_259_41 rfl rfl rfl ?_
          obtain ⟨q9, hq9⟩ := cs_c C (by decide) sq_138
          refine wl_vc (d := d + 2) (as := [.ref 138, wp_i p]) (rest := []) ji_259_42 jc_259_292 rfl hq9 jk_228.symm (Nat.le_of_ble_eq_true rfl) rfl (by rw [jn_228]; rfl) (uc_228 (d := d) C i1 (p := p) (by omega)) (fun v1 h8 R => ?_)
          obtain ⟨ee, rfl⟩ := R
          rw [ee]
          clear ee
          have fl0r := flg_6 (fun j => s 139 (52 + 2 * (8 * j + p) + 0)) (n := (s 139 1).toNat) (by omega)
          obtain ⟨fl0, hfl0⟩ : ∃ z9_, flg (fun j => s 139 (52 + 2 * (8 * j + p) + 0)) (s 139 1).toNat = z9_ := ⟨_, rfl⟩
          rw [hfl0] at fl0r ⊢
          show wl_R _ _ 259 45 [some (.ref 138), some (wp_i p), some (wp_i k)] [wp_i fl0] _ _
          refine wl_goto (t := 49) ji_259_45 rfl ?_
          exact wl_ri ji_259_49 jr_259 rfl (⟨rfl, congrArg (fun z => some (wp_i z)) (by unfold opR; rw [if_pos (by omega), if_neg (by omega), if_neg (by omega), if_pos (by omega)]; exact hfl0.symm)⟩)
      · refine wl_s (pc' := 28) ji_259_27 rfl rfl rfl ?_
        refine wl_s (pc' := 29) ji_259_28 rfl rfl rfl ?_
        obtain ⟨q11, hq11⟩ := cs_c C (by decide) sq_138
        refine wl_vc (d := d + 2) (as := [.ref 138, wp_i p]) (rest := []) ji_259_29 jc_259_298 rfl hq11 jk_230.symm (Nat.le_of_ble_eq_true rfl) rfl (by rw [jn_230]; rfl) (uc_230 (d := d + 2) C (p := p) (by omega)) (fun v1 h10 R => ?_)
        obtain ⟨ee, rfl⟩ := R
        rw [ee]
        clear ee
        show wl_R _ _ 259 32 [some (.ref 138), some (wp_i p), some (wp_i k)] [wp_i (s 139 (16 + 3 * p + 1))] _ _
        refine wl_goto (t := 49) ji_259_32 rfl ?_
        exact wl_ri ji_259_49 jr_259 rfl (⟨rfl, congrArg (fun z => some (wp_i z)) (by unfold opR; (repeat' split) <;> omega)⟩)
    · refine wl_s (pc' := 15) ji_259_14 rfl rfl rfl ?_
      refine wl_s (pc' := 16) ji_259_15 rfl rfl rfl ?_
      obtain ⟨q13, hq13⟩ := cs_c C (by decide) sq_138
      refine wl_vc (d := d + 2) (as := [.ref 138, wp_i p]) (rest := []) ji_259_16 jc_259_289 rfl hq13 jk_220.symm (Nat.le_of_ble_eq_true rfl) rfl (by rw [jn_220]; rfl) (uc_220 (d := d + 2) C (p := p) (by omega)) (fun v1 h12 R => ?_)
      obtain ⟨ee, rfl⟩ := R
      rw [ee]
      clear ee
      show wl_R _ _ 259 19 [some (.ref 138), some (wp_i p), some (wp_i k)] [wp_i (s 139 (16 + 3 * p))] _ _
      refine wl_goto (t := 49) ji_259_19 rfl ?_
      exact wl_ri ji_259_49 jr_259 rfl (⟨rfl, congrArg (fun z => some (wp_i z)) (by unfold opR; (repeat' split) <;> omega)⟩)
  · refine wl_s (pc' := 9) ji_259_8 rfl rfl rfl ?_
    exact wl_ri ji_259_9 jr_259 rfl (⟨rfl, congrArg (fun z => some (wp_i z)) (by unfold opR; (repeat' split) <;> omega)⟩)
theorem eq_is {tc : tcs} {tr : Int → crs} {s : sg_} {M : Int} (L : LAWS tc tr s M) {x : Int} : isR s x = isC s x := by
  obtain ⟨-, -, -, -, h8, h9, hA, hB⟩ := L.1.1.2.1
  have h8 : s 139 8 = s 48 10 := h8
  have h9 : s 139 9 = s 48 9 := h9
  have hA : s 139 10 = s 48 11 := hA
  have hB : s 139 11 = s 48 12 := hB
  unfold isR isC
  by_cases q : 0 ≤ x ∧ x ≤ 3
  · rw [if_pos q]
    rcases (show x = 0 ∨ x = 1 ∨ x = 2 ∨ x = 3 by omega) with rfl | rfl | rfl | rfl
    · exact h8
    · exact h9
    · exact hA
    · exact hB
  · rw [if_neg q, if_neg (by omega), if_neg (by omega), if_neg (by omega), if_neg (by omega)]
theorem eq_about {tc : tcs} {tr : Int → crs} {s : sg_} {M : Int} (L : LAWS tc tr s M) {x : Int} : abR s x = abC s x := by
  have h0 : s 139 0 = s 48 0 := L.1.1.2.1.1.1
  have h1 : s 139 1 = s 48 1 := L.1.1.2.1.1.2
  have h4 : s 139 4 = s 59 2 := L.1.1.2.2.1.1
  obtain ⟨⟨h2, h3⟩, ⟨h5, -⟩, h6, -⟩ := relX_n L.1.1.2.2.2.1
  have h7 := L.2.1.2.1
  unfold abR abC
  by_cases q : 0 ≤ x ∧ x ≤ 6
  · rw [if_pos q]
    rcases (show x = 0 ∨ x = 1 ∨ x = 2 ∨ x = 3 ∨ x = 4 ∨ x = 5 ∨ x = 6 by omega) with rfl | rfl | rfl | rfl | rfl | rfl | rfl
    · exact h0
    · exact h1
    · exact h2
    · exact h3
    · exact h4
    · exact h5
    · exact h6
  · rw [if_neg q, if_neg (show ¬ x = 0 by omega), if_neg (show ¬ x = 1 by omega), if_neg (show ¬ x = 2 by omega), if_neg (show ¬ x = 3 by omega), if_neg (show ¬ x = 4 by omega), if_neg (show ¬ x = 5 by omega), if_neg (show ¬ x = 6 by omega), h7]
theorem eq_ofPole {tc : tcs} {tr : Int → crs} {s : sg_} {M : Int} (L : LAWS tc tr s M) {p k : Int} : opR s p k = opC s p k := by
  have H := L.1.1.2.1
  have N := L.1.1.1.1
  have h0 : s 139 0 = s 48 0 := H.1.1
  have i0 := N.1.1
  unfold opR opC
  rw [h0]
  by_cases q : 0 ≤ p ∧ p < s 48 0
  · rw [if_pos q, if_pos q]
    have q8 : 0 ≤ p ∧ p < 8 := ⟨q.1, by have : s 48 0 ≤ 8 := i0.2; omega⟩
    have a := H.2.1 p q8
    have a1 : s 139 (16 + 3 * p) = s 50 p := a.1
    have a2 : s 139 (16 + 3 * p + 1) = s 51 p := a.2.1
    have f := flg_eq H N.1.2.1 q8
    have f : flg (fun j => s 139 (52 + 2 * (8 * j + p) + 0)) (s 139 1).toNat = flg (fun j => s 54 (p * 6 + j)) (s 48 1).toNat := f
    rw [a1, a2, f]
  · rw [if_neg q, if_neg q]
