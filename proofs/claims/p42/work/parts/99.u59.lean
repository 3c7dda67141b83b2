/-! -/
set_option maxRecDepth 100000 in
theorem ji_107_0 : mj_ins 107 0 = some (.aload_n 1) := by decide +kernel
set_option maxRecDepth 100000 in
theorem ji_107_1 : mj_ins 107 1 = some (.getfield 34) := by decide +kernel
set_option maxRecDepth 100000 in
theorem jf_107_34 : mj_fld 107 34 = some (3, 7, (.array .int), false) := by decide +kernel
set_option maxRecDepth 100000 in
theorem ji_107_4 : mj_ins 107 4 = some (.iconst 0) := by decide +kernel
set_option maxRecDepth 100000 in
theorem ji_107_5 : mj_ins 107 5 = some (.aload_n 0) := by decide +kernel
set_option maxRecDepth 100000 in
theorem ji_107_6 : mj_ins 107 6 = some (.getfield 34) := by decide +kernel
set_option maxRecDepth 100000 in
theorem ji_107_9 : mj_ins 107 9 = some (.iconst 0) := by decide +kernel
set_option maxRecDepth 100000 in
theorem ji_107_10 : mj_ins 107 10 = some (.bipush 48) := by decide +kernel
set_option maxRecDepth 100000 in
theorem ji_107_12 : mj_ins 107 12 = some (.invokestatic 52) := by decide +kernel
set_option maxRecDepth 100000 in
theorem jc_107_52 : mj_cal 107 52 = some (20, 0, 0) := by decide +kernel
set_option maxRecDepth 100000 in
theorem ji_107_15 : mj_ins 107 15 = some (.aload_n 1) := by decide +kernel
set_option maxRecDepth 100000 in
theorem ji_107_16 : mj_ins 107 16 = some (.getfield 37) := by decide +kernel
set_option maxRecDepth 100000 in
theorem jf_107_37 : mj_fld 107 37 = some (3, 8, (.array .int), false) := by decide +kernel
set_option maxRecDepth 100000 in
theorem ji_107_19 : mj_ins 107 19 = some (.iconst 0) := by decide +kernel
set_option maxRecDepth 100000 in
theorem ji_107_20 : mj_ins 107 20 = some (.aload_n 0) := by decide +kernel
set_option maxRecDepth 100000 in
theorem ji_107_21 : mj_ins 107 21 = some (.getfield 37) := by decide +kernel
set_option maxRecDepth 100000 in
theorem ji_107_24 : mj_ins 107 24 = some (.iconst 0) := by decide +kernel
set_option maxRecDepth 100000 in
theorem ji_107_25 : mj_ins 107 25 = some (.bipush 48) := by decide +kernel
set_option maxRecDepth 100000 in
theorem ji_107_27 : mj_ins 107 27 = some (.invokestatic 52) := by decide +kernel
set_option maxRecDepth 100000 in
theorem ji_107_30 : mj_ins 107 30 = some (.aload_n 0) := by decide +kernel
set_option maxRecDepth 100000 in
theorem ji_107_31 : mj_ins 107 31 = some (.aload_n 1) := by decide +kernel
set_option maxRecDepth 100000 in
theorem ji_107_32 : mj_ins 107 32 = some (.getfield 40) := by decide +kernel
set_option maxRecDepth 100000 in
theorem jf_107_40 : mj_fld 107 40 = some (3, 9, .int, true) := by decide +kernel
set_option maxRecDepth 100000 in
theorem ji_107_35 : mj_ins 107 35 = some (.putfield 40) := by decide +kernel
set_option maxRecDepth 100000 in
theorem ji_107_38 : mj_ins 107 38 = some (.aload_n 0) := by decide +kernel
set_option maxRecDepth 100000 in
theorem ji_107_39 : mj_ins 107 39 = some (.aload_n 1) := by decide +kernel
set_option maxRecDepth 100000 in
theorem ji_107_40 : mj_ins 107 40 = some (.getfield 43) := by decide +kernel
set_option maxRecDepth 100000 in
theorem jf_107_43 : mj_fld 107 43 = some (3, 10, .int, true) := by decide +kernel
set_option maxRecDepth 100000 in
theorem ji_107_43 : mj_ins 107 43 = some (.putfield 43) := by decide +kernel
set_option maxRecDepth 100000 in
theorem ji_107_46 : mj_ins 107 46 = some (.aload_n 0) := by decide +kernel
set_option maxRecDepth 100000 in
theorem ji_107_47 : mj_ins 107 47 = some (.aload_n 1) := by decide +kernel
set_option maxRecDepth 100000 in
theorem ji_107_48 : mj_ins 107 48 = some (.getfield 46) := by decide +kernel
set_option maxRecDepth 100000 in
theorem jf_107_46 : mj_fld 107 46 = some (3, 11, .int, true) := by decide +kernel
set_option maxRecDepth 100000 in
theorem ji_107_51 : mj_ins 107 51 = some (.putfield 46) := by decide +kernel
set_option maxRecDepth 100000 in
theorem ji_107_54 : mj_ins 107 54 = some (.aload_n 0) := by decide +kernel
set_option maxRecDepth 100000 in
theorem ji_107_55 : mj_ins 107 55 = some (.aload_n 1) := by decide +kernel
set_option maxRecDepth 100000 in
theorem ji_107_56 : mj_ins 107 56 = some (.getfield 49) := by decide +kernel
set_option maxRecDepth 100000 in
theorem jf_107_49 : mj_fld 107 49 = some (3, 12, .int, true) := by decide +kernel
set_option maxRecDepth 100000 in
theorem ji_107_59 : mj_ins 107 59 = some (.putfield 49) := by decide +kernel
set_option maxRecDepth 100000 in
theorem ji_107_62 : mj_ins 107 62 = some (.return_) := by decide +kernel
set_option maxRecDepth 100000 in
theorem jr_107 : mj_ret 107 = none := by decide +kernel
set_option maxRecDepth 100000 in
theorem ji_106_0 : mj_ins 106 0 = some (.aload_n 0) := by decide +kernel
set_option maxRecDepth 100000 in
theorem ji_106_1 : mj_ins 106 1 = some (.aload_n 1) := by decide +kernel
set_option maxRecDepth 100000 in
theorem ji_106_2 : mj_ins 106 2 = some (.getfield 9) := by decide +kernel
set_option maxRecDepth 100000 in
theorem jf_106_9 : mj_fld 106 9 = some (3, 0, .int, true) := by decide +kernel
set_option maxRecDepth 100000 in
theorem ji_106_5 : mj_ins 106 5 = some (.putfield 9) := by decide +kernel
set_option maxRecDepth 100000 in
theorem ji_106_8 : mj_ins 106 8 = some (.aload_n 0) := by decide +kernel
set_option maxRecDepth 100000 in
theorem ji_106_9 : mj_ins 106 9 = some (.aload_n 1) := by decide +kernel
set_option maxRecDepth 100000 in
theorem ji_106_10 : mj_ins 106 10 = some (.getfield 15) := by decide +kernel
set_option maxRecDepth 100000 in
theorem jf_106_15 : mj_fld 106 15 = some (3, 1, .int, true) := by decide +kernel
set_option maxRecDepth 100000 in
theorem ji_106_13 : mj_ins 106 13 = some (.putfield 15) := by decide +kernel
set_option maxRecDepth 100000 in
theorem ji_106_16 : mj_ins 106 16 = some (.aload_n 1) := by decide +kernel
set_option maxRecDepth 100000 in
theorem ji_106_17 : mj_ins 106 17 = some (.getfield 18) := by decide +kernel
set_option maxRecDepth 100000 in
theorem jf_106_18 : mj_fld 106 18 = some (3, 2, (.array .int), false) := by decide +kernel
set_option maxRecDepth 100000 in
theorem ji_106_20 : mj_ins 106 20 = some (.iconst 0) := by decide +kernel
set_option maxRecDepth 100000 in
theorem ji_106_21 : mj_ins 106 21 = some (.aload_n 0) := by decide +kernel
set_option maxRecDepth 100000 in
theorem ji_106_22 : mj_ins 106 22 = some (.getfield 18) := by decide +kernel
set_option maxRecDepth 100000 in
theorem ji_106_25 : mj_ins 106 25 = some (.iconst 0) := by decide +kernel
set_option maxRecDepth 100000 in
theorem ji_106_26 : mj_ins 106 26 = some (.bipush 8) := by decide +kernel
set_option maxRecDepth 100000 in
theorem ji_106_28 : mj_ins 106 28 = some (.invokestatic 52) := by decide +kernel
set_option maxRecDepth 100000 in
theorem jc_106_52 : mj_cal 106 52 = some (20, 0, 0) := by decide +kernel
set_option maxRecDepth 100000 in
theorem ji_106_31 : mj_ins 106 31 = some (.aload_n 1) := by decide +kernel
set_option maxRecDepth 100000 in
theorem ji_106_32 : mj_ins 106 32 = some (.getfield 22) := by decide +kernel
set_option maxRecDepth 100000 in
theorem jf_106_22 : mj_fld 106 22 = some (3, 3, (.array .int), false) := by decide +kernel
set_option maxRecDepth 100000 in
theorem ji_106_35 : mj_ins 106 35 = some (.iconst 0) := by decide +kernel
set_option maxRecDepth 100000 in
theorem ji_106_36 : mj_ins 106 36 = some (.aload_n 0) := by decide +kernel
set_option maxRecDepth 100000 in
theorem ji_106_37 : mj_ins 106 37 = some (.getfield 22) := by decide +kernel
set_option maxRecDepth 100000 in
theorem ji_106_40 : mj_ins 106 40 = some (.iconst 0) := by decide +kernel
set_option maxRecDepth 100000 in
theorem ji_106_41 : mj_ins 106 41 = some (.bipush 8) := by decide +kernel
set_option maxRecDepth 100000 in
theorem ji_106_43 : mj_ins 106 43 = some (.invokestatic 52) := by decide +kernel
set_option maxRecDepth 100000 in
theorem ji_106_46 : mj_ins 106 46 = some (.aload_n 1) := by decide +kernel
set_option maxRecDepth 100000 in
theorem ji_106_47 : mj_ins 106 47 = some (.getfield 25) := by decide +kernel
set_option maxRecDepth 100000 in
theorem jf_106_25 : mj_fld 106 25 = some (3, 4, (.array .int), false) := by decide +kernel
set_option maxRecDepth 100000 in
theorem ji_106_50 : mj_ins 106 50 = some (.iconst 0) := by decide +kernel
set_option maxRecDepth 100000 in
theorem ji_106_51 : mj_ins 106 51 = some (.aload_n 0) := by decide +kernel
set_option maxRecDepth 100000 in
theorem ji_106_52 : mj_ins 106 52 = some (.getfield 25) := by decide +kernel
set_option maxRecDepth 100000 in
theorem ji_106_55 : mj_ins 106 55 = some (.iconst 0) := by decide +kernel
set_option maxRecDepth 100000 in
theorem ji_106_56 : mj_ins 106 56 = some (.bipush 8) := by decide +kernel
set_option maxRecDepth 100000 in
theorem ji_106_58 : mj_ins 106 58 = some (.invokestatic 52) := by decide +kernel
set_option maxRecDepth 100000 in
theorem ji_106_61 : mj_ins 106 61 = some (.aload_n 1) := by decide +kernel
set_option maxRecDepth 100000 in
theorem ji_106_62 : mj_ins 106 62 = some (.getfield 28) := by decide +kernel
set_option maxRecDepth 100000 in
theorem jf_106_28 : mj_fld 106 28 = some (3, 5, (.array .int), false) := by decide +kernel
set_option maxRecDepth 100000 in
theorem ji_106_65 : mj_ins 106 65 = some (.iconst 0) := by decide +kernel
set_option maxRecDepth 100000 in
theorem ji_106_66 : mj_ins 106 66 = some (.aload_n 0) := by decide +kernel
set_option maxRecDepth 100000 in
theorem ji_106_67 : mj_ins 106 67 = some (.getfield 28) := by decide +kernel
set_option maxRecDepth 100000 in
theorem ji_106_70 : mj_ins 106 70 = some (.iconst 0) := by decide +kernel
set_option maxRecDepth 100000 in
theorem ji_106_71 : mj_ins 106 71 = some (.bipush 6) := by decide +kernel
set_option maxRecDepth 100000 in
theorem ji_106_73 : mj_ins 106 73 = some (.invokestatic 52) := by decide +kernel
set_option maxRecDepth 100000 in
theorem ji_106_76 : mj_ins 106 76 = some (.aload_n 1) := by decide +kernel
set_option maxRecDepth 100000 in
theorem ji_106_77 : mj_ins 106 77 = some (.getfield 31) := by decide +kernel
set_option maxRecDepth 100000 in
theorem jf_106_31 : mj_fld 106 31 = some (3, 6, (.array .int), false) := by decide +kernel
set_option maxRecDepth 100000 in
theorem ji_106_80 : mj_ins 106 80 = some (.iconst 0) := by decide +kernel
set_option maxRecDepth 100000 in
theorem ji_106_81 : mj_ins 106 81 = some (.aload_n 0) := by decide +kernel
set_option maxRecDepth 100000 in
theorem ji_106_82 : mj_ins 106 82 = some (.getfield 31) := by decide +kernel
set_option maxRecDepth 100000 in
theorem ji_106_85 : mj_ins 106 85 = some (.iconst 0) := by decide +kernel
set_option maxRecDepth 100000 in
theorem ji_106_86 : mj_ins 106 86 = some (.bipush 6) := by decide +kernel
set_option maxRecDepth 100000 in
theorem ji_106_88 : mj_ins 106 88 = some (.invokestatic 52) := by decide +kernel
set_option maxRecDepth 100000 in
theorem ji_106_91 : mj_ins 106 91 = some (.aload_n 0) := by decide +kernel
set_option maxRecDepth 100000 in
theorem ji_106_92 : mj_ins 106 92 = some (.aload_n 1) := by decide +kernel
set_option maxRecDepth 100000 in
theorem ji_106_93 : mj_ins 106 93 = some (.invokevirtual 58) := by decide +kernel
set_option maxRecDepth 100000 in
theorem jc_106_58 : mj_cal 106 58 = some (2, 107, 1) := by decide +kernel
set_option maxRecDepth 100000 in
theorem jn_107 : mj_nl 107 = 2 := by decide +kernel
set_option maxRecDepth 100000 in
theorem jk_107 : mj_cls 107 = 3 := by decide +kernel
set_option maxRecDepth 100000 in
theorem ji_106_96 : mj_ins 106 96 = some (.return_) := by decide +kernel
set_option maxRecDepth 100000 in
theorem jr_106 : mj_ret 106 = none := by decide +kernel
set_option maxRecDepth 100000 in
theorem ji_162_0 : mj_ins 162 0 = some (.aload_n 1) := by decide +kernel
set_option maxRecDepth 100000 in
theorem ji_162_1 : mj_ins 162 1 = some (.getfield 9) := by decide +kernel
set_option maxRecDepth 100000 in
theorem jf_162_9 : mj_fld 162 9 = some (4, 0, (.array .int), false) := by decide +kernel
set_option maxRecDepth 100000 in
theorem ji_162_4 : mj_ins 162 4 = some (.iconst 0) := by decide +kernel
set_option maxRecDepth 100000 in
theorem ji_162_5 : mj_ins 162 5 = some (.aload_n 0) := by decide +kernel
set_option maxRecDepth 100000 in
theorem ji_162_6 : mj_ins 162 6 = some (.getfield 9) := by decide +kernel
set_option maxRecDepth 100000 in
theorem sq_78 : sh_T[78]? = some (4, [82, 83, 0], 0, 0) := by decide +kernel
set_option maxRecDepth 100000 in
theorem ji_162_9 : mj_ins 162 9 = some (.iconst 0) := by decide +kernel
set_option maxRecDepth 100000 in
theorem ji_162_10 : mj_ins 162 10 = some (.bipush 40) := by decide +kernel
set_option maxRecDepth 100000 in
theorem ji_162_12 : mj_ins 162 12 = some (.invokestatic 20) := by decide +kernel
set_option maxRecDepth 100000 in
theorem jc_162_20 : mj_cal 162 20 = some (20, 0, 0) := by decide +kernel
set_option maxRecDepth 100000 in
theorem sq_79 : sh_T[79]? = some (1000, [], 40, 0) := by decide +kernel
set_option maxRecDepth 100000 in
theorem ji_162_15 : mj_ins 162 15 = some (.aload_n 1) := by decide +kernel
set_option maxRecDepth 100000 in
theorem ji_162_16 : mj_ins 162 16 = some (.getfield 13) := by decide +kernel
set_option maxRecDepth 100000 in
theorem jf_162_13 : mj_fld 162 13 = some (4, 1, (.array .int), false) := by decide +kernel
set_option maxRecDepth 100000 in
theorem ji_162_19 : mj_ins 162 19 = some (.iconst 0) := by decide +kernel
set_option maxRecDepth 100000 in
theorem ji_162_20 : mj_ins 162 20 = some (.aload_n 0) := by decide +kernel
set_option maxRecDepth 100000 in
theorem ji_162_21 : mj_ins 162 21 = some (.getfield 13) := by decide +kernel
set_option maxRecDepth 100000 in
theorem ji_162_24 : mj_ins 162 24 = some (.iconst 0) := by decide +kernel
set_option maxRecDepth 100000 in
theorem ji_162_25 : mj_ins 162 25 = some (.bipush 40) := by decide +kernel
set_option maxRecDepth 100000 in
theorem ji_162_27 : mj_ins 162 27 = some (.invokestatic 20) := by decide +kernel
set_option maxRecDepth 100000 in
theorem sq_80 : sh_T[80]? = some (1000, [], 40, 0) := by decide +kernel
set_option maxRecDepth 100000 in
theorem ji_162_30 : mj_ins 162 30 = some (.aload_n 0) := by decide +kernel
set_option maxRecDepth 100000 in
theorem ji_162_31 : mj_ins 162 31 = some (.aload_n 1) := by decide +kernel
set_option maxRecDepth 100000 in
theorem ji_162_32 : mj_ins 162 32 = some (.getfield 16) := by decide +kernel
set_option maxRecDepth 100000 in
theorem jf_162_16 : mj_fld 162 16 = some (4, 2, .int, true) := by decide +kernel
set_option maxRecDepth 100000 in
theorem ji_162_35 : mj_ins 162 35 = some (.putfield 16) := by decide +kernel
set_option maxRecDepth 100000 in
theorem ji_162_38 : mj_ins 162 38 = some (.return_) := by decide +kernel
set_option maxRecDepth 100000 in
theorem jr_162 : mj_ret 162 = none := by decide +kernel
set_option maxRecDepth 100000 in
theorem ji_163_0 : mj_ins 163 0 = some (.aload_n 1) := by decide +kernel
set_option maxRecDepth 100000 in
theorem ji_163_1 : mj_ins 163 1 = some (.getfield 13) := by decide +kernel
set_option maxRecDepth 100000 in
theorem jf_163_13 : mj_fld 163 13 = some (5, 0, (.array .int), false) := by decide +kernel
set_option maxRecDepth 100000 in
theorem ji_163_4 : mj_ins 163 4 = some (.iconst 0) := by decide +kernel
set_option maxRecDepth 100000 in
theorem ji_163_5 : mj_ins 163 5 = some (.aload_n 0) := by decide +kernel
set_option maxRecDepth 100000 in
theorem ji_163_6 : mj_ins 163 6 = some (.getfield 13) := by decide +kernel
set_option maxRecDepth 100000 in
theorem sq_81 : sh_T[81]? = some (5, [85, 0, 0], 0, 0) := by decide +kernel
set_option maxRecDepth 100000 in
theorem ji_163_9 : mj_ins 163 9 = some (.iconst 0) := by decide +kernel
set_option maxRecDepth 100000 in
theorem ji_163_10 : mj_ins 163 10 = some (.sipush 5700) := by decide +kernel
set_option maxRecDepth 100000 in
theorem ji_163_13 : mj_ins 163 13 = some (.invokestatic 24) := by decide +kernel
set_option maxRecDepth 100000 in
theorem jc_163_24 : mj_cal 163 24 = some (20, 0, 0) := by decide +kernel
set_option maxRecDepth 100000 in
theorem sq_82 : sh_T[82]? = some (1000, [], 5700, 0) := by decide +kernel
set_option maxRecDepth 100000 in
theorem ji_163_16 : mj_ins 163 16 = some (.aload_n 0) := by decide +kernel
set_option maxRecDepth 100000 in
theorem ji_163_17 : mj_ins 163 17 = some (.aload_n 1) := by decide +kernel
set_option maxRecDepth 100000 in
theorem ji_163_18 : mj_ins 163 18 = some (.getfield 17) := by decide +kernel
set_option maxRecDepth 100000 in
theorem jf_163_17 : mj_fld 163 17 = some (5, 1, .int, true) := by decide +kernel
set_option maxRecDepth 100000 in
theorem ji_163_21 : mj_ins 163 21 = some (.putfield 17) := by decide +kernel
set_option maxRecDepth 100000 in
theorem ji_163_24 : mj_ins 163 24 = some (.aload_n 0) := by decide +kernel
set_option maxRecDepth 100000 in
theorem ji_163_25 : mj_ins 163 25 = some (.aload_n 1) := by decide +kernel
set_option maxRecDepth 100000 in
theorem ji_163_26 : mj_ins 163 26 = some (.getfield 21) := by decide +kernel
set_option maxRecDepth 100000 in
theorem jf_163_21 : mj_fld 163 21 = some (5, 2, .int, true) := by decide +kernel
set_option maxRecDepth 100000 in
theorem ji_163_29 : mj_ins 163 29 = some (.putfield 21) := by decide +kernel
set_option maxRecDepth 100000 in
theorem ji_163_32 : mj_ins 163 32 = some (.return_) := by decide +kernel
set_option maxRecDepth 100000 in
theorem jr_163 : mj_ret 163 = none := by decide +kernel
set_option maxRecDepth 100000 in
theorem ji_165_0 : mj_ins 165 0 = some (.aload_n 1) := by decide +kernel
set_option maxRecDepth 100000 in
theorem ji_165_1 : mj_ins 165 1 = some (.getfield 11) := by decide +kernel
set_option maxRecDepth 100000 in
theorem sq_65 : sh_T[65]? = some (7, [69, 70, 71, 0], 0, 0) := by decide +kernel
set_option maxRecDepth 100000 in
theorem jf_165_11 : mj_fld 165 11 = some (7, 0, (.array .int), false) := by decide +kernel
set_option maxRecDepth 100000 in
theorem ji_165_4 : mj_ins 165 4 = some (.iconst 0) := by decide +kernel
set_option maxRecDepth 100000 in
theorem ji_165_5 : mj_ins 165 5 = some (.aload_n 0) := by decide +kernel
set_option maxRecDepth 100000 in
theorem ji_165_6 : mj_ins 165 6 = some (.getfield 11) := by decide +kernel
set_option maxRecDepth 100000 in
theorem sq_87 : sh_T[87]? = some (7, [91, 92, 93, 0], 0, 0) := by decide +kernel
set_option maxRecDepth 100000 in
theorem ji_165_9 : mj_ins 165 9 = some (.iconst 0) := by decide +kernel
set_option maxRecDepth 100000 in
theorem ji_165_10 : mj_ins 165 10 = some (.bipush 10) := by decide +kernel
set_option maxRecDepth 100000 in
theorem ji_165_12 : mj_ins 165 12 = some (.invokestatic 25) := by decide +kernel
set_option maxRecDepth 100000 in
theorem jc_165_25 : mj_cal 165 25 = some (20, 0, 0) := by decide +kernel
set_option maxRecDepth 100000 in
theorem sq_66 : sh_T[66]? = some (1000, [], 10, 0) := by decide +kernel
set_option maxRecDepth 100000 in
theorem sq_88 : sh_T[88]? = some (1000, [], 10, 0) := by decide +kernel
set_option maxRecDepth 100000 in
theorem ji_165_15 : mj_ins 165 15 = some (.aload_n 1) := by decide +kernel
set_option maxRecDepth 100000 in
theorem ji_165_16 : mj_ins 165 16 = some (.getfield 15) := by decide +kernel
set_option maxRecDepth 100000 in
theorem jf_165_15 : mj_fld 165 15 = some (7, 1, (.array .int), false) := by decide +kernel
set_option maxRecDepth 100000 in
theorem ji_165_19 : mj_ins 165 19 = some (.iconst 0) := by decide +kernel
set_option maxRecDepth 100000 in
theorem ji_165_20 : mj_ins 165 20 = some (.aload_n 0) := by decide +kernel
set_option maxRecDepth 100000 in
theorem ji_165_21 : mj_ins 165 21 = some (.getfield 15) := by decide +kernel
set_option maxRecDepth 100000 in
theorem ji_165_24 : mj_ins 165 24 = some (.iconst 0) := by decide +kernel
set_option maxRecDepth 100000 in
theorem ji_165_25 : mj_ins 165 25 = some (.bipush 10) := by decide +kernel
set_option maxRecDepth 100000 in
theorem ji_165_27 : mj_ins 165 27 = some (.invokestatic 25) := by decide +kernel
set_option maxRecDepth 100000 in
theorem sq_67 : sh_T[67]? = some (1000, [], 10, 0) := by decide +kernel
set_option maxRecDepth 100000 in
theorem sq_89 : sh_T[89]? = some (1000, [], 10, 0) := by decide +kernel
set_option maxRecDepth 100000 in
theorem ji_165_30 : mj_ins 165 30 = some (.aload_n 0) := by decide +kernel
set_option maxRecDepth 100000 in
theorem ji_165_31 : mj_ins 165 31 = some (.aload_n 1) := by decide +kernel
set_option maxRecDepth 100000 in
theorem ji_165_32 : mj_ins 165 32 = some (.getfield 21) := by decide +kernel
set_option maxRecDepth 100000 in
theorem jf_165_21 : mj_fld 165 21 = some (7, 3, .int, true) := by decide +kernel
set_option maxRecDepth 100000 in
theorem ji_165_35 : mj_ins 165 35 = some (.putfield 21) := by decide +kernel
set_option maxRecDepth 100000 in
theorem ji_165_38 : mj_ins 165 38 = some (.return_) := by decide +kernel
set_option maxRecDepth 100000 in
theorem jr_165 : mj_ret 165 = none := by decide +kernel
set_option maxRecDepth 100000 in
theorem ji_164_2 : mj_ins 164 2 = some (.iload_n 2) := by decide +kernel
set_option maxRecDepth 100000 in
theorem ji_164_3 : mj_ins 164 3 = some (.bipush 8) := by decide +kernel
set_option maxRecDepth 100000 in
theorem ji_164_5 : mj_ins 164 5 = some (.if_icmp .ge 33) := by decide +kernel
set_option maxRecDepth 100000 in
theorem ji_164_38 : mj_ins 164 38 = some (.aload_n 0) := by decide +kernel
set_option maxRecDepth 100000 in
theorem ji_164_39 : mj_ins 164 39 = some (.aload_n 1) := by decide +kernel
set_option maxRecDepth 100000 in
theorem ji_164_40 : mj_ins 164 40 = some (.getfield 22) := by decide +kernel
set_option maxRecDepth 100000 in
theorem sq_61 : sh_T[61]? = some (6, [65, 66, 67, 0], 0, 0) := by decide +kernel
set_option maxRecDepth 100000 in
theorem jf_164_22 : mj_fld 164 22 = some (6, 3, .int, true) := by decide +kernel
set_option maxRecDepth 100000 in
theorem ji_164_43 : mj_ins 164 43 = some (.putfield 22) := by decide +kernel
set_option maxRecDepth 100000 in
theorem sq_83 : sh_T[83]? = some (6, [87, 88, 89, 0], 0, 0) := by decide +kernel
set_option maxRecDepth 100000 in
theorem ji_164_46 : mj_ins 164 46 = some (.return_) := by decide +kernel
set_option maxRecDepth 100000 in
theorem jr_164 : mj_ret 164 = none := by decide +kernel
set_option maxRecDepth 100000 in
theorem ji_164_8 : mj_ins 164 8 = some (.aload_n 0) := by decide +kernel
set_option maxRecDepth 100000 in
theorem ji_164_9 : mj_ins 164 9 = some (.getfield 11) := by decide +kernel
set_option maxRecDepth 100000 in
theorem jf_164_11 : mj_fld 164 11 = some (6, 0, (.array .int), false) := by decide +kernel
set_option maxRecDepth 100000 in
theorem ji_164_12 : mj_ins 164 12 = some (.iload_n 2) := by decide +kernel
set_option maxRecDepth 100000 in
theorem ji_164_13 : mj_ins 164 13 = some (.aload_n 1) := by decide +kernel
set_option maxRecDepth 100000 in
theorem ji_164_14 : mj_ins 164 14 = some (.getfield 11) := by decide +kernel
set_option maxRecDepth 100000 in
theorem ji_164_17 : mj_ins 164 17 = some (.iload_n 2) := by decide +kernel
set_option maxRecDepth 100000 in
theorem ji_164_18 : mj_ins 164 18 = some (.iaload) := by decide +kernel
set_option maxRecDepth 100000 in
theorem sq_62 : sh_T[62]? = some (1000, [], 8, 0) := by decide +kernel
set_option maxRecDepth 100000 in
theorem ji_164_19 : mj_ins 164 19 = some (.iastore) := by decide +kernel
set_option maxRecDepth 100000 in
theorem sq_84 : sh_T[84]? = some (1000, [], 8, 0) := by decide +kernel
set_option maxRecDepth 100000 in
theorem ji_164_20 : mj_ins 164 20 = some (.aload_n 0) := by decide +kernel
set_option maxRecDepth 100000 in
theorem ji_164_21 : mj_ins 164 21 = some (.getfield 15) := by decide +kernel
set_option maxRecDepth 100000 in
theorem jf_164_15 : mj_fld 164 15 = some (6, 1, (.array .boolean), false) := by decide +kernel
set_option maxRecDepth 100000 in
theorem ji_164_24 : mj_ins 164 24 = some (.iload_n 2) := by decide +kernel
set_option maxRecDepth 100000 in
theorem ji_164_25 : mj_ins 164 25 = some (.aload_n 1) := by decide +kernel
set_option maxRecDepth 100000 in
theorem ji_164_26 : mj_ins 164 26 = some (.getfield 15) := by decide +kernel
set_option maxRecDepth 100000 in
theorem ji_164_29 : mj_ins 164 29 = some (.iload_n 2) := by decide +kernel
set_option maxRecDepth 100000 in
theorem ji_164_30 : mj_ins 164 30 = some (.baload) := by decide +kernel
set_option maxRecDepth 100000 in
theorem sq_63 : sh_T[63]? = some (1001, [], 8, 0) := by decide +kernel
set_option maxRecDepth 100000 in
theorem ji_164_31 : mj_ins 164 31 = some (.bastore) := by decide +kernel
set_option maxRecDepth 100000 in
theorem sq_85 : sh_T[85]? = some (1001, [], 8, 0) := by decide +kernel
set_option maxRecDepth 100000 in
theorem ji_164_32 : mj_ins 164 32 = some (.iinc 2 1) := by decide +kernel
set_option maxRecDepth 100000 in
theorem ji_164_35 : mj_ins 164 35 = some (.goto (-33)) := by decide +kernel
set_option maxRecDepth 100000 in
theorem ji_164_0 : mj_ins 164 0 = some (.iconst 0) := by decide +kernel
set_option maxRecDepth 100000 in
theorem ji_164_1 : mj_ins 164 1 = some (.istore_n 2) := by decide +kernel
/-! states copied, in the class; laid by program (wp_u59.py) -/
section CSB
variable {nn d m pc : Nat} {lv : mj_L} {st : List Value} {h : mj_H} {Q : Option Value → mj_H → Prop} {s : sg_}
theorem cs_lb {a n : Nat} {x : Int} (C : CS h s) (ha : 0 < a) (h10 : ¬ scr a) (hq : sh_T[a]? = some (1001, [], n, 0)) (hx : wp_r x) (hi : mj_ins m pc = some .baload) (hr : 0 ≤ x → x < n → wp_r (s a x) → wl_R nn d m (pc + 1) lv (wp_i (s a x) :: st) h Q) : wl_R nn d m pc lv (wp_i x :: .ref a :: st) h Q := by
  obtain ⟨s1, C, f⟩ := C
  rw [← f a x h10] at hr
  exact c0_lb C ha hq hx hi hr
theorem cs_sb {a n : Nat} {x y : Int} (C : CS h s) (ha : 0 < a) (hq : sh_T[a]? = some (1001, [], n, 0)) (hx : wp_r x) (hy : y = 0 ∨ y = 1) (hi : mj_ins m pc = some .bastore) (hr : ∀ h1, 0 ≤ x → x < n → CS h1 (up s a x y) → wl_R nn d m (pc + 1) lv st h1 Q) : wl_R nn d m pc lv (wp_i y :: wp_i x :: .ref a :: st) h Q := by
  obtain ⟨s1, C, f⟩ := C
  exact c0_sb C ha hq hx hy hi (fun h1 p1 p2 C1 => hr h1 p1 p2 ⟨_, C1, off_up f _ _ _⟩)
end CSB
theorem uc_107 {nn d : Nat} {h : mj_H} {s : sg_} (C : CS h s) {F E : Nat} (hF : isF F) (hE : isF E) (hd : F + 7 < E ∨ E + 7 < F)  : wl_R nn d 107 0 [some (.ref F), some (.ref E)] [] h (fun v1 h1 => v1 = none ∧ ∃ t, CS h1 t ∧ (∀ j, 0 ≤ j → j < 48 → t (F + 6) j = s (E + 6) j) ∧ (∀ j, 0 ≤ j → j < 48 → t (F + 7) j = s (E + 7) j) ∧ t F 9 = s E 9 ∧ t F 10 = s E 10 ∧ t F 11 = s E 11 ∧ t F 12 = s E 12 ∧ ∀ (b : Nat) (j : Int), ¬ (b = F ∧ 9 ≤ j ∧ j ≤ 12) → ¬ b = F + 6 → ¬ b = F + 7 → t b j = s b j) := by
  refine wl_s (pc' := 1) ji_107_0 rfl rfl rfl ?_
  refine cs_gr (r := E + 6) (k := 7) C (Nat.lt_of_lt_of_le (by decide) hE.1) hE.2.1 rfl ji_107_1 jf_107_34 ?_
  refine wl_s (pc' := 5) ji_107_4 rfl rfl rfl ?_
  refine wl_s (pc' := 6) ji_107_5 rfl rfl rfl ?_
  refine cs_gr (r := F + 6) (k := 7) C (Nat.lt_of_lt_of_le (by decide) hF.1) hF.2.1 rfl ji_107_6 jf_107_34 ?_
  refine wl_s (pc' := 10) ji_107_9 rfl rfl rfl ?_
  refine wl_bp ji_107_10 rfl ?_
  refine cs_cp (sp := 0) (dp := 0) (n := 48) C (isF_n hE 6 (by decide)) hE.2.2.2.2.2.2.2.1 hF.2.2.2.2.2.2.2.1 (Nat.lt_of_lt_of_le (by decide) (Nat.le_trans hE.1 (Nat.le_add_right _ _))) (Nat.lt_of_lt_of_le (by decide) (Nat.le_trans hF.1 (Nat.le_add_right _ _))) (by omega) (by omega) (by omega) ji_107_12 jc_107_52 (fun h cp1 C => ?_)
  obtain ⟨s2, es2⟩ : ∃ z9_, cpy s (E + 6) 0 (F + 6) 0 48 = z9_ := ⟨_, rfl⟩
  rw [es2] at C
  refine wl_s (pc' := 16) ji_107_15 rfl rfl rfl ?_
  refine cs_gr (r := E + 7) (k := 8) C (Nat.lt_of_lt_of_le (by decide) hE.1) hE.2.1 rfl ji_107_16 jf_107_37 ?_
  refine wl_s (pc' := 20) ji_107_19 rfl rfl rfl ?_
  refine wl_s (pc' := 21) ji_107_20 rfl rfl rfl ?_
  refine cs_gr (r := F + 7) (k := 8) C (Nat.lt_of_lt_of_le (by decide) hF.1) hF.2.1 rfl ji_107_21 jf_107_37 ?_
  refine wl_s (pc' := 25) ji_107_24 rfl rfl rfl ?_
  refine wl_bp ji_107_25 rfl ?_
  refine cs_cp (sp := 0) (dp := 0) (n := 48) C (isF_n hE 7 (by decide)) hE.2.2.2.2.2.2.2.2.1 hF.2.2.2.2.2.2.2.2.1 (Nat.lt_of_lt_of_le (by decide) (Nat.le_trans hE.1 (Nat.le_add_right _ _))) (Nat.lt_of_lt_of_le (by decide) (Nat.le_trans hF.1 (Nat.le_add_right _ _))) (by omega) (by omega) (by omega) ji_107_27 jc_107_52 (fun h cp3 C => ?_)
  obtain ⟨s4, es4⟩ : ∃ z9_, cpy s2 (E + 7) 0 (F + 7) 0 48 = z9_ := ⟨_, rfl⟩
  rw [es4] at C
  refine wl_s (pc' := 31) ji_107_30 rfl rfl rfl ?_
  refine wl_s (pc' := 32) ji_107_31 rfl rfl rfl ?_
  refine cs_gi (k := 9) (kI := 9) C (Nat.lt_of_lt_of_le (by decide) hE.1) (isF_n hE 0 (by decide)) hE.2.1 rfl rfl ji_107_32 jf_107_40 ?_
  have rd5 : s4 E 9 = s E 9 := by rw [← es4]; show (if _ then _ else _) = _; rw [if_neg (fun z9_ => absurd z9_.1 (by omega))]; rw [← es2]; show (if _ then _ else _) = _; rw [if_neg (fun z9_ => absurd z9_.1 (by omega))]
  rw [rd5]
  have bd6 : wp_r (s E 9) := rd5 ▸ cs_ri (k := 9) (kI := 9) C (Nat.lt_of_lt_of_le (by decide) hE.1) (isF_n hE 0 (by decide)) hE.2.1 rfl rfl (show 9 < 13 by decide)
  refine cs_pi (k := 9) (kI := 9) (y := s E 9) C hF.1 hF.2.1 rfl rfl ji_107_35 jf_107_40 rfl rfl (by omega) (fun h C => ?_)
  obtain ⟨s7, es7⟩ : ∃ z9_, up s4 F 9 (s E 9) = z9_ := ⟨_, rfl⟩
  rw [es7] at C
  refine wl_s (pc' := 39) ji_107_38 rfl rfl rfl ?_
  refine wl_s (pc' := 40) ji_107_39 rfl rfl rfl ?_
  refine cs_gi (k := 10) (kI := 10) C (Nat.lt_of_lt_of_le (by decide) hE.1) (isF_n hE 0 (by decide)) hE.2.1 rfl rfl ji_107_40 jf_107_43 ?_
  have rd8 : s7 E 10 = s E 10 := by rw [← es7, up_a (by omega)]; rw [← es4]; show (if _ then _ else _) = _; rw [if_neg (fun z9_ => absurd z9_.1 (by omega))]; rw [← es2]; show (if _ then _ else _) = _; rw [if_neg (fun z9_ => absurd z9_.1 (by omega))]
  rw [rd8]
  have bd9 : wp_r (s E 10) := rd8 ▸ cs_ri (k := 10) (kI := 10) C (Nat.lt_of_lt_of_le (by decide) hE.1) (isF_n hE 0 (by decide)) hE.2.1 rfl rfl (show 10 < 13 by decide)
  refine cs_pi (k := 10) (kI := 10) (y := s E 10) C hF.1 hF.2.1 rfl rfl ji_107_43 jf_107_43 rfl rfl (by omega) (fun h C => ?_)
  obtain ⟨s10, es10⟩ : ∃ z9_, up s7 F 10 (s E 10) = z9_ := ⟨_, rfl⟩
  rw [es10] at C
  refine wl_s (pc' := 47) ji_107_46 rfl rfl rfl ?_
  refine wl_s (pc' := 48) ji_107_47 rfl rfl rfl ?_
  refine cs_gi (k := 11) (kI := 11) C (Nat.lt_of_lt_of_le (by decide) hE.1) (isF_n hE 0 (by decide)) hE.2.1 rfl rfl ji_107_48 jf_107_46 ?_
  have rd11 : s10 E 11 = s E 11 := by rw [← es10, up_a (by omega)]; rw [← es7, up_a (by omega)]; rw [← es4]; show (if _ then _ else _) = _; rw [if_neg (fun z9_ => absurd z9_.1 (by omega))]; rw [← es2]; show (if _ then _ else _) = _; rw [if_neg (fun z9_ => absurd z9_.1 (by omega))]
  rw [rd11]
  have bd12 : wp_r (s E 11) := rd11 ▸ cs_ri (k := 11) (kI := 11) C (Nat.lt_of_lt_of_le (by decide) hE.1) (isF_n hE 0 (by decide)) hE.2.1 rfl rfl (show 11 < 13 by decide)
  refine cs_pi (k := 11) (kI := 11) (y := s E 11) C hF.1 hF.2.1 rfl rfl ji_107_51 jf_107_46 rfl rfl (by omega) (fun h C => ?_)
  obtain ⟨s13, es13⟩ : ∃ z9_, up s10 F 11 (s E 11) = z9_ := ⟨_, rfl⟩
  rw [es13] at C
  refine wl_s (pc' := 55) ji_107_54 rfl rfl rfl ?_
  refine wl_s (pc' := 56) ji_107_55 rfl rfl rfl ?_
  refine cs_gi (k := 12) (kI := 12) C (Nat.lt_of_lt_of_le (by decide) hE.1) (isF_n hE 0 (by decide)) hE.2.1 rfl rfl ji_107_56 jf_107_49 ?_
  have rd14 : s13 E 12 = s E 12 := by rw [← es13, up_a (by omega)]; rw [← es10, up_a (by omega)]; rw [← es7, up_a (by omega)]; rw [← es4]; show (if _ then _ else _) = _; rw [if_neg (fun z9_ => absurd z9_.1 (by omega))]; rw [← es2]; show (if _ then _ else _) = _; rw [if_neg (fun z9_ => absurd z9_.1 (by omega))]
  rw [rd14]
  have bd15 : wp_r (s E 12) := rd14 ▸ cs_ri (k := 12) (kI := 12) C (Nat.lt_of_lt_of_le (by decide) hE.1) (isF_n hE 0 (by decide)) hE.2.1 rfl rfl (show 12 < 13 by decide)
  refine cs_pi (k := 12) (kI := 12) (y := s E 12) C hF.1 hF.2.1 rfl rfl ji_107_59 jf_107_49 rfl rfl (by omega) (fun h C => ?_)
  obtain ⟨s16, es16⟩ : ∃ z9_, up s13 F 12 (s E 12) = z9_ := ⟨_, rfl⟩
  rw [es16] at C
  exact wl_rv ji_107_62 jr_107 ((by { subst es16; subst es13; subst es10; subst es7; subst es4; subst es2; exact ⟨rfl, _, C, fun j a b => by { unfold up cpy; (repeat (first | rw [if_neg (by omega)] | rw [if_pos (by omega)] | dsimp only)); (try simp only [Int.sub_zero, Int.add_zero]) }, fun j a b => by { unfold up cpy; (repeat (first | rw [if_neg (by omega)] | rw [if_pos (by omega)] | dsimp only)); (try simp only [Int.sub_zero, Int.add_zero]) }, by { unfold up cpy; (repeat (first | rw [if_neg (by omega)] | rw [if_pos (by omega)] | dsimp only)); (try simp only [Int.sub_zero, Int.add_zero]) }, by { unfold up cpy; (repeat (first | rw [if_neg (by omega)] | rw [if_pos (by omega)] | dsimp only)); (try simp only [Int.sub_zero, Int.add_zero]) }, by { unfold up cpy; (repeat (first | rw [if_neg (by omega)] | rw [if_pos (by omega)] | dsimp only)); (try simp only [Int.sub_zero, Int.add_zero]) }, by { unfold up cpy; (repeat (first | rw [if_neg (by omega)] | rw [if_pos (by omega)] | dsimp only)); (try simp only [Int.sub_zero, Int.add_zero]) }, fun b j a0 a1 a2 => by { unfold up cpy; (repeat (first | rw [if_neg (by omega)] | rw [if_pos (by omega)] | dsimp only)); (try simp only [Int.sub_zero, Int.add_zero]) }⟩ }))
theorem uc_106 {nn d : Nat} {h : mj_H} {s : sg_} (C : CS h s) {F E : Nat} (hF : isF F) (hE : isF E) (hd : F + 7 < E ∨ E + 7 < F)  : wl_R nn (d + 1) 106 0 [some (.ref F), some (.ref E)] [] h (fun v1 h1 => v1 = none ∧ ∃ t, CS h1 t ∧ (t F 0 = s E 0 ∧ t F 1 = s E 1) ∧ (∀ j, 0 ≤ j → j < 8 → t (F + 1) j = s (E + 1) j ∧ t (F + 2) j = s (E + 2) j ∧ t (F + 3) j = s (E + 3) j) ∧ (∀ j, 0 ≤ j → j < 6 → t (F + 4) j = s (E + 4) j ∧ t (F + 5) j = s (E + 5) j) ∧ (∀ j, 0 ≤ j → j < 48 → t (F + 6) j = s (E + 6) j ∧ t (F + 7) j = s (E + 7) j) ∧ (t F 9 = s E 9 ∧ t F 10 = s E 10 ∧ t F 11 = s E 11 ∧ t F 12 = s E 12) ∧ ∀ (b : Nat) (j : Int), ¬ (F ≤ b ∧ b ≤ F + 7) → t b j = s b j) := by
  refine wl_s (pc' := 1) ji_106_0 rfl rfl rfl ?_
  refine wl_s (pc' := 2) ji_106_1 rfl rfl rfl ?_
  refine cs_gi (k := 0) (kI := 0) C (Nat.lt_of_lt_of_le (by decide) hE.1) (isF_n hE 0 (by decide)) hE.2.1 rfl rfl ji_106_2 jf_106_9 ?_
  have bd1 : wp_r (s E 0) := cs_ri (k := 0) (kI := 0) C (Nat.lt_of_lt_of_le (by decide) hE.1) (isF_n hE 0 (by decide)) hE.2.1 rfl rfl (show 0 < 13 by decide)
  refine cs_pi (k := 0) (kI := 0) (y := s E 0) C hF.1 hF.2.1 rfl rfl ji_106_5 jf_106_9 rfl rfl (by omega) (fun h C => ?_)
  obtain ⟨s2, es2⟩ : ∃ z9_, up s F 0 (s E 0) = z9_ := ⟨_, rfl⟩
  rw [es2] at C
  refine wl_s (pc' := 9) ji_106_8 rfl rfl rfl ?_
  refine wl_s (pc' := 10) ji_106_9 rfl rfl rfl ?_
  refine cs_gi (k := 1) (kI := 1) C (Nat.lt_of_lt_of_le (by decide) hE.1) (isF_n hE 0 (by decide)) hE.2.1 rfl rfl ji_106_10 jf_106_15 ?_
  have rd3 : s2 E 1 = s E 1 := by rw [← es2, up_a (by omega)]
  rw [rd3]
  have bd4 : wp_r (s E 1) := rd3 ▸ cs_ri (k := 1) (kI := 1) C (Nat.lt_of_lt_of_le (by decide) hE.1) (isF_n hE 0 (by decide)) hE.2.1 rfl rfl (show 1 < 13 by decide)
  refine cs_pi (k := 1) (kI := 1) (y := s E 1) C hF.1 hF.2.1 rfl rfl ji_106_13 jf_106_15 rfl rfl (by omega) (fun h C => ?_)
  obtain ⟨s5, es5⟩ : ∃ z9_, up s2 F 1 (s E 1) = z9_ := ⟨_, rfl⟩
  rw [es5] at C
  refine wl_s (pc' := 17) ji_106_16 rfl rfl rfl ?_
  refine cs_gr (r := E + 1) (k := 2) C (Nat.lt_of_lt_of_le (by decide) hE.1) hE.2.1 rfl ji_106_17 jf_106_18 ?_
  refine wl_s (pc' := 21) ji_106_20 rfl rfl rfl ?_
  refine wl_s (pc' := 22) ji_106_21 rfl rfl rfl ?_
  refine cs_gr (r := F + 1) (k := 2) C (Nat.lt_of_lt_of_le (by decide) hF.1) hF.2.1 rfl ji_106_22 jf_106_18 ?_
  refine wl_s (pc' := 26) ji_106_25 rfl rfl rfl ?_
  refine wl_bp ji_106_26 rfl ?_
  refine cs_cp (sp := 0) (dp := 0) (n := 8) C (isF_n hE 1 (by decide)) hE.2.2.1 hF.2.2.1 (Nat.lt_of_lt_of_le (by decide) (Nat.le_trans hE.1 (Nat.le_add_right _ _))) (Nat.lt_of_lt_of_le (by decide) (Nat.le_trans hF.1 (Nat.le_add_right _ _))) (by omega) (by omega) (by omega) ji_106_28 jc_106_52 (fun h cp6 C => ?_)
  obtain ⟨s7, es7⟩ : ∃ z9_, cpy s5 (E + 1) 0 (F + 1) 0 8 = z9_ := ⟨_, rfl⟩
  rw [es7] at C
  refine wl_s (pc' := 32) ji_106_31 rfl rfl rfl ?_
  refine cs_gr (r := E + 2) (k := 3) C (Nat.lt_of_lt_of_le (by decide) hE.1) hE.2.1 rfl ji_106_32 jf_106_22 ?_
  refine wl_s (pc' := 36) ji_106_35 rfl rfl rfl ?_
  refine wl_s (pc' := 37) ji_106_36 rfl rfl rfl ?_
  refine cs_gr (r := F + 2) (k := 3) C (Nat.lt_of_lt_of_le (by decide) hF.1) hF.2.1 rfl ji_106_37 jf_106_22 ?_
  refine wl_s (pc' := 41) ji_106_40 rfl rfl rfl ?_
  refine wl_bp ji_106_41 rfl ?_
  refine cs_cp (sp := 0) (dp := 0) (n := 8) C (isF_n hE 2 (by decide)) hE.2.2.2.1 hF.2.2.2.1 (Nat.lt_of_lt_of_le (by decide) (Nat.le_trans hE.1 (Nat.le_add_right _ _))) (Nat.lt_of_lt_of_le (by decide) (Nat.le_trans hF.1 (Nat.le_add_right _ _))) (by omega) (by omega) (by omega) ji_106_43 jc_106_52 (fun h cp8 C => ?_)
  obtain ⟨s9, es9⟩ : ∃ z9_, cpy s7 (E + 2) 0 (F + 2) 0 8 = z9_ := ⟨_, rfl⟩
  rw [es9] at C
  refine wl_s (pc' := 47) ji_106_46 rfl rfl rfl ?_
  refine cs_gr (r := E + 3) (k := 4) C (Nat.lt_of_lt_of_le (by decide) hE.1) hE.2.1 rfl ji_106_47 jf_106_25 ?_
  refine wl_s (pc' := 51) ji_106_50 rfl rfl rfl ?_
  refine wl_s (pc' := 52) ji_106_51 rfl rfl rfl ?_
  refine cs_gr (r := F + 3) (k := 4) C (Nat.lt_of_lt_of_le (by decide) hF.1) hF.2.1 rfl ji_106_52 jf_106_25 ?_
  refine wl_s (pc' := 56) ji_106_55 rfl rfl rfl ?_
  refine wl_bp ji_106_56 rfl ?_
  refine cs_cp (sp := 0) (dp := 0) (n := 8) C (isF_n hE 3 (by decide)) hE.2.2.2.2.1 hF.2.2.2.2.1 (Nat.lt_of_lt_of_le (by decide) (Nat.le_trans hE.1 (Nat.le_add_right _ _))) (Nat.lt_of_lt_of_le (by decide) (Nat.le_trans hF.1 (Nat.le_add_right _ _))) (by omega) (by omega) (by omega) ji_106_58 jc_106_52 (fun h cp10 C => ?_)
  obtain ⟨s11, es11⟩ : ∃ z9_, cpy s9 (E + 3) 0 (F + 3) 0 8 = z9_ := ⟨_, rfl⟩
  rw [es11] at C
  refine wl_s (pc' := 62) ji_106_61 rfl rfl rfl ?_
  refine cs_gr (r := E + 4) (k := 5) C (Nat.lt_of_lt_of_le (by decide) hE.1) hE.2.1 rfl ji_106_62 jf_106_28 ?_
  refine wl_s (pc' := 66) ji_106_65 rfl rfl rfl ?_
  refine wl_s (pc' := 67) ji_106_66 rfl rfl rfl ?_
  refine cs_gr (r := F + 4) (k := 5) C (Nat.lt_of_lt_of_le (by decide) hF.1) hF.2.1 rfl ji_106_67 jf_106_28 ?_
  refine wl_s (pc' := 71) ji_106_70 rfl rfl rfl ?_
  refine wl_bp ji_106_71 rfl ?_
  refine cs_cp (sp := 0) (dp := 0) (n := 6) C (isF_n hE 4 (by decide)) hE.2.2.2.2.2.1 hF.2.2.2.2.2.1 (Nat.lt_of_lt_of_le (by decide) (Nat.le_trans hE.1 (Nat.le_add_right _ _))) (Nat.lt_of_lt_of_le (by decide) (Nat.le_trans hF.1 (Nat.le_add_right _ _))) (by omega) (by omega) (by omega) ji_106_73 jc_106_52 (fun h cp12 C => ?_)
  obtain ⟨s13, es13⟩ : ∃ z9_, cpy s11 (E + 4) 0 (F + 4) 0 6 = z9_ := ⟨_, rfl⟩
  rw [es13] at C
  refine wl_s (pc' := 77) ji_106_76 rfl rfl rfl ?_
  refine cs_gr (r := E + 5) (k := 6) C (Nat.lt_of_lt_of_le (by decide) hE.1) hE.2.1 rfl ji_106_77 jf_106_31 ?_
  refine wl_s (pc' := 81) ji_106_80 rfl rfl rfl ?_
  refine wl_s (pc' := 82) ji_106_81 rfl rfl rfl ?_
  refine cs_gr (r := F + 5) (k := 6) C (Nat.lt_of_lt_of_le (by decide) hF.1) hF.2.1 rfl ji_106_82 jf_106_31 ?_
  refine wl_s (pc' := 86) ji_106_85 rfl rfl rfl ?_
  refine wl_bp ji_106_86 rfl ?_
  refine cs_cp (sp := 0) (dp := 0) (n := 6) C (isF_n hE 5 (by decide)) hE.2.2.2.2.2.2.1 hF.2.2.2.2.2.2.1 (Nat.lt_of_lt_of_le (by decide) (Nat.le_trans hE.1 (Nat.le_add_right _ _))) (Nat.lt_of_lt_of_le (by decide) (Nat.le_trans hF.1 (Nat.le_add_right _ _))) (by omega) (by omega) (by omega) ji_106_88 jc_106_52 (fun h cp14 C => ?_)
  obtain ⟨s15, es15⟩ : ∃ z9_, cpy s13 (E + 5) 0 (F + 5) 0 6 = z9_ := ⟨_, rfl⟩
  rw [es15] at C
  refine wl_s (pc' := 92) ji_106_91 rfl rfl rfl ?_
  refine wl_s (pc' := 93) ji_106_92 rfl rfl rfl ?_
  obtain ⟨q17, hq17⟩ := cs_c C (Nat.lt_of_lt_of_le (by decide) hF.1) hF.2.1
  refine wl_vc (d := d) (as := [.ref F, .ref E]) (rest := []) ji_106_93 jc_106_58 rfl hq17 jk_107.symm (Nat.le_of_ble_eq_true rfl) rfl (by rw [jn_107]; rfl) (uc_107 (d := d) C hF hE hd) (fun v1 h16 R => ?_)
  obtain ⟨rfl, t, C, m6, m7, m9, m10, m11, m12, mf⟩ := R
  show wl_R _ _ 106 96 [some (.ref F), some (.ref E)] [] h16 _
  exact wl_rv ji_106_96 jr_106 ((by { have CK9 := C; subst es15; subst es13; subst es11; subst es9; subst es7; subst es5; subst es2; exact ⟨rfl, t, CK9, ⟨by { clear m6 m7 m9 m10 m11 m12; rw [mf _ _ (by omega) (by omega) (by omega)]; clear mf; unfold up cpy; (repeat (first | rw [if_neg (by omega)] | rw [if_pos (by omega)] | dsimp only)); (try simp only [Int.sub_zero, Int.add_zero]) }, by { clear m6 m7 m9 m10 m11 m12; rw [mf _ _ (by omega) (by omega) (by omega)]; clear mf; unfold up cpy; (repeat (first | rw [if_neg (by omega)] | rw [if_pos (by omega)] | dsimp only)); (try simp only [Int.sub_zero, Int.add_zero]) }⟩, fun j a b => ⟨by { clear m6 m7 m9 m10 m11 m12; rw [mf _ _ (by omega) (by omega) (by omega)]; clear mf; unfold up cpy; (repeat (first | rw [if_neg (by omega)] | rw [if_pos (by omega)] | dsimp only)); (try simp only [Int.sub_zero, Int.add_zero]) }, by { clear m6 m7 m9 m10 m11 m12; rw [mf _ _ (by omega) (by omega) (by omega)]; clear mf; unfold up cpy; (repeat (first | rw [if_neg (by omega)] | rw [if_pos (by omega)] | dsimp only)); (try simp only [Int.sub_zero, Int.add_zero]) }, by { clear m6 m7 m9 m10 m11 m12; rw [mf _ _ (by omega) (by omega) (by omega)]; clear mf; unfold up cpy; (repeat (first | rw [if_neg (by omega)] | rw [if_pos (by omega)] | dsimp only)); (try simp only [Int.sub_zero, Int.add_zero]) }⟩, fun j a b => ⟨by { clear m6 m7 m9 m10 m11 m12; rw [mf _ _ (by omega) (by omega) (by omega)]; clear mf; unfold up cpy; (repeat (first | rw [if_neg (by omega)] | rw [if_pos (by omega)] | dsimp only)); (try simp only [Int.sub_zero, Int.add_zero]) }, by { clear m6 m7 m9 m10 m11 m12; rw [mf _ _ (by omega) (by omega) (by omega)]; clear mf; unfold up cpy; (repeat (first | rw [if_neg (by omega)] | rw [if_pos (by omega)] | dsimp only)); (try simp only [Int.sub_zero, Int.add_zero]) }⟩, fun j a b => ⟨by { rw [m6 j a b]; clear m6 m7 m9 m10 m11 m12 mf; unfold up cpy; (repeat (first | rw [if_neg (by omega)] | rw [if_pos (by omega)] | dsimp only)); (try simp only [Int.sub_zero, Int.add_zero]) }, by { rw [m7 j a b]; clear m6 m7 m9 m10 m11 m12 mf; unfold up cpy; (repeat (first | rw [if_neg (by omega)] | rw [if_pos (by omega)] | dsimp only)); (try simp only [Int.sub_zero, Int.add_zero]) }⟩, ⟨by { rw [m9]; clear m6 m7 m9 m10 m11 m12 mf; unfold up cpy; (repeat (first | rw [if_neg (by omega)] | rw [if_pos (by omega)] | dsimp only)); (try simp only [Int.sub_zero, Int.add_zero]) }, by { rw [m10]; clear m6 m7 m9 m10 m11 m12 mf; unfold up cpy; (repeat (first | rw [if_neg (by omega)] | rw [if_pos (by omega)] | dsimp only)); (try simp only [Int.sub_zero, Int.add_zero]) }, by { rw [m11]; clear m6 m7 m9 m10 m11 m12 mf; unfold up cpy; (repeat (first | rw [if_neg (by omega)] | rw [if_pos (by omega)] | dsimp only)); (try simp only [Int.sub_zero, Int.add_zero]) }, by { rw [m12]; clear m6 m7 m9 m10 m11 m12 mf; unfold up cpy; (repeat (first | rw [if_neg (by omega)] | rw [if_pos (by omega)] | dsimp only)); (try simp only [Int.sub_zero, Int.add_zero]) }⟩, fun b j a => by { clear m6 m7 m9 m10 m11 m12; rw [mf _ _ (by omega) (by omega) (by omega)]; clear mf; unfold up cpy; (repeat (first | rw [if_neg (by omega)] | rw [if_pos (by omega)] | dsimp only)); (try simp only [Int.sub_zero, Int.add_zero]) }⟩ }))
theorem uc_162a {nn d : Nat} {h : mj_H} {s : sg_} (C : CS h s)  : wl_R nn d 162 0 [some (.ref 78), some (.ref 56)] [] h (fun v1 h1 => v1 = none ∧ ∃ t, CS h1 t ∧ (∀ j, 0 ≤ j → j < 40 → t 79 j = s 57 j) ∧ (∀ j, 0 ≤ j → j < 40 → t 80 j = s 58 j) ∧ t 78 2 = s 56 2 ∧ ∀ (b : Nat) (j : Int), ¬ (78 ≤ b ∧ b ≤ 80) → t b j = s b j) := by
  refine wl_s (pc' := 1) ji_162_0 rfl rfl rfl ?_
  refine cs_gr (r := 57) (k := 0) C (by decide) sq_56 rfl ji_162_1 jf_162_9 ?_
  refine wl_s (pc' := 5) ji_162_4 rfl rfl rfl ?_
  refine wl_s (pc' := 6) ji_162_5 rfl rfl rfl ?_
  refine cs_gr (r := 79) (k := 0) C (by decide) sq_78 rfl ji_162_6 jf_162_9 ?_
  refine wl_s (pc' := 10) ji_162_9 rfl rfl rfl ?_
  refine wl_bp ji_162_10 rfl ?_
  refine cs_cp (sp := 0) (dp := 0) (n := 40) C (by decide) sq_57 sq_79 (by decide) (by decide) (by omega) (by omega) (by omega) ji_162_12 jc_162_20 (fun h cp1 C => ?_)
  obtain ⟨s2, es2⟩ : ∃ z9_, cpy s 57 0 79 0 40 = z9_ := ⟨_, rfl⟩
  rw [es2] at C
  refine wl_s (pc' := 16) ji_162_15 rfl rfl rfl ?_
  refine cs_gr (r := 58) (k := 1) C (by decide) sq_56 rfl ji_162_16 jf_162_13 ?_
  refine wl_s (pc' := 20) ji_162_19 rfl rfl rfl ?_
  refine wl_s (pc' := 21) ji_162_20 rfl rfl rfl ?_
  refine cs_gr (r := 80) (k := 1) C (by decide) sq_78 rfl ji_162_21 jf_162_13 ?_
  refine wl_s (pc' := 25) ji_162_24 rfl rfl rfl ?_
  refine wl_bp ji_162_25 rfl ?_
  refine cs_cp (sp := 0) (dp := 0) (n := 40) C (by decide) sq_58 sq_80 (by decide) (by decide) (by omega) (by omega) (by omega) ji_162_27 jc_162_20 (fun h cp3 C => ?_)
  obtain ⟨s4, es4⟩ : ∃ z9_, cpy s2 58 0 80 0 40 = z9_ := ⟨_, rfl⟩
  rw [es4] at C
  refine wl_s (pc' := 31) ji_162_30 rfl rfl rfl ?_
  refine wl_s (pc' := 32) ji_162_31 rfl rfl rfl ?_
  refine cs_gi (k := 2) (kI := 2) C (by decide) (by decide) sq_56 rfl rfl ji_162_32 jf_162_16 ?_
  have rd5 : s4 56 2 = s 56 2 := by rw [← es4]; show (if _ then _ else _) = _; rw [if_neg (fun z9_ => absurd z9_.1 (by omega))]; rw [← es2]; show (if _ then _ else _) = _; rw [if_neg (fun z9_ => absurd z9_.1 (by omega))]
  rw [rd5]
  have bd6 : wp_r (s 56 2) := rd5 ▸ cs_ri (k := 2) (kI := 2) C (by decide) (by decide) sq_56 rfl rfl (show 2 < 3 by decide)
  refine cs_pi (k := 2) (kI := 2) (y := s 56 2) C (by decide) sq_78 rfl rfl ji_162_35 jf_162_16 rfl rfl (by omega) (fun h C => ?_)
  obtain ⟨s7, es7⟩ : ∃ z9_, up s4 78 2 (s 56 2) = z9_ := ⟨_, rfl⟩
  rw [es7] at C
  exact wl_rv ji_162_38 jr_162 ((by { subst es7; subst es4; subst es2; exact ⟨rfl, _, C, fun j a b => by { unfold up cpy; (repeat (first | rw [if_neg (by omega)] | rw [if_pos (by omega)] | dsimp only)); (try simp only [Int.sub_zero, Int.add_zero]) }, fun j a b => by { unfold up cpy; (repeat (first | rw [if_neg (by omega)] | rw [if_pos (by omega)] | dsimp only)); (try simp only [Int.sub_zero, Int.add_zero]) }, by { unfold up cpy; (repeat (first | rw [if_neg (by omega)] | rw [if_pos (by omega)] | dsimp only)); (try simp only [Int.sub_zero, Int.add_zero]) }, fun b j a => by { unfold up cpy; (repeat (first | rw [if_neg (by omega)] | rw [if_pos (by omega)] | dsimp only)); (try simp only [Int.sub_zero, Int.add_zero]) }⟩ }))
theorem uc_163a {nn d : Nat} {h : mj_H} {s : sg_} (C : CS h s)  : wl_R nn d 163 0 [some (.ref 81), some (.ref 59)] [] h (fun v1 h1 => v1 = none ∧ ∃ t, CS h1 t ∧ (∀ j, 0 ≤ j → j < 5700 → t 82 j = s 60 j) ∧ (t 81 1 = s 59 1) ∧ t 81 2 = s 59 2 ∧ ∀ (b : Nat) (j : Int), ¬ (81 ≤ b ∧ b ≤ 82) → t b j = s b j) := by
  refine wl_s (pc' := 1) ji_163_0 rfl rfl rfl ?_
  refine cs_gr (r := 60) (k := 0) C (by decide) sq_59 rfl ji_163_1 jf_163_13 ?_
  refine wl_s (pc' := 5) ji_163_4 rfl rfl rfl ?_
  refine wl_s (pc' := 6) ji_163_5 rfl rfl rfl ?_
  refine cs_gr (r := 82) (k := 0) C (by decide) sq_81 rfl ji_163_6 jf_163_13 ?_
  refine wl_s (pc' := 10) ji_163_9 rfl rfl rfl ?_
  refine wl_sp ji_163_10 rfl ?_
  refine cs_cp (sp := 0) (dp := 0) (n := 5700) C (by decide) sq_60 sq_82 (by decide) (by decide) (by omega) (by omega) (by omega) ji_163_13 jc_163_24 (fun h cp1 C => ?_)
  obtain ⟨s2, es2⟩ : ∃ z9_, cpy s 60 0 82 0 5700 = z9_ := ⟨_, rfl⟩
  rw [es2] at C
  refine wl_s (pc' := 17) ji_163_16 rfl rfl rfl ?_
  refine wl_s (pc' := 18) ji_163_17 rfl rfl rfl ?_
  refine cs_gi (k := 1) (kI := 1) C (by decide) (by decide) sq_59 rfl rfl ji_163_18 jf_163_17 ?_
  have rd3 : s2 59 1 = s 59 1 := by rw [← es2]; show (if _ then _ else _) = _; rw [if_neg (fun z9_ => absurd z9_.1 (by omega))]
  rw [rd3]
  have bd4 : wp_r (s 59 1) := rd3 ▸ cs_ri (k := 1) (kI := 1) C (by decide) (by decide) sq_59 rfl rfl (show 1 < 3 by decide)
  refine cs_pi (k := 1) (kI := 1) (y := s 59 1) C (by decide) sq_81 rfl rfl ji_163_21 jf_163_17 rfl rfl (by omega) (fun h C => ?_)
  obtain ⟨s5, es5⟩ : ∃ z9_, up s2 81 1 (s 59 1) = z9_ := ⟨_, rfl⟩
  rw [es5] at C
  refine wl_s (pc' := 25) ji_163_24 rfl rfl rfl ?_
  refine wl_s (pc' := 26) ji_163_25 rfl rfl rfl ?_
  refine cs_gi (k := 2) (kI := 2) C (by decide) (by decide) sq_59 rfl rfl ji_163_26 jf_163_21 ?_
  have rd6 : s5 59 2 = s 59 2 := by rw [← es5, up_a (by omega)]; rw [← es2]; show (if _ then _ else _) = _; rw [if_neg (fun z9_ => absurd z9_.1 (by omega))]
  rw [rd6]
  have bd7 : wp_r (s 59 2) := rd6 ▸ cs_ri (k := 2) (kI := 2) C (by decide) (by decide) sq_59 rfl rfl (show 2 < 3 by decide)
  refine cs_pi (k := 2) (kI := 2) (y := s 59 2) C (by decide) sq_81 rfl rfl ji_163_29 jf_163_21 rfl rfl (by omega) (fun h C => ?_)
  obtain ⟨s8, es8⟩ : ∃ z9_, up s5 81 2 (s 59 2) = z9_ := ⟨_, rfl⟩
  rw [es8] at C
  exact wl_rv ji_163_32 jr_163 ((by { subst es8; subst es5; subst es2; exact ⟨rfl, _, C, fun j a b => by { unfold up cpy; (repeat (first | rw [if_neg (by omega)] | rw [if_pos (by omega)] | dsimp only)); (try simp only [Int.sub_zero, Int.add_zero]) }, by { unfold up cpy; (repeat (first | rw [if_neg (by omega)] | rw [if_pos (by omega)] | dsimp only)); (try simp only [Int.sub_zero, Int.add_zero]) }, by { unfold up cpy; (repeat (first | rw [if_neg (by omega)] | rw [if_pos (by omega)] | dsimp only)); (try simp only [Int.sub_zero, Int.add_zero]) }, fun b j a => by { unfold up cpy; (repeat (first | rw [if_neg (by omega)] | rw [if_pos (by omega)] | dsimp only)); (try simp only [Int.sub_zero, Int.add_zero]) }⟩ }))
theorem uc_165a {nn d : Nat} {h : mj_H} {s : sg_} (C : CS h s)  : wl_R nn d 165 0 [some (.ref 87), some (.ref 65)] [] h (fun v1 h1 => v1 = none ∧ ∃ t, CS h1 t ∧ (∀ j, 0 ≤ j → j < 10 → t 88 j = s 66 j) ∧ (∀ j, 0 ≤ j → j < 10 → t 89 j = s 67 j) ∧ t 87 3 = s 65 3 ∧ ∀ (b : Nat) (j : Int), ¬ (87 ≤ b ∧ b ≤ 89) → t b j = s b j) := by
  refine wl_s (pc' := 1) ji_165_0 rfl rfl rfl ?_
  refine cs_gr (r := 66) (k := 0) C (by decide) sq_65 rfl ji_165_1 jf_165_11 ?_
  refine wl_s (pc' := 5) ji_165_4 rfl rfl rfl ?_
  refine wl_s (pc' := 6) ji_165_5 rfl rfl rfl ?_
  refine cs_gr (r := 88) (k := 0) C (by decide) sq_87 rfl ji_165_6 jf_165_11 ?_
  refine wl_s (pc' := 10) ji_165_9 rfl rfl rfl ?_
  refine wl_bp ji_165_10 rfl ?_
  refine cs_cp (sp := 0) (dp := 0) (n := 10) C (by decide) sq_66 sq_88 (by decide) (by decide) (by omega) (by omega) (by omega) ji_165_12 jc_165_25 (fun h cp1 C => ?_)
  obtain ⟨s2, es2⟩ : ∃ z9_, cpy s 66 0 88 0 10 = z9_ := ⟨_, rfl⟩
  rw [es2] at C
  refine wl_s (pc' := 16) ji_165_15 rfl rfl rfl ?_
  refine cs_gr (r := 67) (k := 1) C (by decide) sq_65 rfl ji_165_16 jf_165_15 ?_
  refine wl_s (pc' := 20) ji_165_19 rfl rfl rfl ?_
  refine wl_s (pc' := 21) ji_165_20 rfl rfl rfl ?_
  refine cs_gr (r := 89) (k := 1) C (by decide) sq_87 rfl ji_165_21 jf_165_15 ?_
  refine wl_s (pc' := 25) ji_165_24 rfl rfl rfl ?_
  refine wl_bp ji_165_25 rfl ?_
  refine cs_cp (sp := 0) (dp := 0) (n := 10) C (by decide) sq_67 sq_89 (by decide) (by decide) (by omega) (by omega) (by omega) ji_165_27 jc_165_25 (fun h cp3 C => ?_)
  obtain ⟨s4, es4⟩ : ∃ z9_, cpy s2 67 0 89 0 10 = z9_ := ⟨_, rfl⟩
  rw [es4] at C
  refine wl_s (pc' := 31) ji_165_30 rfl rfl rfl ?_
  refine wl_s (pc' := 32) ji_165_31 rfl rfl rfl ?_
  refine cs_gi (k := 3) (kI := 3) C (by decide) (by decide) sq_65 rfl rfl ji_165_32 jf_165_21 ?_
  have rd5 : s4 65 3 = s 65 3 := by rw [← es4]; show (if _ then _ else _) = _; rw [if_neg (fun z9_ => absurd z9_.1 (by omega))]; rw [← es2]; show (if _ then _ else _) = _; rw [if_neg (fun z9_ => absurd z9_.1 (by omega))]
  rw [rd5]
  have bd6 : wp_r (s 65 3) := rd5 ▸ cs_ri (k := 3) (kI := 3) C (by decide) (by decide) sq_65 rfl rfl (show 3 < 4 by decide)
  refine cs_pi (k := 3) (kI := 3) (y := s 65 3) C (by decide) sq_87 rfl rfl ji_165_35 jf_165_21 rfl rfl (by omega) (fun h C => ?_)
  obtain ⟨s7, es7⟩ : ∃ z9_, up s4 87 3 (s 65 3) = z9_ := ⟨_, rfl⟩
  rw [es7] at C
  exact wl_rv ji_165_38 jr_165 ((by { subst es7; subst es4; subst es2; exact ⟨rfl, _, C, fun j a b => by { unfold up cpy; (repeat (first | rw [if_neg (by omega)] | rw [if_pos (by omega)] | dsimp only)); (try simp only [Int.sub_zero, Int.add_zero]) }, fun j a b => by { unfold up cpy; (repeat (first | rw [if_neg (by omega)] | rw [if_pos (by omega)] | dsimp only)); (try simp only [Int.sub_zero, Int.add_zero]) }, by { unfold up cpy; (repeat (first | rw [if_neg (by omega)] | rw [if_pos (by omega)] | dsimp only)); (try simp only [Int.sub_zero, Int.add_zero]) }, fun b j a => by { unfold up cpy; (repeat (first | rw [if_neg (by omega)] | rw [if_pos (by omega)] | dsimp only)); (try simp only [Int.sub_zero, Int.add_zero]) }⟩ }))
def fdWa (s : sg_) (m : Int) : sg_ := fun b j => if (b = 84 ∨ b = 85) ∧ 0 ≤ j ∧ j < m then s (if b = 84 then 62 else 63) j else s b j
theorem fdWa_0 {s : sg_} : fdWa s 0 = s := by
  funext b j
  exact if_neg (by omega)
theorem fdWa_fr {s : sg_} {m : Int} {b : Nat} {j : Int} (h : (¬ b = 84 ∧ ¬ b = 85) ∨ m ≤ j) : fdWa s m b j = s b j := if_neg (by omega)
theorem fdWa_s {s : sg_} {m : Int} (hm : 0 ≤ m) : up (up (fdWa s m) 84 m (s 62 m)) 85 m (s 63 m) = fdWa s (m + 1) := by
  funext b j
  unfold up fdWa
  by_cases h1 : b = 85 ∧ j = m
  · obtain ⟨rfl, rfl⟩ := h1
    rw [if_pos ⟨rfl, rfl⟩, if_pos ⟨Or.inr rfl, hm, by omega⟩, if_neg (by decide)]
  · rw [if_neg h1]
    by_cases h2 : b = 84 ∧ j = m
    · obtain ⟨rfl, rfl⟩ := h2
      rw [if_pos ⟨rfl, rfl⟩, if_pos ⟨Or.inl rfl, hm, by omega⟩, if_pos rfl]
    · rw [if_neg h2]
      by_cases h3 : (b = 84 ∨ b = 85) ∧ 0 ≤ j ∧ j < m
      · rw [if_pos h3]
        exact (if_pos ⟨h3.1, h3.2.1, by omega⟩).symm
      · rw [if_neg h3, if_neg (by omega)]
theorem uc_164la {d : Nat} {s : sg_} (hb : ∀ j, 0 ≤ j → j < 8 → s 63 j = 0 ∨ s 63 j = 1) : ∀ (nn : Nat) (i : Int) (h : mj_H), (0 ≤ i ∧ i ≤ 8) → CS h (fdWa s i) → wl_R nn d 164 2 [some (.ref 83), some (.ref 61), some (wp_i i)] [] h (fun v1 h1 => v1 = none ∧ ∃ t, CS h1 t ∧ (∀ j, 0 ≤ j → j < 8 → t 84 j = s 62 j ∧ t 85 j = s 63 j) ∧ t 83 3 = s 61 3 ∧ ∀ (b : Nat) (j : Int), ¬ (83 ≤ b ∧ b ≤ 85) → t b j = s b j) := by
  intro nn
  induction nn with
  | zero => intros; exact wl_0
  | succ nn ih =>
    intro i h hi C
    have hbi : i < 8 → s 63 i = 0 ∨ s 63 i = 1 := fun q => hb i hi.1 q
    obtain ⟨t, et⟩ : ∃ t, fdWa s i = t := ⟨_, rfl⟩
    rw [et] at C
    have t5 : t 62 i = s 62 i := by rw [← et, fdWa_fr (by omega)]
    have t6 : t 63 i = s 63 i := by rw [← et, fdWa_fr (by omega)]
    have t3 : t 61 3 = s 61 3 := by rw [← et, fdWa_fr (by omega)]
    refine wl_s1 (pc' := 3) ji_164_2 rfl rfl rfl ?_
    refine wl_bp ji_164_3 rfl ?_
    refine wl_icmp (t := 38) ji_164_5 rfl (by omega) (by omega) (fun (hb1 : (8 : Int) ≤ i) => ?_) (fun (hb1 : ¬ ((8 : Int) ≤ i)) => ?_)
    · refine wl_s (pc' := 39) ji_164_38 rfl rfl rfl ?_
      refine wl_s (pc' := 40) ji_164_39 rfl rfl rfl ?_
      refine cs_gi (k := 3) (kI := 3) C (by decide) (by decide) sq_61 rfl rfl ji_164_40 jf_164_22 ?_
      rw [t3]
      have bd2 : wp_r (s 61 3) := t3 ▸ cs_ri (k := 3) (kI := 3) C (by decide) (by decide) sq_61 rfl rfl (show 3 < 4 by decide)
      refine cs_pi (k := 3) (kI := 3) (y := s 61 3) C (by decide) sq_83 rfl rfl ji_164_43 jf_164_22 rfl rfl (by omega) (fun h C => ?_)
      obtain ⟨s3, es3⟩ : ∃ z9_, up t 83 3 (s 61 3) = z9_ := ⟨_, rfl⟩
      rw [es3] at C
      exact wl_rv ji_164_46 jr_164 ((by { have ei : i = 8 := (by omega); subst ei; subst es3; subst et; exact ⟨rfl, _, C, fun j a b => ⟨by { rw [up_a (by decide)]; unfold fdWa; rw [if_pos (by omega), if_pos (by decide)] }, by { rw [up_a (by decide)]; unfold fdWa; rw [if_pos (by omega), if_neg (by decide)] }⟩, up_e _ _ _ _, fun b j a => by { rw [up_a (by omega)]; exact fdWa_fr (by omega) }⟩ }))
    · refine wl_s (pc' := 9) ji_164_8 rfl rfl rfl ?_
      refine cs_gr (r := 84) (k := 0) C (by decide) sq_83 rfl ji_164_9 jf_164_11 ?_
      refine wl_s (pc' := 13) ji_164_12 rfl rfl rfl ?_
      refine wl_s (pc' := 14) ji_164_13 rfl rfl rfl ?_
      refine cs_gr (r := 62) (k := 0) C (by decide) sq_61 rfl ji_164_14 jf_164_11 ?_
      refine wl_s (pc' := 18) ji_164_17 rfl rfl rfl ?_
      refine cs_l (x := i) C (by decide) (by decide) sq_62 (by omega) ji_164_18 (fun ld40 ld41 ld42 => ?_)
      rw [t5] at ld42 ⊢
      refine cs_s (x := i) (y := s 62 i) C (by decide) sq_84 (by omega) (by omega) ji_164_19 (fun h st50 st51 C => ?_)
      obtain ⟨s6, es6⟩ : ∃ z9_, up t 84 i (s 62 i) = z9_ := ⟨_, rfl⟩
      rw [es6] at C
      refine wl_s (pc' := 21) ji_164_20 rfl rfl rfl ?_
      refine cs_gr (r := 85) (k := 1) C (by decide) sq_83 rfl ji_164_21 jf_164_15 ?_
      refine wl_s (pc' := 25) ji_164_24 rfl rfl rfl ?_
      refine wl_s (pc' := 26) ji_164_25 rfl rfl rfl ?_
      refine cs_gr (r := 63) (k := 1) C (by decide) sq_61 rfl ji_164_26 jf_164_15 ?_
      refine wl_s (pc' := 30) ji_164_29 rfl rfl rfl ?_
      refine cs_lb (x := i) C (by decide) (by decide) sq_63 (by omega) ji_164_30 (fun ld70 ld71 ld72 => ?_)
      have rd8 : s6 63 i = s 63 i := by rw [← es6, up_a (by omega)]; exact t6
      rw [rd8] at ld72 ⊢
      refine cs_sb (x := i) (y := s 63 i) C (by decide) sq_85 (by omega) (by omega) ji_164_31 (fun h st90 st91 C => ?_)
      obtain ⟨s10, es10⟩ : ∃ z9_, up s6 85 i (s 63 i) = z9_ := ⟨_, rfl⟩
      rw [es10] at C
      refine wl_iinc (x := i) (z := i + 1) (lv' := [some (.ref 83), some (.ref 61), some (wp_i (i + 1))]) ji_164_32 rfl (Nat.le_of_ble_eq_true rfl) (by omega) rfl ?_
      refine wl_goto (t := 2) ji_164_35 rfl ?_
      exact ih (i + 1) _ (by omega) (cs_mono C (by rw [← fdWa_s (by omega), et, es6, es10]))
theorem uc_164a {nn d : Nat} {h : mj_H} {s : sg_} (C : CS h s) (hb : ∀ j, 0 ≤ j → j < 8 → s 63 j = 0 ∨ s 63 j = 1) : wl_R nn d 164 0 [some (.ref 83), some (.ref 61), none] [] h (fun v1 h1 => v1 = none ∧ ∃ t, CS h1 t ∧ (∀ j, 0 ≤ j → j < 8 → t 84 j = s 62 j ∧ t 85 j = s 63 j) ∧ t 83 3 = s 61 3 ∧ ∀ (b : Nat) (j : Int), ¬ (83 ≤ b ∧ b ≤ 85) → t b j = s b j) := by
  refine wl_s (pc' := 1) ji_164_0 rfl rfl rfl ?_
  refine wl_s (pc' := 2) (lv' := [some (.ref 83), some (.ref 61), some (wp_i 0)]) ji_164_1 rfl rfl rfl ?_
  exact uc_164la hb nn 0 h (by decide) (cs_mono C fdWa_0.symm)
theorem uc_162b {nn d : Nat} {h : mj_H} {s : sg_} (C : CS h s)  : wl_R nn d 162 0 [some (.ref 56), some (.ref 78)] [] h (fun v1 h1 => v1 = none ∧ ∃ t, CS h1 t ∧ (∀ j, 0 ≤ j → j < 40 → t 57 j = s 79 j) ∧ (∀ j, 0 ≤ j → j < 40 → t 58 j = s 80 j) ∧ t 56 2 = s 78 2 ∧ ∀ (b : Nat) (j : Int), ¬ (56 ≤ b ∧ b ≤ 58) → t b j = s b j) := by
  refine wl_s (pc' := 1) ji_162_0 rfl rfl rfl ?_
  refine cs_gr (r := 79) (k := 0) C (by decide) sq_78 rfl ji_162_1 jf_162_9 ?_
  refine wl_s (pc' := 5) ji_162_4 rfl rfl rfl ?_
  refine wl_s (pc' := 6) ji_162_5 rfl rfl rfl ?_
  refine cs_gr (r := 57) (k := 0) C (by decide) sq_56 rfl ji_162_6 jf_162_9 ?_
  refine wl_s (pc' := 10) ji_162_9 rfl rfl rfl ?_
  refine wl_bp ji_162_10 rfl ?_
  refine cs_cp (sp := 0) (dp := 0) (n := 40) C (by decide) sq_79 sq_57 (by decide) (by decide) (by omega) (by omega) (by omega) ji_162_12 jc_162_20 (fun h cp1 C => ?_)
  obtain ⟨s2, es2⟩ : ∃ z9_, cpy s 79 0 57 0 40 = z9_ := ⟨_, rfl⟩
  rw [es2] at C
  refine wl_s (pc' := 16) ji_162_15 rfl rfl rfl ?_
  refine cs_gr (r := 80) (k := 1) C (by decide) sq_78 rfl ji_162_16 jf_162_13 ?_
  refine wl_s (pc' := 20) ji_162_19 rfl rfl rfl ?_
  refine wl_s (pc' := 21) ji_162_20 rfl rfl rfl ?_
  refine cs_gr (r := 58) (k := 1) C (by decide) sq_56 rfl ji_162_21 jf_162_13 ?_
  refine wl_s (pc' := 25) ji_162_24 rfl rfl rfl ?_
  refine wl_bp ji_162_25 rfl ?_
  refine cs_cp (sp := 0) (dp := 0) (n := 40) C (by decide) sq_80 sq_58 (by decide) (by decide) (by omega) (by omega) (by omega) ji_162_27 jc_162_20 (fun h cp3 C => ?_)
  obtain ⟨s4, es4⟩ : ∃ z9_, cpy s2 80 0 58 0 40 = z9_ := ⟨_, rfl⟩
  rw [es4] at C
  refine wl_s (pc' := 31) ji_162_30 rfl rfl rfl ?_
  refine wl_s (pc' := 32) ji_162_31 rfl rfl rfl ?_
  refine cs_gi (k := 2) (kI := 2) C (by decide) (by decide) sq_78 rfl rfl ji_162_32 jf_162_16 ?_
  have rd5 : s4 78 2 = s 78 2 := by rw [← es4]; show (if _ then _ else _) = _; rw [if_neg (fun z9_ => absurd z9_.1 (by omega))]; rw [← es2]; show (if _ then _ else _) = _; rw [if_neg (fun z9_ => absurd z9_.1 (by omega))]
  rw [rd5]
  have bd6 : wp_r (s 78 2) := rd5 ▸ cs_ri (k := 2) (kI := 2) C (by decide) (by decide) sq_78 rfl rfl (show 2 < 3 by decide)
  refine cs_pi (k := 2) (kI := 2) (y := s 78 2) C (by decide) sq_56 rfl rfl ji_162_35 jf_162_16 rfl rfl (by omega) (fun h C => ?_)
  obtain ⟨s7, es7⟩ : ∃ z9_, up s4 56 2 (s 78 2) = z9_ := ⟨_, rfl⟩
  rw [es7] at C
  exact wl_rv ji_162_38 jr_162 ((by { subst es7; subst es4; subst es2; exact ⟨rfl, _, C, fun j a b => by { unfold up cpy; (repeat (first | rw [if_neg (by omega)] | rw [if_pos (by omega)] | dsimp only)); (try simp only [Int.sub_zero, Int.add_zero]) }, fun j a b => by { unfold up cpy; (repeat (first | rw [if_neg (by omega)] | rw [if_pos (by omega)] | dsimp only)); (try simp only [Int.sub_zero, Int.add_zero]) }, by { unfold up cpy; (repeat (first | rw [if_neg (by omega)] | rw [if_pos (by omega)] | dsimp only)); (try simp only [Int.sub_zero, Int.add_zero]) }, fun b j a => by { unfold up cpy; (repeat (first | rw [if_neg (by omega)] | rw [if_pos (by omega)] | dsimp only)); (try simp only [Int.sub_zero, Int.add_zero]) }⟩ }))
theorem uc_163b {nn d : Nat} {h : mj_H} {s : sg_} (C : CS h s)  : wl_R nn d 163 0 [some (.ref 59), some (.ref 81)] [] h (fun v1 h1 => v1 = none ∧ ∃ t, CS h1 t ∧ (∀ j, 0 ≤ j → j < 5700 → t 60 j = s 82 j) ∧ (t 59 1 = s 81 1) ∧ t 59 2 = s 81 2 ∧ ∀ (b : Nat) (j : Int), ¬ (59 ≤ b ∧ b ≤ 60) → t b j = s b j) := by
  refine wl_s (pc' := 1) ji_163_0 rfl rfl rfl ?_
  refine cs_gr (r := 82) (k := 0) C (by decide) sq_81 rfl ji_163_1 jf_163_13 ?_
  refine wl_s (pc' := 5) ji_163_4 rfl rfl rfl ?_
  refine wl_s (pc' := 6) ji_163_5 rfl rfl rfl ?_
  refine cs_gr (r := 60) (k := 0) C (by decide) sq_59 rfl ji_163_6 jf_163_13 ?_
  refine wl_s (pc' := 10) ji_163_9 rfl rfl rfl ?_
  refine wl_sp ji_163_10 rfl ?_
  refine cs_cp (sp := 0) (dp := 0) (n := 5700) C (by decide) sq_82 sq_60 (by decide) (by decide) (by omega) (by omega) (by omega) ji_163_13 jc_163_24 (fun h cp1 C => ?_)
  obtain ⟨s2, es2⟩ : ∃ z9_, cpy s 82 0 60 0 5700 = z9_ := ⟨_, rfl⟩
  rw [es2] at C
  refine wl_s (pc' := 17) ji_163_16 rfl rfl rfl ?_
  refine wl_s (pc' := 18) ji_163_17 rfl rfl rfl ?_
  refine cs_gi (k := 1) (kI := 1) C (by decide) (by decide) sq_81 rfl rfl ji_163_18 jf_163_17 ?_
  have rd3 : s2 81 1 = s 81 1 := by rw [← es2]; show (if _ then _ else _) = _; rw [if_neg (fun z9_ => absurd z9_.1 (by omega))]
  rw [rd3]
  have bd4 : wp_r (s 81 1) := rd3 ▸ cs_ri (k := 1) (kI := 1) C (by decide) (by decide) sq_81 rfl rfl (show 1 < 3 by decide)
  refine cs_pi (k := 1) (kI := 1) (y := s 81 1) C (by decide) sq_59 rfl rfl ji_163_21 jf_163_17 rfl rfl (by omega) (fun h C => ?_)
  obtain ⟨s5, es5⟩ : ∃ z9_, up s2 59 1 (s 81 1) = z9_ := ⟨_, rfl⟩
  rw [es5] at C
  refine wl_s (pc' := 25) ji_163_24 rfl rfl rfl ?_
  refine wl_s (pc' := 26) ji_163_25 rfl rfl rfl ?_
  refine cs_gi (k := 2) (kI := 2) C (by decide) (by decide) sq_81 rfl rfl ji_163_26 jf_163_21 ?_
  have rd6 : s5 81 2 = s 81 2 := by rw [← es5, up_a (by omega)]; rw [← es2]; show (if _ then _ else _) = _; rw [if_neg (fun z9_ => absurd z9_.1 (by omega))]
  rw [rd6]
  have bd7 : wp_r (s 81 2) := rd6 ▸ cs_ri (k := 2) (kI := 2) C (by decide) (by decide) sq_81 rfl rfl (show 2 < 3 by decide)
  refine cs_pi (k := 2) (kI := 2) (y := s 81 2) C (by decide) sq_59 rfl rfl ji_163_29 jf_163_21 rfl rfl (by omega) (fun h C => ?_)
  obtain ⟨s8, es8⟩ : ∃ z9_, up s5 59 2 (s 81 2) = z9_ := ⟨_, rfl⟩
  rw [es8] at C
  exact wl_rv ji_163_32 jr_163 ((by { subst es8; subst es5; subst es2; exact ⟨rfl, _, C, fun j a b => by { unfold up cpy; (repeat (first | rw [if_neg (by omega)] | rw [if_pos (by omega)] | dsimp only)); (try simp only [Int.sub_zero, Int.add_zero]) }, by { unfold up cpy; (repeat (first | rw [if_neg (by omega)] | rw [if_pos (by omega)] | dsimp only)); (try simp only [Int.sub_zero, Int.add_zero]) }, by { unfold up cpy; (repeat (first | rw [if_neg (by omega)] | rw [if_pos (by omega)] | dsimp only)); (try simp only [Int.sub_zero, Int.add_zero]) }, fun b j a => by { unfold up cpy; (repeat (first | rw [if_neg (by omega)] | rw [if_pos (by omega)] | dsimp only)); (try simp only [Int.sub_zero, Int.add_zero]) }⟩ }))
theorem uc_165b {nn d : Nat} {h : mj_H} {s : sg_} (C : CS h s)  : wl_R nn d 165 0 [some (.ref 65), some (.ref 87)] [] h (fun v1 h1 => v1 = none ∧ ∃ t, CS h1 t ∧ (∀ j, 0 ≤ j → j < 10 → t 66 j = s 88 j) ∧ (∀ j, 0 ≤ j → j < 10 → t 67 j = s 89 j) ∧ t 65 3 = s 87 3 ∧ ∀ (b : Nat) (j : Int), ¬ (65 ≤ b ∧ b ≤ 67) → t b j = s b j) := by
  refine wl_s (pc' := 1) ji_165_0 rfl rfl rfl ?_
  refine cs_gr (r := 88) (k := 0) C (by decide) sq_87 rfl ji_165_1 jf_165_11 ?_
  refine wl_s (pc' := 5) ji_165_4 rfl rfl rfl ?_
  refine wl_s (pc' := 6) ji_165_5 rfl rfl rfl ?_
  refine cs_gr (r := 66) (k := 0) C (by decide) sq_65 rfl ji_165_6 jf_165_11 ?_
  refine wl_s (pc' := 10) ji_165_9 rfl rfl rfl ?_
  refine wl_bp ji_165_10 rfl ?_
  refine cs_cp (sp := 0) (dp := 0) (n := 10) C (by decide) sq_88 sq_66 (by decide) (by decide) (by omega) (by omega) (by omega) ji_165_12 jc_165_25 (fun h cp1 C => ?_)
  obtain ⟨s2, es2⟩ : ∃ z9_, cpy s 88 0 66 0 10 = z9_ := ⟨_, rfl⟩
  rw [es2] at C
  refine wl_s (pc' := 16) ji_165_15 rfl rfl rfl ?_
  refine cs_gr (r := 89) (k := 1) C (by decide) sq_87 rfl ji_165_16 jf_165_15 ?_
  refine wl_s (pc' := 20) ji_165_19 rfl rfl rfl ?_
  refine wl_s (pc' := 21) ji_165_20 rfl rfl rfl ?_
  refine cs_gr (r := 67) (k := 1) C (by decide) sq_65 rfl ji_165_21 jf_165_15 ?_
  refine wl_s (pc' := 25) ji_165_24 rfl rfl rfl ?_
  refine wl_bp ji_165_25 rfl ?_
  refine cs_cp (sp := 0) (dp := 0) (n := 10) C (by decide) sq_89 sq_67 (by decide) (by decide) (by omega) (by omega) (by omega) ji_165_27 jc_165_25 (fun h cp3 C => ?_)
  obtain ⟨s4, es4⟩ : ∃ z9_, cpy s2 89 0 67 0 10 = z9_ := ⟨_, rfl⟩
  rw [es4] at C
  refine wl_s (pc' := 31) ji_165_30 rfl rfl rfl ?_
  refine wl_s (pc' := 32) ji_165_31 rfl rfl rfl ?_
  refine cs_gi (k := 3) (kI := 3) C (by decide) (by decide) sq_87 rfl rfl ji_165_32 jf_165_21 ?_
  have rd5 : s4 87 3 = s 87 3 := by rw [← es4]; show (if _ then _ else _) = _; rw [if_neg (fun z9_ => absurd z9_.1 (by omega))]; rw [← es2]; show (if _ then _ else _) = _; rw [if_neg (fun z9_ => absurd z9_.1 (by omega))]
  rw [rd5]
  have bd6 : wp_r (s 87 3) := rd5 ▸ cs_ri (k := 3) (kI := 3) C (by decide) (by decide) sq_87 rfl rfl (show 3 < 4 by decide)
  refine cs_pi (k := 3) (kI := 3) (y := s 87 3) C (by decide) sq_65 rfl rfl ji_165_35 jf_165_21 rfl rfl (by omega) (fun h C => ?_)
  obtain ⟨s7, es7⟩ : ∃ z9_, up s4 65 3 (s 87 3) = z9_ := ⟨_, rfl⟩
  rw [es7] at C
  exact wl_rv ji_165_38 jr_165 ((by { subst es7; subst es4; subst es2; exact ⟨rfl, _, C, fun j a b => by { unfold up cpy; (repeat (first | rw [if_neg (by omega)] | rw [if_pos (by omega)] | dsimp only)); (try simp only [Int.sub_zero, Int.add_zero]) }, fun j a b => by { unfold up cpy; (repeat (first | rw [if_neg (by omega)] | rw [if_pos (by omega)] | dsimp only)); (try simp only [Int.sub_zero, Int.add_zero]) }, by { unfold up cpy; (repeat (first | rw [if_neg (by omega)] | rw [if_pos (by omega)] | dsimp only)); (try simp only [Int.sub_zero, Int.add_zero]) }, fun b j a => by { unfold up cpy; (repeat (first | rw [if_neg (by omega)] | rw [if_pos (by omega)] | dsimp only)); (try simp only [Int.sub_zero, Int.add_zero]) }⟩ }))
def fdWb (s : sg_) (m : Int) : sg_ := fun b j => if (b = 62 ∨ b = 63) ∧ 0 ≤ j ∧ j < m then s (if b = 62 then 84 else 85) j else s b j
theorem fdWb_0 {s : sg_} : fdWb s 0 = s := by
  funext b j
  exact if_neg (by omega)
theorem fdWb_fr {s : sg_} {m : Int} {b : Nat} {j : Int} (h : (¬ b = 62 ∧ ¬ b = 63) ∨ m ≤ j) : fdWb s m b j = s b j := if_neg (by omega)
theorem fdWb_s {s : sg_} {m : Int} (hm : 0 ≤ m) : up (up (fdWb s m) 62 m (s 84 m)) 63 m (s 85 m) = fdWb s (m + 1) := by
  funext b j
  unfold up fdWb
  by_cases h1 : b = 63 ∧ j = m
  · obtain ⟨rfl, rfl⟩ := h1
    rw [if_pos ⟨rfl, rfl⟩, if_pos ⟨Or.inr rfl, hm, by omega⟩, if_neg (by decide)]
  · rw [if_neg h1]
    by_cases h2 : b = 62 ∧ j = m
    · obtain ⟨rfl, rfl⟩ := h2
      rw [if_pos ⟨rfl, rfl⟩, if_pos ⟨Or.inl rfl, hm, by omega⟩, if_pos rfl]
    · rw [if_neg h2]
      by_cases h3 : (b = 62 ∨ b = 63) ∧ 0 ≤ j ∧ j < m
      · rw [if_pos h3]
        exact (if_pos ⟨h3.1, h3.2.1, by omega⟩).symm
      · rw [if_neg h3, if_neg (by omega)]
theorem uc_164lb {d : Nat} {s : sg_} (hb : ∀ j, 0 ≤ j → j < 8 → s 85 j = 0 ∨ s 85 j = 1) : ∀ (nn : Nat) (i : Int) (h : mj_H), (0 ≤ i ∧ i ≤ 8) → CS h (fdWb s i) → wl_R nn d 164 2 [some (.ref 61), some (.ref 83), some (wp_i i)] [] h (fun v1 h1 => v1 = none ∧ ∃ t, CS h1 t ∧ (∀ j, 0 ≤ j → j < 8 → t 62 j = s 84 j ∧ t 63 j = s 85 j) ∧ t 61 3 = s 83 3 ∧ ∀ (b : Nat) (j : Int), ¬ (61 ≤ b ∧ b ≤ 63) → t b j = s b j) := by
  intro nn
  induction nn with
  | zero => intros; exact wl_0
  | succ nn ih =>
    intro i h hi C
    have hbi : i < 8 → s 85 i = 0 ∨ s 85 i = 1 := fun q => hb i hi.1 q
    obtain ⟨t, et⟩ : ∃ t, fdWb s i = t := ⟨_, rfl⟩
    rw [et] at C
    have t5 : t 84 i = s 84 i := by rw [← et, fdWb_fr (by omega)]
    have t6 : t 85 i = s 85 i := by rw [← et, fdWb_fr (by omega)]
    have t3 : t 83 3 = s 83 3 := by rw [← et, fdWb_fr (by omega)]
    refine wl_s1 (pc' := 3) ji_164_2 rfl rfl rfl ?_
    refine wl_bp ji_164_3 rfl ?_
    refine wl_icmp (t := 38) ji_164_5 rfl (by omega) (by omega) (fun (hb1 : (8 : Int) ≤ i) => ?_) (fun (hb1 : ¬ ((8 : Int) ≤ i)) => ?_)
    · refine wl_s (pc' := 39) ji_164_38 rfl rfl rfl ?_
      refine wl_s (pc' := 40) ji_164_39 rfl rfl rfl ?_
      refine cs_gi (k := 3) (kI := 3) C (by decide) (by decide) sq_83 rfl rfl ji_164_40 jf_164_22 ?_
      rw [t3]
      have bd2 : wp_r (s 83 3) := t3 ▸ cs_ri (k := 3) (kI := 3) C (by decide) (by decide) sq_83 rfl rfl (show 3 < 4 by decide)
      refine cs_pi (k := 3) (kI := 3) (y := s 83 3) C (by decide) sq_61 rfl rfl ji_164_43 jf_164_22 rfl rfl (by omega) (fun h C => ?_)
      obtain ⟨s3, es3⟩ : ∃ z9_, up t 61 3 (s 83 3) = z9_ := ⟨_, rfl⟩
      rw [es3] at C
      exact wl_rv ji_164_46 jr_164 ((by { have ei : i = 8 := (by omega); subst ei; subst es3; subst et; exact ⟨rfl, _, C, fun j a b => ⟨by { rw [up_a (by decide)]; unfold fdWb; rw [if_pos (by omega), if_pos (by decide)] }, by { rw [up_a (by decide)]; unfold fdWb; rw [if_pos (by omega), if_neg (by decide)] }⟩, up_e _ _ _ _, fun b j a => by { rw [up_a (by omega)]; exact fdWb_fr (by omega) }⟩ }))
    · refine wl_s (pc' := 9) ji_164_8 rfl rfl rfl ?_
      refine cs_gr (r := 62) (k := 0) C (by decide) sq_61 rfl ji_164_9 jf_164_11 ?_
      refine wl_s (pc' := 13) ji_164_12 rfl rfl rfl ?_
      refine wl_s (pc' := 14) ji_164_13 rfl rfl rfl ?_
      refine cs_gr (r := 84) (k := 0) C (by decide) sq_83 rfl ji_164_14 jf_164_11 ?_
      refine wl_s (pc' := 18) ji_164_17 rfl rfl rfl ?_
      refine cs_l (x := i) C (by decide) (by decide) sq_84 (by omega) ji_164_18 (fun ld40 ld41 ld42 => ?_)
      rw [t5] at ld42 ⊢
      refine cs_s (x := i) (y := s 84 i) C (by decide) sq_62 (by omega) (by omega) ji_164_19 (fun h st50 st51 C => ?_)
      obtain ⟨s6, es6⟩ : ∃ z9_, up t 62 i (s 84 i) = z9_ := ⟨_, rfl⟩
      rw [es6] at C
      refine wl_s (pc' := 21) ji_164_20 rfl rfl rfl ?_
      refine cs_gr (r := 63) (k := 1) C (by decide) sq_61 rfl ji_164_21 jf_164_15 ?_
      refine wl_s (pc' := 25) ji_164_24 rfl rfl rfl ?_
      refine wl_s (pc' := 26) ji_164_25 rfl rfl rfl ?_
      refine cs_gr (r := 85) (k := 1) C (by decide) sq_83 rfl ji_164_26 jf_164_15 ?_
      refine wl_s (pc' := 30) ji_164_29 rfl rfl rfl ?_
      refine cs_lb (x := i) C (by decide) (by decide) sq_85 (by omega) ji_164_30 (fun ld70 ld71 ld72 => ?_)
      have rd8 : s6 85 i = s 85 i := by rw [← es6, up_a (by omega)]; exact t6
      rw [rd8] at ld72 ⊢
      refine cs_sb (x := i) (y := s 85 i) C (by decide) sq_63 (by omega) (by omega) ji_164_31 (fun h st90 st91 C => ?_)
      obtain ⟨s10, es10⟩ : ∃ z9_, up s6 63 i (s 85 i) = z9_ := ⟨_, rfl⟩
      rw [es10] at C
      refine wl_iinc (x := i) (z := i + 1) (lv' := [some (.ref 61), some (.ref 83), some (wp_i (i + 1))]) ji_164_32 rfl (Nat.le_of_ble_eq_true rfl) (by omega) rfl ?_
      refine wl_goto (t := 2) ji_164_35 rfl ?_
      exact ih (i + 1) _ (by omega) (cs_mono C (by rw [← fdWb_s (by omega), et, es6, es10]))
theorem uc_164b {nn d : Nat} {h : mj_H} {s : sg_} (C : CS h s) (hb : ∀ j, 0 ≤ j → j < 8 → s 85 j = 0 ∨ s 85 j = 1) : wl_R nn d 164 0 [some (.ref 61), some (.ref 83), none] [] h (fun v1 h1 => v1 = none ∧ ∃ t, CS h1 t ∧ (∀ j, 0 ≤ j → j < 8 → t 62 j = s 84 j ∧ t 63 j = s 85 j) ∧ t 61 3 = s 83 3 ∧ ∀ (b : Nat) (j : Int), ¬ (61 ≤ b ∧ b ≤ 63) → t b j = s b j) := by
  refine wl_s (pc' := 1) ji_164_0 rfl rfl rfl ?_
  refine wl_s (pc' := 2) (lv' := [some (.ref 61), some (.ref 83), some (wp_i 0)]) ji_164_1 rfl rfl rfl ?_
  exact uc_164lb hb nn 0 h (by decide) (cs_mono C fdWb_0.symm)
