/-! -/
set_option maxRecDepth 100000 in
theorem ji_37_0 : mj_ins 37 0 = some (.iload_n 1) := by decide +kernel
set_option maxRecDepth 100000 in
theorem ji_37_1 : mj_ins 37 1 = some (.bipush 15) := by decide +kernel
set_option maxRecDepth 100000 in
theorem ji_37_3 : mj_ins 37 3 = some (.if_icmp .ne 19) := by decide +kernel
set_option maxRecDepth 100000 in
theorem ji_37_22 : mj_ins 37 22 = some (.iload_n 1) := by decide +kernel
set_option maxRecDepth 100000 in
theorem ji_37_23 : mj_ins 37 23 = some (.iconst 4) := by decide +kernel
set_option maxRecDepth 100000 in
theorem ji_37_24 : mj_ins 37 24 = some (.if_icmp .eq 23) := by decide +kernel
set_option maxRecDepth 100000 in
theorem ji_37_47 : mj_ins 37 47 = some (.iload_n 1) := by decide +kernel
set_option maxRecDepth 100000 in
theorem ji_37_48 : mj_ins 37 48 = some (.bipush 23) := by decide +kernel
set_option maxRecDepth 100000 in
theorem ji_37_50 : mj_ins 37 50 = some (.if_icmp .ne 10) := by decide +kernel
set_option maxRecDepth 100000 in
theorem ji_37_60 : mj_ins 37 60 = some (.iload_n 1) := by decide +kernel
set_option maxRecDepth 100000 in
theorem ji_37_61 : mj_ins 37 61 = some (.bipush 24) := by decide +kernel
set_option maxRecDepth 100000 in
theorem ji_37_63 : mj_ins 37 63 = some (.if_icmp .ne 19) := by decide +kernel
set_option maxRecDepth 100000 in
theorem ji_37_82 : mj_ins 37 82 = some (.aload_n 0) := by decide +kernel
set_option maxRecDepth 100000 in
theorem ji_37_83 : mj_ins 37 83 = some (.getfield 51) := by decide +kernel
set_option maxRecDepth 100000 in
theorem jf_37_51 : mj_fld 37 51 = some (9, 1, (.object "ForestOfPoles$Text"), true) := by decide +kernel
set_option maxRecDepth 100000 in
theorem ji_37_86 : mj_ins 37 86 = some (.sipush 10000) := by decide +kernel
set_option maxRecDepth 100000 in
theorem ji_37_89 : mj_ins 37 89 = some (.iload_n 1) := by decide +kernel
set_option maxRecDepth 100000 in
theorem ji_37_90 : mj_ins 37 90 = some (.iadd) := by decide +kernel
set_option maxRecDepth 100000 in
theorem ji_37_91 : mj_ins 37 91 = some (.invokevirtual 139) := by decide +kernel
set_option maxRecDepth 100000 in
theorem jc_37_139 : mj_cal 37 139 = some (2, 36, 1) := by decide +kernel
set_option maxRecDepth 100000 in
theorem ji_37_94 : mj_ins 37 94 = some (.aload_n 0) := by decide +kernel
set_option maxRecDepth 100000 in
theorem ji_37_95 : mj_ins 37 95 = some (.iconst 2) := by decide +kernel
set_option maxRecDepth 100000 in
theorem ji_37_96 : mj_ins 37 96 = some (.putfield 25) := by decide +kernel
set_option maxRecDepth 100000 in
theorem jf_37_25 : mj_fld 37 25 = some (9, 6, .int, true) := by decide +kernel
set_option maxRecDepth 100000 in
theorem ji_37_99 : mj_ins 37 99 = some (.return_) := by decide +kernel
set_option maxRecDepth 100000 in
theorem jr_37 : mj_ret 37 = none := by decide +kernel
set_option maxRecDepth 100000 in
theorem ji_37_66 : mj_ins 37 66 = some (.aload_n 0) := by decide +kernel
set_option maxRecDepth 100000 in
theorem ji_37_67 : mj_ins 37 67 = some (.getfield 22) := by decide +kernel
set_option maxRecDepth 100000 in
theorem jf_37_22 : mj_fld 37 22 = some (9, 5, .int, true) := by decide +kernel
set_option maxRecDepth 100000 in
theorem ji_37_70 : mj_ins 37 70 = some (.iconst 1) := by decide +kernel
set_option maxRecDepth 100000 in
theorem ji_37_71 : mj_ins 37 71 = some (.if_icmp .ne 11) := by decide +kernel
set_option maxRecDepth 100000 in
theorem ji_37_74 : mj_ins 37 74 = some (.aload_n 0) := by decide +kernel
set_option maxRecDepth 100000 in
theorem ji_37_75 : mj_ins 37 75 = some (.iconst 5) := by decide +kernel
set_option maxRecDepth 100000 in
theorem ji_37_76 : mj_ins 37 76 = some (.invokevirtual 80) := by decide +kernel
set_option maxRecDepth 100000 in
theorem jc_37_80 : mj_cal 37 80 = some (2, 31, 1) := by decide +kernel
set_option maxRecDepth 100000 in
theorem ji_37_79 : mj_ins 37 79 = some (.goto 20) := by decide +kernel
set_option maxRecDepth 100000 in
theorem ji_37_53 : mj_ins 37 53 = some (.aload_n 0) := by decide +kernel
set_option maxRecDepth 100000 in
theorem ji_37_54 : mj_ins 37 54 = some (.getfield 22) := by decide +kernel
set_option maxRecDepth 100000 in
theorem ji_37_57 : mj_ins 37 57 = some (.ifCond .eq 17) := by decide +kernel
set_option maxRecDepth 100000 in
theorem ji_37_27 : mj_ins 37 27 = some (.iload_n 1) := by decide +kernel
set_option maxRecDepth 100000 in
theorem ji_37_28 : mj_ins 37 28 = some (.bipush 9) := by decide +kernel
set_option maxRecDepth 100000 in
theorem ji_37_30 : mj_ins 37 30 = some (.if_icmp .eq 17) := by decide +kernel
set_option maxRecDepth 100000 in
theorem ji_37_33 : mj_ins 37 33 = some (.iload_n 1) := by decide +kernel
set_option maxRecDepth 100000 in
theorem ji_37_34 : mj_ins 37 34 = some (.bipush 17) := by decide +kernel
set_option maxRecDepth 100000 in
theorem ji_37_36 : mj_ins 37 36 = some (.if_icmp .ge 11) := by decide +kernel
set_option maxRecDepth 100000 in
theorem ji_37_39 : mj_ins 37 39 = some (.aload_n 0) := by decide +kernel
set_option maxRecDepth 100000 in
theorem ji_37_40 : mj_ins 37 40 = some (.iconst 1) := by decide +kernel
set_option maxRecDepth 100000 in
theorem ji_37_41 : mj_ins 37 41 = some (.invokevirtual 80) := by decide +kernel
set_option maxRecDepth 100000 in
theorem ji_37_44 : mj_ins 37 44 = some (.goto 55) := by decide +kernel
set_option maxRecDepth 100000 in
theorem ji_37_6 : mj_ins 37 6 = some (.aload_n 0) := by decide +kernel
set_option maxRecDepth 100000 in
theorem ji_37_7 : mj_ins 37 7 = some (.getfield 25) := by decide +kernel
set_option maxRecDepth 100000 in
theorem ji_37_10 : mj_ins 37 10 = some (.ifCond .ne 12) := by decide +kernel
set_option maxRecDepth 100000 in
theorem ji_37_13 : mj_ins 37 13 = some (.aload_n 0) := by decide +kernel
set_option maxRecDepth 100000 in
theorem ji_37_14 : mj_ins 37 14 = some (.bipush 33) := by decide +kernel
set_option maxRecDepth 100000 in
theorem ji_37_16 : mj_ins 37 16 = some (.invokevirtual 145) := by decide +kernel
set_option maxRecDepth 100000 in
theorem jc_37_145 : mj_cal 37 145 = some (2, 38, 1) := by decide +kernel
set_option maxRecDepth 100000 in
theorem ji_37_19 : mj_ins 37 19 = some (.goto 80) := by decide +kernel
set_option maxRecDepth 100000 in
theorem ji_35_0 : mj_ins 35 0 = some (.aload_n 0) := by decide +kernel
set_option maxRecDepth 100000 in
theorem ji_35_1 : mj_ins 35 1 = some (.getfield 47) := by decide +kernel
set_option maxRecDepth 100000 in
theorem jf_35_47 : mj_fld 35 47 = some (9, 0, (.object "ForestOfPoles$Tape"), false) := by decide +kernel
set_option maxRecDepth 100000 in
theorem ji_35_4 : mj_ins 35 4 = some (.getfield 68) := by decide +kernel
set_option maxRecDepth 100000 in
theorem jf_35_68 : mj_fld 35 68 = some (8, 2, .int, true) := by decide +kernel
set_option maxRecDepth 100000 in
theorem ji_35_7 : mj_ins 35 7 = some (.iconst 1) := by decide +kernel
set_option maxRecDepth 100000 in
theorem ji_35_8 : mj_ins 35 8 = some (.if_icmp .ne 24) := by decide +kernel
set_option maxRecDepth 100000 in
theorem ji_35_32 : mj_ins 35 32 = some (.aload_n 0) := by decide +kernel
set_option maxRecDepth 100000 in
theorem ji_35_33 : mj_ins 35 33 = some (.getfield 47) := by decide +kernel
set_option maxRecDepth 100000 in
theorem ji_35_36 : mj_ins 35 36 = some (.getfield 68) := by decide +kernel
set_option maxRecDepth 100000 in
theorem ji_35_39 : mj_ins 35 39 = some (.iconst 1) := by decide +kernel
set_option maxRecDepth 100000 in
theorem ji_35_40 : mj_ins 35 40 = some (.if_icmp .ne 25) := by decide +kernel
set_option maxRecDepth 100000 in
theorem ji_35_65 : mj_ins 35 65 = some (.aload_n 0) := by decide +kernel
set_option maxRecDepth 100000 in
theorem ji_35_66 : mj_ins 35 66 = some (.getfield 47) := by decide +kernel
set_option maxRecDepth 100000 in
theorem ji_35_69 : mj_ins 35 69 = some (.getfield 68) := by decide +kernel
set_option maxRecDepth 100000 in
theorem ji_35_72 : mj_ins 35 72 = some (.ifCond .ne 17) := by decide +kernel
set_option maxRecDepth 100000 in
theorem ji_35_89 : mj_ins 35 89 = some (.aload_n 0) := by decide +kernel
set_option maxRecDepth 100000 in
theorem ji_35_90 : mj_ins 35 90 = some (.getfield 47) := by decide +kernel
set_option maxRecDepth 100000 in
theorem ji_35_93 : mj_ins 35 93 = some (.getfield 68) := by decide +kernel
set_option maxRecDepth 100000 in
theorem ji_35_96 : mj_ins 35 96 = some (.iconst 2) := by decide +kernel
set_option maxRecDepth 100000 in
theorem ji_35_97 : mj_ins 35 97 = some (.if_icmp .ne 24) := by decide +kernel
set_option maxRecDepth 100000 in
theorem ji_35_121 : mj_ins 35 121 = some (.aload_n 0) := by decide +kernel
set_option maxRecDepth 100000 in
theorem ji_35_122 : mj_ins 35 122 = some (.getfield 47) := by decide +kernel
set_option maxRecDepth 100000 in
theorem ji_35_125 : mj_ins 35 125 = some (.getfield 68) := by decide +kernel
set_option maxRecDepth 100000 in
theorem ji_35_128 : mj_ins 35 128 = some (.iconst 2) := by decide +kernel
set_option maxRecDepth 100000 in
theorem ji_35_129 : mj_ins 35 129 = some (.if_icmp .ne 24) := by decide +kernel
set_option maxRecDepth 100000 in
theorem ji_35_153 : mj_ins 35 153 = some (.aload_n 0) := by decide +kernel
set_option maxRecDepth 100000 in
theorem ji_35_154 : mj_ins 35 154 = some (.iconst 1) := by decide +kernel
set_option maxRecDepth 100000 in
theorem ji_35_155 : mj_ins 35 155 = some (.invokevirtual 80) := by decide +kernel
set_option maxRecDepth 100000 in
theorem jc_35_80 : mj_cal 35 80 = some (2, 31, 1) := by decide +kernel
set_option maxRecDepth 100000 in
theorem ji_35_158 : mj_ins 35 158 = some (.return_) := by decide +kernel
set_option maxRecDepth 100000 in
theorem jr_35 : mj_ret 35 = none := by decide +kernel
set_option maxRecDepth 100000 in
theorem ji_35_132 : mj_ins 35 132 = some (.aload_n 0) := by decide +kernel
set_option maxRecDepth 100000 in
theorem ji_35_133 : mj_ins 35 133 = some (.getfield 47) := by decide +kernel
set_option maxRecDepth 100000 in
theorem ji_35_136 : mj_ins 35 136 = some (.getfield 77) := by decide +kernel
set_option maxRecDepth 100000 in
theorem jf_35_77 : mj_fld 35 77 = some (8, 3, .int, true) := by decide +kernel
set_option maxRecDepth 100000 in
theorem ji_35_139 : mj_ins 35 139 = some (.bipush 45) := by decide +kernel
set_option maxRecDepth 100000 in
theorem ji_35_141 : mj_ins 35 141 = some (.if_icmp .ne 12) := by decide +kernel
set_option maxRecDepth 100000 in
theorem ji_35_144 : mj_ins 35 144 = some (.aload_n 0) := by decide +kernel
set_option maxRecDepth 100000 in
theorem ji_35_145 : mj_ins 35 145 = some (.bipush 110) := by decide +kernel
set_option maxRecDepth 100000 in
theorem ji_35_147 : mj_ins 35 147 = some (.invokevirtual 145) := by decide +kernel
set_option maxRecDepth 100000 in
theorem jc_35_145 : mj_cal 35 145 = some (2, 38, 1) := by decide +kernel
set_option maxRecDepth 100000 in
theorem ji_35_150 : mj_ins 35 150 = some (.goto 8) := by decide +kernel
set_option maxRecDepth 100000 in
theorem ji_35_100 : mj_ins 35 100 = some (.aload_n 0) := by decide +kernel
set_option maxRecDepth 100000 in
theorem ji_35_101 : mj_ins 35 101 = some (.getfield 47) := by decide +kernel
set_option maxRecDepth 100000 in
theorem ji_35_104 : mj_ins 35 104 = some (.getfield 77) := by decide +kernel
set_option maxRecDepth 100000 in
theorem ji_35_107 : mj_ins 35 107 = some (.bipush 40) := by decide +kernel
set_option maxRecDepth 100000 in
theorem ji_35_109 : mj_ins 35 109 = some (.if_icmp .ne 12) := by decide +kernel
set_option maxRecDepth 100000 in
theorem ji_35_112 : mj_ins 35 112 = some (.aload_n 0) := by decide +kernel
set_option maxRecDepth 100000 in
theorem ji_35_113 : mj_ins 35 113 = some (.bipush 40) := by decide +kernel
set_option maxRecDepth 100000 in
theorem ji_35_115 : mj_ins 35 115 = some (.invokevirtual 145) := by decide +kernel
set_option maxRecDepth 100000 in
theorem ji_35_118 : mj_ins 35 118 = some (.goto 40) := by decide +kernel
set_option maxRecDepth 100000 in
theorem ji_35_75 : mj_ins 35 75 = some (.aload_n 0) := by decide +kernel
set_option maxRecDepth 100000 in
theorem ji_35_76 : mj_ins 35 76 = some (.aload_n 0) := by decide +kernel
set_option maxRecDepth 100000 in
theorem ji_35_77 : mj_ins 35 77 = some (.getfield 47) := by decide +kernel
set_option maxRecDepth 100000 in
theorem ji_35_80 : mj_ins 35 80 = some (.getfield 77) := by decide +kernel
set_option maxRecDepth 100000 in
theorem ji_35_83 : mj_ins 35 83 = some (.invokevirtual 142) := by decide +kernel
set_option maxRecDepth 100000 in
theorem jc_35_142 : mj_cal 35 142 = some (2, 37, 1) := by decide +kernel
set_option maxRecDepth 100000 in
theorem ji_35_86 : mj_ins 35 86 = some (.goto 72) := by decide +kernel
set_option maxRecDepth 100000 in
theorem ji_35_43 : mj_ins 35 43 = some (.aload_n 0) := by decide +kernel
set_option maxRecDepth 100000 in
theorem ji_35_44 : mj_ins 35 44 = some (.getfield 51) := by decide +kernel
set_option maxRecDepth 100000 in
theorem jf_35_51 : mj_fld 35 51 = some (9, 1, (.object "ForestOfPoles$Text"), true) := by decide +kernel
set_option maxRecDepth 100000 in
theorem ji_35_47 : mj_ins 35 47 = some (.aload_n 0) := by decide +kernel
set_option maxRecDepth 100000 in
theorem ji_35_48 : mj_ins 35 48 = some (.getfield 47) := by decide +kernel
set_option maxRecDepth 100000 in
theorem ji_35_51 : mj_ins 35 51 = some (.getfield 77) := by decide +kernel
set_option maxRecDepth 100000 in
theorem ji_35_54 : mj_ins 35 54 = some (.invokevirtual 139) := by decide +kernel
set_option maxRecDepth 100000 in
theorem jc_35_139 : mj_cal 35 139 = some (2, 36, 1) := by decide +kernel
set_option maxRecDepth 100000 in
theorem ji_35_57 : mj_ins 35 57 = some (.aload_n 0) := by decide +kernel
set_option maxRecDepth 100000 in
theorem ji_35_58 : mj_ins 35 58 = some (.iconst 2) := by decide +kernel
set_option maxRecDepth 100000 in
theorem ji_35_59 : mj_ins 35 59 = some (.putfield 25) := by decide +kernel
set_option maxRecDepth 100000 in
theorem jf_35_25 : mj_fld 35 25 = some (9, 6, .int, true) := by decide +kernel
set_option maxRecDepth 100000 in
theorem ji_35_62 : mj_ins 35 62 = some (.goto 96) := by decide +kernel
set_option maxRecDepth 100000 in
theorem ji_35_11 : mj_ins 35 11 = some (.aload_n 0) := by decide +kernel
set_option maxRecDepth 100000 in
theorem ji_35_12 : mj_ins 35 12 = some (.getfield 47) := by decide +kernel
set_option maxRecDepth 100000 in
theorem ji_35_15 : mj_ins 35 15 = some (.getfield 77) := by decide +kernel
set_option maxRecDepth 100000 in
theorem ji_35_18 : mj_ins 35 18 = some (.sipush 9999) := by decide +kernel
set_option maxRecDepth 100000 in
theorem ji_35_21 : mj_ins 35 21 = some (.if_icmp .le 11) := by decide +kernel
set_option maxRecDepth 100000 in
theorem ji_35_24 : mj_ins 35 24 = some (.aload_n 0) := by decide +kernel
set_option maxRecDepth 100000 in
theorem ji_35_25 : mj_ins 35 25 = some (.iconst 2) := by decide +kernel
set_option maxRecDepth 100000 in
theorem ji_35_26 : mj_ins 35 26 = some (.invokevirtual 80) := by decide +kernel
set_option maxRecDepth 100000 in
theorem ji_35_29 : mj_ins 35 29 = some (.goto 129) := by decide +kernel
set_option maxRecDepth 100000 in
theorem ji_40_0 : mj_ins 40 0 = some (.aload_n 0) := by decide +kernel
set_option maxRecDepth 100000 in
theorem ji_40_1 : mj_ins 40 1 = some (.getfield 47) := by decide +kernel
set_option maxRecDepth 100000 in
theorem jf_40_47 : mj_fld 40 47 = some (9, 0, (.object "ForestOfPoles$Tape"), false) := by decide +kernel
set_option maxRecDepth 100000 in
theorem ji_40_4 : mj_ins 40 4 = some (.getfield 68) := by decide +kernel
set_option maxRecDepth 100000 in
theorem jf_40_68 : mj_fld 40 68 = some (8, 2, .int, true) := by decide +kernel
set_option maxRecDepth 100000 in
theorem ji_40_7 : mj_ins 40 7 = some (.iconst 2) := by decide +kernel
set_option maxRecDepth 100000 in
theorem ji_40_8 : mj_ins 40 8 = some (.if_icmp .ne 29) := by decide +kernel
set_option maxRecDepth 100000 in
theorem ji_40_37 : mj_ins 40 37 = some (.aload_n 0) := by decide +kernel
set_option maxRecDepth 100000 in
theorem ji_40_38 : mj_ins 40 38 = some (.iconst 1) := by decide +kernel
set_option maxRecDepth 100000 in
theorem ji_40_39 : mj_ins 40 39 = some (.invokevirtual 80) := by decide +kernel
set_option maxRecDepth 100000 in
theorem jc_40_80 : mj_cal 40 80 = some (2, 31, 1) := by decide +kernel
set_option maxRecDepth 100000 in
theorem ji_40_42 : mj_ins 40 42 = some (.return_) := by decide +kernel
set_option maxRecDepth 100000 in
theorem jr_40 : mj_ret 40 = none := by decide +kernel
set_option maxRecDepth 100000 in
theorem ji_40_11 : mj_ins 40 11 = some (.aload_n 0) := by decide +kernel
set_option maxRecDepth 100000 in
theorem ji_40_12 : mj_ins 40 12 = some (.getfield 47) := by decide +kernel
set_option maxRecDepth 100000 in
theorem ji_40_15 : mj_ins 40 15 = some (.getfield 77) := by decide +kernel
set_option maxRecDepth 100000 in
theorem jf_40_77 : mj_fld 40 77 = some (8, 3, .int, true) := by decide +kernel
set_option maxRecDepth 100000 in
theorem ji_40_18 : mj_ins 40 18 = some (.bipush 40) := by decide +kernel
set_option maxRecDepth 100000 in
theorem ji_40_20 : mj_ins 40 20 = some (.if_icmp .ne 17) := by decide +kernel
set_option maxRecDepth 100000 in
theorem ji_40_23 : mj_ins 40 23 = some (.aload_n 0) := by decide +kernel
set_option maxRecDepth 100000 in
theorem ji_40_24 : mj_ins 40 24 = some (.iconst 1) := by decide +kernel
set_option maxRecDepth 100000 in
theorem ji_40_25 : mj_ins 40 25 = some (.putfield 41) := by decide +kernel
set_option maxRecDepth 100000 in
theorem jf_40_41 : mj_fld 40 41 = some (9, 11, .int, true) := by decide +kernel
set_option maxRecDepth 100000 in
theorem ji_40_28 : mj_ins 40 28 = some (.aload_n 0) := by decide +kernel
set_option maxRecDepth 100000 in
theorem ji_40_29 : mj_ins 40 29 = some (.bipush 91) := by decide +kernel
set_option maxRecDepth 100000 in
theorem ji_40_31 : mj_ins 40 31 = some (.invokevirtual 145) := by decide +kernel
set_option maxRecDepth 100000 in
theorem jc_40_145 : mj_cal 40 145 = some (2, 38, 1) := by decide +kernel
set_option maxRecDepth 100000 in
theorem ji_40_34 : mj_ins 40 34 = some (.goto 8) := by decide +kernel
set_option maxRecDepth 100000 in
theorem ji_41_217 : mj_ins 41 217 = some (.iload_n 1) := by decide +kernel
set_option maxRecDepth 100000 in
theorem ji_41_218 : mj_ins 41 218 = some (.bipush 59) := by decide +kernel
set_option maxRecDepth 100000 in
theorem ji_41_220 : mj_ins 41 220 = some (.if_icmp .ne 38) := by decide +kernel
set_option maxRecDepth 100000 in
theorem ji_41_258 : mj_ins 41 258 = some (.aload_n 0) := by decide +kernel
set_option maxRecDepth 100000 in
theorem ji_41_259 : mj_ins 41 259 = some (.iconst 1) := by decide +kernel
set_option maxRecDepth 100000 in
theorem ji_41_260 : mj_ins 41 260 = some (.invokevirtual 80) := by decide +kernel
set_option maxRecDepth 100000 in
theorem jc_41_80 : mj_cal 41 80 = some (2, 31, 1) := by decide +kernel
set_option maxRecDepth 100000 in
theorem ji_41_263 : mj_ins 41 263 = some (.return_) := by decide +kernel
set_option maxRecDepth 100000 in
theorem jr_41 : mj_ret 41 = none := by decide +kernel
set_option maxRecDepth 100000 in
theorem ji_41_223 : mj_ins 41 223 = some (.aload_n 0) := by decide +kernel
set_option maxRecDepth 100000 in
theorem ji_41_224 : mj_ins 41 224 = some (.getfield 38) := by decide +kernel
set_option maxRecDepth 100000 in
theorem jf_41_38 : mj_fld 41 38 = some (9, 10, .int, true) := by decide +kernel
set_option maxRecDepth 100000 in
theorem ji_41_227 : mj_ins 41 227 = some (.ifCond .ne 31) := by decide +kernel
set_option maxRecDepth 100000 in
theorem ji_41_230 : mj_ins 41 230 = some (.aload_n 0) := by decide +kernel
set_option maxRecDepth 100000 in
theorem ji_41_231 : mj_ins 41 231 = some (.getfield 22) := by decide +kernel
set_option maxRecDepth 100000 in
theorem jf_41_22 : mj_fld 41 22 = some (9, 5, .int, true) := by decide +kernel
set_option maxRecDepth 100000 in
theorem ji_41_234 : mj_ins 41 234 = some (.iconst 2) := by decide +kernel
set_option maxRecDepth 100000 in
theorem ji_41_235 : mj_ins 41 235 = some (.if_icmp .ne 10) := by decide +kernel
set_option maxRecDepth 100000 in
theorem ji_41_245 : mj_ins 41 245 = some (.aload_n 0) := by decide +kernel
set_option maxRecDepth 100000 in
theorem ji_41_246 : mj_ins 41 246 = some (.iconst 1) := by decide +kernel
set_option maxRecDepth 100000 in
theorem ji_41_247 : mj_ins 41 247 = some (.invokevirtual 162) := by decide +kernel
set_option maxRecDepth 100000 in
theorem jc_41_162 : mj_cal 41 162 = some (2, 45, 1) := by decide +kernel
set_option maxRecDepth 100000 in
theorem ji_41_250 : mj_ins 41 250 = some (.aload_n 0) := by decide +kernel
set_option maxRecDepth 100000 in
theorem ji_41_251 : mj_ins 41 251 = some (.iconst 5) := by decide +kernel
set_option maxRecDepth 100000 in
theorem ji_41_252 : mj_ins 41 252 = some (.putfield 25) := by decide +kernel
set_option maxRecDepth 100000 in
theorem jf_41_25 : mj_fld 41 25 = some (9, 6, .int, true) := by decide +kernel
set_option maxRecDepth 100000 in
theorem ji_41_255 : mj_ins 41 255 = some (.goto 8) := by decide +kernel
set_option maxRecDepth 100000 in
theorem ji_41_238 : mj_ins 41 238 = some (.aload_n 0) := by decide +kernel
set_option maxRecDepth 100000 in
theorem ji_41_239 : mj_ins 41 239 = some (.getfield 44) := by decide +kernel
set_option maxRecDepth 100000 in
theorem jf_41_44 : mj_fld 41 44 = some (9, 12, .boolean, true) := by decide +kernel
set_option maxRecDepth 100000 in
theorem ji_41_242 : mj_ins 41 242 = some (.ifCond .eq 16) := by decide +kernel
set_option maxRecDepth 100000 in
theorem ji_41_182 : mj_ins 41 182 = some (.iload_n 1) := by decide +kernel
set_option maxRecDepth 100000 in
theorem ji_41_183 : mj_ins 41 183 = some (.bipush 44) := by decide +kernel
set_option maxRecDepth 100000 in
theorem ji_41_185 : mj_ins 41 185 = some (.if_icmp .ne 32) := by decide +kernel
set_option maxRecDepth 100000 in
theorem ji_41_188 : mj_ins 41 188 = some (.aload_n 0) := by decide +kernel
set_option maxRecDepth 100000 in
theorem ji_41_189 : mj_ins 41 189 = some (.getfield 38) := by decide +kernel
set_option maxRecDepth 100000 in
theorem ji_41_192 : mj_ins 41 192 = some (.iconst 1) := by decide +kernel
set_option maxRecDepth 100000 in
theorem ji_41_193 : mj_ins 41 193 = some (.if_icmp .ne 24) := by decide +kernel
set_option maxRecDepth 100000 in
theorem ji_41_196 : mj_ins 41 196 = some (.aload_n 0) := by decide +kernel
set_option maxRecDepth 100000 in
theorem ji_41_197 : mj_ins 41 197 = some (.getfield 44) := by decide +kernel
set_option maxRecDepth 100000 in
theorem ji_41_200 : mj_ins 41 200 = some (.ifCond .eq 17) := by decide +kernel
set_option maxRecDepth 100000 in
theorem ji_41_203 : mj_ins 41 203 = some (.aload_n 0) := by decide +kernel
set_option maxRecDepth 100000 in
theorem ji_41_204 : mj_ins 41 204 = some (.invokevirtual 168) := by decide +kernel
set_option maxRecDepth 100000 in
theorem jc_41_168 : mj_cal 41 168 = some (2, 47, 0) := by decide +kernel
set_option maxRecDepth 100000 in
theorem ji_41_207 : mj_ins 41 207 = some (.ifCond .eq 10) := by decide +kernel
set_option maxRecDepth 100000 in
theorem ji_41_210 : mj_ins 41 210 = some (.aload_n 0) := by decide +kernel
set_option maxRecDepth 100000 in
theorem ji_41_211 : mj_ins 41 211 = some (.invokevirtual 172) := by decide +kernel
set_option maxRecDepth 100000 in
theorem jc_41_172 : mj_cal 41 172 = some (2, 48, 0) := by decide +kernel
set_option maxRecDepth 100000 in
theorem ji_41_214 : mj_ins 41 214 = some (.goto 49) := by decide +kernel
set_option maxRecDepth 100000 in
theorem ji_41_162 : mj_ins 41 162 = some (.iload_n 1) := by decide +kernel
set_option maxRecDepth 100000 in
theorem ji_41_163 : mj_ins 41 163 = some (.bipush 41) := by decide +kernel
set_option maxRecDepth 100000 in
theorem ji_41_165 : mj_ins 41 165 = some (.if_icmp .ne 17) := by decide +kernel
set_option maxRecDepth 100000 in
theorem ji_41_168 : mj_ins 41 168 = some (.aload_n 0) := by decide +kernel
set_option maxRecDepth 100000 in
theorem ji_41_169 : mj_ins 41 169 = some (.getfield 38) := by decide +kernel
set_option maxRecDepth 100000 in
theorem ji_41_172 : mj_ins 41 172 = some (.ifCond .le 10) := by decide +kernel
set_option maxRecDepth 100000 in
theorem ji_41_175 : mj_ins 41 175 = some (.aload_n 0) := by decide +kernel
set_option maxRecDepth 100000 in
theorem ji_41_176 : mj_ins 41 176 = some (.invokevirtual 165) := by decide +kernel
set_option maxRecDepth 100000 in
theorem jc_41_165 : mj_cal 41 165 = some (2, 46, 0) := by decide +kernel
set_option maxRecDepth 100000 in
theorem ji_41_179 : mj_ins 41 179 = some (.goto 84) := by decide +kernel
set_option maxRecDepth 100000 in
theorem ji_41_126 : mj_ins 41 126 = some (.iload_n 3) := by decide +kernel
set_option maxRecDepth 100000 in
theorem ji_41_127 : mj_ins 41 127 = some (.iconst 1) := by decide +kernel
set_option maxRecDepth 100000 in
theorem ji_41_128 : mj_ins 41 128 = some (.if_icmp .eq 8) := by decide +kernel
set_option maxRecDepth 100000 in
theorem ji_41_136 : mj_ins 41 136 = some (.iload_n 2) := by decide +kernel
set_option maxRecDepth 100000 in
theorem ji_41_137 : mj_ins 41 137 = some (.ifCond .eq 25) := by decide +kernel
set_option maxRecDepth 100000 in
theorem ji_41_140 : mj_ins 41 140 = some (.aload_n 0) := by decide +kernel
set_option maxRecDepth 100000 in
theorem ji_41_141 : mj_ins 41 141 = some (.getfield 44) := by decide +kernel
set_option maxRecDepth 100000 in
theorem ji_41_144 : mj_ins 41 144 = some (.ifCond .eq 18) := by decide +kernel
set_option maxRecDepth 100000 in
theorem ji_41_147 : mj_ins 41 147 = some (.aload_n 0) := by decide +kernel
set_option maxRecDepth 100000 in
theorem ji_41_148 : mj_ins 41 148 = some (.iconst 0) := by decide +kernel
set_option maxRecDepth 100000 in
theorem ji_41_149 : mj_ins 41 149 = some (.putfield 44) := by decide +kernel
set_option maxRecDepth 100000 in
theorem ji_41_152 : mj_ins 41 152 = some (.aload_n 0) := by decide +kernel
set_option maxRecDepth 100000 in
theorem ji_41_153 : mj_ins 41 153 = some (.iload_n 1) := by decide +kernel
set_option maxRecDepth 100000 in
theorem ji_41_154 : mj_ins 41 154 = some (.iload_n 3) := by decide +kernel
set_option maxRecDepth 100000 in
theorem ji_41_155 : mj_ins 41 155 = some (.iconst 0) := by decide +kernel
set_option maxRecDepth 100000 in
theorem ji_41_156 : mj_ins 41 156 = some (.invokevirtual 159) := by decide +kernel
set_option maxRecDepth 100000 in
theorem jc_41_159 : mj_cal 41 159 = some (2, 44, 3) := by decide +kernel
set_option maxRecDepth 100000 in
theorem ji_41_159 : mj_ins 41 159 = some (.goto 104) := by decide +kernel
set_option maxRecDepth 100000 in
theorem ji_41_131 : mj_ins 41 131 = some (.iload_n 3) := by decide +kernel
set_option maxRecDepth 100000 in
theorem ji_41_132 : mj_ins 41 132 = some (.iconst 2) := by decide +kernel
set_option maxRecDepth 100000 in
theorem ji_41_133 : mj_ins 41 133 = some (.if_icmp .ne 29) := by decide +kernel
set_option maxRecDepth 100000 in
theorem ji_41_91 : mj_ins 41 91 = some (.iload_n 1) := by decide +kernel
set_option maxRecDepth 100000 in
theorem ji_41_92 : mj_ins 41 92 = some (.bipush 91) := by decide +kernel
set_option maxRecDepth 100000 in
theorem ji_41_94 : mj_ins 41 94 = some (.if_icmp .ne 32) := by decide +kernel
set_option maxRecDepth 100000 in
theorem ji_41_97 : mj_ins 41 97 = some (.iload_n 2) := by decide +kernel
set_option maxRecDepth 100000 in
theorem ji_41_98 : mj_ins 41 98 = some (.ifCond .eq 28) := by decide +kernel
set_option maxRecDepth 100000 in
theorem ji_41_101 : mj_ins 41 101 = some (.aload_n 0) := by decide +kernel
set_option maxRecDepth 100000 in
theorem ji_41_102 : mj_ins 41 102 = some (.getfield 44) := by decide +kernel
set_option maxRecDepth 100000 in
theorem ji_41_105 : mj_ins 41 105 = some (.ifCond .ne 21) := by decide +kernel
set_option maxRecDepth 100000 in
theorem ji_41_108 : mj_ins 41 108 = some (.aload_n 0) := by decide +kernel
set_option maxRecDepth 100000 in
theorem ji_41_109 : mj_ins 41 109 = some (.iconst 1) := by decide +kernel
set_option maxRecDepth 100000 in
theorem ji_41_110 : mj_ins 41 110 = some (.putfield 44) := by decide +kernel
set_option maxRecDepth 100000 in
theorem ji_41_113 : mj_ins 41 113 = some (.aload_n 0) := by decide +kernel
set_option maxRecDepth 100000 in
theorem ji_41_114 : mj_ins 41 114 = some (.iconst 5) := by decide +kernel
set_option maxRecDepth 100000 in
theorem ji_41_115 : mj_ins 41 115 = some (.invokevirtual 162) := by decide +kernel
set_option maxRecDepth 100000 in
theorem ji_41_118 : mj_ins 41 118 = some (.aload_n 0) := by decide +kernel
set_option maxRecDepth 100000 in
theorem ji_41_119 : mj_ins 41 119 = some (.iconst 3) := by decide +kernel
set_option maxRecDepth 100000 in
theorem ji_41_120 : mj_ins 41 120 = some (.putfield 25) := by decide +kernel
set_option maxRecDepth 100000 in
theorem ji_41_123 : mj_ins 41 123 = some (.goto 140) := by decide +kernel
set_option maxRecDepth 100000 in
theorem ji_41_60 : mj_ins 41 60 = some (.iload_n 3) := by decide +kernel
set_option maxRecDepth 100000 in
theorem ji_41_61 : mj_ins 41 61 = some (.iconst 4) := by decide +kernel
set_option maxRecDepth 100000 in
theorem ji_41_62 : mj_ins 41 62 = some (.if_icmp .ne 29) := by decide +kernel
set_option maxRecDepth 100000 in
theorem ji_41_65 : mj_ins 41 65 = some (.iload_n 2) := by decide +kernel
set_option maxRecDepth 100000 in
theorem ji_41_66 : mj_ins 41 66 = some (.ifCond .eq 25) := by decide +kernel
set_option maxRecDepth 100000 in
theorem ji_41_69 : mj_ins 41 69 = some (.aload_n 0) := by decide +kernel
set_option maxRecDepth 100000 in
theorem ji_41_70 : mj_ins 41 70 = some (.getfield 44) := by decide +kernel
set_option maxRecDepth 100000 in
theorem ji_41_73 : mj_ins 41 73 = some (.ifCond .ne 18) := by decide +kernel
set_option maxRecDepth 100000 in
theorem ji_41_76 : mj_ins 41 76 = some (.aload_n 0) := by decide +kernel
set_option maxRecDepth 100000 in
theorem ji_41_77 : mj_ins 41 77 = some (.iconst 1) := by decide +kernel
set_option maxRecDepth 100000 in
theorem ji_41_78 : mj_ins 41 78 = some (.putfield 44) := by decide +kernel
set_option maxRecDepth 100000 in
theorem ji_41_81 : mj_ins 41 81 = some (.aload_n 0) := by decide +kernel
set_option maxRecDepth 100000 in
theorem ji_41_82 : mj_ins 41 82 = some (.iload_n 1) := by decide +kernel
set_option maxRecDepth 100000 in
theorem ji_41_83 : mj_ins 41 83 = some (.iconst 5) := by decide +kernel
set_option maxRecDepth 100000 in
theorem ji_41_84 : mj_ins 41 84 = some (.iconst 1) := by decide +kernel
set_option maxRecDepth 100000 in
theorem ji_41_85 : mj_ins 41 85 = some (.invokevirtual 159) := by decide +kernel
set_option maxRecDepth 100000 in
theorem ji_41_88 : mj_ins 41 88 = some (.goto 175) := by decide +kernel
set_option maxRecDepth 100000 in
theorem ji_41_31 : mj_ins 41 31 = some (.iload_n 3) := by decide +kernel
set_option maxRecDepth 100000 in
theorem ji_41_32 : mj_ins 41 32 = some (.iconst 5) := by decide +kernel
set_option maxRecDepth 100000 in
theorem ji_41_33 : mj_ins 41 33 = some (.if_icmp .eq 9) := by decide +kernel
set_option maxRecDepth 100000 in
theorem ji_41_42 : mj_ins 41 42 = some (.aload_n 0) := by decide +kernel
set_option maxRecDepth 100000 in
theorem ji_41_43 : mj_ins 41 43 = some (.getfield 25) := by decide +kernel
set_option maxRecDepth 100000 in
theorem ji_41_46 : mj_ins 41 46 = some (.iconst 4) := by decide +kernel
set_option maxRecDepth 100000 in
theorem ji_41_47 : mj_ins 41 47 = some (.if_icmp .eq 13) := by decide +kernel
set_option maxRecDepth 100000 in
theorem ji_41_50 : mj_ins 41 50 = some (.aload_n 0) := by decide +kernel
set_option maxRecDepth 100000 in
theorem ji_41_51 : mj_ins 41 51 = some (.iload_n 1) := by decide +kernel
set_option maxRecDepth 100000 in
theorem ji_41_52 : mj_ins 41 52 = some (.iload_n 3) := by decide +kernel
set_option maxRecDepth 100000 in
theorem ji_41_53 : mj_ins 41 53 = some (.iconst 1) := by decide +kernel
set_option maxRecDepth 100000 in
theorem ji_41_54 : mj_ins 41 54 = some (.invokevirtual 159) := by decide +kernel
set_option maxRecDepth 100000 in
theorem ji_41_57 : mj_ins 41 57 = some (.goto 206) := by decide +kernel
set_option maxRecDepth 100000 in
theorem ji_41_36 : mj_ins 41 36 = some (.iload_n 3) := by decide +kernel
set_option maxRecDepth 100000 in
theorem ji_41_37 : mj_ins 41 37 = some (.bipush 6) := by decide +kernel
set_option maxRecDepth 100000 in
theorem ji_41_39 : mj_ins 41 39 = some (.if_icmp .ne 21) := by decide +kernel
set_option maxRecDepth 100000 in
theorem ji_41_0 : mj_ins 41 0 = some (.aload_n 0) := by decide +kernel
set_option maxRecDepth 100000 in
theorem ji_41_1 : mj_ins 41 1 = some (.invokevirtual 151) := by decide +kernel
set_option maxRecDepth 100000 in
theorem jc_41_151 : mj_cal 41 151 = some (2, 42, 0) := by decide +kernel
set_option maxRecDepth 100000 in
theorem ji_41_4 : mj_ins 41 4 = some (.istore_n 1) := by decide +kernel
set_option maxRecDepth 100000 in
theorem ji_41_5 : mj_ins 41 5 = some (.aload_n 0) := by decide +kernel
set_option maxRecDepth 100000 in
theorem ji_41_6 : mj_ins 41 6 = some (.getfield 22) := by decide +kernel
set_option maxRecDepth 100000 in
theorem ji_41_9 : mj_ins 41 9 = some (.iconst 2) := by decide +kernel
set_option maxRecDepth 100000 in
theorem ji_41_10 : mj_ins 41 10 = some (.if_icmp .ne 14) := by decide +kernel
set_option maxRecDepth 100000 in
theorem ji_41_24 : mj_ins 41 24 = some (.iconst 0) := by decide +kernel
set_option maxRecDepth 100000 in
theorem ji_41_25 : mj_ins 41 25 = some (.istore_n 2) := by decide +kernel
set_option maxRecDepth 100000 in
theorem ji_41_26 : mj_ins 41 26 = some (.iload_n 1) := by decide +kernel
set_option maxRecDepth 100000 in
theorem ji_41_27 : mj_ins 41 27 = some (.invokestatic 155) := by decide +kernel
set_option maxRecDepth 100000 in
theorem jc_41_155 : mj_cal 41 155 = some (1, 43, 1) := by decide +kernel
set_option maxRecDepth 100000 in
theorem ji_41_30 : mj_ins 41 30 = some (.istore_n 3) := by decide +kernel
set_option maxRecDepth 100000 in
theorem ji_41_13 : mj_ins 41 13 = some (.aload_n 0) := by decide +kernel
set_option maxRecDepth 100000 in
theorem ji_41_14 : mj_ins 41 14 = some (.getfield 38) := by decide +kernel
set_option maxRecDepth 100000 in
theorem ji_41_17 : mj_ins 41 17 = some (.ifCond .ne 7) := by decide +kernel
set_option maxRecDepth 100000 in
theorem ji_41_20 : mj_ins 41 20 = some (.iconst 1) := by decide +kernel
set_option maxRecDepth 100000 in
theorem ji_41_21 : mj_ins 41 21 = some (.goto 4) := by decide +kernel
/-! a token in a law, purely and by the class; laid by program (wp_cread3.py) -/
abbrev cR : Type := Int ⊕ (Int × List Int × Int × Int)
def c_op (c : Int) (w : List Int) (ls as_ : Int) : cR := if opn w = 8 then .inl 3 else .inr (if c = 33 then 0 else 1, c :: w, ls, as_)
def c_wd (law v st : Int) (w : List Int) (ls as_ : Int) : cR := if v = 15 ∧ st = 0 then c_op 33 w ls as_ else if ¬ v = 4 ∧ ¬ v = 9 ∧ v < 17 then .inl 1 else if (v = 23 ∧ law = 0) ∨ (v = 24 ∧ law = 1) then .inl 5 else .inr (2, w, ls, as_)
def c_one (law k v st : Int) (w : List Int) (ls as_ : Int) : cR := if k = 1 ∧ 9999 < v then .inl 2 else if k = 1 then .inr (2, w, ls, as_) else if k = 0 then c_wd law v st w ls as_ else if k = 2 ∧ v = 40 then c_op 40 w ls as_ else if k = 2 ∧ v = 45 then c_op 110 w ls as_ else .inl 1
def c_bk (k v : Int) (w : List Int) (as_ : Int) : cR := if k = 2 ∧ v = 40 then c_op 91 w 1 as_ else .inl 1
def c_cl (w : List Int) (ls as_ : Int) : cR := match jwt 5 w with
  | [] => .inl 1
  | c :: w1 => .inr (if c = 91 then 4 else 2, w1, ls, as_)
def c6 (law g : Int) (w : List Int) (ls as_ : Int) : cR := if g = 59 ∧ brn w = 0 ∧ (¬ law = 2 ∨ ¬ as_ = 0) then .inr (5, jwt 1 w, ls, as_) else .inl 1
def c5 (law g : Int) (w : List Int) (ls as_ : Int) : cR := if g = 44 ∧ brn w = 1 ∧ ¬ as_ = 0 ∧ (jwt 5 w).head? = some 91 then (if ls = 6 then .inl 7 else .inr (1, jwt 5 w, ls + 1, as_)) else c6 law g w ls as_
def c4 (law g : Int) (w : List Int) (ls as_ : Int) : cR := if g = 41 ∧ 0 < brn w then c_cl w ls as_ else c5 law g w ls as_
def c3 (law g : Int) (w : List Int) (ls as_ : Int) : cR := if (ck g = 1 ∨ ck g = 2) ∧ (law = 2 ∧ brn w = 0) ∧ ¬ as_ = 0 then .inr (0, g :: jwt (ck g) w, ls, 0) else c4 law g w ls as_
def c2 (law g : Int) (w : List Int) (ls as_ : Int) : cR := if g = 91 ∧ (law = 2 ∧ brn w = 0) ∧ as_ = 0 then .inr (3, jwt 5 w, ls, 1) else c3 law g w ls as_
def c1 (law g : Int) (w : List Int) (ls as_ : Int) : cR := if ck g = 4 ∧ (law = 2 ∧ brn w = 0) ∧ as_ = 0 then .inr (1, g :: jwt 5 w, ls, 1) else c2 law g w ls as_
def c_sg (law g st : Int) (w : List Int) (ls as_ : Int) : cR := if (ck g = 5 ∨ ck g = 6) ∧ ¬ st = 4 then .inr (1, g :: jwt (ck g) w, ls, as_) else c1 law g w ls as_
def cstep (law k v st : Int) (w : List Int) (ls as_ : Int) : cR := if st = 0 ∨ st = 1 then c_one law k v st w ls as_ else if st = 3 then c_bk k v w as_ else c_sg law (sh k v) st w ls as_
def cQ (h0 h : mj_H) (bl : List Value) (t : Nat) (L k v s p f q law : Int) (cl : Int) (fr : List Value) : cR → Prop
  | .inl n => ∃ st w ls as_, cH h0 h bl t L k v s p n s law st w ls as_ cl fr
  | .inr (st, w, ls, as_) => cH h0 h bl t L k v s p f q law st w ls as_ cl fr
def cok (w : List Int) : Prop := 0 < brn w → ∃ c w1, jwt 5 w = c :: w1 ∧ (c = 40 ∨ c = 91)
theorem jwt_len {r : Int} : ∀ w : List Int, (jwt r w).length ≤ w.length
  | [] => Nat.le_refl _
  | c :: w => by
    have := jwt_len (r := r) w
    unfold jwt
    split
    · show _ ≤ w.length + 1
      omega
    · exact Nat.le_refl _
theorem ck_op {g : Int} (h : ck g = 1 ∨ ck g = 2 ∨ ck g = 4 ∨ ck g = 5 ∨ ck g = 6) : (0 ≤ g ∧ g ≤ 200) ∧ opc g = 0 ∧ brc g = 0 := by
  have hg : g = 124 ∨ g = 38 ∨ (g = 35 ∨ g = 60 ∨ g = 61 ∨ g = 62 ∨ g = 103 ∨ g = 108) ∨ (g = 43 ∨ g = 45) ∨ (g = 42 ∨ g = 47) := by
    unfold ck at h
    repeat' split at h
    all_goals omega
  refine ⟨by omega, if_neg (by omega), if_neg (by omega)⟩
theorem sh_r {k v : Int} (hv : wp_r v) : wp_r (sh k v) := by
  unfold sh
  repeat' split
  all_goals omega
theorem wc_wd {nn d : Nat} {x : Int} {h0 h : mj_H} {bl fr : List Value} {t : Nat} {w : List Int} {L k v s p f q law st ls as_ cl : Int} (ht : 12 ≤ t ∧ t ≤ 33) (V : cH h0 h bl t L k v s p f q law st w ls as_ cl fr) (hw : w.length ≤ 39) (hst : 0 ≤ st ∧ st ≤ 5) (hlaw : 0 ≤ law ∧ law ≤ 2) (hx : -1 ≤ x ∧ x ≤ 30) : wl_R nn (d + 2) 37 0 [some (.ref 93), some (wp_i x)] [] h (fun v1 h1 => v1 = none ∧ cQ h0 h1 bl t L k v s p f q law cl fr  (c_wd law x st w ls as_)) := by
  obtain ⟨ws, e, hlen, V⟩ := V
  have hop := opn_0 w
  have hbr := brn_0 w
  refine wl_s (pc' := 1) ji_37_0 rfl rfl rfl ?_
  refine wl_bp ji_37_1 rfl ?_
  refine wl_icmp (t := 22) ji_37_3 rfl (by omega) (by omega) (fun (hb1 : ¬ (x : Int) = 15) => ?_) (fun (hb1 : ¬ (¬ (x : Int) = 15)) => ?_)
  · refine wl_s (pc' := 23) ji_37_22 rfl rfl rfl ?_
    refine wl_s (pc' := 24) ji_37_23 rfl rfl rfl ?_
    refine wl_icmp (t := 47) ji_37_24 rfl (by omega) (by omega) (fun (hb2 : (x : Int) = 4) => ?_) (fun (hb2 : ¬ ((x : Int) = 4)) => ?_)
    · refine wl_s (pc' := 48) ji_37_47 rfl rfl rfl ?_
      refine wl_bp ji_37_48 rfl ?_
      refine wl_icmp (t := 60) ji_37_50 rfl (by omega) (by omega) (fun (hb3 : ¬ (x : Int) = 23) => ?_) (fun (hb3 : ¬ (¬ (x : Int) = 23)) => ?_)
      · refine wl_s (pc' := 61) ji_37_60 rfl rfl rfl ?_
        refine wl_bp ji_37_61 rfl ?_
        refine wl_icmp (t := 82) ji_37_63 rfl (by omega) (by omega) (fun (hb4 : ¬ (x : Int) = 24) => ?_) (fun (hb4 : ¬ (¬ (x : Int) = 24)) => ?_)
        · refine wl_s (pc' := 83) ji_37_82 rfl rfl rfl ?_
          refine cl_g V ji_37_83 jf_37_51 rfl ?_
          refine wl_sp ji_37_86 rfl ?_
          refine wl_s (pc' := 90) ji_37_89 rfl rfl rfl ?_
          refine wl_iadd (x := 10000) (y := x) (z := 10000 + x) ji_37_90 (by omega) ?_
          obtain ⟨tfs, htc⟩ := cl_tc V
          refine wl_vc (d := d + 1) (as := [.ref t, wp_i (10000 + x)]) (rest := []) ji_37_91 jc_37_139 rfl htc jk_36.symm (Nat.le_of_ble_eq_true rfl) rfl (by rw [jn_36]; rfl) (wc_write ht V) (fun v1 h1 R => ?_)
          obtain ⟨rfl, V⟩ := R
          show wl_R _ _ 37 94 [some (.ref 93), some (wp_i x)] [] h1 _
          refine wl_s (pc' := 95) ji_37_94 rfl rfl rfl ?_
          refine wl_s (pc' := 96) ji_37_95 rfl rfl rfl ?_
          refine cl_p (y := 2) (f' := f) (q' := q) (law' := law) (st' := 2) (wn' := (w.length : Int)) (op' := opn w) (br' := brn w) (ls' := ls) (as_' := as_) ht V ji_37_96 jf_37_25 (by decide) rfl rfl rfl (fun h V => ?_)
          refine wl_rv ji_37_99 jr_37 ⟨rfl, ?_⟩
          rw [show c_wd law x st w ls as_ = .inr (2, w, ls, as_) by unfold c_wd; rw [if_neg (by omega), if_neg (by omega), if_neg (by omega)]]
          exact ⟨ws, e, hlen, V⟩
        · refine wl_s (pc' := 67) ji_37_66 rfl rfl rfl ?_
          refine cl_g V ji_37_67 jf_37_22 rfl ?_
          refine wl_s (pc' := 71) ji_37_70 rfl rfl rfl ?_
          refine wl_icmp (t := 82) ji_37_71 rfl (by omega) (by omega) (fun (hb5 : ¬ (law : Int) = 1) => ?_) (fun (hb5 : ¬ (¬ (law : Int) = 1)) => ?_)
          · refine wl_s (pc' := 83) ji_37_82 rfl rfl rfl ?_
            refine cl_g V ji_37_83 jf_37_51 rfl ?_
            refine wl_sp ji_37_86 rfl ?_
            refine wl_s (pc' := 90) ji_37_89 rfl rfl rfl ?_
            refine wl_iadd (x := 10000) (y := x) (z := 10000 + x) ji_37_90 (by omega) ?_
            obtain ⟨tfs, htc⟩ := cl_tc V
            refine wl_vc (d := d + 1) (as := [.ref t, wp_i (10000 + x)]) (rest := []) ji_37_91 jc_37_139 rfl htc jk_36.symm (Nat.le_of_ble_eq_true rfl) rfl (by rw [jn_36]; rfl) (wc_write ht V) (fun v1 h1 R => ?_)
            obtain ⟨rfl, V⟩ := R
            show wl_R _ _ 37 94 [some (.ref 93), some (wp_i x)] [] h1 _
            refine wl_s (pc' := 95) ji_37_94 rfl rfl rfl ?_
            refine wl_s (pc' := 96) ji_37_95 rfl rfl rfl ?_
            refine cl_p (y := 2) (f' := f) (q' := q) (law' := law) (st' := 2) (wn' := (w.length : Int)) (op' := opn w) (br' := brn w) (ls' := ls) (as_' := as_) ht V ji_37_96 jf_37_25 (by decide) rfl rfl rfl (fun h V => ?_)
            refine wl_rv ji_37_99 jr_37 ⟨rfl, ?_⟩
            rw [show c_wd law x st w ls as_ = .inr (2, w, ls, as_) by unfold c_wd; rw [if_neg (by omega), if_neg (by omega), if_neg (by omega)]]
            exact ⟨ws, e, hlen, V⟩
          · refine wl_s (pc' := 75) ji_37_74 rfl rfl rfl ?_
            refine wl_s (pc' := 76) ji_37_75 rfl rfl rfl ?_
            refine wl_vc (d := d + 1) (as := [.ref 93, wp_i 5]) (rest := []) ji_37_76 jc_37_80 rfl (cl_93 V) jk_31.symm (Nat.le_of_ble_eq_true rfl) rfl (by rw [jn_31]; rfl) (wc_fail ht V) (fun v1 h1 R => ?_)
            obtain ⟨rfl, V⟩ := R
            show wl_R _ _ 37 79 [some (.ref 93), some (wp_i x)] [] h1 _
            refine wl_goto (t := 99) ji_37_79 rfl ?_
            refine wl_rv ji_37_99 jr_37 ⟨rfl, ?_⟩
            rw [show c_wd law x st w ls as_ = .inl 5 by unfold c_wd; rw [if_neg (by omega), if_neg (by omega), if_pos (by omega)]]
            exact ⟨_, _, _, _, ws, e, hlen, V⟩
      · refine wl_s (pc' := 54) ji_37_53 rfl rfl rfl ?_
        refine cl_g V ji_37_54 jf_37_22 rfl ?_
        refine wl_if (t := 74) ji_37_57 rfl (by omega) (fun (hb6 : (law : Int) = 0) => ?_) (fun (hb6 : ¬ ((law : Int) = 0)) => ?_)
        · refine wl_s (pc' := 75) ji_37_74 rfl rfl rfl ?_
          refine wl_s (pc' := 76) ji_37_75 rfl rfl rfl ?_
          refine wl_vc (d := d + 1) (as := [.ref 93, wp_i 5]) (rest := []) ji_37_76 jc_37_80 rfl (cl_93 V) jk_31.symm (Nat.le_of_ble_eq_true rfl) rfl (by rw [jn_31]; rfl) (wc_fail ht V) (fun v1 h1 R => ?_)
          obtain ⟨rfl, V⟩ := R
          show wl_R _ _ 37 79 [some (.ref 93), some (wp_i x)] [] h1 _
          refine wl_goto (t := 99) ji_37_79 rfl ?_
          refine wl_rv ji_37_99 jr_37 ⟨rfl, ?_⟩
          rw [show c_wd law x st w ls as_ = .inl 5 by unfold c_wd; rw [if_neg (by omega), if_neg (by omega), if_pos (by omega)]]
          exact ⟨_, _, _, _, ws, e, hlen, V⟩
        · refine wl_s (pc' := 61) ji_37_60 rfl rfl rfl ?_
          refine wl_bp ji_37_61 rfl ?_
          refine wl_icmp (t := 82) ji_37_63 rfl (by omega) (by omega) (fun (hb7 : ¬ (x : Int) = 24) => ?_) (fun (hb7 : ¬ (¬ (x : Int) = 24)) => ?_)
          · refine wl_s (pc' := 83) ji_37_82 rfl rfl rfl ?_
            refine cl_g V ji_37_83 jf_37_51 rfl ?_
            refine wl_sp ji_37_86 rfl ?_
            refine wl_s (pc' := 90) ji_37_89 rfl rfl rfl ?_
            refine wl_iadd (x := 10000) (y := x) (z := 10000 + x) ji_37_90 (by omega) ?_
            obtain ⟨tfs, htc⟩ := cl_tc V
            refine wl_vc (d := d + 1) (as := [.ref t, wp_i (10000 + x)]) (rest := []) ji_37_91 jc_37_139 rfl htc jk_36.symm (Nat.le_of_ble_eq_true rfl) rfl (by rw [jn_36]; rfl) (wc_write ht V) (fun v1 h1 R => ?_)
            obtain ⟨rfl, V⟩ := R
            show wl_R _ _ 37 94 [some (.ref 93), some (wp_i x)] [] h1 _
            refine wl_s (pc' := 95) ji_37_94 rfl rfl rfl ?_
            refine wl_s (pc' := 96) ji_37_95 rfl rfl rfl ?_
            refine cl_p (y := 2) (f' := f) (q' := q) (law' := law) (st' := 2) (wn' := (w.length : Int)) (op' := opn w) (br' := brn w) (ls' := ls) (as_' := as_) ht V ji_37_96 jf_37_25 (by decide) rfl rfl rfl (fun h V => ?_)
            refine wl_rv ji_37_99 jr_37 ⟨rfl, ?_⟩
            rw [show c_wd law x st w ls as_ = .inr (2, w, ls, as_) by unfold c_wd; rw [if_neg (by omega), if_neg (by omega), if_neg (by omega)]]
            exact ⟨ws, e, hlen, V⟩
          · refine wl_s (pc' := 67) ji_37_66 rfl rfl rfl ?_
            refine cl_g V ji_37_67 jf_37_22 rfl ?_
            refine wl_s (pc' := 71) ji_37_70 rfl rfl rfl ?_
            refine wl_icmp (t := 82) ji_37_71 rfl (by omega) (by omega) (fun (hb8 : ¬ (law : Int) = 1) => ?_) (fun (hb8 : ¬ (¬ (law : Int) = 1)) => ?_)
            · refine wl_s (pc' := 83) ji_37_82 rfl rfl rfl ?_
              refine cl_g V ji_37_83 jf_37_51 rfl ?_
              refine wl_sp ji_37_86 rfl ?_
              refine wl_s (pc' := 90) ji_37_89 rfl rfl rfl ?_
              refine wl_iadd (x := 10000) (y := x) (z := 10000 + x) ji_37_90 (by omega) ?_
              obtain ⟨tfs, htc⟩ := cl_tc V
              refine wl_vc (d := d + 1) (as := [.ref t, wp_i (10000 + x)]) (rest := []) ji_37_91 jc_37_139 rfl htc jk_36.symm (Nat.le_of_ble_eq_true rfl) rfl (by rw [jn_36]; rfl) (wc_write ht V) (fun v1 h1 R => ?_)
              obtain ⟨rfl, V⟩ := R
              show wl_R _ _ 37 94 [some (.ref 93), some (wp_i x)] [] h1 _
              refine wl_s (pc' := 95) ji_37_94 rfl rfl rfl ?_
              refine wl_s (pc' := 96) ji_37_95 rfl rfl rfl ?_
              refine cl_p (y := 2) (f' := f) (q' := q) (law' := law) (st' := 2) (wn' := (w.length : Int)) (op' := opn w) (br' := brn w) (ls' := ls) (as_' := as_) ht V ji_37_96 jf_37_25 (by decide) rfl rfl rfl (fun h V => ?_)
              refine wl_rv ji_37_99 jr_37 ⟨rfl, ?_⟩
              rw [show c_wd law x st w ls as_ = .inr (2, w, ls, as_) by unfold c_wd; rw [if_neg (by omega), if_neg (by omega), if_neg (by omega)]]
              exact ⟨ws, e, hlen, V⟩
            · refine wl_s (pc' := 75) ji_37_74 rfl rfl rfl ?_
              refine wl_s (pc' := 76) ji_37_75 rfl rfl rfl ?_
              refine wl_vc (d := d + 1) (as := [.ref 93, wp_i 5]) (rest := []) ji_37_76 jc_37_80 rfl (cl_93 V) jk_31.symm (Nat.le_of_ble_eq_true rfl) rfl (by rw [jn_31]; rfl) (wc_fail ht V) (fun v1 h1 R => ?_)
              obtain ⟨rfl, V⟩ := R
              show wl_R _ _ 37 79 [some (.ref 93), some (wp_i x)] [] h1 _
              refine wl_goto (t := 99) ji_37_79 rfl ?_
              refine wl_rv ji_37_99 jr_37 ⟨rfl, ?_⟩
              rw [show c_wd law x st w ls as_ = .inl 5 by unfold c_wd; rw [if_neg (by omega), if_neg (by omega), if_pos (by omega)]]
              exact ⟨_, _, _, _, ws, e, hlen, V⟩
    · refine wl_s (pc' := 28) ji_37_27 rfl rfl rfl ?_
      refine wl_bp ji_37_28 rfl ?_
      refine wl_icmp (t := 47) ji_37_30 rfl (by omega) (by omega) (fun (hb9 : (x : Int) = 9) => ?_) (fun (hb9 : ¬ ((x : Int) = 9)) => ?_)
      · refine wl_s (pc' := 48) ji_37_47 rfl rfl rfl ?_
        refine wl_bp ji_37_48 rfl ?_
        refine wl_icmp (t := 60) ji_37_50 rfl (by omega) (by omega) (fun (hb10 : ¬ (x : Int) = 23) => ?_) (fun (hb10 : ¬ (¬ (x : Int) = 23)) => ?_)
        · refine wl_s (pc' := 61) ji_37_60 rfl rfl rfl ?_
          refine wl_bp ji_37_61 rfl ?_
          refine wl_icmp (t := 82) ji_37_63 rfl (by omega) (by omega) (fun (hb11 : ¬ (x : Int) = 24) => ?_) (fun (hb11 : ¬ (¬ (x : Int) = 24)) => ?_)
          · refine wl_s (pc' := 83) ji_37_82 rfl rfl rfl ?_
            refine cl_g V ji_37_83 jf_37_51 rfl ?_
            refine wl_sp ji_37_86 rfl ?_
            refine wl_s (pc' := 90) ji_37_89 rfl rfl rfl ?_
            refine wl_iadd (x := 10000) (y := x) (z := 10000 + x) ji_37_90 (by omega) ?_
            obtain ⟨tfs, htc⟩ := cl_tc V
            refine wl_vc (d := d + 1) (as := [.ref t, wp_i (10000 + x)]) (rest := []) ji_37_91 jc_37_139 rfl htc jk_36.symm (Nat.le_of_ble_eq_true rfl) rfl (by rw [jn_36]; rfl) (wc_write ht V) (fun v1 h1 R => ?_)
            obtain ⟨rfl, V⟩ := R
            show wl_R _ _ 37 94 [some (.ref 93), some (wp_i x)] [] h1 _
            refine wl_s (pc' := 95) ji_37_94 rfl rfl rfl ?_
            refine wl_s (pc' := 96) ji_37_95 rfl rfl rfl ?_
            refine cl_p (y := 2) (f' := f) (q' := q) (law' := law) (st' := 2) (wn' := (w.length : Int)) (op' := opn w) (br' := brn w) (ls' := ls) (as_' := as_) ht V ji_37_96 jf_37_25 (by decide) rfl rfl rfl (fun h V => ?_)
            refine wl_rv ji_37_99 jr_37 ⟨rfl, ?_⟩
            rw [show c_wd law x st w ls as_ = .inr (2, w, ls, as_) by unfold c_wd; rw [if_neg (by omega), if_neg (by omega), if_neg (by omega)]]
            exact ⟨ws, e, hlen, V⟩
          · refine wl_s (pc' := 67) ji_37_66 rfl rfl rfl ?_
            refine cl_g V ji_37_67 jf_37_22 rfl ?_
            refine wl_s (pc' := 71) ji_37_70 rfl rfl rfl ?_
            refine wl_icmp (t := 82) ji_37_71 rfl (by omega) (by omega) (fun (hb12 : ¬ (law : Int) = 1) => ?_) (fun (hb12 : ¬ (¬ (law : Int) = 1)) => ?_)
            · refine wl_s (pc' := 83) ji_37_82 rfl rfl rfl ?_
              refine cl_g V ji_37_83 jf_37_51 rfl ?_
              refine wl_sp ji_37_86 rfl ?_
              refine wl_s (pc' := 90) ji_37_89 rfl rfl rfl ?_
              refine wl_iadd (x := 10000) (y := x) (z := 10000 + x) ji_37_90 (by omega) ?_
              obtain ⟨tfs, htc⟩ := cl_tc V
              refine wl_vc (d := d + 1) (as := [.ref t, wp_i (10000 + x)]) (rest := []) ji_37_91 jc_37_139 rfl htc jk_36.symm (Nat.le_of_ble_eq_true rfl) rfl (by rw [jn_36]; rfl) (wc_write ht V) (fun v1 h1 R => ?_)
              obtain ⟨rfl, V⟩ := R
              show wl_R _ _ 37 94 [some (.ref 93), some (wp_i x)] [] h1 _
              refine wl_s (pc' := 95) ji_37_94 rfl rfl rfl ?_
              refine wl_s (pc' := 96) ji_37_95 rfl rfl rfl ?_
              refine cl_p (y := 2) (f' := f) (q' := q) (law' := law) (st' := 2) (wn' := (w.length : Int)) (op' := opn w) (br' := brn w) (ls' := ls) (as_' := as_) ht V ji_37_96 jf_37_25 (by decide) rfl rfl rfl (fun h V => ?_)
              refine wl_rv ji_37_99 jr_37 ⟨rfl, ?_⟩
              rw [show c_wd law x st w ls as_ = .inr (2, w, ls, as_) by unfold c_wd; rw [if_neg (by omega), if_neg (by omega), if_neg (by omega)]]
              exact ⟨ws, e, hlen, V⟩
            · refine wl_s (pc' := 75) ji_37_74 rfl rfl rfl ?_
              refine wl_s (pc' := 76) ji_37_75 rfl rfl rfl ?_
              refine wl_vc (d := d + 1) (as := [.ref 93, wp_i 5]) (rest := []) ji_37_76 jc_37_80 rfl (cl_93 V) jk_31.symm (Nat.le_of_ble_eq_true rfl) rfl (by rw [jn_31]; rfl) (wc_fail ht V) (fun v1 h1 R => ?_)
              obtain ⟨rfl, V⟩ := R
              show wl_R _ _ 37 79 [some (.ref 93), some (wp_i x)] [] h1 _
              refine wl_goto (t := 99) ji_37_79 rfl ?_
              refine wl_rv ji_37_99 jr_37 ⟨rfl, ?_⟩
              rw [show c_wd law x st w ls as_ = .inl 5 by unfold c_wd; rw [if_neg (by omega), if_neg (by omega), if_pos (by omega)]]
              exact ⟨_, _, _, _, ws, e, hlen, V⟩
        · refine wl_s (pc' := 54) ji_37_53 rfl rfl rfl ?_
          refine cl_g V ji_37_54 jf_37_22 rfl ?_
          refine wl_if (t := 74) ji_37_57 rfl (by omega) (fun (hb13 : (law : Int) = 0) => ?_) (fun (hb13 : ¬ ((law : Int) = 0)) => ?_)
          · refine wl_s (pc' := 75) ji_37_74 rfl rfl rfl ?_
            refine wl_s (pc' := 76) ji_37_75 rfl rfl rfl ?_
            refine wl_vc (d := d + 1) (as := [.ref 93, wp_i 5]) (rest := []) ji_37_76 jc_37_80 rfl (cl_93 V) jk_31.symm (Nat.le_of_ble_eq_true rfl) rfl (by rw [jn_31]; rfl) (wc_fail ht V) (fun v1 h1 R => ?_)
            obtain ⟨rfl, V⟩ := R
            show wl_R _ _ 37 79 [some (.ref 93), some (wp_i x)] [] h1 _
            refine wl_goto (t := 99) ji_37_79 rfl ?_
            refine wl_rv ji_37_99 jr_37 ⟨rfl, ?_⟩
            rw [show c_wd law x st w ls as_ = .inl 5 by unfold c_wd; rw [if_neg (by omega), if_neg (by omega), if_pos (by omega)]]
            exact ⟨_, _, _, _, ws, e, hlen, V⟩
          · refine wl_s (pc' := 61) ji_37_60 rfl rfl rfl ?_
            refine wl_bp ji_37_61 rfl ?_
            refine wl_icmp (t := 82) ji_37_63 rfl (by omega) (by omega) (fun (hb14 : ¬ (x : Int) = 24) => ?_) (fun (hb14 : ¬ (¬ (x : Int) = 24)) => ?_)
            · refine wl_s (pc' := 83) ji_37_82 rfl rfl rfl ?_
              refine cl_g V ji_37_83 jf_37_51 rfl ?_
              refine wl_sp ji_37_86 rfl ?_
              refine wl_s (pc' := 90) ji_37_89 rfl rfl rfl ?_
              refine wl_iadd (x := 10000) (y := x) (z := 10000 + x) ji_37_90 (by omega) ?_
              obtain ⟨tfs, htc⟩ := cl_tc V
              refine wl_vc (d := d + 1) (as := [.ref t, wp_i (10000 + x)]) (rest := []) ji_37_91 jc_37_139 rfl htc jk_36.symm (Nat.le_of_ble_eq_true rfl) rfl (by rw [jn_36]; rfl) (wc_write ht V) (fun v1 h1 R => ?_)
              obtain ⟨rfl, V⟩ := R
              show wl_R _ _ 37 94 [some (.ref 93), some (wp_i x)] [] h1 _
              refine wl_s (pc' := 95) ji_37_94 rfl rfl rfl ?_
              refine wl_s (pc' := 96) ji_37_95 rfl rfl rfl ?_
              refine cl_p (y := 2) (f' := f) (q' := q) (law' := law) (st' := 2) (wn' := (w.length : Int)) (op' := opn w) (br' := brn w) (ls' := ls) (as_' := as_) ht V ji_37_96 jf_37_25 (by decide) rfl rfl rfl (fun h V => ?_)
              refine wl_rv ji_37_99 jr_37 ⟨rfl, ?_⟩
              rw [show c_wd law x st w ls as_ = .inr (2, w, ls, as_) by unfold c_wd; rw [if_neg (by omega), if_neg (by omega), if_neg (by omega)]]
              exact ⟨ws, e, hlen, V⟩
            · refine wl_s (pc' := 67) ji_37_66 rfl rfl rfl ?_
              refine cl_g V ji_37_67 jf_37_22 rfl ?_
              refine wl_s (pc' := 71) ji_37_70 rfl rfl rfl ?_
              refine wl_icmp (t := 82) ji_37_71 rfl (by omega) (by omega) (fun (hb15 : ¬ (law : Int) = 1) => ?_) (fun (hb15 : ¬ (¬ (law : Int) = 1)) => ?_)
              · refine wl_s (pc' := 83) ji_37_82 rfl rfl rfl ?_
                refine cl_g V ji_37_83 jf_37_51 rfl ?_
                refine wl_sp ji_37_86 rfl ?_
                refine wl_s (pc' := 90) ji_37_89 rfl rfl rfl ?_
                refine wl_iadd (x := 10000) (y := x) (z := 10000 + x) ji_37_90 (by omega) ?_
                obtain ⟨tfs, htc⟩ := cl_tc V
                refine wl_vc (d := d + 1) (as := [.ref t, wp_i (10000 + x)]) (rest := []) ji_37_91 jc_37_139 rfl htc jk_36.symm (Nat.le_of_ble_eq_true rfl) rfl (by rw [jn_36]; rfl) (wc_write ht V) (fun v1 h1 R => ?_)
                obtain ⟨rfl, V⟩ := R
                show wl_R _ _ 37 94 [some (.ref 93), some (wp_i x)] [] h1 _
                refine wl_s (pc' := 95) ji_37_94 rfl rfl rfl ?_
                refine wl_s (pc' := 96) ji_37_95 rfl rfl rfl ?_
                refine cl_p (y := 2) (f' := f) (q' := q) (law' := law) (st' := 2) (wn' := (w.length : Int)) (op' := opn w) (br' := brn w) (ls' := ls) (as_' := as_) ht V ji_37_96 jf_37_25 (by decide) rfl rfl rfl (fun h V => ?_)
                refine wl_rv ji_37_99 jr_37 ⟨rfl, ?_⟩
                rw [show c_wd law x st w ls as_ = .inr (2, w, ls, as_) by unfold c_wd; rw [if_neg (by omega), if_neg (by omega), if_neg (by omega)]]
                exact ⟨ws, e, hlen, V⟩
              · refine wl_s (pc' := 75) ji_37_74 rfl rfl rfl ?_
                refine wl_s (pc' := 76) ji_37_75 rfl rfl rfl ?_
                refine wl_vc (d := d + 1) (as := [.ref 93, wp_i 5]) (rest := []) ji_37_76 jc_37_80 rfl (cl_93 V) jk_31.symm (Nat.le_of_ble_eq_true rfl) rfl (by rw [jn_31]; rfl) (wc_fail ht V) (fun v1 h1 R => ?_)
                obtain ⟨rfl, V⟩ := R
                show wl_R _ _ 37 79 [some (.ref 93), some (wp_i x)] [] h1 _
                refine wl_goto (t := 99) ji_37_79 rfl ?_
                refine wl_rv ji_37_99 jr_37 ⟨rfl, ?_⟩
                rw [show c_wd law x st w ls as_ = .inl 5 by unfold c_wd; rw [if_neg (by omega), if_neg (by omega), if_pos (by omega)]]
                exact ⟨_, _, _, _, ws, e, hlen, V⟩
      · refine wl_s (pc' := 34) ji_37_33 rfl rfl rfl ?_
        refine wl_bp ji_37_34 rfl ?_
        refine wl_icmp (t := 47) ji_37_36 rfl (by omega) (by omega) (fun (hb16 : (17 : Int) ≤ x) => ?_) (fun (hb16 : ¬ ((17 : Int) ≤ x)) => ?_)
        · refine wl_s (pc' := 48) ji_37_47 rfl rfl rfl ?_
          refine wl_bp ji_37_48 rfl ?_
          refine wl_icmp (t := 60) ji_37_50 rfl (by omega) (by omega) (fun (hb17 : ¬ (x : Int) = 23) => ?_) (fun (hb17 : ¬ (¬ (x : Int) = 23)) => ?_)
          · refine wl_s (pc' := 61) ji_37_60 rfl rfl rfl ?_
            refine wl_bp ji_37_61 rfl ?_
            refine wl_icmp (t := 82) ji_37_63 rfl (by omega) (by omega) (fun (hb18 : ¬ (x : Int) = 24) => ?_) (fun (hb18 : ¬ (¬ (x : Int) = 24)) => ?_)
            · refine wl_s (pc' := 83) ji_37_82 rfl rfl rfl ?_
              refine cl_g V ji_37_83 jf_37_51 rfl ?_
              refine wl_sp ji_37_86 rfl ?_
              refine wl_s (pc' := 90) ji_37_89 rfl rfl rfl ?_
              refine wl_iadd (x := 10000) (y := x) (z := 10000 + x) ji_37_90 (by omega) ?_
              obtain ⟨tfs, htc⟩ := cl_tc V
              refine wl_vc (d := d + 1) (as := [.ref t, wp_i (10000 + x)]) (rest := []) ji_37_91 jc_37_139 rfl htc jk_36.symm (Nat.le_of_ble_eq_true rfl) rfl (by rw [jn_36]; rfl) (wc_write ht V) (fun v1 h1 R => ?_)
              obtain ⟨rfl, V⟩ := R
              show wl_R _ _ 37 94 [some (.ref 93), some (wp_i x)] [] h1 _
              refine wl_s (pc' := 95) ji_37_94 rfl rfl rfl ?_
              refine wl_s (pc' := 96) ji_37_95 rfl rfl rfl ?_
              refine cl_p (y := 2) (f' := f) (q' := q) (law' := law) (st' := 2) (wn' := (w.length : Int)) (op' := opn w) (br' := brn w) (ls' := ls) (as_' := as_) ht V ji_37_96 jf_37_25 (by decide) rfl rfl rfl (fun h V => ?_)
              refine wl_rv ji_37_99 jr_37 ⟨rfl, ?_⟩
              rw [show c_wd law x st w ls as_ = .inr (2, w, ls, as_) by unfold c_wd; rw [if_neg (by omega), if_neg (by omega), if_neg (by omega)]]
              exact ⟨ws, e, hlen, V⟩
            · refine wl_s (pc' := 67) ji_37_66 rfl rfl rfl ?_
              refine cl_g V ji_37_67 jf_37_22 rfl ?_
              refine wl_s (pc' := 71) ji_37_70 rfl rfl rfl ?_
              refine wl_icmp (t := 82) ji_37_71 rfl (by omega) (by omega) (fun (hb19 : ¬ (law : Int) = 1) => ?_) (fun (hb19 : ¬ (¬ (law : Int) = 1)) => ?_)
              · refine wl_s (pc' := 83) ji_37_82 rfl rfl rfl ?_
                refine cl_g V ji_37_83 jf_37_51 rfl ?_
                refine wl_sp ji_37_86 rfl ?_
                refine wl_s (pc' := 90) ji_37_89 rfl rfl rfl ?_
                refine wl_iadd (x := 10000) (y := x) (z := 10000 + x) ji_37_90 (by omega) ?_
                obtain ⟨tfs, htc⟩ := cl_tc V
                refine wl_vc (d := d + 1) (as := [.ref t, wp_i (10000 + x)]) (rest := []) ji_37_91 jc_37_139 rfl htc jk_36.symm (Nat.le_of_ble_eq_true rfl) rfl (by rw [jn_36]; rfl) (wc_write ht V) (fun v1 h1 R => ?_)
                obtain ⟨rfl, V⟩ := R
                show wl_R _ _ 37 94 [some (.ref 93), some (wp_i x)] [] h1 _
                refine wl_s (pc' := 95) ji_37_94 rfl rfl rfl ?_
                refine wl_s (pc' := 96) ji_37_95 rfl rfl rfl ?_
                refine cl_p (y := 2) (f' := f) (q' := q) (law' := law) (st' := 2) (wn' := (w.length : Int)) (op' := opn w) (br' := brn w) (ls' := ls) (as_' := as_) ht V ji_37_96 jf_37_25 (by decide) rfl rfl rfl (fun h V => ?_)
                refine wl_rv ji_37_99 jr_37 ⟨rfl, ?_⟩
                rw [show c_wd law x st w ls as_ = .inr (2, w, ls, as_) by unfold c_wd; rw [if_neg (by omega), if_neg (by omega), if_neg (by omega)]]
                exact ⟨ws, e, hlen, V⟩
              · refine wl_s (pc' := 75) ji_37_74 rfl rfl rfl ?_
                refine wl_s (pc' := 76) ji_37_75 rfl rfl rfl ?_
                refine wl_vc (d := d + 1) (as := [.ref 93, wp_i 5]) (rest := []) ji_37_76 jc_37_80 rfl (cl_93 V) jk_31.symm (Nat.le_of_ble_eq_true rfl) rfl (by rw [jn_31]; rfl) (wc_fail ht V) (fun v1 h1 R => ?_)
                obtain ⟨rfl, V⟩ := R
                show wl_R _ _ 37 79 [some (.ref 93), some (wp_i x)] [] h1 _
                refine wl_goto (t := 99) ji_37_79 rfl ?_
                refine wl_rv ji_37_99 jr_37 ⟨rfl, ?_⟩
                rw [show c_wd law x st w ls as_ = .inl 5 by unfold c_wd; rw [if_neg (by omega), if_neg (by omega), if_pos (by omega)]]
                exact ⟨_, _, _, _, ws, e, hlen, V⟩
          · refine wl_s (pc' := 54) ji_37_53 rfl rfl rfl ?_
            refine cl_g V ji_37_54 jf_37_22 rfl ?_
            refine wl_if (t := 74) ji_37_57 rfl (by omega) (fun (hb20 : (law : Int) = 0) => ?_) (fun (hb20 : ¬ ((law : Int) = 0)) => ?_)
            · refine wl_s (pc' := 75) ji_37_74 rfl rfl rfl ?_
              refine wl_s (pc' := 76) ji_37_75 rfl rfl rfl ?_
              refine wl_vc (d := d + 1) (as := [.ref 93, wp_i 5]) (rest := []) ji_37_76 jc_37_80 rfl (cl_93 V) jk_31.symm (Nat.le_of_ble_eq_true rfl) rfl (by rw [jn_31]; rfl) (wc_fail ht V) (fun v1 h1 R => ?_)
              obtain ⟨rfl, V⟩ := R
              show wl_R _ _ 37 79 [some (.ref 93), some (wp_i x)] [] h1 _
              refine wl_goto (t := 99) ji_37_79 rfl ?_
              refine wl_rv ji_37_99 jr_37 ⟨rfl, ?_⟩
              rw [show c_wd law x st w ls as_ = .inl 5 by unfold c_wd; rw [if_neg (by omega), if_neg (by omega), if_pos (by omega)]]
              exact ⟨_, _, _, _, ws, e, hlen, V⟩
            · refine wl_s (pc' := 61) ji_37_60 rfl rfl rfl ?_
              refine wl_bp ji_37_61 rfl ?_
              refine wl_icmp (t := 82) ji_37_63 rfl (by omega) (by omega) (fun (hb21 : ¬ (x : Int) = 24) => ?_) (fun (hb21 : ¬ (¬ (x : Int) = 24)) => ?_)
              · refine wl_s (pc' := 83) ji_37_82 rfl rfl rfl ?_
                refine cl_g V ji_37_83 jf_37_51 rfl ?_
                refine wl_sp ji_37_86 rfl ?_
                refine wl_s (pc' := 90) ji_37_89 rfl rfl rfl ?_
                refine wl_iadd (x := 10000) (y := x) (z := 10000 + x) ji_37_90 (by omega) ?_
                obtain ⟨tfs, htc⟩ := cl_tc V
                refine wl_vc (d := d + 1) (as := [.ref t, wp_i (10000 + x)]) (rest := []) ji_37_91 jc_37_139 rfl htc jk_36.symm (Nat.le_of_ble_eq_true rfl) rfl (by rw [jn_36]; rfl) (wc_write ht V) (fun v1 h1 R => ?_)
                obtain ⟨rfl, V⟩ := R
                show wl_R _ _ 37 94 [some (.ref 93), some (wp_i x)] [] h1 _
                refine wl_s (pc' := 95) ji_37_94 rfl rfl rfl ?_
                refine wl_s (pc' := 96) ji_37_95 rfl rfl rfl ?_
                refine cl_p (y := 2) (f' := f) (q' := q) (law' := law) (st' := 2) (wn' := (w.length : Int)) (op' := opn w) (br' := brn w) (ls' := ls) (as_' := as_) ht V ji_37_96 jf_37_25 (by decide) rfl rfl rfl (fun h V => ?_)
                refine wl_rv ji_37_99 jr_37 ⟨rfl, ?_⟩
                rw [show c_wd law x st w ls as_ = .inr (2, w, ls, as_) by unfold c_wd; rw [if_neg (by omega), if_neg (by omega), if_neg (by omega)]]
                exact ⟨ws, e, hlen, V⟩
              · refine wl_s (pc' := 67) ji_37_66 rfl rfl rfl ?_
                refine cl_g V ji_37_67 jf_37_22 rfl ?_
                refine wl_s (pc' := 71) ji_37_70 rfl rfl rfl ?_
                refine wl_icmp (t := 82) ji_37_71 rfl (by omega) (by omega) (fun (hb22 : ¬ (law : Int) = 1) => ?_) (fun (hb22 : ¬ (¬ (law : Int) = 1)) => ?_)
                · refine wl_s (pc' := 83) ji_37_82 rfl rfl rfl ?_
                  refine cl_g V ji_37_83 jf_37_51 rfl ?_
                  refine wl_sp ji_37_86 rfl ?_
                  refine wl_s (pc' := 90) ji_37_89 rfl rfl rfl ?_
                  refine wl_iadd (x := 10000) (y := x) (z := 10000 + x) ji_37_90 (by omega) ?_
                  obtain ⟨tfs, htc⟩ := cl_tc V
                  refine wl_vc (d := d + 1) (as := [.ref t, wp_i (10000 + x)]) (rest := []) ji_37_91 jc_37_139 rfl htc jk_36.symm (Nat.le_of_ble_eq_true rfl) rfl (by rw [jn_36]; rfl) (wc_write ht V) (fun v1 h1 R => ?_)
                  obtain ⟨rfl, V⟩ := R
                  show wl_R _ _ 37 94 [some (.ref 93), some (wp_i x)] [] h1 _
                  refine wl_s (pc' := 95) ji_37_94 rfl rfl rfl ?_
                  refine wl_s (pc' := 96) ji_37_95 rfl rfl rfl ?_
                  refine cl_p (y := 2) (f' := f) (q' := q) (law' := law) (st' := 2) (wn' := (w.length : Int)) (op' := opn w) (br' := brn w) (ls' := ls) (as_' := as_) ht V ji_37_96 jf_37_25 (by decide) rfl rfl rfl (fun h V => ?_)
                  refine wl_rv ji_37_99 jr_37 ⟨rfl, ?_⟩
                  rw [show c_wd law x st w ls as_ = .inr (2, w, ls, as_) by unfold c_wd; rw [if_neg (by omega), if_neg (by omega), if_neg (by omega)]]
                  exact ⟨ws, e, hlen, V⟩
                · refine wl_s (pc' := 75) ji_37_74 rfl rfl rfl ?_
                  refine wl_s (pc' := 76) ji_37_75 rfl rfl rfl ?_
                  refine wl_vc (d := d + 1) (as := [.ref 93, wp_i 5]) (rest := []) ji_37_76 jc_37_80 rfl (cl_93 V) jk_31.symm (Nat.le_of_ble_eq_true rfl) rfl (by rw [jn_31]; rfl) (wc_fail ht V) (fun v1 h1 R => ?_)
                  obtain ⟨rfl, V⟩ := R
                  show wl_R _ _ 37 79 [some (.ref 93), some (wp_i x)] [] h1 _
                  refine wl_goto (t := 99) ji_37_79 rfl ?_
                  refine wl_rv ji_37_99 jr_37 ⟨rfl, ?_⟩
                  rw [show c_wd law x st w ls as_ = .inl 5 by unfold c_wd; rw [if_neg (by omega), if_neg (by omega), if_pos (by omega)]]
                  exact ⟨_, _, _, _, ws, e, hlen, V⟩
        · refine wl_s (pc' := 40) ji_37_39 rfl rfl rfl ?_
          refine wl_s (pc' := 41) ji_37_40 rfl rfl rfl ?_
          refine wl_vc (d := d + 1) (as := [.ref 93, wp_i 1]) (rest := []) ji_37_41 jc_37_80 rfl (cl_93 V) jk_31.symm (Nat.le_of_ble_eq_true rfl) rfl (by rw [jn_31]; rfl) (wc_fail ht V) (fun v1 h1 R => ?_)
          obtain ⟨rfl, V⟩ := R
          show wl_R _ _ 37 44 [some (.ref 93), some (wp_i x)] [] h1 _
          refine wl_goto (t := 99) ji_37_44 rfl ?_
          refine wl_rv ji_37_99 jr_37 ⟨rfl, ?_⟩
          rw [show c_wd law x st w ls as_ = .inl 1 by unfold c_wd; rw [if_neg (by omega), if_pos (by omega)]]
          exact ⟨_, _, _, _, ws, e, hlen, V⟩
  · refine wl_s (pc' := 7) ji_37_6 rfl rfl rfl ?_
    refine cl_g V ji_37_7 jf_37_25 rfl ?_
    refine wl_if (t := 22) ji_37_10 rfl (by omega) (fun (hb23 : ¬ (st : Int) = 0) => ?_) (fun (hb23 : ¬ (¬ (st : Int) = 0)) => ?_)
    · refine wl_s (pc' := 23) ji_37_22 rfl rfl rfl ?_
      refine wl_s (pc' := 24) ji_37_23 rfl rfl rfl ?_
      refine wl_icmp (t := 47) ji_37_24 rfl (by omega) (by omega) (fun (hb24 : (x : Int) = 4) => ?_) (fun (hb24 : ¬ ((x : Int) = 4)) => ?_)
      · refine wl_s (pc' := 48) ji_37_47 rfl rfl rfl ?_
        refine wl_bp ji_37_48 rfl ?_
        refine wl_icmp (t := 60) ji_37_50 rfl (by omega) (by omega) (fun (hb25 : ¬ (x : Int) = 23) => ?_) (fun (hb25 : ¬ (¬ (x : Int) = 23)) => ?_)
        · refine wl_s (pc' := 61) ji_37_60 rfl rfl rfl ?_
          refine wl_bp ji_37_61 rfl ?_
          refine wl_icmp (t := 82) ji_37_63 rfl (by omega) (by omega) (fun (hb26 : ¬ (x : Int) = 24) => ?_) (fun (hb26 : ¬ (¬ (x : Int) = 24)) => ?_)
          · refine wl_s (pc' := 83) ji_37_82 rfl rfl rfl ?_
            refine cl_g V ji_37_83 jf_37_51 rfl ?_
            refine wl_sp ji_37_86 rfl ?_
            refine wl_s (pc' := 90) ji_37_89 rfl rfl rfl ?_
            refine wl_iadd (x := 10000) (y := x) (z := 10000 + x) ji_37_90 (by omega) ?_
            obtain ⟨tfs, htc⟩ := cl_tc V
            refine wl_vc (d := d + 1) (as := [.ref t, wp_i (10000 + x)]) (rest := []) ji_37_91 jc_37_139 rfl htc jk_36.symm (Nat.le_of_ble_eq_true rfl) rfl (by rw [jn_36]; rfl) (wc_write ht V) (fun v1 h1 R => ?_)
            obtain ⟨rfl, V⟩ := R
            show wl_R _ _ 37 94 [some (.ref 93), some (wp_i x)] [] h1 _
            refine wl_s (pc' := 95) ji_37_94 rfl rfl rfl ?_
            refine wl_s (pc' := 96) ji_37_95 rfl rfl rfl ?_
            refine cl_p (y := 2) (f' := f) (q' := q) (law' := law) (st' := 2) (wn' := (w.length : Int)) (op' := opn w) (br' := brn w) (ls' := ls) (as_' := as_) ht V ji_37_96 jf_37_25 (by decide) rfl rfl rfl (fun h V => ?_)
            refine wl_rv ji_37_99 jr_37 ⟨rfl, ?_⟩
            rw [show c_wd law x st w ls as_ = .inr (2, w, ls, as_) by unfold c_wd; rw [if_neg (by omega), if_neg (by omega), if_neg (by omega)]]
            exact ⟨ws, e, hlen, V⟩
          · refine wl_s (pc' := 67) ji_37_66 rfl rfl rfl ?_
            refine cl_g V ji_37_67 jf_37_22 rfl ?_
            refine wl_s (pc' := 71) ji_37_70 rfl rfl rfl ?_
            refine wl_icmp (t := 82) ji_37_71 rfl (by omega) (by omega) (fun (hb27 : ¬ (law : Int) = 1) => ?_) (fun (hb27 : ¬ (¬ (law : Int) = 1)) => ?_)
            · refine wl_s (pc' := 83) ji_37_82 rfl rfl rfl ?_
              refine cl_g V ji_37_83 jf_37_51 rfl ?_
              refine wl_sp ji_37_86 rfl ?_
              refine wl_s (pc' := 90) ji_37_89 rfl rfl rfl ?_
              refine wl_iadd (x := 10000) (y := x) (z := 10000 + x) ji_37_90 (by omega) ?_
              obtain ⟨tfs, htc⟩ := cl_tc V
              refine wl_vc (d := d + 1) (as := [.ref t, wp_i (10000 + x)]) (rest := []) ji_37_91 jc_37_139 rfl htc jk_36.symm (Nat.le_of_ble_eq_true rfl) rfl (by rw [jn_36]; rfl) (wc_write ht V) (fun v1 h1 R => ?_)
              obtain ⟨rfl, V⟩ := R
              show wl_R _ _ 37 94 [some (.ref 93), some (wp_i x)] [] h1 _
              refine wl_s (pc' := 95) ji_37_94 rfl rfl rfl ?_
              refine wl_s (pc' := 96) ji_37_95 rfl rfl rfl ?_
              refine cl_p (y := 2) (f' := f) (q' := q) (law' := law) (st' := 2) (wn' := (w.length : Int)) (op' := opn w) (br' := brn w) (ls' := ls) (as_' := as_) ht V ji_37_96 jf_37_25 (by decide) rfl rfl rfl (fun h V => ?_)
              refine wl_rv ji_37_99 jr_37 ⟨rfl, ?_⟩
              rw [show c_wd law x st w ls as_ = .inr (2, w, ls, as_) by unfold c_wd; rw [if_neg (by omega), if_neg (by omega), if_neg (by omega)]]
              exact ⟨ws, e, hlen, V⟩
            · refine wl_s (pc' := 75) ji_37_74 rfl rfl rfl ?_
              refine wl_s (pc' := 76) ji_37_75 rfl rfl rfl ?_
              refine wl_vc (d := d + 1) (as := [.ref 93, wp_i 5]) (rest := []) ji_37_76 jc_37_80 rfl (cl_93 V) jk_31.symm (Nat.le_of_ble_eq_true rfl) rfl (by rw [jn_31]; rfl) (wc_fail ht V) (fun v1 h1 R => ?_)
              obtain ⟨rfl, V⟩ := R
              show wl_R _ _ 37 79 [some (.ref 93), some (wp_i x)] [] h1 _
              refine wl_goto (t := 99) ji_37_79 rfl ?_
              refine wl_rv ji_37_99 jr_37 ⟨rfl, ?_⟩
              rw [show c_wd law x st w ls as_ = .inl 5 by unfold c_wd; rw [if_neg (by omega), if_neg (by omega), if_pos (by omega)]]
              exact ⟨_, _, _, _, ws, e, hlen, V⟩
        · refine wl_s (pc' := 54) ji_37_53 rfl rfl rfl ?_
          refine cl_g V ji_37_54 jf_37_22 rfl ?_
          refine wl_if (t := 74) ji_37_57 rfl (by omega) (fun (hb28 : (law : Int) = 0) => ?_) (fun (hb28 : ¬ ((law : Int) = 0)) => ?_)
          · refine wl_s (pc' := 75) ji_37_74 rfl rfl rfl ?_
            refine wl_s (pc' := 76) ji_37_75 rfl rfl rfl ?_
            refine wl_vc (d := d + 1) (as := [.ref 93, wp_i 5]) (rest := []) ji_37_76 jc_37_80 rfl (cl_93 V) jk_31.symm (Nat.le_of_ble_eq_true rfl) rfl (by rw [jn_31]; rfl) (wc_fail ht V) (fun v1 h1 R => ?_)
            obtain ⟨rfl, V⟩ := R
            show wl_R _ _ 37 79 [some (.ref 93), some (wp_i x)] [] h1 _
            refine wl_goto (t := 99) ji_37_79 rfl ?_
            refine wl_rv ji_37_99 jr_37 ⟨rfl, ?_⟩
            rw [show c_wd law x st w ls as_ = .inl 5 by unfold c_wd; rw [if_neg (by omega), if_neg (by omega), if_pos (by omega)]]
            exact ⟨_, _, _, _, ws, e, hlen, V⟩
          · refine wl_s (pc' := 61) ji_37_60 rfl rfl rfl ?_
            refine wl_bp ji_37_61 rfl ?_
            refine wl_icmp (t := 82) ji_37_63 rfl (by omega) (by omega) (fun (hb29 : ¬ (x : Int) = 24) => ?_) (fun (hb29 : ¬ (¬ (x : Int) = 24)) => ?_)
            · refine wl_s (pc' := 83) ji_37_82 rfl rfl rfl ?_
              refine cl_g V ji_37_83 jf_37_51 rfl ?_
              refine wl_sp ji_37_86 rfl ?_
              refine wl_s (pc' := 90) ji_37_89 rfl rfl rfl ?_
              refine wl_iadd (x := 10000) (y := x) (z := 10000 + x) ji_37_90 (by omega) ?_
              obtain ⟨tfs, htc⟩ := cl_tc V
              refine wl_vc (d := d + 1) (as := [.ref t, wp_i (10000 + x)]) (rest := []) ji_37_91 jc_37_139 rfl htc jk_36.symm (Nat.le_of_ble_eq_true rfl) rfl (by rw [jn_36]; rfl) (wc_write ht V) (fun v1 h1 R => ?_)
              obtain ⟨rfl, V⟩ := R
              show wl_R _ _ 37 94 [some (.ref 93), some (wp_i x)] [] h1 _
              refine wl_s (pc' := 95) ji_37_94 rfl rfl rfl ?_
              refine wl_s (pc' := 96) ji_37_95 rfl rfl rfl ?_
              refine cl_p (y := 2) (f' := f) (q' := q) (law' := law) (st' := 2) (wn' := (w.length : Int)) (op' := opn w) (br' := brn w) (ls' := ls) (as_' := as_) ht V ji_37_96 jf_37_25 (by decide) rfl rfl rfl (fun h V => ?_)
              refine wl_rv ji_37_99 jr_37 ⟨rfl, ?_⟩
              rw [show c_wd law x st w ls as_ = .inr (2, w, ls, as_) by unfold c_wd; rw [if_neg (by omega), if_neg (by omega), if_neg (by omega)]]
              exact ⟨ws, e, hlen, V⟩
            · refine wl_s (pc' := 67) ji_37_66 rfl rfl rfl ?_
              refine cl_g V ji_37_67 jf_37_22 rfl ?_
              refine wl_s (pc' := 71) ji_37_70 rfl rfl rfl ?_
              refine wl_icmp (t := 82) ji_37_71 rfl (by omega) (by omega) (fun (hb30 : ¬ (law : Int) = 1) => ?_) (fun (hb30 : ¬ (¬ (law : Int) = 1)) => ?_)
              · refine wl_s (pc' := 83) ji_37_82 rfl rfl rfl ?_
                refine cl_g V ji_37_83 jf_37_51 rfl ?_
                refine wl_sp ji_37_86 rfl ?_
                refine wl_s (pc' := 90) ji_37_89 rfl rfl rfl ?_
                refine wl_iadd (x := 10000) (y := x) (z := 10000 + x) ji_37_90 (by omega) ?_
                obtain ⟨tfs, htc⟩ := cl_tc V
                refine wl_vc (d := d + 1) (as := [.ref t, wp_i (10000 + x)]) (rest := []) ji_37_91 jc_37_139 rfl htc jk_36.symm (Nat.le_of_ble_eq_true rfl) rfl (by rw [jn_36]; rfl) (wc_write ht V) (fun v1 h1 R => ?_)
                obtain ⟨rfl, V⟩ := R
                show wl_R _ _ 37 94 [some (.ref 93), some (wp_i x)] [] h1 _
                refine wl_s (pc' := 95) ji_37_94 rfl rfl rfl ?_
                refine wl_s (pc' := 96) ji_37_95 rfl rfl rfl ?_
                refine cl_p (y := 2) (f' := f) (q' := q) (law' := law) (st' := 2) (wn' := (w.length : Int)) (op' := opn w) (br' := brn w) (ls' := ls) (as_' := as_) ht V ji_37_96 jf_37_25 (by decide) rfl rfl rfl (fun h V => ?_)
                refine wl_rv ji_37_99 jr_37 ⟨rfl, ?_⟩
                rw [show c_wd law x st w ls as_ = .inr (2, w, ls, as_) by unfold c_wd; rw [if_neg (by omega), if_neg (by omega), if_neg (by omega)]]
                exact ⟨ws, e, hlen, V⟩
              · refine wl_s (pc' := 75) ji_37_74 rfl rfl rfl ?_
                refine wl_s (pc' := 76) ji_37_75 rfl rfl rfl ?_
                refine wl_vc (d := d + 1) (as := [.ref 93, wp_i 5]) (rest := []) ji_37_76 jc_37_80 rfl (cl_93 V) jk_31.symm (Nat.le_of_ble_eq_true rfl) rfl (by rw [jn_31]; rfl) (wc_fail ht V) (fun v1 h1 R => ?_)
                obtain ⟨rfl, V⟩ := R
                show wl_R _ _ 37 79 [some (.ref 93), some (wp_i x)] [] h1 _
                refine wl_goto (t := 99) ji_37_79 rfl ?_
                refine wl_rv ji_37_99 jr_37 ⟨rfl, ?_⟩
                rw [show c_wd law x st w ls as_ = .inl 5 by unfold c_wd; rw [if_neg (by omega), if_neg (by omega), if_pos (by omega)]]
                exact ⟨_, _, _, _, ws, e, hlen, V⟩
      · refine wl_s (pc' := 28) ji_37_27 rfl rfl rfl ?_
        refine wl_bp ji_37_28 rfl ?_
        refine wl_icmp (t := 47) ji_37_30 rfl (by omega) (by omega) (fun (hb31 : (x : Int) = 9) => ?_) (fun (hb31 : ¬ ((x : Int) = 9)) => ?_)
        · refine wl_s (pc' := 48) ji_37_47 rfl rfl rfl ?_
          refine wl_bp ji_37_48 rfl ?_
          refine wl_icmp (t := 60) ji_37_50 rfl (by omega) (by omega) (fun (hb32 : ¬ (x : Int) = 23) => ?_) (fun (hb32 : ¬ (¬ (x : Int) = 23)) => ?_)
          · refine wl_s (pc' := 61) ji_37_60 rfl rfl rfl ?_
            refine wl_bp ji_37_61 rfl ?_
            refine wl_icmp (t := 82) ji_37_63 rfl (by omega) (by omega) (fun (hb33 : ¬ (x : Int) = 24) => ?_) (fun (hb33 : ¬ (¬ (x : Int) = 24)) => ?_)
            · refine wl_s (pc' := 83) ji_37_82 rfl rfl rfl ?_
              refine cl_g V ji_37_83 jf_37_51 rfl ?_
              refine wl_sp ji_37_86 rfl ?_
              refine wl_s (pc' := 90) ji_37_89 rfl rfl rfl ?_
              refine wl_iadd (x := 10000) (y := x) (z := 10000 + x) ji_37_90 (by omega) ?_
              obtain ⟨tfs, htc⟩ := cl_tc V
              refine wl_vc (d := d + 1) (as := [.ref t, wp_i (10000 + x)]) (rest := []) ji_37_91 jc_37_139 rfl htc jk_36.symm (Nat.le_of_ble_eq_true rfl) rfl (by rw [jn_36]; rfl) (wc_write ht V) (fun v1 h1 R => ?_)
              obtain ⟨rfl, V⟩ := R
              show wl_R _ _ 37 94 [some (.ref 93), some (wp_i x)] [] h1 _
              refine wl_s (pc' := 95) ji_37_94 rfl rfl rfl ?_
              refine wl_s (pc' := 96) ji_37_95 rfl rfl rfl ?_
              refine cl_p (y := 2) (f' := f) (q' := q) (law' := law) (st' := 2) (wn' := (w.length : Int)) (op' := opn w) (br' := brn w) (ls' := ls) (as_' := as_) ht V ji_37_96 jf_37_25 (by decide) rfl rfl rfl (fun h V => ?_)
              refine wl_rv ji_37_99 jr_37 ⟨rfl, ?_⟩
              rw [show c_wd law x st w ls as_ = .inr (2, w, ls, as_) by unfold c_wd; rw [if_neg (by omega), if_neg (by omega), if_neg (by omega)]]
              exact ⟨ws, e, hlen, V⟩
            · refine wl_s (pc' := 67) ji_37_66 rfl rfl rfl ?_
              refine cl_g V ji_37_67 jf_37_22 rfl ?_
              refine wl_s (pc' := 71) ji_37_70 rfl rfl rfl ?_
              refine wl_icmp (t := 82) ji_37_71 rfl (by omega) (by omega) (fun (hb34 : ¬ (law : Int) = 1) => ?_) (fun (hb34 : ¬ (¬ (law : Int) = 1)) => ?_)
              · refine wl_s (pc' := 83) ji_37_82 rfl rfl rfl ?_
                refine cl_g V ji_37_83 jf_37_51 rfl ?_
                refine wl_sp ji_37_86 rfl ?_
                refine wl_s (pc' := 90) ji_37_89 rfl rfl rfl ?_
                refine wl_iadd (x := 10000) (y := x) (z := 10000 + x) ji_37_90 (by omega) ?_
                obtain ⟨tfs, htc⟩ := cl_tc V
                refine wl_vc (d := d + 1) (as := [.ref t, wp_i (10000 + x)]) (rest := []) ji_37_91 jc_37_139 rfl htc jk_36.symm (Nat.le_of_ble_eq_true rfl) rfl (by rw [jn_36]; rfl) (wc_write ht V) (fun v1 h1 R => ?_)
                obtain ⟨rfl, V⟩ := R
                show wl_R _ _ 37 94 [some (.ref 93), some (wp_i x)] [] h1 _
                refine wl_s (pc' := 95) ji_37_94 rfl rfl rfl ?_
                refine wl_s (pc' := 96) ji_37_95 rfl rfl rfl ?_
                refine cl_p (y := 2) (f' := f) (q' := q) (law' := law) (st' := 2) (wn' := (w.length : Int)) (op' := opn w) (br' := brn w) (ls' := ls) (as_' := as_) ht V ji_37_96 jf_37_25 (by decide) rfl rfl rfl (fun h V => ?_)
                refine wl_rv ji_37_99 jr_37 ⟨rfl, ?_⟩
                rw [show c_wd law x st w ls as_ = .inr (2, w, ls, as_) by unfold c_wd; rw [if_neg (by omega), if_neg (by omega), if_neg (by omega)]]
                exact ⟨ws, e, hlen, V⟩
              · refine wl_s (pc' := 75) ji_37_74 rfl rfl rfl ?_
                refine wl_s (pc' := 76) ji_37_75 rfl rfl rfl ?_
                refine wl_vc (d := d + 1) (as := [.ref 93, wp_i 5]) (rest := []) ji_37_76 jc_37_80 rfl (cl_93 V) jk_31.symm (Nat.le_of_ble_eq_true rfl) rfl (by rw [jn_31]; rfl) (wc_fail ht V) (fun v1 h1 R => ?_)
                obtain ⟨rfl, V⟩ := R
                show wl_R _ _ 37 79 [some (.ref 93), some (wp_i x)] [] h1 _
                refine wl_goto (t := 99) ji_37_79 rfl ?_
                refine wl_rv ji_37_99 jr_37 ⟨rfl, ?_⟩
                rw [show c_wd law x st w ls as_ = .inl 5 by unfold c_wd; rw [if_neg (by omega), if_neg (by omega), if_pos (by omega)]]
                exact ⟨_, _, _, _, ws, e, hlen, V⟩
          · refine wl_s (pc' := 54) ji_37_53 rfl rfl rfl ?_
            refine cl_g V ji_37_54 jf_37_22 rfl ?_
            refine wl_if (t := 74) ji_37_57 rfl (by omega) (fun (hb35 : (law : Int) = 0) => ?_) (fun (hb35 : ¬ ((law : Int) = 0)) => ?_)
            · refine wl_s (pc' := 75) ji_37_74 rfl rfl rfl ?_
              refine wl_s (pc' := 76) ji_37_75 rfl rfl rfl ?_
              refine wl_vc (d := d + 1) (as := [.ref 93, wp_i 5]) (rest := []) ji_37_76 jc_37_80 rfl (cl_93 V) jk_31.symm (Nat.le_of_ble_eq_true rfl) rfl (by rw [jn_31]; rfl) (wc_fail ht V) (fun v1 h1 R => ?_)
              obtain ⟨rfl, V⟩ := R
              show wl_R _ _ 37 79 [some (.ref 93), some (wp_i x)] [] h1 _
              refine wl_goto (t := 99) ji_37_79 rfl ?_
              refine wl_rv ji_37_99 jr_37 ⟨rfl, ?_⟩
              rw [show c_wd law x st w ls as_ = .inl 5 by unfold c_wd; rw [if_neg (by omega), if_neg (by omega), if_pos (by omega)]]
              exact ⟨_, _, _, _, ws, e, hlen, V⟩
            · refine wl_s (pc' := 61) ji_37_60 rfl rfl rfl ?_
              refine wl_bp ji_37_61 rfl ?_
              refine wl_icmp (t := 82) ji_37_63 rfl (by omega) (by omega) (fun (hb36 : ¬ (x : Int) = 24) => ?_) (fun (hb36 : ¬ (¬ (x : Int) = 24)) => ?_)
              · refine wl_s (pc' := 83) ji_37_82 rfl rfl rfl ?_
                refine cl_g V ji_37_83 jf_37_51 rfl ?_
                refine wl_sp ji_37_86 rfl ?_
                refine wl_s (pc' := 90) ji_37_89 rfl rfl rfl ?_
                refine wl_iadd (x := 10000) (y := x) (z := 10000 + x) ji_37_90 (by omega) ?_
                obtain ⟨tfs, htc⟩ := cl_tc V
                refine wl_vc (d := d + 1) (as := [.ref t, wp_i (10000 + x)]) (rest := []) ji_37_91 jc_37_139 rfl htc jk_36.symm (Nat.le_of_ble_eq_true rfl) rfl (by rw [jn_36]; rfl) (wc_write ht V) (fun v1 h1 R => ?_)
                obtain ⟨rfl, V⟩ := R
                show wl_R _ _ 37 94 [some (.ref 93), some (wp_i x)] [] h1 _
                refine wl_s (pc' := 95) ji_37_94 rfl rfl rfl ?_
                refine wl_s (pc' := 96) ji_37_95 rfl rfl rfl ?_
                refine cl_p (y := 2) (f' := f) (q' := q) (law' := law) (st' := 2) (wn' := (w.length : Int)) (op' := opn w) (br' := brn w) (ls' := ls) (as_' := as_) ht V ji_37_96 jf_37_25 (by decide) rfl rfl rfl (fun h V => ?_)
                refine wl_rv ji_37_99 jr_37 ⟨rfl, ?_⟩
                rw [show c_wd law x st w ls as_ = .inr (2, w, ls, as_) by unfold c_wd; rw [if_neg (by omega), if_neg (by omega), if_neg (by omega)]]
                exact ⟨ws, e, hlen, V⟩
              · refine wl_s (pc' := 67) ji_37_66 rfl rfl rfl ?_
                refine cl_g V ji_37_67 jf_37_22 rfl ?_
                refine wl_s (pc' := 71) ji_37_70 rfl rfl rfl ?_
                refine wl_icmp (t := 82) ji_37_71 rfl (by omega) (by omega) (fun (hb37 : ¬ (law : Int) = 1) => ?_) (fun (hb37 : ¬ (¬ (law : Int) = 1)) => ?_)
                · refine wl_s (pc' := 83) ji_37_82 rfl rfl rfl ?_
                  refine cl_g V ji_37_83 jf_37_51 rfl ?_
                  refine wl_sp ji_37_86 rfl ?_
                  refine wl_s (pc' := 90) ji_37_89 rfl rfl rfl ?_
                  refine wl_iadd (x := 10000) (y := x) (z := 10000 + x) ji_37_90 (by omega) ?_
                  obtain ⟨tfs, htc⟩ := cl_tc V
                  refine wl_vc (d := d + 1) (as := [.ref t, wp_i (10000 + x)]) (rest := []) ji_37_91 jc_37_139 rfl htc jk_36.symm (Nat.le_of_ble_eq_true rfl) rfl (by rw [jn_36]; rfl) (wc_write ht V) (fun v1 h1 R => ?_)
                  obtain ⟨rfl, V⟩ := R
                  show wl_R _ _ 37 94 [some (.ref 93), some (wp_i x)] [] h1 _
                  refine wl_s (pc' := 95) ji_37_94 rfl rfl rfl ?_
                  refine wl_s (pc' := 96) ji_37_95 rfl rfl rfl ?_
                  refine cl_p (y := 2) (f' := f) (q' := q) (law' := law) (st' := 2) (wn' := (w.length : Int)) (op' := opn w) (br' := brn w) (ls' := ls) (as_' := as_) ht V ji_37_96 jf_37_25 (by decide) rfl rfl rfl (fun h V => ?_)
                  refine wl_rv ji_37_99 jr_37 ⟨rfl, ?_⟩
                  rw [show c_wd law x st w ls as_ = .inr (2, w, ls, as_) by unfold c_wd; rw [if_neg (by omega), if_neg (by omega), if_neg (by omega)]]
                  exact ⟨ws, e, hlen, V⟩
                · refine wl_s (pc' := 75) ji_37_74 rfl rfl rfl ?_
                  refine wl_s (pc' := 76) ji_37_75 rfl rfl rfl ?_
                  refine wl_vc (d := d + 1) (as := [.ref 93, wp_i 5]) (rest := []) ji_37_76 jc_37_80 rfl (cl_93 V) jk_31.symm (Nat.le_of_ble_eq_true rfl) rfl (by rw [jn_31]; rfl) (wc_fail ht V) (fun v1 h1 R => ?_)
                  obtain ⟨rfl, V⟩ := R
                  show wl_R _ _ 37 79 [some (.ref 93), some (wp_i x)] [] h1 _
                  refine wl_goto (t := 99) ji_37_79 rfl ?_
                  refine wl_rv ji_37_99 jr_37 ⟨rfl, ?_⟩
                  rw [show c_wd law x st w ls as_ = .inl 5 by unfold c_wd; rw [if_neg (by omega), if_neg (by omega), if_pos (by omega)]]
                  exact ⟨_, _, _, _, ws, e, hlen, V⟩
        · refine wl_s (pc' := 34) ji_37_33 rfl rfl rfl ?_
          refine wl_bp ji_37_34 rfl ?_
          refine wl_icmp (t := 47) ji_37_36 rfl (by omega) (by omega) (fun (hb38 : (17 : Int) ≤ x) => ?_) (fun (hb38 : ¬ ((17 : Int) ≤ x)) => ?_)
          · refine wl_s (pc' := 48) ji_37_47 rfl rfl rfl ?_
            refine wl_bp ji_37_48 rfl ?_
            refine wl_icmp (t := 60) ji_37_50 rfl (by omega) (by omega) (fun (hb39 : ¬ (x : Int) = 23) => ?_) (fun (hb39 : ¬ (¬ (x : Int) = 23)) => ?_)
            · refine wl_s (pc' := 61) ji_37_60 rfl rfl rfl ?_
              refine wl_bp ji_37_61 rfl ?_
              refine wl_icmp (t := 82) ji_37_63 rfl (by omega) (by omega) (fun (hb40 : ¬ (x : Int) = 24) => ?_) (fun (hb40 : ¬ (¬ (x : Int) = 24)) => ?_)
              · refine wl_s (pc' := 83) ji_37_82 rfl rfl rfl ?_
                refine cl_g V ji_37_83 jf_37_51 rfl ?_
                refine wl_sp ji_37_86 rfl ?_
                refine wl_s (pc' := 90) ji_37_89 rfl rfl rfl ?_
                refine wl_iadd (x := 10000) (y := x) (z := 10000 + x) ji_37_90 (by omega) ?_
                obtain ⟨tfs, htc⟩ := cl_tc V
                refine wl_vc (d := d + 1) (as := [.ref t, wp_i (10000 + x)]) (rest := []) ji_37_91 jc_37_139 rfl htc jk_36.symm (Nat.le_of_ble_eq_true rfl) rfl (by rw [jn_36]; rfl) (wc_write ht V) (fun v1 h1 R => ?_)
                obtain ⟨rfl, V⟩ := R
                show wl_R _ _ 37 94 [some (.ref 93), some (wp_i x)] [] h1 _
                refine wl_s (pc' := 95) ji_37_94 rfl rfl rfl ?_
                refine wl_s (pc' := 96) ji_37_95 rfl rfl rfl ?_
                refine cl_p (y := 2) (f' := f) (q' := q) (law' := law) (st' := 2) (wn' := (w.length : Int)) (op' := opn w) (br' := brn w) (ls' := ls) (as_' := as_) ht V ji_37_96 jf_37_25 (by decide) rfl rfl rfl (fun h V => ?_)
                refine wl_rv ji_37_99 jr_37 ⟨rfl, ?_⟩
                rw [show c_wd law x st w ls as_ = .inr (2, w, ls, as_) by unfold c_wd; rw [if_neg (by omega), if_neg (by omega), if_neg (by omega)]]
                exact ⟨ws, e, hlen, V⟩
              · refine wl_s (pc' := 67) ji_37_66 rfl rfl rfl ?_
                refine cl_g V ji_37_67 jf_37_22 rfl ?_
                refine wl_s (pc' := 71) ji_37_70 rfl rfl rfl ?_
                refine wl_icmp (t := 82) ji_37_71 rfl (by omega) (by omega) (fun (hb41 : ¬ (law : Int) = 1) => ?_) (fun (hb41 : ¬ (¬ (law : Int) = 1)) => ?_)
                · refine wl_s (pc' := 83) ji_37_82 rfl rfl rfl ?_
                  refine cl_g V ji_37_83 jf_37_51 rfl ?_
                  refine wl_sp ji_37_86 rfl ?_
                  refine wl_s (pc' := 90) ji_37_89 rfl rfl rfl ?_
                  refine wl_iadd (x := 10000) (y := x) (z := 10000 + x) ji_37_90 (by omega) ?_
                  obtain ⟨tfs, htc⟩ := cl_tc V
                  refine wl_vc (d := d + 1) (as := [.ref t, wp_i (10000 + x)]) (rest := []) ji_37_91 jc_37_139 rfl htc jk_36.symm (Nat.le_of_ble_eq_true rfl) rfl (by rw [jn_36]; rfl) (wc_write ht V) (fun v1 h1 R => ?_)
                  obtain ⟨rfl, V⟩ := R
                  show wl_R _ _ 37 94 [some (.ref 93), some (wp_i x)] [] h1 _
                  refine wl_s (pc' := 95) ji_37_94 rfl rfl rfl ?_
                  refine wl_s (pc' := 96) ji_37_95 rfl rfl rfl ?_
                  refine cl_p (y := 2) (f' := f) (q' := q) (law' := law) (st' := 2) (wn' := (w.length : Int)) (op' := opn w) (br' := brn w) (ls' := ls) (as_' := as_) ht V ji_37_96 jf_37_25 (by decide) rfl rfl rfl (fun h V => ?_)
                  refine wl_rv ji_37_99 jr_37 ⟨rfl, ?_⟩
                  rw [show c_wd law x st w ls as_ = .inr (2, w, ls, as_) by unfold c_wd; rw [if_neg (by omega), if_neg (by omega), if_neg (by omega)]]
                  exact ⟨ws, e, hlen, V⟩
                · refine wl_s (pc' := 75) ji_37_74 rfl rfl rfl ?_
                  refine wl_s (pc' := 76) ji_37_75 rfl rfl rfl ?_
                  refine wl_vc (d := d + 1) (as := [.ref 93, wp_i 5]) (rest := []) ji_37_76 jc_37_80 rfl (cl_93 V) jk_31.symm (Nat.le_of_ble_eq_true rfl) rfl (by rw [jn_31]; rfl) (wc_fail ht V) (fun v1 h1 R => ?_)
                  obtain ⟨rfl, V⟩ := R
                  show wl_R _ _ 37 79 [some (.ref 93), some (wp_i x)] [] h1 _
                  refine wl_goto (t := 99) ji_37_79 rfl ?_
                  refine wl_rv ji_37_99 jr_37 ⟨rfl, ?_⟩
                  rw [show c_wd law x st w ls as_ = .inl 5 by unfold c_wd; rw [if_neg (by omega), if_neg (by omega), if_pos (by omega)]]
                  exact ⟨_, _, _, _, ws, e, hlen, V⟩
            · refine wl_s (pc' := 54) ji_37_53 rfl rfl rfl ?_
              refine cl_g V ji_37_54 jf_37_22 rfl ?_
              refine wl_if (t := 74) ji_37_57 rfl (by omega) (fun (hb42 : (law : Int) = 0) => ?_) (fun (hb42 : ¬ ((law : Int) = 0)) => ?_)
              · refine wl_s (pc' := 75) ji_37_74 rfl rfl rfl ?_
                refine wl_s (pc' := 76) ji_37_75 rfl rfl rfl ?_
                refine wl_vc (d := d + 1) (as := [.ref 93, wp_i 5]) (rest := []) ji_37_76 jc_37_80 rfl (cl_93 V) jk_31.symm (Nat.le_of_ble_eq_true rfl) rfl (by rw [jn_31]; rfl) (wc_fail ht V) (fun v1 h1 R => ?_)
                obtain ⟨rfl, V⟩ := R
                show wl_R _ _ 37 79 [some (.ref 93), some (wp_i x)] [] h1 _
                refine wl_goto (t := 99) ji_37_79 rfl ?_
                refine wl_rv ji_37_99 jr_37 ⟨rfl, ?_⟩
                rw [show c_wd law x st w ls as_ = .inl 5 by unfold c_wd; rw [if_neg (by omega), if_neg (by omega), if_pos (by omega)]]
                exact ⟨_, _, _, _, ws, e, hlen, V⟩
              · refine wl_s (pc' := 61) ji_37_60 rfl rfl rfl ?_
                refine wl_bp ji_37_61 rfl ?_
                refine wl_icmp (t := 82) ji_37_63 rfl (by omega) (by omega) (fun (hb43 : ¬ (x : Int) = 24) => ?_) (fun (hb43 : ¬ (¬ (x : Int) = 24)) => ?_)
                · refine wl_s (pc' := 83) ji_37_82 rfl rfl rfl ?_
                  refine cl_g V ji_37_83 jf_37_51 rfl ?_
                  refine wl_sp ji_37_86 rfl ?_
                  refine wl_s (pc' := 90) ji_37_89 rfl rfl rfl ?_
                  refine wl_iadd (x := 10000) (y := x) (z := 10000 + x) ji_37_90 (by omega) ?_
                  obtain ⟨tfs, htc⟩ := cl_tc V
                  refine wl_vc (d := d + 1) (as := [.ref t, wp_i (10000 + x)]) (rest := []) ji_37_91 jc_37_139 rfl htc jk_36.symm (Nat.le_of_ble_eq_true rfl) rfl (by rw [jn_36]; rfl) (wc_write ht V) (fun v1 h1 R => ?_)
                  obtain ⟨rfl, V⟩ := R
                  show wl_R _ _ 37 94 [some (.ref 93), some (wp_i x)] [] h1 _
                  refine wl_s (pc' := 95) ji_37_94 rfl rfl rfl ?_
                  refine wl_s (pc' := 96) ji_37_95 rfl rfl rfl ?_
                  refine cl_p (y := 2) (f' := f) (q' := q) (law' := law) (st' := 2) (wn' := (w.length : Int)) (op' := opn w) (br' := brn w) (ls' := ls) (as_' := as_) ht V ji_37_96 jf_37_25 (by decide) rfl rfl rfl (fun h V => ?_)
                  refine wl_rv ji_37_99 jr_37 ⟨rfl, ?_⟩
                  rw [show c_wd law x st w ls as_ = .inr (2, w, ls, as_) by unfold c_wd; rw [if_neg (by omega), if_neg (by omega), if_neg (by omega)]]
                  exact ⟨ws, e, hlen, V⟩
                · refine wl_s (pc' := 67) ji_37_66 rfl rfl rfl ?_
                  refine cl_g V ji_37_67 jf_37_22 rfl ?_
                  refine wl_s (pc' := 71) ji_37_70 rfl rfl rfl ?_
                  refine wl_icmp (t := 82) ji_37_71 rfl (by omega) (by omega) (fun (hb44 : ¬ (law : Int) = 1) => ?_) (fun (hb44 : ¬ (¬ (law : Int) = 1)) => ?_)
                  · refine wl_s (pc' := 83) ji_37_82 rfl rfl rfl ?_
                    refine cl_g V ji_37_83 jf_37_51 rfl ?_
                    refine wl_sp ji_37_86 rfl ?_
                    refine wl_s (pc' := 90) ji_37_89 rfl rfl rfl ?_
                    refine wl_iadd (x := 10000) (y := x) (z := 10000 + x) ji_37_90 (by omega) ?_
                    obtain ⟨tfs, htc⟩ := cl_tc V
                    refine wl_vc (d := d + 1) (as := [.ref t, wp_i (10000 + x)]) (rest := []) ji_37_91 jc_37_139 rfl htc jk_36.symm (Nat.le_of_ble_eq_true rfl) rfl (by rw [jn_36]; rfl) (wc_write ht V) (fun v1 h1 R => ?_)
                    obtain ⟨rfl, V⟩ := R
                    show wl_R _ _ 37 94 [some (.ref 93), some (wp_i x)] [] h1 _
                    refine wl_s (pc' := 95) ji_37_94 rfl rfl rfl ?_
                    refine wl_s (pc' := 96) ji_37_95 rfl rfl rfl ?_
                    refine cl_p (y := 2) (f' := f) (q' := q) (law' := law) (st' := 2) (wn' := (w.length : Int)) (op' := opn w) (br' := brn w) (ls' := ls) (as_' := as_) ht V ji_37_96 jf_37_25 (by decide) rfl rfl rfl (fun h V => ?_)
                    refine wl_rv ji_37_99 jr_37 ⟨rfl, ?_⟩
                    rw [show c_wd law x st w ls as_ = .inr (2, w, ls, as_) by unfold c_wd; rw [if_neg (by omega), if_neg (by omega), if_neg (by omega)]]
                    exact ⟨ws, e, hlen, V⟩
                  · refine wl_s (pc' := 75) ji_37_74 rfl rfl rfl ?_
                    refine wl_s (pc' := 76) ji_37_75 rfl rfl rfl ?_
                    refine wl_vc (d := d + 1) (as := [.ref 93, wp_i 5]) (rest := []) ji_37_76 jc_37_80 rfl (cl_93 V) jk_31.symm (Nat.le_of_ble_eq_true rfl) rfl (by rw [jn_31]; rfl) (wc_fail ht V) (fun v1 h1 R => ?_)
                    obtain ⟨rfl, V⟩ := R
                    show wl_R _ _ 37 79 [some (.ref 93), some (wp_i x)] [] h1 _
                    refine wl_goto (t := 99) ji_37_79 rfl ?_
                    refine wl_rv ji_37_99 jr_37 ⟨rfl, ?_⟩
                    rw [show c_wd law x st w ls as_ = .inl 5 by unfold c_wd; rw [if_neg (by omega), if_neg (by omega), if_pos (by omega)]]
                    exact ⟨_, _, _, _, ws, e, hlen, V⟩
          · refine wl_s (pc' := 40) ji_37_39 rfl rfl rfl ?_
            refine wl_s (pc' := 41) ji_37_40 rfl rfl rfl ?_
            refine wl_vc (d := d + 1) (as := [.ref 93, wp_i 1]) (rest := []) ji_37_41 jc_37_80 rfl (cl_93 V) jk_31.symm (Nat.le_of_ble_eq_true rfl) rfl (by rw [jn_31]; rfl) (wc_fail ht V) (fun v1 h1 R => ?_)
            obtain ⟨rfl, V⟩ := R
            show wl_R _ _ 37 44 [some (.ref 93), some (wp_i x)] [] h1 _
            refine wl_goto (t := 99) ji_37_44 rfl ?_
            refine wl_rv ji_37_99 jr_37 ⟨rfl, ?_⟩
            rw [show c_wd law x st w ls as_ = .inl 1 by unfold c_wd; rw [if_neg (by omega), if_pos (by omega)]]
            exact ⟨_, _, _, _, ws, e, hlen, V⟩
    · refine wl_s (pc' := 14) ji_37_13 rfl rfl rfl ?_
      refine wl_bp ji_37_14 rfl ?_
      refine wl_vc (d := d + 1) (as := [.ref 93, wp_i 33]) (rest := []) ji_37_16 jc_37_145 rfl (cl_93 V) jk_38.symm (Nat.le_of_ble_eq_true rfl) rfl (by rw [jn_38]; rfl) (wc_open (c := 33) ht ⟨ws, e, hlen, V⟩ hw (by omega)) (fun v1 h1 R => ?_)
      obtain ⟨rfl, V⟩ := R
      show wl_R _ _ 37 19 [some (.ref 93), some (wp_i x)] [] h1 _
      refine wl_goto (t := 99) ji_37_19 rfl ?_
      refine wl_rv ji_37_99 jr_37 ⟨rfl, ?_⟩
      rw [show c_wd law x st w ls as_ = c_op 33 w ls as_ by unfold c_wd; rw [if_pos (by omega)]]
      show cQ _ _ _ _ _ _ _ _ _ _ _ _ _ _ (c_op 33 w ls as_)
      rcases V with ⟨o1, V⟩ | ⟨o1, V⟩
      · rw [show c_op 33 w ls as_ = .inl 3 from if_pos o1]
        exact ⟨_, _, _, _, V⟩
      · rw [show c_op 33 w ls as_ = .inr (if (33 : Int) = 33 then 0 else 1, 33 :: w, ls, as_) from if_neg o1]
        exact V
theorem wc_one {nn d : Nat} {h0 h : mj_H} {bl fr : List Value} {t : Nat} {w : List Int} {L k v s p f q law st ls as_ cl : Int} (ht : 12 ≤ t ∧ t ≤ 33) (V : cH h0 h bl t L k v s p f q law st w ls as_ cl fr) (hw : w.length ≤ 39) (hst : 0 ≤ st ∧ st ≤ 5) (hlaw : 0 ≤ law ∧ law ≤ 2) (hkv : wp_r k ∧ wp_r v ∧ (k = 0 → -1 ≤ v ∧ v ≤ 30)) : wl_R nn (d + 3) 35 0 [some (.ref 93)] [] h (fun v1 h1 => v1 = none ∧ cQ h0 h1 bl t L k v s p f q law cl fr  (c_one law k v st w ls as_)) := by
  obtain ⟨ws, e, hlen, V⟩ := V
  have hop := opn_0 w
  have hbr := brn_0 w
  refine wl_s (pc' := 1) ji_35_0 rfl rfl rfl ?_
  refine cl_g V ji_35_1 jf_35_47 rfl ?_
  refine cl_t V ji_35_4 jf_35_68 rfl ?_
  refine wl_s (pc' := 8) ji_35_7 rfl rfl rfl ?_
  refine wl_icmp (t := 32) ji_35_8 rfl (by omega) (by omega) (fun (hb1 : ¬ (k : Int) = 1) => ?_) (fun (hb1 : ¬ (¬ (k : Int) = 1)) => ?_)
  · refine wl_s (pc' := 33) ji_35_32 rfl rfl rfl ?_
    refine cl_g V ji_35_33 jf_35_47 rfl ?_
    refine cl_t V ji_35_36 jf_35_68 rfl ?_
    refine wl_s (pc' := 40) ji_35_39 rfl rfl rfl ?_
    refine wl_icmp (t := 65) ji_35_40 rfl (by omega) (by omega) (fun (hb2 : ¬ (k : Int) = 1) => ?_) (fun (hb2 : ¬ (¬ (k : Int) = 1)) => ?_)
    · refine wl_s (pc' := 66) ji_35_65 rfl rfl rfl ?_
      refine cl_g V ji_35_66 jf_35_47 rfl ?_
      refine cl_t V ji_35_69 jf_35_68 rfl ?_
      refine wl_if (t := 89) ji_35_72 rfl (by omega) (fun (hb3 : ¬ (k : Int) = 0) => ?_) (fun (hb3 : ¬ (¬ (k : Int) = 0)) => ?_)
      · refine wl_s (pc' := 90) ji_35_89 rfl rfl rfl ?_
        refine cl_g V ji_35_90 jf_35_47 rfl ?_
        refine cl_t V ji_35_93 jf_35_68 rfl ?_
        refine wl_s (pc' := 97) ji_35_96 rfl rfl rfl ?_
        refine wl_icmp (t := 121) ji_35_97 rfl (by omega) (by omega) (fun (hb4 : ¬ (k : Int) = 2) => ?_) (fun (hb4 : ¬ (¬ (k : Int) = 2)) => ?_)
        · refine wl_s (pc' := 122) ji_35_121 rfl rfl rfl ?_
          refine cl_g V ji_35_122 jf_35_47 rfl ?_
          refine cl_t V ji_35_125 jf_35_68 rfl ?_
          refine wl_s (pc' := 129) ji_35_128 rfl rfl rfl ?_
          refine wl_icmp (t := 153) ji_35_129 rfl (by omega) (by omega) (fun (hb5 : ¬ (k : Int) = 2) => ?_) (fun (hb5 : ¬ (¬ (k : Int) = 2)) => ?_)
          · refine wl_s (pc' := 154) ji_35_153 rfl rfl rfl ?_
            refine wl_s (pc' := 155) ji_35_154 rfl rfl rfl ?_
            refine wl_vc (d := d + 2) (as := [.ref 93, wp_i 1]) (rest := []) ji_35_155 jc_35_80 rfl (cl_93 V) jk_31.symm (Nat.le_of_ble_eq_true rfl) rfl (by rw [jn_31]; rfl) (wc_fail ht V) (fun v1 h1 R => ?_)
            obtain ⟨rfl, V⟩ := R
            show wl_R _ _ 35 158 [some (.ref 93)] [] h1 _
            refine wl_rv ji_35_158 jr_35 ⟨rfl, ?_⟩
            rw [show c_one law k v st w ls as_ = .inl 1 by unfold c_one; rw [if_neg (by omega), if_neg (by omega), if_neg (by omega), if_neg (by omega), if_neg (by omega)]]
            exact ⟨_, _, _, _, ws, e, hlen, V⟩
          · refine wl_s (pc' := 133) ji_35_132 rfl rfl rfl ?_
            refine cl_g V ji_35_133 jf_35_47 rfl ?_
            refine cl_t V ji_35_136 jf_35_77 rfl ?_
            refine wl_bp ji_35_139 rfl ?_
            refine wl_icmp (t := 153) ji_35_141 rfl (by omega) (by omega) (fun (hb6 : ¬ (v : Int) = 45) => ?_) (fun (hb6 : ¬ (¬ (v : Int) = 45)) => ?_)
            · refine wl_s (pc' := 154) ji_35_153 rfl rfl rfl ?_
              refine wl_s (pc' := 155) ji_35_154 rfl rfl rfl ?_
              refine wl_vc (d := d + 2) (as := [.ref 93, wp_i 1]) (rest := []) ji_35_155 jc_35_80 rfl (cl_93 V) jk_31.symm (Nat.le_of_ble_eq_true rfl) rfl (by rw [jn_31]; rfl) (wc_fail ht V) (fun v1 h1 R => ?_)
              obtain ⟨rfl, V⟩ := R
              show wl_R _ _ 35 158 [some (.ref 93)] [] h1 _
              refine wl_rv ji_35_158 jr_35 ⟨rfl, ?_⟩
              rw [show c_one law k v st w ls as_ = .inl 1 by unfold c_one; rw [if_neg (by omega), if_neg (by omega), if_neg (by omega), if_neg (by omega), if_neg (by omega)]]
              exact ⟨_, _, _, _, ws, e, hlen, V⟩
            · refine wl_s (pc' := 145) ji_35_144 rfl rfl rfl ?_
              refine wl_bp ji_35_145 rfl ?_
              refine wl_vc (d := d + 2) (as := [.ref 93, wp_i 110]) (rest := []) ji_35_147 jc_35_145 rfl (cl_93 V) jk_38.symm (Nat.le_of_ble_eq_true rfl) rfl (by rw [jn_38]; rfl) (wc_open (d := d + 1) (c := 110) ht ⟨ws, e, hlen, V⟩ hw (by omega)) (fun v1 h1 R => ?_)
              obtain ⟨rfl, V⟩ := R
              show wl_R _ _ 35 150 [some (.ref 93)] [] h1 _
              refine wl_goto (t := 158) ji_35_150 rfl ?_
              refine wl_rv ji_35_158 jr_35 ⟨rfl, ?_⟩
              rw [show c_one law k v st w ls as_ = c_op 110 w ls as_ by unfold c_one; rw [if_neg (by omega), if_neg (by omega), if_neg (by omega), if_neg (by omega), if_pos (by omega)]]
              show cQ _ _ _ _ _ _ _ _ _ _ _ _ _ _ (c_op 110 w ls as_)
              rcases V with ⟨o1, V⟩ | ⟨o1, V⟩
              · rw [show c_op 110 w ls as_ = .inl 3 from if_pos o1]
                exact ⟨_, _, _, _, V⟩
              · rw [show c_op 110 w ls as_ = .inr (if (110 : Int) = 33 then 0 else 1, 110 :: w, ls, as_) from if_neg o1]
                exact V
        · refine wl_s (pc' := 101) ji_35_100 rfl rfl rfl ?_
          refine cl_g V ji_35_101 jf_35_47 rfl ?_
          refine cl_t V ji_35_104 jf_35_77 rfl ?_
          refine wl_bp ji_35_107 rfl ?_
          refine wl_icmp (t := 121) ji_35_109 rfl (by omega) (by omega) (fun (hb7 : ¬ (v : Int) = 40) => ?_) (fun (hb7 : ¬ (¬ (v : Int) = 40)) => ?_)
          · refine wl_s (pc' := 122) ji_35_121 rfl rfl rfl ?_
            refine cl_g V ji_35_122 jf_35_47 rfl ?_
            refine cl_t V ji_35_125 jf_35_68 rfl ?_
            refine wl_s (pc' := 129) ji_35_128 rfl rfl rfl ?_
            refine wl_icmp (t := 153) ji_35_129 rfl (by omega) (by omega) (fun (hb8 : ¬ (k : Int) = 2) => ?_) (fun (hb8 : ¬ (¬ (k : Int) = 2)) => ?_)
            · refine wl_s (pc' := 154) ji_35_153 rfl rfl rfl ?_
              refine wl_s (pc' := 155) ji_35_154 rfl rfl rfl ?_
              refine wl_vc (d := d + 2) (as := [.ref 93, wp_i 1]) (rest := []) ji_35_155 jc_35_80 rfl (cl_93 V) jk_31.symm (Nat.le_of_ble_eq_true rfl) rfl (by rw [jn_31]; rfl) (wc_fail ht V) (fun v1 h1 R => ?_)
              obtain ⟨rfl, V⟩ := R
              show wl_R _ _ 35 158 [some (.ref 93)] [] h1 _
              refine wl_rv ji_35_158 jr_35 ⟨rfl, ?_⟩
              rw [show c_one law k v st w ls as_ = .inl 1 by unfold c_one; rw [if_neg (by omega), if_neg (by omega), if_neg (by omega), if_neg (by omega), if_neg (by omega)]]
              exact ⟨_, _, _, _, ws, e, hlen, V⟩
            · refine wl_s (pc' := 133) ji_35_132 rfl rfl rfl ?_
              refine cl_g V ji_35_133 jf_35_47 rfl ?_
              refine cl_t V ji_35_136 jf_35_77 rfl ?_
              refine wl_bp ji_35_139 rfl ?_
              refine wl_icmp (t := 153) ji_35_141 rfl (by omega) (by omega) (fun (hb9 : ¬ (v : Int) = 45) => ?_) (fun (hb9 : ¬ (¬ (v : Int) = 45)) => ?_)
              · refine wl_s (pc' := 154) ji_35_153 rfl rfl rfl ?_
                refine wl_s (pc' := 155) ji_35_154 rfl rfl rfl ?_
                refine wl_vc (d := d + 2) (as := [.ref 93, wp_i 1]) (rest := []) ji_35_155 jc_35_80 rfl (cl_93 V) jk_31.symm (Nat.le_of_ble_eq_true rfl) rfl (by rw [jn_31]; rfl) (wc_fail ht V) (fun v1 h1 R => ?_)
                obtain ⟨rfl, V⟩ := R
                show wl_R _ _ 35 158 [some (.ref 93)] [] h1 _
                refine wl_rv ji_35_158 jr_35 ⟨rfl, ?_⟩
                rw [show c_one law k v st w ls as_ = .inl 1 by unfold c_one; rw [if_neg (by omega), if_neg (by omega), if_neg (by omega), if_neg (by omega), if_neg (by omega)]]
                exact ⟨_, _, _, _, ws, e, hlen, V⟩
              · refine wl_s (pc' := 145) ji_35_144 rfl rfl rfl ?_
                refine wl_bp ji_35_145 rfl ?_
                refine wl_vc (d := d + 2) (as := [.ref 93, wp_i 110]) (rest := []) ji_35_147 jc_35_145 rfl (cl_93 V) jk_38.symm (Nat.le_of_ble_eq_true rfl) rfl (by rw [jn_38]; rfl) (wc_open (d := d + 1) (c := 110) ht ⟨ws, e, hlen, V⟩ hw (by omega)) (fun v1 h1 R => ?_)
                obtain ⟨rfl, V⟩ := R
                show wl_R _ _ 35 150 [some (.ref 93)] [] h1 _
                refine wl_goto (t := 158) ji_35_150 rfl ?_
                refine wl_rv ji_35_158 jr_35 ⟨rfl, ?_⟩
                rw [show c_one law k v st w ls as_ = c_op 110 w ls as_ by unfold c_one; rw [if_neg (by omega), if_neg (by omega), if_neg (by omega), if_neg (by omega), if_pos (by omega)]]
                show cQ _ _ _ _ _ _ _ _ _ _ _ _ _ _ (c_op 110 w ls as_)
                rcases V with ⟨o1, V⟩ | ⟨o1, V⟩
                · rw [show c_op 110 w ls as_ = .inl 3 from if_pos o1]
                  exact ⟨_, _, _, _, V⟩
                · rw [show c_op 110 w ls as_ = .inr (if (110 : Int) = 33 then 0 else 1, 110 :: w, ls, as_) from if_neg o1]
                  exact V
          · refine wl_s (pc' := 113) ji_35_112 rfl rfl rfl ?_
            refine wl_bp ji_35_113 rfl ?_
            refine wl_vc (d := d + 2) (as := [.ref 93, wp_i 40]) (rest := []) ji_35_115 jc_35_145 rfl (cl_93 V) jk_38.symm (Nat.le_of_ble_eq_true rfl) rfl (by rw [jn_38]; rfl) (wc_open (d := d + 1) (c := 40) ht ⟨ws, e, hlen, V⟩ hw (by omega)) (fun v1 h1 R => ?_)
            obtain ⟨rfl, V⟩ := R
            show wl_R _ _ 35 118 [some (.ref 93)] [] h1 _
            refine wl_goto (t := 158) ji_35_118 rfl ?_
            refine wl_rv ji_35_158 jr_35 ⟨rfl, ?_⟩
            rw [show c_one law k v st w ls as_ = c_op 40 w ls as_ by unfold c_one; rw [if_neg (by omega), if_neg (by omega), if_neg (by omega), if_pos (by omega)]]
            show cQ _ _ _ _ _ _ _ _ _ _ _ _ _ _ (c_op 40 w ls as_)
            rcases V with ⟨o1, V⟩ | ⟨o1, V⟩
            · rw [show c_op 40 w ls as_ = .inl 3 from if_pos o1]
              exact ⟨_, _, _, _, V⟩
            · rw [show c_op 40 w ls as_ = .inr (if (40 : Int) = 33 then 0 else 1, 40 :: w, ls, as_) from if_neg o1]
              exact V
      · refine wl_s (pc' := 76) ji_35_75 rfl rfl rfl ?_
        refine wl_s (pc' := 77) ji_35_76 rfl rfl rfl ?_
        refine cl_g V ji_35_77 jf_35_47 rfl ?_
        refine cl_t V ji_35_80 jf_35_77 rfl ?_
        refine wl_vc (d := d + 2) (as := [.ref 93, wp_i v]) (rest := []) ji_35_83 jc_35_142 rfl (cl_93 V) jk_37.symm (Nat.le_of_ble_eq_true rfl) rfl (by rw [jn_37]; rfl) (wc_wd (d := d) (x := v) ht ⟨ws, e, hlen, V⟩ hw hst hlaw (hkv.2.2 (by omega))) (fun v1 h1 R => ?_)
        obtain ⟨rfl, V⟩ := R
        show wl_R _ _ 35 86 [some (.ref 93)] [] h1 _
        refine wl_goto (t := 158) ji_35_86 rfl ?_
        refine wl_rv ji_35_158 jr_35 ⟨rfl, ?_⟩
        rw [show c_one law k v st w ls as_ = c_wd law v st w ls as_ by unfold c_one; rw [if_neg (by omega), if_neg (by omega), if_pos (by omega)]]
        exact V
    · refine wl_s (pc' := 44) ji_35_43 rfl rfl rfl ?_
      refine cl_g V ji_35_44 jf_35_51 rfl ?_
      refine wl_s (pc' := 48) ji_35_47 rfl rfl rfl ?_
      refine cl_g V ji_35_48 jf_35_47 rfl ?_
      refine cl_t V ji_35_51 jf_35_77 rfl ?_
      obtain ⟨tfs, htc⟩ := cl_tc V
      refine wl_vc (d := d + 2) (as := [.ref t, wp_i v]) (rest := []) ji_35_54 jc_35_139 rfl htc jk_36.symm (Nat.le_of_ble_eq_true rfl) rfl (by rw [jn_36]; rfl) (wc_write ht V) (fun v1 h1 R => ?_)
      obtain ⟨rfl, V⟩ := R
      show wl_R _ _ 35 57 [some (.ref 93)] [] h1 _
      refine wl_s (pc' := 58) ji_35_57 rfl rfl rfl ?_
      refine wl_s (pc' := 59) ji_35_58 rfl rfl rfl ?_
      refine cl_p (y := 2) (f' := f) (q' := q) (law' := law) (st' := 2) (wn' := (w.length : Int)) (op' := opn w) (br' := brn w) (ls' := ls) (as_' := as_) ht V ji_35_59 jf_35_25 (by decide) rfl rfl rfl (fun h V => ?_)
      refine wl_goto (t := 158) ji_35_62 rfl ?_
      refine wl_rv ji_35_158 jr_35 ⟨rfl, ?_⟩
      rw [show c_one law k v st w ls as_ = .inr (2, w, ls, as_) by unfold c_one; rw [if_neg (by omega), if_pos (by omega)]]
      exact ⟨ws, e, hlen, V⟩
  · refine wl_s (pc' := 12) ji_35_11 rfl rfl rfl ?_
    refine cl_g V ji_35_12 jf_35_47 rfl ?_
    refine cl_t V ji_35_15 jf_35_77 rfl ?_
    refine wl_sp ji_35_18 rfl ?_
    refine wl_icmp (t := 32) ji_35_21 rfl (by omega) (by omega) (fun (hb10 : (v : Int) ≤ 9999) => ?_) (fun (hb10 : ¬ ((v : Int) ≤ 9999)) => ?_)
    · refine wl_s (pc' := 33) ji_35_32 rfl rfl rfl ?_
      refine cl_g V ji_35_33 jf_35_47 rfl ?_
      refine cl_t V ji_35_36 jf_35_68 rfl ?_
      refine wl_s (pc' := 40) ji_35_39 rfl rfl rfl ?_
      refine wl_icmp (t := 65) ji_35_40 rfl (by omega) (by omega) (fun (hb11 : ¬ (k : Int) = 1) => ?_) (fun (hb11 : ¬ (¬ (k : Int) = 1)) => ?_)
      · refine wl_s (pc' := 66) ji_35_65 rfl rfl rfl ?_
        refine cl_g V ji_35_66 jf_35_47 rfl ?_
        refine cl_t V ji_35_69 jf_35_68 rfl ?_
        refine wl_if (t := 89) ji_35_72 rfl (by omega) (fun (hb12 : ¬ (k : Int) = 0) => ?_) (fun (hb12 : ¬ (¬ (k : Int) = 0)) => ?_)
        · refine wl_s (pc' := 90) ji_35_89 rfl rfl rfl ?_
          refine cl_g V ji_35_90 jf_35_47 rfl ?_
          refine cl_t V ji_35_93 jf_35_68 rfl ?_
          refine wl_s (pc' := 97) ji_35_96 rfl rfl rfl ?_
          refine wl_icmp (t := 121) ji_35_97 rfl (by omega) (by omega) (fun (hb13 : ¬ (k : Int) = 2) => ?_) (fun (hb13 : ¬ (¬ (k : Int) = 2)) => ?_)
          · refine wl_s (pc' := 122) ji_35_121 rfl rfl rfl ?_
            refine cl_g V ji_35_122 jf_35_47 rfl ?_
            refine cl_t V ji_35_125 jf_35_68 rfl ?_
            refine wl_s (pc' := 129) ji_35_128 rfl rfl rfl ?_
            refine wl_icmp (t := 153) ji_35_129 rfl (by omega) (by omega) (fun (hb14 : ¬ (k : Int) = 2) => ?_) (fun (hb14 : ¬ (¬ (k : Int) = 2)) => ?_)
            · refine wl_s (pc' := 154) ji_35_153 rfl rfl rfl ?_
              refine wl_s (pc' := 155) ji_35_154 rfl rfl rfl ?_
              refine wl_vc (d := d + 2) (as := [.ref 93, wp_i 1]) (rest := []) ji_35_155 jc_35_80 rfl (cl_93 V) jk_31.symm (Nat.le_of_ble_eq_true rfl) rfl (by rw [jn_31]; rfl) (wc_fail ht V) (fun v1 h1 R => ?_)
              obtain ⟨rfl, V⟩ := R
              show wl_R _ _ 35 158 [some (.ref 93)] [] h1 _
              refine wl_rv ji_35_158 jr_35 ⟨rfl, ?_⟩
              rw [show c_one law k v st w ls as_ = .inl 1 by unfold c_one; rw [if_neg (by omega), if_neg (by omega), if_neg (by omega), if_neg (by omega), if_neg (by omega)]]
              exact ⟨_, _, _, _, ws, e, hlen, V⟩
            · refine wl_s (pc' := 133) ji_35_132 rfl rfl rfl ?_
              refine cl_g V ji_35_133 jf_35_47 rfl ?_
              refine cl_t V ji_35_136 jf_35_77 rfl ?_
              refine wl_bp ji_35_139 rfl ?_
              refine wl_icmp (t := 153) ji_35_141 rfl (by omega) (by omega) (fun (hb15 : ¬ (v : Int) = 45) => ?_) (fun (hb15 : ¬ (¬ (v : Int) = 45)) => ?_)
              · refine wl_s (pc' := 154) ji_35_153 rfl rfl rfl ?_
                refine wl_s (pc' := 155) ji_35_154 rfl rfl rfl ?_
                refine wl_vc (d := d + 2) (as := [.ref 93, wp_i 1]) (rest := []) ji_35_155 jc_35_80 rfl (cl_93 V) jk_31.symm (Nat.le_of_ble_eq_true rfl) rfl (by rw [jn_31]; rfl) (wc_fail ht V) (fun v1 h1 R => ?_)
                obtain ⟨rfl, V⟩ := R
                show wl_R _ _ 35 158 [some (.ref 93)] [] h1 _
                refine wl_rv ji_35_158 jr_35 ⟨rfl, ?_⟩
                rw [show c_one law k v st w ls as_ = .inl 1 by unfold c_one; rw [if_neg (by omega), if_neg (by omega), if_neg (by omega), if_neg (by omega), if_neg (by omega)]]
                exact ⟨_, _, _, _, ws, e, hlen, V⟩
              · refine wl_s (pc' := 145) ji_35_144 rfl rfl rfl ?_
                refine wl_bp ji_35_145 rfl ?_
                refine wl_vc (d := d + 2) (as := [.ref 93, wp_i 110]) (rest := []) ji_35_147 jc_35_145 rfl (cl_93 V) jk_38.symm (Nat.le_of_ble_eq_true rfl) rfl (by rw [jn_38]; rfl) (wc_open (d := d + 1) (c := 110) ht ⟨ws, e, hlen, V⟩ hw (by omega)) (fun v1 h1 R => ?_)
                obtain ⟨rfl, V⟩ := R
                show wl_R _ _ 35 150 [some (.ref 93)] [] h1 _
                refine wl_goto (t := 158) ji_35_150 rfl ?_
                refine wl_rv ji_35_158 jr_35 ⟨rfl, ?_⟩
                rw [show c_one law k v st w ls as_ = c_op 110 w ls as_ by unfold c_one; rw [if_neg (by omega), if_neg (by omega), if_neg (by omega), if_neg (by omega), if_pos (by omega)]]
                show cQ _ _ _ _ _ _ _ _ _ _ _ _ _ _ (c_op 110 w ls as_)
                rcases V with ⟨o1, V⟩ | ⟨o1, V⟩
                · rw [show c_op 110 w ls as_ = .inl 3 from if_pos o1]
                  exact ⟨_, _, _, _, V⟩
                · rw [show c_op 110 w ls as_ = .inr (if (110 : Int) = 33 then 0 else 1, 110 :: w, ls, as_) from if_neg o1]
                  exact V
          · refine wl_s (pc' := 101) ji_35_100 rfl rfl rfl ?_
            refine cl_g V ji_35_101 jf_35_47 rfl ?_
            refine cl_t V ji_35_104 jf_35_77 rfl ?_
            refine wl_bp ji_35_107 rfl ?_
            refine wl_icmp (t := 121) ji_35_109 rfl (by omega) (by omega) (fun (hb16 : ¬ (v : Int) = 40) => ?_) (fun (hb16 : ¬ (¬ (v : Int) = 40)) => ?_)
            · refine wl_s (pc' := 122) ji_35_121 rfl rfl rfl ?_
              refine cl_g V ji_35_122 jf_35_47 rfl ?_
              refine cl_t V ji_35_125 jf_35_68 rfl ?_
              refine wl_s (pc' := 129) ji_35_128 rfl rfl rfl ?_
              refine wl_icmp (t := 153) ji_35_129 rfl (by omega) (by omega) (fun (hb17 : ¬ (k : Int) = 2) => ?_) (fun (hb17 : ¬ (¬ (k : Int) = 2)) => ?_)
              · refine wl_s (pc' := 154) ji_35_153 rfl rfl rfl ?_
                refine wl_s (pc' := 155) ji_35_154 rfl rfl rfl ?_
                refine wl_vc (d := d + 2) (as := [.ref 93, wp_i 1]) (rest := []) ji_35_155 jc_35_80 rfl (cl_93 V) jk_31.symm (Nat.le_of_ble_eq_true rfl) rfl (by rw [jn_31]; rfl) (wc_fail ht V) (fun v1 h1 R => ?_)
                obtain ⟨rfl, V⟩ := R
                show wl_R _ _ 35 158 [some (.ref 93)] [] h1 _
                refine wl_rv ji_35_158 jr_35 ⟨rfl, ?_⟩
                rw [show c_one law k v st w ls as_ = .inl 1 by unfold c_one; rw [if_neg (by omega), if_neg (by omega), if_neg (by omega), if_neg (by omega), if_neg (by omega)]]
                exact ⟨_, _, _, _, ws, e, hlen, V⟩
              · refine wl_s (pc' := 133) ji_35_132 rfl rfl rfl ?_
                refine cl_g V ji_35_133 jf_35_47 rfl ?_
                refine cl_t V ji_35_136 jf_35_77 rfl ?_
                refine wl_bp ji_35_139 rfl ?_
                refine wl_icmp (t := 153) ji_35_141 rfl (by omega) (by omega) (fun (hb18 : ¬ (v : Int) = 45) => ?_) (fun (hb18 : ¬ (¬ (v : Int) = 45)) => ?_)
                · refine wl_s (pc' := 154) ji_35_153 rfl rfl rfl ?_
                  refine wl_s (pc' := 155) ji_35_154 rfl rfl rfl ?_
                  refine wl_vc (d := d + 2) (as := [.ref 93, wp_i 1]) (rest := []) ji_35_155 jc_35_80 rfl (cl_93 V) jk_31.symm (Nat.le_of_ble_eq_true rfl) rfl (by rw [jn_31]; rfl) (wc_fail ht V) (fun v1 h1 R => ?_)
                  obtain ⟨rfl, V⟩ := R
                  show wl_R _ _ 35 158 [some (.ref 93)] [] h1 _
                  refine wl_rv ji_35_158 jr_35 ⟨rfl, ?_⟩
                  rw [show c_one law k v st w ls as_ = .inl 1 by unfold c_one; rw [if_neg (by omega), if_neg (by omega), if_neg (by omega), if_neg (by omega), if_neg (by omega)]]
                  exact ⟨_, _, _, _, ws, e, hlen, V⟩
                · refine wl_s (pc' := 145) ji_35_144 rfl rfl rfl ?_
                  refine wl_bp ji_35_145 rfl ?_
                  refine wl_vc (d := d + 2) (as := [.ref 93, wp_i 110]) (rest := []) ji_35_147 jc_35_145 rfl (cl_93 V) jk_38.symm (Nat.le_of_ble_eq_true rfl) rfl (by rw [jn_38]; rfl) (wc_open (d := d + 1) (c := 110) ht ⟨ws, e, hlen, V⟩ hw (by omega)) (fun v1 h1 R => ?_)
                  obtain ⟨rfl, V⟩ := R
                  show wl_R _ _ 35 150 [some (.ref 93)] [] h1 _
                  refine wl_goto (t := 158) ji_35_150 rfl ?_
                  refine wl_rv ji_35_158 jr_35 ⟨rfl, ?_⟩
                  rw [show c_one law k v st w ls as_ = c_op 110 w ls as_ by unfold c_one; rw [if_neg (by omega), if_neg (by omega), if_neg (by omega), if_neg (by omega), if_pos (by omega)]]
                  show cQ _ _ _ _ _ _ _ _ _ _ _ _ _ _ (c_op 110 w ls as_)
                  rcases V with ⟨o1, V⟩ | ⟨o1, V⟩
                  · rw [show c_op 110 w ls as_ = .inl 3 from if_pos o1]
                    exact ⟨_, _, _, _, V⟩
                  · rw [show c_op 110 w ls as_ = .inr (if (110 : Int) = 33 then 0 else 1, 110 :: w, ls, as_) from if_neg o1]
                    exact V
            · refine wl_s (pc' := 113) ji_35_112 rfl rfl rfl ?_
              refine wl_bp ji_35_113 rfl ?_
              refine wl_vc (d := d + 2) (as := [.ref 93, wp_i 40]) (rest := []) ji_35_115 jc_35_145 rfl (cl_93 V) jk_38.symm (Nat.le_of_ble_eq_true rfl) rfl (by rw [jn_38]; rfl) (wc_open (d := d + 1) (c := 40) ht ⟨ws, e, hlen, V⟩ hw (by omega)) (fun v1 h1 R => ?_)
              obtain ⟨rfl, V⟩ := R
              show wl_R _ _ 35 118 [some (.ref 93)] [] h1 _
              refine wl_goto (t := 158) ji_35_118 rfl ?_
              refine wl_rv ji_35_158 jr_35 ⟨rfl, ?_⟩
              rw [show c_one law k v st w ls as_ = c_op 40 w ls as_ by unfold c_one; rw [if_neg (by omega), if_neg (by omega), if_neg (by omega), if_pos (by omega)]]
              show cQ _ _ _ _ _ _ _ _ _ _ _ _ _ _ (c_op 40 w ls as_)
              rcases V with ⟨o1, V⟩ | ⟨o1, V⟩
              · rw [show c_op 40 w ls as_ = .inl 3 from if_pos o1]
                exact ⟨_, _, _, _, V⟩
              · rw [show c_op 40 w ls as_ = .inr (if (40 : Int) = 33 then 0 else 1, 40 :: w, ls, as_) from if_neg o1]
                exact V
        · refine wl_s (pc' := 76) ji_35_75 rfl rfl rfl ?_
          refine wl_s (pc' := 77) ji_35_76 rfl rfl rfl ?_
          refine cl_g V ji_35_77 jf_35_47 rfl ?_
          refine cl_t V ji_35_80 jf_35_77 rfl ?_
          refine wl_vc (d := d + 2) (as := [.ref 93, wp_i v]) (rest := []) ji_35_83 jc_35_142 rfl (cl_93 V) jk_37.symm (Nat.le_of_ble_eq_true rfl) rfl (by rw [jn_37]; rfl) (wc_wd (d := d) (x := v) ht ⟨ws, e, hlen, V⟩ hw hst hlaw (hkv.2.2 (by omega))) (fun v1 h1 R => ?_)
          obtain ⟨rfl, V⟩ := R
          show wl_R _ _ 35 86 [some (.ref 93)] [] h1 _
          refine wl_goto (t := 158) ji_35_86 rfl ?_
          refine wl_rv ji_35_158 jr_35 ⟨rfl, ?_⟩
          rw [show c_one law k v st w ls as_ = c_wd law v st w ls as_ by unfold c_one; rw [if_neg (by omega), if_neg (by omega), if_pos (by omega)]]
          exact V
      · refine wl_s (pc' := 44) ji_35_43 rfl rfl rfl ?_
        refine cl_g V ji_35_44 jf_35_51 rfl ?_
        refine wl_s (pc' := 48) ji_35_47 rfl rfl rfl ?_
        refine cl_g V ji_35_48 jf_35_47 rfl ?_
        refine cl_t V ji_35_51 jf_35_77 rfl ?_
        obtain ⟨tfs, htc⟩ := cl_tc V
        refine wl_vc (d := d + 2) (as := [.ref t, wp_i v]) (rest := []) ji_35_54 jc_35_139 rfl htc jk_36.symm (Nat.le_of_ble_eq_true rfl) rfl (by rw [jn_36]; rfl) (wc_write ht V) (fun v1 h1 R => ?_)
        obtain ⟨rfl, V⟩ := R
        show wl_R _ _ 35 57 [some (.ref 93)] [] h1 _
        refine wl_s (pc' := 58) ji_35_57 rfl rfl rfl ?_
        refine wl_s (pc' := 59) ji_35_58 rfl rfl rfl ?_
        refine cl_p (y := 2) (f' := f) (q' := q) (law' := law) (st' := 2) (wn' := (w.length : Int)) (op' := opn w) (br' := brn w) (ls' := ls) (as_' := as_) ht V ji_35_59 jf_35_25 (by decide) rfl rfl rfl (fun h V => ?_)
        refine wl_goto (t := 158) ji_35_62 rfl ?_
        refine wl_rv ji_35_158 jr_35 ⟨rfl, ?_⟩
        rw [show c_one law k v st w ls as_ = .inr (2, w, ls, as_) by unfold c_one; rw [if_neg (by omega), if_pos (by omega)]]
        exact ⟨ws, e, hlen, V⟩
    · refine wl_s (pc' := 25) ji_35_24 rfl rfl rfl ?_
      refine wl_s (pc' := 26) ji_35_25 rfl rfl rfl ?_
      refine wl_vc (d := d + 2) (as := [.ref 93, wp_i 2]) (rest := []) ji_35_26 jc_35_80 rfl (cl_93 V) jk_31.symm (Nat.le_of_ble_eq_true rfl) rfl (by rw [jn_31]; rfl) (wc_fail ht V) (fun v1 h1 R => ?_)
      obtain ⟨rfl, V⟩ := R
      show wl_R _ _ 35 29 [some (.ref 93)] [] h1 _
      refine wl_goto (t := 158) ji_35_29 rfl ?_
      refine wl_rv ji_35_158 jr_35 ⟨rfl, ?_⟩
      rw [show c_one law k v st w ls as_ = .inl 2 by unfold c_one; rw [if_pos (by omega)]]
      exact ⟨_, _, _, _, ws, e, hlen, V⟩
theorem wc_bk {nn d : Nat} {h0 h : mj_H} {bl fr : List Value} {t : Nat} {w : List Int} {L k v s p f q law st ls as_ cl : Int} (ht : 12 ≤ t ∧ t ≤ 33) (V : cH h0 h bl t L k v s p f q law st w ls as_ cl fr) (hw : w.length ≤ 39) (hst : 0 ≤ st ∧ st ≤ 5) (hlaw : 0 ≤ law ∧ law ≤ 2) (hkv : wp_r k ∧ wp_r v ∧ (k = 0 → -1 ≤ v ∧ v ≤ 30)) : wl_R nn (d + 2) 40 0 [some (.ref 93)] [] h (fun v1 h1 => v1 = none ∧ cQ h0 h1 bl t L k v s p f q law cl fr  (c_bk k v w as_)) := by
  obtain ⟨ws, e, hlen, V⟩ := V
  have hop := opn_0 w
  have hbr := brn_0 w
  refine wl_s (pc' := 1) ji_40_0 rfl rfl rfl ?_
  refine cl_g V ji_40_1 jf_40_47 rfl ?_
  refine cl_t V ji_40_4 jf_40_68 rfl ?_
  refine wl_s (pc' := 8) ji_40_7 rfl rfl rfl ?_
  refine wl_icmp (t := 37) ji_40_8 rfl (by omega) (by omega) (fun (hb1 : ¬ (k : Int) = 2) => ?_) (fun (hb1 : ¬ (¬ (k : Int) = 2)) => ?_)
  · refine wl_s (pc' := 38) ji_40_37 rfl rfl rfl ?_
    refine wl_s (pc' := 39) ji_40_38 rfl rfl rfl ?_
    refine wl_vc (d := d + 1) (as := [.ref 93, wp_i 1]) (rest := []) ji_40_39 jc_40_80 rfl (cl_93 V) jk_31.symm (Nat.le_of_ble_eq_true rfl) rfl (by rw [jn_31]; rfl) (wc_fail ht V) (fun v1 h1 R => ?_)
    obtain ⟨rfl, V⟩ := R
    show wl_R _ _ 40 42 [some (.ref 93)] [] h1 _
    refine wl_rv ji_40_42 jr_40 ⟨rfl, ?_⟩
    rw [show c_bk k v w as_ = .inl 1 by unfold c_bk; rw [if_neg (by omega)]]
    exact ⟨_, _, _, _, ws, e, hlen, V⟩
  · refine wl_s (pc' := 12) ji_40_11 rfl rfl rfl ?_
    refine cl_g V ji_40_12 jf_40_47 rfl ?_
    refine cl_t V ji_40_15 jf_40_77 rfl ?_
    refine wl_bp ji_40_18 rfl ?_
    refine wl_icmp (t := 37) ji_40_20 rfl (by omega) (by omega) (fun (hb2 : ¬ (v : Int) = 40) => ?_) (fun (hb2 : ¬ (¬ (v : Int) = 40)) => ?_)
    · refine wl_s (pc' := 38) ji_40_37 rfl rfl rfl ?_
      refine wl_s (pc' := 39) ji_40_38 rfl rfl rfl ?_
      refine wl_vc (d := d + 1) (as := [.ref 93, wp_i 1]) (rest := []) ji_40_39 jc_40_80 rfl (cl_93 V) jk_31.symm (Nat.le_of_ble_eq_true rfl) rfl (by rw [jn_31]; rfl) (wc_fail ht V) (fun v1 h1 R => ?_)
      obtain ⟨rfl, V⟩ := R
      show wl_R _ _ 40 42 [some (.ref 93)] [] h1 _
      refine wl_rv ji_40_42 jr_40 ⟨rfl, ?_⟩
      rw [show c_bk k v w as_ = .inl 1 by unfold c_bk; rw [if_neg (by omega)]]
      exact ⟨_, _, _, _, ws, e, hlen, V⟩
    · refine wl_s (pc' := 24) ji_40_23 rfl rfl rfl ?_
      refine wl_s (pc' := 25) ji_40_24 rfl rfl rfl ?_
      refine cl_p (y := 1) (f' := f) (q' := q) (law' := law) (st' := st) (wn' := (w.length : Int)) (op' := opn w) (br' := brn w) (ls' := 1) (as_' := as_) ht V ji_40_25 jf_40_41 (by decide) rfl rfl rfl (fun h V => ?_)
      refine wl_s (pc' := 29) ji_40_28 rfl rfl rfl ?_
      refine wl_bp ji_40_29 rfl ?_
      refine wl_vc (d := d + 1) (as := [.ref 93, wp_i 91]) (rest := []) ji_40_31 jc_40_145 rfl (cl_93 V) jk_38.symm (Nat.le_of_ble_eq_true rfl) rfl (by rw [jn_38]; rfl) (wc_open (d := d) (c := 91) ht ⟨ws, e, hlen, V⟩ hw (by omega)) (fun v1 h1 R => ?_)
      obtain ⟨rfl, V⟩ := R
      show wl_R _ _ 40 34 [some (.ref 93)] [] h1 _
      refine wl_goto (t := 42) ji_40_34 rfl ?_
      refine wl_rv ji_40_42 jr_40 ⟨rfl, ?_⟩
      rw [show c_bk k v w as_ = c_op 91 w 1 as_ by unfold c_bk; rw [if_pos (by omega)]]
      show cQ _ _ _ _ _ _ _ _ _ _ _ _ _ _ (c_op 91 w 1 as_)
      rcases V with ⟨o1, V⟩ | ⟨o1, V⟩
      · rw [show c_op 91 w 1 as_ = .inl 3 from if_pos o1]
        exact ⟨_, _, _, _, V⟩
      · rw [show c_op 91 w 1 as_ = .inr (if (91 : Int) = 33 then 0 else 1, 91 :: w, 1, as_) from if_neg o1]
        exact V
theorem wc_s217 {nn d : Nat} {h0 h : mj_H} {bl fr : List Value} {t : Nat} {w : List Int} {L k v s p f q law st ls as_ cl : Int} (ht : 12 ≤ t ∧ t ≤ 33) (V : cH h0 h bl t L k v s p f q law st w ls as_ cl fr) (hw : w.length ≤ 39) (hst : 0 ≤ st ∧ st ≤ 5) (hlaw : 0 ≤ law ∧ law ≤ 2) (hkv : wp_r k ∧ wp_r v ∧ (k = 0 → -1 ≤ v ∧ v ≤ 30)) (has : as_ = 0 ∨ as_ = 1) (hls : 0 ≤ ls ∧ ls ≤ 100) (hcl : cok w) {g a : Int} (hgr : wp_r g) (ha : (a = 1 ∧ law = 2 ∧ brn w = 0) ∨ (a = 0 ∧ ¬ (law = 2 ∧ brn w = 0))) : wl_R nn (d + 3) 41 217 [some (.ref 93), some (wp_i g), some (wp_i a), some (wp_i (ck g))] [] h (fun v1 h1 => v1 = none ∧ cQ h0 h1 bl t L k v s p f q law cl fr  (c6 law g w ls as_)) := by
  obtain ⟨ws, e, hlen, V⟩ := V
  have hop := opn_0 w
  have hbr := brn_0 w
  have hck := ck_r g
  refine wl_s (pc' := 218) ji_41_217 rfl rfl rfl ?_
  refine wl_bp ji_41_218 rfl ?_
  refine wl_icmp (t := 258) ji_41_220 rfl (by omega) (by omega) (fun (hb1 : ¬ (g : Int) = 59) => ?_) (fun (hb1 : ¬ (¬ (g : Int) = 59)) => ?_)
  · refine wl_s (pc' := 259) ji_41_258 rfl rfl rfl ?_
    refine wl_s (pc' := 260) ji_41_259 rfl rfl rfl ?_
    refine wl_vc (d := d + 2) (as := [.ref 93, wp_i 1]) (rest := []) ji_41_260 jc_41_80 rfl (cl_93 V) jk_31.symm (Nat.le_of_ble_eq_true rfl) rfl (by rw [jn_31]; rfl) (wc_fail ht V) (fun v1 h8 R => ?_)
    obtain ⟨rfl, V⟩ := R
    show wl_R _ _ 41 263 [some (.ref 93), some (wp_i g), some (wp_i a), some (wp_i (ck g))] [] h8 _
    refine wl_rv ji_41_263 jr_41 ⟨rfl, ?_⟩
    rw [show c6 law g w ls as_ = .inl 1 from if_neg (by omega)]
    exact ⟨_, _, _, _, ws, e, hlen, V⟩
  · refine wl_s (pc' := 224) ji_41_223 rfl rfl rfl ?_
    refine cl_g V ji_41_224 jf_41_38 rfl ?_
    refine wl_if (t := 258) ji_41_227 rfl (by omega) (fun (hb2 : ¬ (brn w : Int) = 0) => ?_) (fun (hb2 : ¬ (¬ (brn w : Int) = 0)) => ?_)
    · refine wl_s (pc' := 259) ji_41_258 rfl rfl rfl ?_
      refine wl_s (pc' := 260) ji_41_259 rfl rfl rfl ?_
      refine wl_vc (d := d + 2) (as := [.ref 93, wp_i 1]) (rest := []) ji_41_260 jc_41_80 rfl (cl_93 V) jk_31.symm (Nat.le_of_ble_eq_true rfl) rfl (by rw [jn_31]; rfl) (wc_fail ht V) (fun v1 h8 R => ?_)
      obtain ⟨rfl, V⟩ := R
      show wl_R _ _ 41 263 [some (.ref 93), some (wp_i g), some (wp_i a), some (wp_i (ck g))] [] h8 _
      refine wl_rv ji_41_263 jr_41 ⟨rfl, ?_⟩
      rw [show c6 law g w ls as_ = .inl 1 from if_neg (by omega)]
      exact ⟨_, _, _, _, ws, e, hlen, V⟩
    · refine wl_s (pc' := 231) ji_41_230 rfl rfl rfl ?_
      refine cl_g V ji_41_231 jf_41_22 rfl ?_
      refine wl_s (pc' := 235) ji_41_234 rfl rfl rfl ?_
      refine wl_icmp (t := 245) ji_41_235 rfl (by omega) (by omega) (fun (hb3 : ¬ (law : Int) = 2) => ?_) (fun (hb3 : ¬ (¬ (law : Int) = 2)) => ?_)
      · refine wl_s (pc' := 246) ji_41_245 rfl rfl rfl ?_
        refine wl_s (pc' := 247) ji_41_246 rfl rfl rfl ?_
        refine wl_vc (d := d + 2) (as := [.ref 93, wp_i 1]) (rest := []) ji_41_247 jc_41_162 rfl (cl_93 V) jk_45.symm (Nat.le_of_ble_eq_true rfl) rfl (by rw [jn_45]; rfl) (wc_jw (d := d + 1) (r := 1) ht (by omega) nn w _ none ⟨ws, e, hlen, V⟩) (fun v1 h9 R => ?_)
        obtain ⟨rfl, V⟩ := R
        obtain ⟨ws1, e, hlen, V⟩ := V
        show wl_R _ _ 41 250 [some (.ref 93), some (wp_i g), some (wp_i a), some (wp_i (ck g))] [] h9 _
        refine wl_s (pc' := 251) ji_41_250 rfl rfl rfl ?_
        refine wl_s (pc' := 252) ji_41_251 rfl rfl rfl ?_
        refine cl_p (y := 5) (f' := f) (q' := q) (law' := law) (st' := 5) (wn' := ((jwt 1 w).length : Int)) (op' := opn (jwt 1 w)) (br' := brn (jwt 1 w)) (ls' := ls) (as_' := as_) ht V ji_41_252 jf_41_25 (by decide) rfl rfl rfl (fun h V => ?_)
        refine wl_goto (t := 263) ji_41_255 rfl ?_
        refine wl_rv ji_41_263 jr_41 ⟨rfl, ?_⟩
        rw [show c6 law g w ls as_ = .inr (5, jwt 1 w, ls, as_) from if_pos (by omega)]
        exact ⟨ws1, e, hlen, V⟩
      · refine wl_s (pc' := 239) ji_41_238 rfl rfl rfl ?_
        refine cl_g V ji_41_239 jf_41_44 rfl ?_
        refine wl_if (t := 258) ji_41_242 rfl (by omega) (fun (hb4 : (as_ : Int) = 0) => ?_) (fun (hb4 : ¬ ((as_ : Int) = 0)) => ?_)
        · refine wl_s (pc' := 259) ji_41_258 rfl rfl rfl ?_
          refine wl_s (pc' := 260) ji_41_259 rfl rfl rfl ?_
          refine wl_vc (d := d + 2) (as := [.ref 93, wp_i 1]) (rest := []) ji_41_260 jc_41_80 rfl (cl_93 V) jk_31.symm (Nat.le_of_ble_eq_true rfl) rfl (by rw [jn_31]; rfl) (wc_fail ht V) (fun v1 h8 R => ?_)
          obtain ⟨rfl, V⟩ := R
          show wl_R _ _ 41 263 [some (.ref 93), some (wp_i g), some (wp_i a), some (wp_i (ck g))] [] h8 _
          refine wl_rv ji_41_263 jr_41 ⟨rfl, ?_⟩
          rw [show c6 law g w ls as_ = .inl 1 from if_neg (by omega)]
          exact ⟨_, _, _, _, ws, e, hlen, V⟩
        · refine wl_s (pc' := 246) ji_41_245 rfl rfl rfl ?_
          refine wl_s (pc' := 247) ji_41_246 rfl rfl rfl ?_
          refine wl_vc (d := d + 2) (as := [.ref 93, wp_i 1]) (rest := []) ji_41_247 jc_41_162 rfl (cl_93 V) jk_45.symm (Nat.le_of_ble_eq_true rfl) rfl (by rw [jn_45]; rfl) (wc_jw (d := d + 1) (r := 1) ht (by omega) nn w _ none ⟨ws, e, hlen, V⟩) (fun v1 h9 R => ?_)
          obtain ⟨rfl, V⟩ := R
          obtain ⟨ws1, e, hlen, V⟩ := V
          show wl_R _ _ 41 250 [some (.ref 93), some (wp_i g), some (wp_i a), some (wp_i (ck g))] [] h9 _
          refine wl_s (pc' := 251) ji_41_250 rfl rfl rfl ?_
          refine wl_s (pc' := 252) ji_41_251 rfl rfl rfl ?_
          refine cl_p (y := 5) (f' := f) (q' := q) (law' := law) (st' := 5) (wn' := ((jwt 1 w).length : Int)) (op' := opn (jwt 1 w)) (br' := brn (jwt 1 w)) (ls' := ls) (as_' := as_) ht V ji_41_252 jf_41_25 (by decide) rfl rfl rfl (fun h V => ?_)
          refine wl_goto (t := 263) ji_41_255 rfl ?_
          refine wl_rv ji_41_263 jr_41 ⟨rfl, ?_⟩
          rw [show c6 law g w ls as_ = .inr (5, jwt 1 w, ls, as_) from if_pos (by omega)]
          exact ⟨ws1, e, hlen, V⟩
theorem wc_s182 {nn d : Nat} {h0 h : mj_H} {bl fr : List Value} {t : Nat} {w : List Int} {L k v s p f q law st ls as_ cl : Int} (ht : 12 ≤ t ∧ t ≤ 33) (V : cH h0 h bl t L k v s p f q law st w ls as_ cl fr) (hw : w.length ≤ 39) (hst : 0 ≤ st ∧ st ≤ 5) (hlaw : 0 ≤ law ∧ law ≤ 2) (hkv : wp_r k ∧ wp_r v ∧ (k = 0 → -1 ≤ v ∧ v ≤ 30)) (has : as_ = 0 ∨ as_ = 1) (hls : 0 ≤ ls ∧ ls ≤ 100) (hcl : cok w) {g a : Int} (hgr : wp_r g) (ha : (a = 1 ∧ law = 2 ∧ brn w = 0) ∨ (a = 0 ∧ ¬ (law = 2 ∧ brn w = 0))) : wl_R nn (d + 3) 41 182 [some (.ref 93), some (wp_i g), some (wp_i a), some (wp_i (ck g))] [] h (fun v1 h1 => v1 = none ∧ cQ h0 h1 bl t L k v s p f q law cl fr  (c5 law g w ls as_)) := by
  obtain ⟨ws, e, hlen, V⟩ := V
  have hop := opn_0 w
  have hbr := brn_0 w
  have hck := ck_r g
  refine wl_s (pc' := 183) ji_41_182 rfl rfl rfl ?_
  refine wl_bp ji_41_183 rfl ?_
  refine wl_icmp (t := 217) ji_41_185 rfl (by omega) (by omega) (fun (hb1 : ¬ (g : Int) = 44) => ?_) (fun (hb1 : ¬ (¬ (g : Int) = 44)) => ?_)
  · rw [show c5 law g w ls as_ = c6 law g w ls as_ from if_neg (fun x => by have := x.1; have := x.2.1; have := x.2.2.1; omega)]
    exact wc_s217 ht ⟨ws, e, hlen, V⟩ hw hst hlaw hkv has hls hcl hgr ha
  · refine wl_s (pc' := 189) ji_41_188 rfl rfl rfl ?_
    refine cl_g V ji_41_189 jf_41_38 rfl ?_
    refine wl_s (pc' := 193) ji_41_192 rfl rfl rfl ?_
    refine wl_icmp (t := 217) ji_41_193 rfl (by omega) (by omega) (fun (hb2 : ¬ (brn w : Int) = 1) => ?_) (fun (hb2 : ¬ (¬ (brn w : Int) = 1)) => ?_)
    · rw [show c5 law g w ls as_ = c6 law g w ls as_ from if_neg (fun x => by have := x.1; have := x.2.1; have := x.2.2.1; omega)]
      exact wc_s217 ht ⟨ws, e, hlen, V⟩ hw hst hlaw hkv has hls hcl hgr ha
    · refine wl_s (pc' := 197) ji_41_196 rfl rfl rfl ?_
      refine cl_g V ji_41_197 jf_41_44 rfl ?_
      refine wl_if (t := 217) ji_41_200 rfl (by omega) (fun (hb3 : (as_ : Int) = 0) => ?_) (fun (hb3 : ¬ ((as_ : Int) = 0)) => ?_)
      · rw [show c5 law g w ls as_ = c6 law g w ls as_ from if_neg (fun x => by have := x.1; have := x.2.1; have := x.2.2.1; omega)]
        exact wc_s217 ht ⟨ws, e, hlen, V⟩ hw hst hlaw hkv has hls hcl hgr ha
      · refine wl_s (pc' := 204) ji_41_203 rfl rfl rfl ?_
        refine wl_vc (d := d + 2) (as := [.ref 93]) (rest := []) ji_41_204 jc_41_168 rfl (cl_93 V) jk_47.symm (Nat.le_of_ble_eq_true rfl) rfl (by rw [jn_47]; rfl) (wc_inl (d := d) ht ⟨ws, e, hlen, V⟩) (fun v1 h9 R => ?_)
        obtain ⟨V, y, rfl, hya, hyb⟩ := R
        obtain ⟨ws1, e, hlen, V⟩ := V
        show wl_R _ _ 41 207 [some (.ref 93), some (wp_i g), some (wp_i a), some (wp_i (ck g))] [wp_i y] h9 _
        refine wl_if (t := 217) ji_41_207 rfl (by omega) (fun (hb4 : (y : Int) = 0) => ?_) (fun (hb4 : ¬ ((y : Int) = 0)) => ?_)
        · refine wl_s (pc' := 218) ji_41_217 rfl rfl rfl ?_
          refine wl_bp ji_41_218 rfl ?_
          refine wl_icmp (t := 258) ji_41_220 rfl (by omega) (by omega) (fun (hb5 : ¬ (g : Int) = 59) => ?_) (fun (hb5 : ¬ (¬ (g : Int) = 59)) => (by exfalso; omega))
          refine wl_s (pc' := 259) ji_41_258 rfl rfl rfl ?_
          refine wl_s (pc' := 260) ji_41_259 rfl rfl rfl ?_
          refine wl_vc (d := d + 2) (as := [.ref 93, wp_i 1]) (rest := []) ji_41_260 jc_41_80 rfl (cl_93 V) jk_31.symm (Nat.le_of_ble_eq_true rfl) rfl (by rw [jn_31]; rfl) (wc_fail ht V) (fun v1 h8 R => ?_)
          obtain ⟨rfl, V⟩ := R
          show wl_R _ _ 41 263 [some (.ref 93), some (wp_i g), some (wp_i a), some (wp_i (ck g))] [] h8 _
          refine wl_rv ji_41_263 jr_41 ⟨rfl, ?_⟩
          have hno : ¬ (jwt 5 w).head? = some 91 := fun x => by
            have := hyb.mpr (by
              cases hj : jwt 5 w with
              | nil => rw [hj] at x; cases x
              | cons a2 b2 => rw [hj] at x; cases x; exact ⟨b2, rfl⟩)
            omega
          rw [show c5 law g w ls as_ = .inl 1 from (if_neg (fun x => hno x.2.2.2)).trans (if_neg (by omega))]
          exact ⟨_, _, _, _, ws1, e, hlen, V⟩
        · refine wl_s (pc' := 211) ji_41_210 rfl rfl rfl ?_
          refine wl_vc (d := d + 2) (as := [.ref 93]) (rest := []) ji_41_211 jc_41_172 rfl (cl_93 V) jk_48.symm (Nat.le_of_ble_eq_true rfl) rfl (by rw [jn_48]; rfl) (wc_com (d := d + 1) ht ⟨ws1, e, hlen, V⟩ hls) (fun v1 h8 R => ?_)
          obtain ⟨rfl, V⟩ := R
          show wl_R _ _ 41 214 [some (.ref 93), some (wp_i g), some (wp_i a), some (wp_i (ck g))] [] h8 _
          refine wl_goto (t := 263) ji_41_214 rfl ?_
          refine wl_rv ji_41_263 jr_41 ⟨rfl, ?_⟩
          rw [show c5 law g w ls as_ = (if ls = 6 then .inl 7 else .inr (1, jwt 5 w, ls + 1, as_)) from if_pos ⟨by omega, by omega, by omega, (hyb.mp (by omega)).elim (fun w2 z => by rw [z]; rfl)⟩]
          rcases V with ⟨o1, V⟩ | ⟨o1, V⟩
          · rw [if_pos o1]
            exact ⟨_, _, _, _, V⟩
          · rw [if_neg o1]
            exact V
theorem wc_s162 {nn d : Nat} {h0 h : mj_H} {bl fr : List Value} {t : Nat} {w : List Int} {L k v s p f q law st ls as_ cl : Int} (ht : 12 ≤ t ∧ t ≤ 33) (V : cH h0 h bl t L k v s p f q law st w ls as_ cl fr) (hw : w.length ≤ 39) (hst : 0 ≤ st ∧ st ≤ 5) (hlaw : 0 ≤ law ∧ law ≤ 2) (hkv : wp_r k ∧ wp_r v ∧ (k = 0 → -1 ≤ v ∧ v ≤ 30)) (has : as_ = 0 ∨ as_ = 1) (hls : 0 ≤ ls ∧ ls ≤ 100) (hcl : cok w) {g a : Int} (hgr : wp_r g) (ha : (a = 1 ∧ law = 2 ∧ brn w = 0) ∨ (a = 0 ∧ ¬ (law = 2 ∧ brn w = 0))) : wl_R nn (d + 3) 41 162 [some (.ref 93), some (wp_i g), some (wp_i a), some (wp_i (ck g))] [] h (fun v1 h1 => v1 = none ∧ cQ h0 h1 bl t L k v s p f q law cl fr  (c4 law g w ls as_)) := by
  obtain ⟨ws, e, hlen, V⟩ := V
  have hop := opn_0 w
  have hbr := brn_0 w
  have hck := ck_r g
  refine wl_s (pc' := 163) ji_41_162 rfl rfl rfl ?_
  refine wl_bp ji_41_163 rfl ?_
  refine wl_icmp (t := 182) ji_41_165 rfl (by omega) (by omega) (fun (hb1 : ¬ (g : Int) = 41) => ?_) (fun (hb1 : ¬ (¬ (g : Int) = 41)) => ?_)
  · rw [show c4 law g w ls as_ = c5 law g w ls as_ from if_neg (by omega)]
    exact wc_s182 ht ⟨ws, e, hlen, V⟩ hw hst hlaw hkv has hls hcl hgr ha
  · refine wl_s (pc' := 169) ji_41_168 rfl rfl rfl ?_
    refine cl_g V ji_41_169 jf_41_38 rfl ?_
    refine wl_if (t := 182) ji_41_172 rfl (by omega) (fun (hb2 : (brn w : Int) ≤ 0) => ?_) (fun (hb2 : ¬ ((brn w : Int) ≤ 0)) => ?_)
    · rw [show c4 law g w ls as_ = c5 law g w ls as_ from if_neg (by omega)]
      exact wc_s182 ht ⟨ws, e, hlen, V⟩ hw hst hlaw hkv has hls hcl hgr ha
    · refine wl_s (pc' := 176) ji_41_175 rfl rfl rfl ?_
      refine wl_vc (d := d + 2) (as := [.ref 93]) (rest := []) ji_41_176 jc_41_165 rfl (cl_93 V) jk_46.symm (Nat.le_of_ble_eq_true rfl) rfl (by rw [jn_46]; rfl) (wc_cls (d := d) ht ⟨ws, e, hlen, V⟩ hls (fun c1 w1 x => (hcl (by omega)).elim (fun c2 y => y.elim (fun w2 z => by rw [z.1] at x; injection x with x1 x2; rw [← x1]; exact z.2))) (fun x => (hcl (by omega)).elim (fun c2 y => y.elim (fun w2 z => by rw [z.1] at x; cases x)))) (fun v1 h9 R => ?_)
      obtain ⟨rfl, c1, w1, ew, V⟩ := R
      show wl_R _ _ 41 179 [some (.ref 93), some (wp_i g), some (wp_i a), some (wp_i (ck g))] [] h9 _
      refine wl_goto (t := 263) ji_41_179 rfl ?_
      refine wl_rv ji_41_263 jr_41 ⟨rfl, ?_⟩
      rw [show c4 law g w ls as_ = c_cl w ls as_ from if_pos (by omega)]
      unfold c_cl
      rw [ew]
      exact V
theorem wc_s126 {nn d : Nat} {h0 h : mj_H} {bl fr : List Value} {t : Nat} {w : List Int} {L k v s p f q law st ls as_ cl : Int} (ht : 12 ≤ t ∧ t ≤ 33) (V : cH h0 h bl t L k v s p f q law st w ls as_ cl fr) (hw : w.length ≤ 39) (hst : 0 ≤ st ∧ st ≤ 5) (hlaw : 0 ≤ law ∧ law ≤ 2) (hkv : wp_r k ∧ wp_r v ∧ (k = 0 → -1 ≤ v ∧ v ≤ 30)) (has : as_ = 0 ∨ as_ = 1) (hls : 0 ≤ ls ∧ ls ≤ 100) (hcl : cok w) {g a : Int} (hgr : wp_r g) (ha : (a = 1 ∧ law = 2 ∧ brn w = 0) ∨ (a = 0 ∧ ¬ (law = 2 ∧ brn w = 0))) : wl_R nn (d + 3) 41 126 [some (.ref 93), some (wp_i g), some (wp_i a), some (wp_i (ck g))] [] h (fun v1 h1 => v1 = none ∧ cQ h0 h1 bl t L k v s p f q law cl fr  (c3 law g w ls as_)) := by
  obtain ⟨ws, e, hlen, V⟩ := V
  have hop := opn_0 w
  have hbr := brn_0 w
  have hck := ck_r g
  refine wl_s (pc' := 127) ji_41_126 rfl rfl rfl ?_
  refine wl_s (pc' := 128) ji_41_127 rfl rfl rfl ?_
  refine wl_icmp (t := 136) ji_41_128 rfl (by omega) (by omega) (fun (hb1 : (ck g : Int) = 1) => ?_) (fun (hb1 : ¬ ((ck g : Int) = 1)) => ?_)
  · refine wl_s (pc' := 137) ji_41_136 rfl rfl rfl ?_
    refine wl_if (t := 162) ji_41_137 rfl (by omega) (fun (hb2 : (a : Int) = 0) => ?_) (fun (hb2 : ¬ ((a : Int) = 0)) => ?_)
    · rw [show c3 law g w ls as_ = c4 law g w ls as_ from if_neg (by omega)]
      exact wc_s162 ht ⟨ws, e, hlen, V⟩ hw hst hlaw hkv has hls hcl hgr ha
    · refine wl_s (pc' := 141) ji_41_140 rfl rfl rfl ?_
      refine cl_g V ji_41_141 jf_41_44 rfl ?_
      refine wl_if (t := 162) ji_41_144 rfl (by omega) (fun (hb3 : (as_ : Int) = 0) => ?_) (fun (hb3 : ¬ ((as_ : Int) = 0)) => ?_)
      · rw [show c3 law g w ls as_ = c4 law g w ls as_ from if_neg (by omega)]
        exact wc_s162 ht ⟨ws, e, hlen, V⟩ hw hst hlaw hkv has hls hcl hgr ha
      · refine wl_s (pc' := 148) ji_41_147 rfl rfl rfl ?_
        refine wl_s (pc' := 149) ji_41_148 rfl rfl rfl ?_
        refine cl_p (y := 0) (f' := f) (q' := q) (law' := law) (st' := st) (wn' := (w.length : Int)) (op' := opn w) (br' := brn w) (ls' := ls) (as_' := 0) ht V ji_41_149 jf_41_44 (by decide) rfl rfl rfl (fun h V => ?_)
        refine wl_s (pc' := 153) ji_41_152 rfl rfl rfl ?_
        refine wl_s (pc' := 154) ji_41_153 rfl rfl rfl ?_
        refine wl_s (pc' := 155) ji_41_154 rfl rfl rfl ?_
        refine wl_s (pc' := 156) ji_41_155 rfl rfl rfl ?_
        refine wl_vc (d := d + 2) (as := [.ref 93, wp_i g, wp_i (ck g), wp_i 0]) (rest := []) ji_41_156 jc_41_159 rfl (cl_93 V) jk_44.symm (Nat.le_of_ble_eq_true rfl) rfl (by rw [jn_44]; rfl) (wc_jb (d := d) (c := g) (r := ck g) (x := 0) ht ⟨ws, e, hlen, V⟩ (by omega) (Nat.le_trans (jwt_len w) hw) (ck_op (by omega))) (fun v1 h9 R => ?_)
        obtain ⟨rfl, V⟩ := R
        show wl_R _ _ 41 159 [some (.ref 93), some (wp_i g), some (wp_i a), some (wp_i (ck g))] [] h9 _
        refine wl_goto (t := 263) ji_41_159 rfl ?_
        refine wl_rv ji_41_263 jr_41 ⟨rfl, ?_⟩
        rw [show c3 law g w ls as_ = .inr (0, g :: jwt (ck g) w, ls, 0) from if_pos (by omega)]
        exact V
  · refine wl_s (pc' := 132) ji_41_131 rfl rfl rfl ?_
    refine wl_s (pc' := 133) ji_41_132 rfl rfl rfl ?_
    refine wl_icmp (t := 162) ji_41_133 rfl (by omega) (by omega) (fun (hb4 : ¬ (ck g : Int) = 2) => ?_) (fun (hb4 : ¬ (¬ (ck g : Int) = 2)) => ?_)
    · rw [show c3 law g w ls as_ = c4 law g w ls as_ from if_neg (by omega)]
      exact wc_s162 ht ⟨ws, e, hlen, V⟩ hw hst hlaw hkv has hls hcl hgr ha
    · refine wl_s (pc' := 137) ji_41_136 rfl rfl rfl ?_
      refine wl_if (t := 162) ji_41_137 rfl (by omega) (fun (hb5 : (a : Int) = 0) => ?_) (fun (hb5 : ¬ ((a : Int) = 0)) => ?_)
      · rw [show c3 law g w ls as_ = c4 law g w ls as_ from if_neg (by omega)]
        exact wc_s162 ht ⟨ws, e, hlen, V⟩ hw hst hlaw hkv has hls hcl hgr ha
      · refine wl_s (pc' := 141) ji_41_140 rfl rfl rfl ?_
        refine cl_g V ji_41_141 jf_41_44 rfl ?_
        refine wl_if (t := 162) ji_41_144 rfl (by omega) (fun (hb6 : (as_ : Int) = 0) => ?_) (fun (hb6 : ¬ ((as_ : Int) = 0)) => ?_)
        · rw [show c3 law g w ls as_ = c4 law g w ls as_ from if_neg (by omega)]
          exact wc_s162 ht ⟨ws, e, hlen, V⟩ hw hst hlaw hkv has hls hcl hgr ha
        · refine wl_s (pc' := 148) ji_41_147 rfl rfl rfl ?_
          refine wl_s (pc' := 149) ji_41_148 rfl rfl rfl ?_
          refine cl_p (y := 0) (f' := f) (q' := q) (law' := law) (st' := st) (wn' := (w.length : Int)) (op' := opn w) (br' := brn w) (ls' := ls) (as_' := 0) ht V ji_41_149 jf_41_44 (by decide) rfl rfl rfl (fun h V => ?_)
          refine wl_s (pc' := 153) ji_41_152 rfl rfl rfl ?_
          refine wl_s (pc' := 154) ji_41_153 rfl rfl rfl ?_
          refine wl_s (pc' := 155) ji_41_154 rfl rfl rfl ?_
          refine wl_s (pc' := 156) ji_41_155 rfl rfl rfl ?_
          refine wl_vc (d := d + 2) (as := [.ref 93, wp_i g, wp_i (ck g), wp_i 0]) (rest := []) ji_41_156 jc_41_159 rfl (cl_93 V) jk_44.symm (Nat.le_of_ble_eq_true rfl) rfl (by rw [jn_44]; rfl) (wc_jb (d := d) (c := g) (r := ck g) (x := 0) ht ⟨ws, e, hlen, V⟩ (by omega) (Nat.le_trans (jwt_len w) hw) (ck_op (by omega))) (fun v1 h9 R => ?_)
          obtain ⟨rfl, V⟩ := R
          show wl_R _ _ 41 159 [some (.ref 93), some (wp_i g), some (wp_i a), some (wp_i (ck g))] [] h9 _
          refine wl_goto (t := 263) ji_41_159 rfl ?_
          refine wl_rv ji_41_263 jr_41 ⟨rfl, ?_⟩
          rw [show c3 law g w ls as_ = .inr (0, g :: jwt (ck g) w, ls, 0) from if_pos (by omega)]
          exact V
theorem wc_s91 {nn d : Nat} {h0 h : mj_H} {bl fr : List Value} {t : Nat} {w : List Int} {L k v s p f q law st ls as_ cl : Int} (ht : 12 ≤ t ∧ t ≤ 33) (V : cH h0 h bl t L k v s p f q law st w ls as_ cl fr) (hw : w.length ≤ 39) (hst : 0 ≤ st ∧ st ≤ 5) (hlaw : 0 ≤ law ∧ law ≤ 2) (hkv : wp_r k ∧ wp_r v ∧ (k = 0 → -1 ≤ v ∧ v ≤ 30)) (has : as_ = 0 ∨ as_ = 1) (hls : 0 ≤ ls ∧ ls ≤ 100) (hcl : cok w) {g a : Int} (hgr : wp_r g) (ha : (a = 1 ∧ law = 2 ∧ brn w = 0) ∨ (a = 0 ∧ ¬ (law = 2 ∧ brn w = 0))) : wl_R nn (d + 3) 41 91 [some (.ref 93), some (wp_i g), some (wp_i a), some (wp_i (ck g))] [] h (fun v1 h1 => v1 = none ∧ cQ h0 h1 bl t L k v s p f q law cl fr  (c2 law g w ls as_)) := by
  obtain ⟨ws, e, hlen, V⟩ := V
  have hop := opn_0 w
  have hbr := brn_0 w
  have hck := ck_r g
  refine wl_s (pc' := 92) ji_41_91 rfl rfl rfl ?_
  refine wl_bp ji_41_92 rfl ?_
  refine wl_icmp (t := 126) ji_41_94 rfl (by omega) (by omega) (fun (hb1 : ¬ (g : Int) = 91) => ?_) (fun (hb1 : ¬ (¬ (g : Int) = 91)) => ?_)
  · rw [show c2 law g w ls as_ = c3 law g w ls as_ from if_neg (by omega)]
    exact wc_s126 ht ⟨ws, e, hlen, V⟩ hw hst hlaw hkv has hls hcl hgr ha
  · refine wl_s (pc' := 98) ji_41_97 rfl rfl rfl ?_
    refine wl_if (t := 126) ji_41_98 rfl (by omega) (fun (hb2 : (a : Int) = 0) => ?_) (fun (hb2 : ¬ ((a : Int) = 0)) => ?_)
    · rw [show c2 law g w ls as_ = c3 law g w ls as_ from if_neg (by omega)]
      exact wc_s126 ht ⟨ws, e, hlen, V⟩ hw hst hlaw hkv has hls hcl hgr ha
    · refine wl_s (pc' := 102) ji_41_101 rfl rfl rfl ?_
      refine cl_g V ji_41_102 jf_41_44 rfl ?_
      refine wl_if (t := 126) ji_41_105 rfl (by omega) (fun (hb3 : ¬ (as_ : Int) = 0) => ?_) (fun (hb3 : ¬ (¬ (as_ : Int) = 0)) => ?_)
      · rw [show c2 law g w ls as_ = c3 law g w ls as_ from if_neg (by omega)]
        exact wc_s126 ht ⟨ws, e, hlen, V⟩ hw hst hlaw hkv has hls hcl hgr ha
      · refine wl_s (pc' := 109) ji_41_108 rfl rfl rfl ?_
        refine wl_s (pc' := 110) ji_41_109 rfl rfl rfl ?_
        refine cl_p (y := 1) (f' := f) (q' := q) (law' := law) (st' := st) (wn' := (w.length : Int)) (op' := opn w) (br' := brn w) (ls' := ls) (as_' := 1) ht V ji_41_110 jf_41_44 (by decide) rfl rfl rfl (fun h V => ?_)
        refine wl_s (pc' := 114) ji_41_113 rfl rfl rfl ?_
        refine wl_s (pc' := 115) ji_41_114 rfl rfl rfl ?_
        refine wl_vc (d := d + 2) (as := [.ref 93, wp_i 5]) (rest := []) ji_41_115 jc_41_162 rfl (cl_93 V) jk_45.symm (Nat.le_of_ble_eq_true rfl) rfl (by rw [jn_45]; rfl) (wc_jw (d := d + 1) (r := 5) ht (by omega) nn w _ none ⟨ws, e, hlen, V⟩) (fun v1 h9 R => ?_)
        obtain ⟨rfl, V⟩ := R
        obtain ⟨ws1, e, hlen, V⟩ := V
        show wl_R _ _ 41 118 [some (.ref 93), some (wp_i g), some (wp_i a), some (wp_i (ck g))] [] h9 _
        refine wl_s (pc' := 119) ji_41_118 rfl rfl rfl ?_
        refine wl_s (pc' := 120) ji_41_119 rfl rfl rfl ?_
        refine cl_p (y := 3) (f' := f) (q' := q) (law' := law) (st' := 3) (wn' := ((jwt 5 w).length : Int)) (op' := opn (jwt 5 w)) (br' := brn (jwt 5 w)) (ls' := ls) (as_' := 1) ht V ji_41_120 jf_41_25 (by decide) rfl rfl rfl (fun h V => ?_)
        refine wl_goto (t := 263) ji_41_123 rfl ?_
        refine wl_rv ji_41_263 jr_41 ⟨rfl, ?_⟩
        rw [show c2 law g w ls as_ = .inr (3, jwt 5 w, ls, 1) from if_pos (by omega)]
        exact ⟨ws1, e, hlen, V⟩
theorem wc_s60 {nn d : Nat} {h0 h : mj_H} {bl fr : List Value} {t : Nat} {w : List Int} {L k v s p f q law st ls as_ cl : Int} (ht : 12 ≤ t ∧ t ≤ 33) (V : cH h0 h bl t L k v s p f q law st w ls as_ cl fr) (hw : w.length ≤ 39) (hst : 0 ≤ st ∧ st ≤ 5) (hlaw : 0 ≤ law ∧ law ≤ 2) (hkv : wp_r k ∧ wp_r v ∧ (k = 0 → -1 ≤ v ∧ v ≤ 30)) (has : as_ = 0 ∨ as_ = 1) (hls : 0 ≤ ls ∧ ls ≤ 100) (hcl : cok w) {g a : Int} (hgr : wp_r g) (ha : (a = 1 ∧ law = 2 ∧ brn w = 0) ∨ (a = 0 ∧ ¬ (law = 2 ∧ brn w = 0))) : wl_R nn (d + 3) 41 60 [some (.ref 93), some (wp_i g), some (wp_i a), some (wp_i (ck g))] [] h (fun v1 h1 => v1 = none ∧ cQ h0 h1 bl t L k v s p f q law cl fr  (c1 law g w ls as_)) := by
  obtain ⟨ws, e, hlen, V⟩ := V
  have hop := opn_0 w
  have hbr := brn_0 w
  have hck := ck_r g
  refine wl_s (pc' := 61) ji_41_60 rfl rfl rfl ?_
  refine wl_s (pc' := 62) ji_41_61 rfl rfl rfl ?_
  refine wl_icmp (t := 91) ji_41_62 rfl (by omega) (by omega) (fun (hb1 : ¬ (ck g : Int) = 4) => ?_) (fun (hb1 : ¬ (¬ (ck g : Int) = 4)) => ?_)
  · rw [show c1 law g w ls as_ = c2 law g w ls as_ from if_neg (by omega)]
    exact wc_s91 ht ⟨ws, e, hlen, V⟩ hw hst hlaw hkv has hls hcl hgr ha
  · refine wl_s (pc' := 66) ji_41_65 rfl rfl rfl ?_
    refine wl_if (t := 91) ji_41_66 rfl (by omega) (fun (hb2 : (a : Int) = 0) => ?_) (fun (hb2 : ¬ ((a : Int) = 0)) => ?_)
    · rw [show c1 law g w ls as_ = c2 law g w ls as_ from if_neg (by omega)]
      exact wc_s91 ht ⟨ws, e, hlen, V⟩ hw hst hlaw hkv has hls hcl hgr ha
    · refine wl_s (pc' := 70) ji_41_69 rfl rfl rfl ?_
      refine cl_g V ji_41_70 jf_41_44 rfl ?_
      refine wl_if (t := 91) ji_41_73 rfl (by omega) (fun (hb3 : ¬ (as_ : Int) = 0) => ?_) (fun (hb3 : ¬ (¬ (as_ : Int) = 0)) => ?_)
      · rw [show c1 law g w ls as_ = c2 law g w ls as_ from if_neg (by omega)]
        exact wc_s91 ht ⟨ws, e, hlen, V⟩ hw hst hlaw hkv has hls hcl hgr ha
      · refine wl_s (pc' := 77) ji_41_76 rfl rfl rfl ?_
        refine wl_s (pc' := 78) ji_41_77 rfl rfl rfl ?_
        refine cl_p (y := 1) (f' := f) (q' := q) (law' := law) (st' := st) (wn' := (w.length : Int)) (op' := opn w) (br' := brn w) (ls' := ls) (as_' := 1) ht V ji_41_78 jf_41_44 (by decide) rfl rfl rfl (fun h V => ?_)
        refine wl_s (pc' := 82) ji_41_81 rfl rfl rfl ?_
        refine wl_s (pc' := 83) ji_41_82 rfl rfl rfl ?_
        refine wl_s (pc' := 84) ji_41_83 rfl rfl rfl ?_
        refine wl_s (pc' := 85) ji_41_84 rfl rfl rfl ?_
        refine wl_vc (d := d + 2) (as := [.ref 93, wp_i g, wp_i 5, wp_i 1]) (rest := []) ji_41_85 jc_41_159 rfl (cl_93 V) jk_44.symm (Nat.le_of_ble_eq_true rfl) rfl (by rw [jn_44]; rfl) (wc_jb (d := d) (c := g) (r := 5) (x := 1) ht ⟨ws, e, hlen, V⟩ (by omega) (Nat.le_trans (jwt_len w) hw) (ck_op (by omega))) (fun v1 h9 R => ?_)
        obtain ⟨rfl, V⟩ := R
        show wl_R _ _ 41 88 [some (.ref 93), some (wp_i g), some (wp_i a), some (wp_i (ck g))] [] h9 _
        refine wl_goto (t := 263) ji_41_88 rfl ?_
        refine wl_rv ji_41_263 jr_41 ⟨rfl, ?_⟩
        rw [show c1 law g w ls as_ = .inr (1, g :: jwt 5 w, ls, 1) from if_pos (by omega)]
        exact V
theorem wc_s31 {nn d : Nat} {h0 h : mj_H} {bl fr : List Value} {t : Nat} {w : List Int} {L k v s p f q law st ls as_ cl : Int} (ht : 12 ≤ t ∧ t ≤ 33) (V : cH h0 h bl t L k v s p f q law st w ls as_ cl fr) (hw : w.length ≤ 39) (hst : 0 ≤ st ∧ st ≤ 5) (hlaw : 0 ≤ law ∧ law ≤ 2) (hkv : wp_r k ∧ wp_r v ∧ (k = 0 → -1 ≤ v ∧ v ≤ 30)) (has : as_ = 0 ∨ as_ = 1) (hls : 0 ≤ ls ∧ ls ≤ 100) (hcl : cok w) {g a : Int} (hgr : wp_r g) (ha : (a = 1 ∧ law = 2 ∧ brn w = 0) ∨ (a = 0 ∧ ¬ (law = 2 ∧ brn w = 0))) : wl_R nn (d + 3) 41 31 [some (.ref 93), some (wp_i g), some (wp_i a), some (wp_i (ck g))] [] h (fun v1 h1 => v1 = none ∧ cQ h0 h1 bl t L k v s p f q law cl fr  (c_sg law g st w ls as_)) := by
  obtain ⟨ws, e, hlen, V⟩ := V
  have hop := opn_0 w
  have hbr := brn_0 w
  have hck := ck_r g
  refine wl_s (pc' := 32) ji_41_31 rfl rfl rfl ?_
  refine wl_s (pc' := 33) ji_41_32 rfl rfl rfl ?_
  refine wl_icmp (t := 42) ji_41_33 rfl (by omega) (by omega) (fun (hb1 : (ck g : Int) = 5) => ?_) (fun (hb1 : ¬ ((ck g : Int) = 5)) => ?_)
  · refine wl_s (pc' := 43) ji_41_42 rfl rfl rfl ?_
    refine cl_g V ji_41_43 jf_41_25 rfl ?_
    refine wl_s (pc' := 47) ji_41_46 rfl rfl rfl ?_
    refine wl_icmp (t := 60) ji_41_47 rfl (by omega) (by omega) (fun (hb2 : (st : Int) = 4) => ?_) (fun (hb2 : ¬ ((st : Int) = 4)) => ?_)
    · rw [show c_sg law g st w ls as_ = c1 law g w ls as_ from if_neg (by omega)]
      exact wc_s60 ht ⟨ws, e, hlen, V⟩ hw hst hlaw hkv has hls hcl hgr ha
    · refine wl_s (pc' := 51) ji_41_50 rfl rfl rfl ?_
      refine wl_s (pc' := 52) ji_41_51 rfl rfl rfl ?_
      refine wl_s (pc' := 53) ji_41_52 rfl rfl rfl ?_
      refine wl_s (pc' := 54) ji_41_53 rfl rfl rfl ?_
      refine wl_vc (d := d + 2) (as := [.ref 93, wp_i g, wp_i (ck g), wp_i 1]) (rest := []) ji_41_54 jc_41_159 rfl (cl_93 V) jk_44.symm (Nat.le_of_ble_eq_true rfl) rfl (by rw [jn_44]; rfl) (wc_jb (d := d) (c := g) (r := ck g) (x := 1) ht ⟨ws, e, hlen, V⟩ (by omega) (Nat.le_trans (jwt_len w) hw) (ck_op (by omega))) (fun v1 h9 R => ?_)
      obtain ⟨rfl, V⟩ := R
      show wl_R _ _ 41 57 [some (.ref 93), some (wp_i g), some (wp_i a), some (wp_i (ck g))] [] h9 _
      refine wl_goto (t := 263) ji_41_57 rfl ?_
      refine wl_rv ji_41_263 jr_41 ⟨rfl, ?_⟩
      rw [show c_sg law g st w ls as_ = .inr (1, g :: jwt (ck g) w, ls, as_) from if_pos (by omega)]
      exact V
  · refine wl_s (pc' := 37) ji_41_36 rfl rfl rfl ?_
    refine wl_bp ji_41_37 rfl ?_
    refine wl_icmp (t := 60) ji_41_39 rfl (by omega) (by omega) (fun (hb3 : ¬ (ck g : Int) = 6) => ?_) (fun (hb3 : ¬ (¬ (ck g : Int) = 6)) => ?_)
    · rw [show c_sg law g st w ls as_ = c1 law g w ls as_ from if_neg (by omega)]
      exact wc_s60 ht ⟨ws, e, hlen, V⟩ hw hst hlaw hkv has hls hcl hgr ha
    · refine wl_s (pc' := 43) ji_41_42 rfl rfl rfl ?_
      refine cl_g V ji_41_43 jf_41_25 rfl ?_
      refine wl_s (pc' := 47) ji_41_46 rfl rfl rfl ?_
      refine wl_icmp (t := 60) ji_41_47 rfl (by omega) (by omega) (fun (hb4 : (st : Int) = 4) => ?_) (fun (hb4 : ¬ ((st : Int) = 4)) => ?_)
      · rw [show c_sg law g st w ls as_ = c1 law g w ls as_ from if_neg (by omega)]
        exact wc_s60 ht ⟨ws, e, hlen, V⟩ hw hst hlaw hkv has hls hcl hgr ha
      · refine wl_s (pc' := 51) ji_41_50 rfl rfl rfl ?_
        refine wl_s (pc' := 52) ji_41_51 rfl rfl rfl ?_
        refine wl_s (pc' := 53) ji_41_52 rfl rfl rfl ?_
        refine wl_s (pc' := 54) ji_41_53 rfl rfl rfl ?_
        refine wl_vc (d := d + 2) (as := [.ref 93, wp_i g, wp_i (ck g), wp_i 1]) (rest := []) ji_41_54 jc_41_159 rfl (cl_93 V) jk_44.symm (Nat.le_of_ble_eq_true rfl) rfl (by rw [jn_44]; rfl) (wc_jb (d := d) (c := g) (r := ck g) (x := 1) ht ⟨ws, e, hlen, V⟩ (by omega) (Nat.le_trans (jwt_len w) hw) (ck_op (by omega))) (fun v1 h9 R => ?_)
        obtain ⟨rfl, V⟩ := R
        show wl_R _ _ 41 57 [some (.ref 93), some (wp_i g), some (wp_i a), some (wp_i (ck g))] [] h9 _
        refine wl_goto (t := 263) ji_41_57 rfl ?_
        refine wl_rv ji_41_263 jr_41 ⟨rfl, ?_⟩
        rw [show c_sg law g st w ls as_ = .inr (1, g :: jwt (ck g) w, ls, as_) from if_pos (by omega)]
        exact V
theorem wc_sg {nn d : Nat} {h0 h : mj_H} {bl fr : List Value} {t : Nat} {w : List Int} {L k v s p f q law st ls as_ cl : Int} (ht : 12 ≤ t ∧ t ≤ 33) (V : cH h0 h bl t L k v s p f q law st w ls as_ cl fr) (hw : w.length ≤ 39) (hst : 0 ≤ st ∧ st ≤ 5) (hlaw : 0 ≤ law ∧ law ≤ 2) (hkv : wp_r k ∧ wp_r v ∧ (k = 0 → -1 ≤ v ∧ v ≤ 30)) (has : as_ = 0 ∨ as_ = 1) (hls : 0 ≤ ls ∧ ls ≤ 100) (hcl : cok w) : wl_R nn (d + 3) 41 0 [some (.ref 93), none, none, none] [] h (fun v1 h1 => v1 = none ∧ cQ h0 h1 bl t L k v s p f q law cl fr  (c_sg law (sh k v) st w ls as_)) := by
  obtain ⟨ws, e, hlen, V⟩ := V
  have hop := opn_0 w
  have hbr := brn_0 w
  have hgr := sh_r (k := k) hkv.2.1
  obtain ⟨g, hg⟩ : ∃ g, sh k v = g := ⟨_, rfl⟩
  rw [hg] at hgr ⊢
  have hck := ck_r g
  refine wl_s (pc' := 1) ji_41_0 rfl rfl rfl ?_
  refine wl_vc (d := d + 2) (as := [.ref 93]) (rest := []) ji_41_1 jc_41_151 rfl (cl_93 V) jk_42.symm (Nat.le_of_ble_eq_true rfl) rfl (by rw [jn_42]; rfl) (wc_sh (d := d + 2) ht ⟨ws, e, hlen, V⟩ ⟨hkv.1, hkv.2.1⟩) (fun v1 h1 R => ?_)
  obtain ⟨ee, rfl⟩ := R
  subst ee
  rw [hg]
  show wl_R _ _ 41 4 [some (.ref 93), none, none, none] [wp_i g] h1 _
  refine wl_s (pc' := 5) (lv' := [some (.ref 93), some (wp_i g), none, none]) ji_41_4 rfl rfl rfl ?_
  refine wl_s (pc' := 6) ji_41_5 rfl rfl rfl ?_
  refine cl_g V ji_41_6 jf_41_22 rfl ?_
  refine wl_s (pc' := 10) ji_41_9 rfl rfl rfl ?_
  refine wl_icmp (t := 24) ji_41_10 rfl (by omega) (by omega) (fun (hb1 : ¬ (law : Int) = 2) => ?_) (fun (hb1 : ¬ (¬ (law : Int) = 2)) => ?_)
  · refine wl_s (pc' := 25) ji_41_24 rfl rfl rfl ?_
    refine wl_s (pc' := 26) (lv' := [some (.ref 93), some (wp_i g), some (wp_i 0), none]) ji_41_25 rfl rfl rfl ?_
    refine wl_s (pc' := 27) ji_41_26 rfl rfl rfl ?_
    refine wl_sc (d := d + 2) (as := [wp_i g]) (rest := []) ji_41_27 jc_41_155 (Nat.le_of_ble_eq_true rfl) rfl (Nat.le_of_ble_eq_true rfl) rfl (by rw [jn_43]; rfl) (wc_rank (c := g) (by omega)) (fun v1 h1 R => ?_)
    obtain ⟨ee, rfl⟩ := R
    subst ee
    show wl_R _ _ 41 30 [some (.ref 93), some (wp_i g), some (wp_i 0), none] [wp_i (ck g)] h1 _
    refine wl_s (pc' := 31) (lv' := [some (.ref 93), some (wp_i g), some (wp_i 0), some (wp_i (ck g))]) ji_41_30 rfl rfl rfl ?_
    exact wc_s31 (a := 0) ht ⟨ws, e, hlen, V⟩ hw hst hlaw hkv has hls hcl hgr (by omega)
  · refine wl_s (pc' := 14) ji_41_13 rfl rfl rfl ?_
    refine cl_g V ji_41_14 jf_41_38 rfl ?_
    refine wl_if (t := 24) ji_41_17 rfl (by omega) (fun (hb2 : ¬ (brn w : Int) = 0) => ?_) (fun (hb2 : ¬ (¬ (brn w : Int) = 0)) => ?_)
    · refine wl_s (pc' := 25) ji_41_24 rfl rfl rfl ?_
      refine wl_s (pc' := 26) (lv' := [some (.ref 93), some (wp_i g), some (wp_i 0), none]) ji_41_25 rfl rfl rfl ?_
      refine wl_s (pc' := 27) ji_41_26 rfl rfl rfl ?_
      refine wl_sc (d := d + 2) (as := [wp_i g]) (rest := []) ji_41_27 jc_41_155 (Nat.le_of_ble_eq_true rfl) rfl (Nat.le_of_ble_eq_true rfl) rfl (by rw [jn_43]; rfl) (wc_rank (c := g) (by omega)) (fun v1 h1 R => ?_)
      obtain ⟨ee, rfl⟩ := R
      subst ee
      show wl_R _ _ 41 30 [some (.ref 93), some (wp_i g), some (wp_i 0), none] [wp_i (ck g)] h1 _
      refine wl_s (pc' := 31) (lv' := [some (.ref 93), some (wp_i g), some (wp_i 0), some (wp_i (ck g))]) ji_41_30 rfl rfl rfl ?_
      exact wc_s31 (a := 0) ht ⟨ws, e, hlen, V⟩ hw hst hlaw hkv has hls hcl hgr (by omega)
    · refine wl_s (pc' := 21) ji_41_20 rfl rfl rfl ?_
      refine wl_goto (t := 25) ji_41_21 rfl ?_
      refine wl_s (pc' := 26) (lv' := [some (.ref 93), some (wp_i g), some (wp_i 1), none]) ji_41_25 rfl rfl rfl ?_
      refine wl_s (pc' := 27) ji_41_26 rfl rfl rfl ?_
      refine wl_sc (d := d + 2) (as := [wp_i g]) (rest := []) ji_41_27 jc_41_155 (Nat.le_of_ble_eq_true rfl) rfl (Nat.le_of_ble_eq_true rfl) rfl (by rw [jn_43]; rfl) (wc_rank (c := g) (by omega)) (fun v1 h1 R => ?_)
      obtain ⟨ee, rfl⟩ := R
      subst ee
      show wl_R _ _ 41 30 [some (.ref 93), some (wp_i g), some (wp_i 1), none] [wp_i (ck g)] h1 _
      refine wl_s (pc' := 31) (lv' := [some (.ref 93), some (wp_i g), some (wp_i 1), some (wp_i (ck g))]) ji_41_30 rfl rfl rfl ?_
      exact wc_s31 (a := 1) ht ⟨ws, e, hlen, V⟩ hw hst hlaw hkv has hls hcl hgr (by omega)
