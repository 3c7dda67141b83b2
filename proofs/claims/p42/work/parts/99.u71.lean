/-! -/
set_option maxRecDepth 100000 in
theorem ji_144_0 : mj_ins 144 0 = some (.iload_n 1) := by decide +kernel
set_option maxRecDepth 100000 in
theorem ji_144_1 : mj_ins 144 1 = some (.iconst (-1)) := by decide +kernel
set_option maxRecDepth 100000 in
theorem ji_144_2 : mj_ins 144 2 = some (.if_icmp .ne 10) := by decide +kernel
set_option maxRecDepth 100000 in
theorem ji_144_12 : mj_ins 144 12 = some (.iload_n 1) := by decide +kernel
set_option maxRecDepth 100000 in
theorem ji_144_13 : mj_ins 144 13 = some (.ifCond .lt 18) := by decide +kernel
set_option maxRecDepth 100000 in
theorem ji_144_31 : mj_ins 144 31 = some (.bipush (-2)) := by decide +kernel
set_option maxRecDepth 100000 in
theorem ji_144_33 : mj_ins 144 33 = some (.ireturn) := by decide +kernel
set_option maxRecDepth 100000 in
theorem jr_144 : mj_ret 144 = some .int := by decide +kernel
set_option maxRecDepth 100000 in
theorem ji_144_16 : mj_ins 144 16 = some (.iload_n 1) := by decide +kernel
set_option maxRecDepth 100000 in
theorem ji_144_17 : mj_ins 144 17 = some (.bipush 99) := by decide +kernel
set_option maxRecDepth 100000 in
theorem ji_144_19 : mj_ins 144 19 = some (.if_icmp .gt 12) := by decide +kernel
set_option maxRecDepth 100000 in
theorem ji_144_22 : mj_ins 144 22 = some (.aload_n 0) := by decide +kernel
set_option maxRecDepth 100000 in
theorem ji_144_23 : mj_ins 144 23 = some (.getfield 22) := by decide +kernel
set_option maxRecDepth 100000 in
theorem jf_144_22 : mj_fld 144 22 = some (6, 3, .int, true) := by decide +kernel
set_option maxRecDepth 100000 in
theorem ji_144_26 : mj_ins 144 26 = some (.bipush 8) := by decide +kernel
set_option maxRecDepth 100000 in
theorem ji_144_28 : mj_ins 144 28 = some (.if_icmp .ne 6) := by decide +kernel
set_option maxRecDepth 100000 in
theorem ji_144_34 : mj_ins 144 34 = some (.aload_n 0) := by decide +kernel
set_option maxRecDepth 100000 in
theorem ji_144_35 : mj_ins 144 35 = some (.getfield 11) := by decide +kernel
set_option maxRecDepth 100000 in
theorem jf_144_11 : mj_fld 144 11 = some (6, 0, (.array .int), false) := by decide +kernel
set_option maxRecDepth 100000 in
theorem ji_144_38 : mj_ins 144 38 = some (.aload_n 0) := by decide +kernel
set_option maxRecDepth 100000 in
theorem ji_144_39 : mj_ins 144 39 = some (.getfield 22) := by decide +kernel
set_option maxRecDepth 100000 in
theorem ji_144_42 : mj_ins 144 42 = some (.iload_n 1) := by decide +kernel
set_option maxRecDepth 100000 in
theorem ji_144_43 : mj_ins 144 43 = some (.iastore) := by decide +kernel
set_option maxRecDepth 100000 in
theorem ji_144_44 : mj_ins 144 44 = some (.aload_n 0) := by decide +kernel
set_option maxRecDepth 100000 in
theorem ji_144_45 : mj_ins 144 45 = some (.getfield 15) := by decide +kernel
set_option maxRecDepth 100000 in
theorem jf_144_15 : mj_fld 144 15 = some (6, 1, (.array .boolean), false) := by decide +kernel
set_option maxRecDepth 100000 in
theorem ji_144_48 : mj_ins 144 48 = some (.aload_n 0) := by decide +kernel
set_option maxRecDepth 100000 in
theorem ji_144_49 : mj_ins 144 49 = some (.getfield 22) := by decide +kernel
set_option maxRecDepth 100000 in
theorem ji_144_52 : mj_ins 144 52 = some (.iload_n 2) := by decide +kernel
set_option maxRecDepth 100000 in
theorem ji_144_53 : mj_ins 144 53 = some (.bastore) := by decide +kernel
set_option maxRecDepth 100000 in
theorem ji_144_54 : mj_ins 144 54 = some (.aload_n 0) := by decide +kernel
set_option maxRecDepth 100000 in
theorem ji_144_55 : mj_ins 144 55 = some (.dup) := by decide +kernel
set_option maxRecDepth 100000 in
theorem ji_144_56 : mj_ins 144 56 = some (.getfield 22) := by decide +kernel
set_option maxRecDepth 100000 in
theorem ji_144_59 : mj_ins 144 59 = some (.iconst 1) := by decide +kernel
set_option maxRecDepth 100000 in
theorem ji_144_60 : mj_ins 144 60 = some (.iadd) := by decide +kernel
set_option maxRecDepth 100000 in
theorem ji_144_61 : mj_ins 144 61 = some (.putfield 22) := by decide +kernel
set_option maxRecDepth 100000 in
theorem ji_144_64 : mj_ins 144 64 = some (.aload_n 0) := by decide +kernel
set_option maxRecDepth 100000 in
theorem ji_144_65 : mj_ins 144 65 = some (.getfield 22) := by decide +kernel
set_option maxRecDepth 100000 in
theorem ji_144_68 : mj_ins 144 68 = some (.ireturn) := by decide +kernel
set_option maxRecDepth 100000 in
theorem ji_144_5 : mj_ins 144 5 = some (.aload_n 0) := by decide +kernel
set_option maxRecDepth 100000 in
theorem ji_144_6 : mj_ins 144 6 = some (.iconst 0) := by decide +kernel
set_option maxRecDepth 100000 in
theorem ji_144_7 : mj_ins 144 7 = some (.putfield 22) := by decide +kernel
set_option maxRecDepth 100000 in
theorem ji_144_10 : mj_ins 144 10 = some (.iconst 0) := by decide +kernel
set_option maxRecDepth 100000 in
theorem ji_144_11 : mj_ins 144 11 = some (.ireturn) := by decide +kernel
set_option maxRecDepth 100000 in
theorem ji_143_0 : mj_ins 143 0 = some (.aload_n 0) := by decide +kernel
set_option maxRecDepth 100000 in
theorem ji_143_1 : mj_ins 143 1 = some (.getfield 19) := by decide +kernel
set_option maxRecDepth 100000 in
theorem jf_143_19 : mj_fld 143 19 = some (0, 0, (.object "ForestOfPoles$State"), false) := by decide +kernel
set_option maxRecDepth 100000 in
theorem ji_143_4 : mj_ins 143 4 = some (.getfield 287) := by decide +kernel
set_option maxRecDepth 100000 in
theorem jf_143_287 : mj_fld 143 287 = some (2, 3, (.object "ForestOfPoles$Finds"), false) := by decide +kernel
set_option maxRecDepth 100000 in
theorem ji_143_7 : mj_ins 143 7 = some (.iload_n 1) := by decide +kernel
set_option maxRecDepth 100000 in
theorem ji_143_8 : mj_ins 143 8 = some (.iload_n 2) := by decide +kernel
set_option maxRecDepth 100000 in
theorem ji_143_9 : mj_ins 143 9 = some (.invokevirtual 291) := by decide +kernel
set_option maxRecDepth 100000 in
theorem jc_143_291 : mj_cal 143 291 = some (2, 144, 2) := by decide +kernel
set_option maxRecDepth 100000 in
theorem jn_144 : mj_nl 144 = 3 := by decide +kernel
set_option maxRecDepth 100000 in
theorem jk_144 : mj_cls 144 = 6 := by decide +kernel
set_option maxRecDepth 100000 in
theorem ji_143_12 : mj_ins 143 12 = some (.ireturn) := by decide +kernel
set_option maxRecDepth 100000 in
theorem jr_143 : mj_ret 143 = some .int := by decide +kernel
set_option maxRecDepth 100000 in
theorem ji_152_0 : mj_ins 152 0 = some (.aload_n 0) := by decide +kernel
set_option maxRecDepth 100000 in
theorem ji_152_1 : mj_ins 152 1 = some (.getfield 21) := by decide +kernel
set_option maxRecDepth 100000 in
theorem jf_152_21 : mj_fld 152 21 = some (7, 3, .int, true) := by decide +kernel
set_option maxRecDepth 100000 in
theorem ji_152_4 : mj_ins 152 4 = some (.bipush 10) := by decide +kernel
set_option maxRecDepth 100000 in
theorem ji_152_6 : mj_ins 152 6 = some (.if_icmp .ne 6) := by decide +kernel
set_option maxRecDepth 100000 in
theorem ji_152_12 : mj_ins 152 12 = some (.aload_n 0) := by decide +kernel
set_option maxRecDepth 100000 in
theorem ji_152_13 : mj_ins 152 13 = some (.getfield 11) := by decide +kernel
set_option maxRecDepth 100000 in
theorem jf_152_11 : mj_fld 152 11 = some (7, 0, (.array .int), false) := by decide +kernel
set_option maxRecDepth 100000 in
theorem ji_152_16 : mj_ins 152 16 = some (.aload_n 0) := by decide +kernel
set_option maxRecDepth 100000 in
theorem ji_152_17 : mj_ins 152 17 = some (.getfield 21) := by decide +kernel
set_option maxRecDepth 100000 in
theorem ji_152_20 : mj_ins 152 20 = some (.iload_n 1) := by decide +kernel
set_option maxRecDepth 100000 in
theorem ji_152_21 : mj_ins 152 21 = some (.iastore) := by decide +kernel
set_option maxRecDepth 100000 in
theorem ji_152_22 : mj_ins 152 22 = some (.aload_n 0) := by decide +kernel
set_option maxRecDepth 100000 in
theorem ji_152_23 : mj_ins 152 23 = some (.getfield 15) := by decide +kernel
set_option maxRecDepth 100000 in
theorem jf_152_15 : mj_fld 152 15 = some (7, 1, (.array .int), false) := by decide +kernel
set_option maxRecDepth 100000 in
theorem ji_152_26 : mj_ins 152 26 = some (.aload_n 0) := by decide +kernel
set_option maxRecDepth 100000 in
theorem ji_152_27 : mj_ins 152 27 = some (.getfield 21) := by decide +kernel
set_option maxRecDepth 100000 in
theorem ji_152_30 : mj_ins 152 30 = some (.iload_n 2) := by decide +kernel
set_option maxRecDepth 100000 in
theorem ji_152_31 : mj_ins 152 31 = some (.iastore) := by decide +kernel
set_option maxRecDepth 100000 in
theorem ji_152_32 : mj_ins 152 32 = some (.aload_n 0) := by decide +kernel
set_option maxRecDepth 100000 in
theorem ji_152_33 : mj_ins 152 33 = some (.dup) := by decide +kernel
set_option maxRecDepth 100000 in
theorem ji_152_34 : mj_ins 152 34 = some (.getfield 21) := by decide +kernel
set_option maxRecDepth 100000 in
theorem ji_152_37 : mj_ins 152 37 = some (.iconst 1) := by decide +kernel
set_option maxRecDepth 100000 in
theorem ji_152_38 : mj_ins 152 38 = some (.iadd) := by decide +kernel
set_option maxRecDepth 100000 in
theorem ji_152_39 : mj_ins 152 39 = some (.putfield 21) := by decide +kernel
set_option maxRecDepth 100000 in
theorem ji_152_42 : mj_ins 152 42 = some (.aload_n 0) := by decide +kernel
set_option maxRecDepth 100000 in
theorem ji_152_43 : mj_ins 152 43 = some (.getfield 21) := by decide +kernel
set_option maxRecDepth 100000 in
theorem ji_152_46 : mj_ins 152 46 = some (.ireturn) := by decide +kernel
set_option maxRecDepth 100000 in
theorem jr_152 : mj_ret 152 = some .int := by decide +kernel
set_option maxRecDepth 100000 in
theorem ji_152_9 : mj_ins 152 9 = some (.bipush (-2)) := by decide +kernel
set_option maxRecDepth 100000 in
theorem ji_152_11 : mj_ins 152 11 = some (.ireturn) := by decide +kernel
set_option maxRecDepth 100000 in
theorem ji_151_0 : mj_ins 151 0 = some (.iload_n 1) := by decide +kernel
set_option maxRecDepth 100000 in
theorem ji_151_1 : mj_ins 151 1 = some (.iconst (-1)) := by decide +kernel
set_option maxRecDepth 100000 in
theorem ji_151_2 : mj_ins 151 2 = some (.if_icmp .ne 16) := by decide +kernel
set_option maxRecDepth 100000 in
theorem ji_151_18 : mj_ins 151 18 = some (.aload_n 0) := by decide +kernel
set_option maxRecDepth 100000 in
theorem ji_151_19 : mj_ins 151 19 = some (.getfield 19) := by decide +kernel
set_option maxRecDepth 100000 in
theorem jf_151_19 : mj_fld 151 19 = some (0, 0, (.object "ForestOfPoles$State"), false) := by decide +kernel
set_option maxRecDepth 100000 in
theorem ji_151_22 : mj_ins 151 22 = some (.getfield 49) := by decide +kernel
set_option maxRecDepth 100000 in
theorem jf_151_49 : mj_fld 151 49 = some (2, 0, (.object "ForestOfPoles$Forest"), false) := by decide +kernel
set_option maxRecDepth 100000 in
theorem ji_151_25 : mj_ins 151 25 = some (.iload_n 1) := by decide +kernel
set_option maxRecDepth 100000 in
theorem ji_151_26 : mj_ins 151 26 = some (.invokevirtual 177) := by decide +kernel
set_option maxRecDepth 100000 in
theorem jc_151_177 : mj_cal 151 177 = some (2, 80, 1) := by decide +kernel
set_option maxRecDepth 100000 in
theorem ji_151_29 : mj_ins 151 29 = some (.ifCond .eq 22) := by decide +kernel
set_option maxRecDepth 100000 in
theorem ji_151_51 : mj_ins 151 51 = some (.bipush (-2)) := by decide +kernel
set_option maxRecDepth 100000 in
theorem ji_151_53 : mj_ins 151 53 = some (.ireturn) := by decide +kernel
set_option maxRecDepth 100000 in
theorem jr_151 : mj_ret 151 = some .int := by decide +kernel
set_option maxRecDepth 100000 in
theorem ji_151_32 : mj_ins 151 32 = some (.aload_n 0) := by decide +kernel
set_option maxRecDepth 100000 in
theorem ji_151_33 : mj_ins 151 33 = some (.getfield 19) := by decide +kernel
set_option maxRecDepth 100000 in
theorem ji_151_36 : mj_ins 151 36 = some (.getfield 49) := by decide +kernel
set_option maxRecDepth 100000 in
theorem ji_151_39 : mj_ins 151 39 = some (.iload_n 2) := by decide +kernel
set_option maxRecDepth 100000 in
theorem ji_151_40 : mj_ins 151 40 = some (.invokevirtual 177) := by decide +kernel
set_option maxRecDepth 100000 in
theorem ji_151_43 : mj_ins 151 43 = some (.ifCond .eq 8) := by decide +kernel
set_option maxRecDepth 100000 in
theorem ji_151_46 : mj_ins 151 46 = some (.iload_n 1) := by decide +kernel
set_option maxRecDepth 100000 in
theorem ji_151_47 : mj_ins 151 47 = some (.iload_n 2) := by decide +kernel
set_option maxRecDepth 100000 in
theorem ji_151_48 : mj_ins 151 48 = some (.if_icmp .ne 6) := by decide +kernel
set_option maxRecDepth 100000 in
theorem ji_151_54 : mj_ins 151 54 = some (.aload_n 0) := by decide +kernel
set_option maxRecDepth 100000 in
theorem ji_151_55 : mj_ins 151 55 = some (.getfield 19) := by decide +kernel
set_option maxRecDepth 100000 in
theorem ji_151_58 : mj_ins 151 58 = some (.getfield 304) := by decide +kernel
set_option maxRecDepth 100000 in
theorem jf_151_304 : mj_fld 151 304 = some (2, 4, (.object "ForestOfPoles$Claims"), false) := by decide +kernel
set_option maxRecDepth 100000 in
theorem ji_151_61 : mj_ins 151 61 = some (.iload_n 1) := by decide +kernel
set_option maxRecDepth 100000 in
theorem ji_151_62 : mj_ins 151 62 = some (.iload_n 2) := by decide +kernel
set_option maxRecDepth 100000 in
theorem ji_151_63 : mj_ins 151 63 = some (.invokevirtual 311) := by decide +kernel
set_option maxRecDepth 100000 in
theorem jc_151_311 : mj_cal 151 311 = some (2, 152, 2) := by decide +kernel
set_option maxRecDepth 100000 in
theorem jn_152 : mj_nl 152 = 3 := by decide +kernel
set_option maxRecDepth 100000 in
theorem jk_152 : mj_cls 152 = 7 := by decide +kernel
set_option maxRecDepth 100000 in
theorem ji_151_66 : mj_ins 151 66 = some (.ireturn) := by decide +kernel
set_option maxRecDepth 100000 in
theorem ji_151_5 : mj_ins 151 5 = some (.aload_n 0) := by decide +kernel
set_option maxRecDepth 100000 in
theorem ji_151_6 : mj_ins 151 6 = some (.getfield 19) := by decide +kernel
set_option maxRecDepth 100000 in
theorem ji_151_9 : mj_ins 151 9 = some (.getfield 304) := by decide +kernel
set_option maxRecDepth 100000 in
theorem ji_151_12 : mj_ins 151 12 = some (.iconst 0) := by decide +kernel
set_option maxRecDepth 100000 in
theorem ji_151_13 : mj_ins 151 13 = some (.putfield 308) := by decide +kernel
set_option maxRecDepth 100000 in
theorem jf_151_308 : mj_fld 151 308 = some (7, 3, .int, true) := by decide +kernel
set_option maxRecDepth 100000 in
theorem ji_151_16 : mj_ins 151 16 = some (.iconst 0) := by decide +kernel
set_option maxRecDepth 100000 in
theorem ji_151_17 : mj_ins 151 17 = some (.ireturn) := by decide +kernel
set_option maxRecDepth 100000 in
theorem ji_300_0 : mj_ins 300 0 = some (.iload_n 1) := by decide +kernel
set_option maxRecDepth 100000 in
theorem ji_300_1 : mj_ins 300 1 = some (.iconst (-1)) := by decide +kernel
set_option maxRecDepth 100000 in
theorem ji_300_2 : mj_ins 300 2 = some (.if_icmp .ne 12) := by decide +kernel
set_option maxRecDepth 100000 in
theorem ji_300_14 : mj_ins 300 14 = some (.iload_n 1) := by decide +kernel
set_option maxRecDepth 100000 in
theorem ji_300_15 : mj_ins 300 15 = some (.iconst 0) := by decide +kernel
set_option maxRecDepth 100000 in
theorem ji_300_16 : mj_ins 300 16 = some (.bipush 99) := by decide +kernel
set_option maxRecDepth 100000 in
theorem ji_300_18 : mj_ins 300 18 = some (.invokestatic 66) := by decide +kernel
set_option maxRecDepth 100000 in
theorem jc_300_66 : mj_cal 300 66 = some (1, 171, 3) := by decide +kernel
set_option maxRecDepth 100000 in
theorem ji_300_21 : mj_ins 300 21 = some (.ifCond .eq 14) := by decide +kernel
set_option maxRecDepth 100000 in
theorem ji_300_35 : mj_ins 300 35 = some (.bipush (-2)) := by decide +kernel
set_option maxRecDepth 100000 in
theorem ji_300_37 : mj_ins 300 37 = some (.ireturn) := by decide +kernel
set_option maxRecDepth 100000 in
theorem jr_300 : mj_ret 300 = some .int := by decide +kernel
set_option maxRecDepth 100000 in
theorem ji_300_24 : mj_ins 300 24 = some (.aload_n 0) := by decide +kernel
set_option maxRecDepth 100000 in
theorem ji_300_25 : mj_ins 300 25 = some (.getfield 7) := by decide +kernel
set_option maxRecDepth 100000 in
theorem jf_300_7 : mj_fld 300 7 = some (11, 0, (.array .int), false) := by decide +kernel
set_option maxRecDepth 100000 in
theorem ji_300_28 : mj_ins 300 28 = some (.iconst 5) := by decide +kernel
set_option maxRecDepth 100000 in
theorem ji_300_29 : mj_ins 300 29 = some (.iaload) := by decide +kernel
set_option maxRecDepth 100000 in
theorem ji_300_30 : mj_ins 300 30 = some (.bipush 8) := by decide +kernel
set_option maxRecDepth 100000 in
theorem ji_300_32 : mj_ins 300 32 = some (.if_icmp .ne 6) := by decide +kernel
set_option maxRecDepth 100000 in
theorem ji_300_38 : mj_ins 300 38 = some (.aload_n 0) := by decide +kernel
set_option maxRecDepth 100000 in
theorem ji_300_39 : mj_ins 300 39 = some (.getfield 7) := by decide +kernel
set_option maxRecDepth 100000 in
theorem ji_300_42 : mj_ins 300 42 = some (.sipush 148) := by decide +kernel
set_option maxRecDepth 100000 in
theorem ji_300_45 : mj_ins 300 45 = some (.iconst 2) := by decide +kernel
set_option maxRecDepth 100000 in
theorem ji_300_46 : mj_ins 300 46 = some (.aload_n 0) := by decide +kernel
set_option maxRecDepth 100000 in
theorem ji_300_47 : mj_ins 300 47 = some (.getfield 7) := by decide +kernel
set_option maxRecDepth 100000 in
theorem ji_300_50 : mj_ins 300 50 = some (.iconst 5) := by decide +kernel
set_option maxRecDepth 100000 in
theorem ji_300_51 : mj_ins 300 51 = some (.iaload) := by decide +kernel
set_option maxRecDepth 100000 in
theorem ji_300_52 : mj_ins 300 52 = some (.imul) := by decide +kernel
set_option maxRecDepth 100000 in
theorem ji_300_53 : mj_ins 300 53 = some (.iadd) := by decide +kernel
set_option maxRecDepth 100000 in
theorem ji_300_54 : mj_ins 300 54 = some (.iload_n 1) := by decide +kernel
set_option maxRecDepth 100000 in
theorem ji_300_55 : mj_ins 300 55 = some (.iastore) := by decide +kernel
set_option maxRecDepth 100000 in
theorem ji_300_56 : mj_ins 300 56 = some (.aload_n 0) := by decide +kernel
set_option maxRecDepth 100000 in
theorem ji_300_57 : mj_ins 300 57 = some (.getfield 7) := by decide +kernel
set_option maxRecDepth 100000 in
theorem ji_300_60 : mj_ins 300 60 = some (.sipush 148) := by decide +kernel
set_option maxRecDepth 100000 in
theorem ji_300_63 : mj_ins 300 63 = some (.iconst 2) := by decide +kernel
set_option maxRecDepth 100000 in
theorem ji_300_64 : mj_ins 300 64 = some (.aload_n 0) := by decide +kernel
set_option maxRecDepth 100000 in
theorem ji_300_65 : mj_ins 300 65 = some (.getfield 7) := by decide +kernel
set_option maxRecDepth 100000 in
theorem ji_300_68 : mj_ins 300 68 = some (.iconst 5) := by decide +kernel
set_option maxRecDepth 100000 in
theorem ji_300_69 : mj_ins 300 69 = some (.iaload) := by decide +kernel
set_option maxRecDepth 100000 in
theorem ji_300_70 : mj_ins 300 70 = some (.imul) := by decide +kernel
set_option maxRecDepth 100000 in
theorem ji_300_71 : mj_ins 300 71 = some (.iadd) := by decide +kernel
set_option maxRecDepth 100000 in
theorem ji_300_72 : mj_ins 300 72 = some (.iconst 1) := by decide +kernel
set_option maxRecDepth 100000 in
theorem ji_300_73 : mj_ins 300 73 = some (.iadd) := by decide +kernel
set_option maxRecDepth 100000 in
theorem ji_300_74 : mj_ins 300 74 = some (.iload_n 2) := by decide +kernel
set_option maxRecDepth 100000 in
theorem ji_300_75 : mj_ins 300 75 = some (.ifCond .eq 7) := by decide +kernel
set_option maxRecDepth 100000 in
theorem ji_300_82 : mj_ins 300 82 = some (.iconst 0) := by decide +kernel
set_option maxRecDepth 100000 in
theorem ji_300_83 : mj_ins 300 83 = some (.iastore) := by decide +kernel
set_option maxRecDepth 100000 in
theorem ji_300_84 : mj_ins 300 84 = some (.aload_n 0) := by decide +kernel
set_option maxRecDepth 100000 in
theorem ji_300_85 : mj_ins 300 85 = some (.getfield 7) := by decide +kernel
set_option maxRecDepth 100000 in
theorem ji_300_88 : mj_ins 300 88 = some (.iconst 5) := by decide +kernel
set_option maxRecDepth 100000 in
theorem ji_300_89 : mj_ins 300 89 = some (.dup2) := by decide +kernel
set_option maxRecDepth 100000 in
theorem ji_300_90 : mj_ins 300 90 = some (.iaload) := by decide +kernel
set_option maxRecDepth 100000 in
theorem ji_300_91 : mj_ins 300 91 = some (.iconst 1) := by decide +kernel
set_option maxRecDepth 100000 in
theorem ji_300_92 : mj_ins 300 92 = some (.iadd) := by decide +kernel
set_option maxRecDepth 100000 in
theorem ji_300_93 : mj_ins 300 93 = some (.iastore) := by decide +kernel
set_option maxRecDepth 100000 in
theorem ji_300_94 : mj_ins 300 94 = some (.aload_n 0) := by decide +kernel
set_option maxRecDepth 100000 in
theorem ji_300_95 : mj_ins 300 95 = some (.getfield 7) := by decide +kernel
set_option maxRecDepth 100000 in
theorem ji_300_98 : mj_ins 300 98 = some (.iconst 5) := by decide +kernel
set_option maxRecDepth 100000 in
theorem ji_300_99 : mj_ins 300 99 = some (.iaload) := by decide +kernel
set_option maxRecDepth 100000 in
theorem ji_300_100 : mj_ins 300 100 = some (.ireturn) := by decide +kernel
set_option maxRecDepth 100000 in
theorem ji_300_78 : mj_ins 300 78 = some (.iconst 1) := by decide +kernel
set_option maxRecDepth 100000 in
theorem ji_300_79 : mj_ins 300 79 = some (.goto 4) := by decide +kernel
set_option maxRecDepth 100000 in
theorem ji_300_5 : mj_ins 300 5 = some (.aload_n 0) := by decide +kernel
set_option maxRecDepth 100000 in
theorem ji_300_6 : mj_ins 300 6 = some (.getfield 7) := by decide +kernel
set_option maxRecDepth 100000 in
theorem ji_300_9 : mj_ins 300 9 = some (.iconst 5) := by decide +kernel
set_option maxRecDepth 100000 in
theorem ji_300_10 : mj_ins 300 10 = some (.iconst 0) := by decide +kernel
set_option maxRecDepth 100000 in
theorem ji_300_11 : mj_ins 300 11 = some (.iastore) := by decide +kernel
set_option maxRecDepth 100000 in
theorem ji_300_12 : mj_ins 300 12 = some (.iconst 0) := by decide +kernel
set_option maxRecDepth 100000 in
theorem ji_300_13 : mj_ins 300 13 = some (.ireturn) := by decide +kernel
set_option maxRecDepth 100000 in
theorem ji_306_0 : mj_ins 306 0 = some (.iload_n 1) := by decide +kernel
set_option maxRecDepth 100000 in
theorem ji_306_1 : mj_ins 306 1 = some (.iconst (-1)) := by decide +kernel
set_option maxRecDepth 100000 in
theorem ji_306_2 : mj_ins 306 2 = some (.if_icmp .ne 13) := by decide +kernel
set_option maxRecDepth 100000 in
theorem ji_306_15 : mj_ins 306 15 = some (.aload_n 0) := by decide +kernel
set_option maxRecDepth 100000 in
theorem ji_306_16 : mj_ins 306 16 = some (.iload_n 1) := by decide +kernel
set_option maxRecDepth 100000 in
theorem ji_306_17 : mj_ins 306 17 = some (.invokevirtual 345) := by decide +kernel
set_option maxRecDepth 100000 in
theorem jc_306_345 : mj_cal 306 345 = some (2, 247, 1) := by decide +kernel
set_option maxRecDepth 100000 in
theorem ji_306_20 : mj_ins 306 20 = some (.ifCond .eq 28) := by decide +kernel
set_option maxRecDepth 100000 in
theorem ji_306_48 : mj_ins 306 48 = some (.bipush (-2)) := by decide +kernel
set_option maxRecDepth 100000 in
theorem ji_306_50 : mj_ins 306 50 = some (.ireturn) := by decide +kernel
set_option maxRecDepth 100000 in
theorem jr_306 : mj_ret 306 = some .int := by decide +kernel
set_option maxRecDepth 100000 in
theorem ji_306_23 : mj_ins 306 23 = some (.aload_n 0) := by decide +kernel
set_option maxRecDepth 100000 in
theorem ji_306_24 : mj_ins 306 24 = some (.iload_n 2) := by decide +kernel
set_option maxRecDepth 100000 in
theorem ji_306_25 : mj_ins 306 25 = some (.invokevirtual 345) := by decide +kernel
set_option maxRecDepth 100000 in
theorem ji_306_28 : mj_ins 306 28 = some (.ifCond .eq 20) := by decide +kernel
set_option maxRecDepth 100000 in
theorem ji_306_31 : mj_ins 306 31 = some (.iload_n 1) := by decide +kernel
set_option maxRecDepth 100000 in
theorem ji_306_32 : mj_ins 306 32 = some (.iload_n 2) := by decide +kernel
set_option maxRecDepth 100000 in
theorem ji_306_33 : mj_ins 306 33 = some (.if_icmp .eq 15) := by decide +kernel
set_option maxRecDepth 100000 in
theorem ji_306_36 : mj_ins 306 36 = some (.aload_n 0) := by decide +kernel
set_option maxRecDepth 100000 in
theorem ji_306_37 : mj_ins 306 37 = some (.getfield 7) := by decide +kernel
set_option maxRecDepth 100000 in
theorem jf_306_7 : mj_fld 306 7 = some (11, 0, (.array .int), false) := by decide +kernel
set_option maxRecDepth 100000 in
theorem ji_306_40 : mj_ins 306 40 = some (.bipush 6) := by decide +kernel
set_option maxRecDepth 100000 in
theorem ji_306_42 : mj_ins 306 42 = some (.iaload) := by decide +kernel
set_option maxRecDepth 100000 in
theorem ji_306_43 : mj_ins 306 43 = some (.bipush 10) := by decide +kernel
set_option maxRecDepth 100000 in
theorem ji_306_45 : mj_ins 306 45 = some (.if_icmp .ne 6) := by decide +kernel
set_option maxRecDepth 100000 in
theorem ji_306_51 : mj_ins 306 51 = some (.aload_n 0) := by decide +kernel
set_option maxRecDepth 100000 in
theorem ji_306_52 : mj_ins 306 52 = some (.getfield 7) := by decide +kernel
set_option maxRecDepth 100000 in
theorem ji_306_55 : mj_ins 306 55 = some (.sipush 164) := by decide +kernel
set_option maxRecDepth 100000 in
theorem ji_306_58 : mj_ins 306 58 = some (.iconst 2) := by decide +kernel
set_option maxRecDepth 100000 in
theorem ji_306_59 : mj_ins 306 59 = some (.aload_n 0) := by decide +kernel
set_option maxRecDepth 100000 in
theorem ji_306_60 : mj_ins 306 60 = some (.getfield 7) := by decide +kernel
set_option maxRecDepth 100000 in
theorem ji_306_63 : mj_ins 306 63 = some (.bipush 6) := by decide +kernel
set_option maxRecDepth 100000 in
theorem ji_306_65 : mj_ins 306 65 = some (.iaload) := by decide +kernel
set_option maxRecDepth 100000 in
theorem ji_306_66 : mj_ins 306 66 = some (.imul) := by decide +kernel
set_option maxRecDepth 100000 in
theorem ji_306_67 : mj_ins 306 67 = some (.iadd) := by decide +kernel
set_option maxRecDepth 100000 in
theorem ji_306_68 : mj_ins 306 68 = some (.iload_n 1) := by decide +kernel
set_option maxRecDepth 100000 in
theorem ji_306_69 : mj_ins 306 69 = some (.iastore) := by decide +kernel
set_option maxRecDepth 100000 in
theorem ji_306_70 : mj_ins 306 70 = some (.aload_n 0) := by decide +kernel
set_option maxRecDepth 100000 in
theorem ji_306_71 : mj_ins 306 71 = some (.getfield 7) := by decide +kernel
set_option maxRecDepth 100000 in
theorem ji_306_74 : mj_ins 306 74 = some (.sipush 164) := by decide +kernel
set_option maxRecDepth 100000 in
theorem ji_306_77 : mj_ins 306 77 = some (.iconst 2) := by decide +kernel
set_option maxRecDepth 100000 in
theorem ji_306_78 : mj_ins 306 78 = some (.aload_n 0) := by decide +kernel
set_option maxRecDepth 100000 in
theorem ji_306_79 : mj_ins 306 79 = some (.getfield 7) := by decide +kernel
set_option maxRecDepth 100000 in
theorem ji_306_82 : mj_ins 306 82 = some (.bipush 6) := by decide +kernel
set_option maxRecDepth 100000 in
theorem ji_306_84 : mj_ins 306 84 = some (.iaload) := by decide +kernel
set_option maxRecDepth 100000 in
theorem ji_306_85 : mj_ins 306 85 = some (.imul) := by decide +kernel
set_option maxRecDepth 100000 in
theorem ji_306_86 : mj_ins 306 86 = some (.iadd) := by decide +kernel
set_option maxRecDepth 100000 in
theorem ji_306_87 : mj_ins 306 87 = some (.iconst 1) := by decide +kernel
set_option maxRecDepth 100000 in
theorem ji_306_88 : mj_ins 306 88 = some (.iadd) := by decide +kernel
set_option maxRecDepth 100000 in
theorem ji_306_89 : mj_ins 306 89 = some (.iload_n 2) := by decide +kernel
set_option maxRecDepth 100000 in
theorem ji_306_90 : mj_ins 306 90 = some (.iastore) := by decide +kernel
set_option maxRecDepth 100000 in
theorem ji_306_91 : mj_ins 306 91 = some (.aload_n 0) := by decide +kernel
set_option maxRecDepth 100000 in
theorem ji_306_92 : mj_ins 306 92 = some (.getfield 7) := by decide +kernel
set_option maxRecDepth 100000 in
theorem ji_306_95 : mj_ins 306 95 = some (.bipush 6) := by decide +kernel
set_option maxRecDepth 100000 in
theorem ji_306_97 : mj_ins 306 97 = some (.dup2) := by decide +kernel
set_option maxRecDepth 100000 in
theorem ji_306_98 : mj_ins 306 98 = some (.iaload) := by decide +kernel
set_option maxRecDepth 100000 in
theorem ji_306_99 : mj_ins 306 99 = some (.iconst 1) := by decide +kernel
set_option maxRecDepth 100000 in
theorem ji_306_100 : mj_ins 306 100 = some (.iadd) := by decide +kernel
set_option maxRecDepth 100000 in
theorem ji_306_101 : mj_ins 306 101 = some (.iastore) := by decide +kernel
set_option maxRecDepth 100000 in
theorem ji_306_102 : mj_ins 306 102 = some (.aload_n 0) := by decide +kernel
set_option maxRecDepth 100000 in
theorem ji_306_103 : mj_ins 306 103 = some (.getfield 7) := by decide +kernel
set_option maxRecDepth 100000 in
theorem ji_306_106 : mj_ins 306 106 = some (.bipush 6) := by decide +kernel
set_option maxRecDepth 100000 in
theorem ji_306_108 : mj_ins 306 108 = some (.iaload) := by decide +kernel
set_option maxRecDepth 100000 in
theorem ji_306_109 : mj_ins 306 109 = some (.ireturn) := by decide +kernel
set_option maxRecDepth 100000 in
theorem ji_306_5 : mj_ins 306 5 = some (.aload_n 0) := by decide +kernel
set_option maxRecDepth 100000 in
theorem ji_306_6 : mj_ins 306 6 = some (.getfield 7) := by decide +kernel
set_option maxRecDepth 100000 in
theorem ji_306_9 : mj_ins 306 9 = some (.bipush 6) := by decide +kernel
set_option maxRecDepth 100000 in
theorem ji_306_11 : mj_ins 306 11 = some (.iconst 0) := by decide +kernel
set_option maxRecDepth 100000 in
theorem ji_306_12 : mj_ins 306 12 = some (.iastore) := by decide +kernel
set_option maxRecDepth 100000 in
theorem ji_306_13 : mj_ins 306 13 = some (.iconst 0) := by decide +kernel
set_option maxRecDepth 100000 in
theorem ji_306_14 : mj_ins 306 14 = some (.ireturn) := by decide +kernel
/-! found, ahead in both; laid by program (wp_u71.py) -/
def fdC (s : sg_) (p b : Int) : Int × sg_ := if p = -1 then (0, up s 61 3 0) else if (0 ≤ p ∧ p ≤ 99) ∧ ¬ s 61 3 = 8 then (s 61 3 + 1, up (up (up s 62 (s 61 3) p) 63 (s 61 3) b) 61 3 (s 61 3 + 1)) else (-2, s)
def fdR (s : sg_) (p b : Int) : Int × sg_ := if p = -1 then (0, up s 139 5 0) else if (0 ≤ p ∧ p ≤ 99) ∧ ¬ s 139 5 = 8 then (s 139 5 + 1, up (up (up s 139 (148 + 2 * s 139 5) p) 139 (148 + 2 * s 139 5 + 1) b) 139 5 (s 139 5 + 1)) else (-2, s)
abbrev okA (n x y : Int) : Prop := (0 ≤ x ∧ x < n) ∧ (0 ≤ y ∧ y < n) ∧ ¬ x = y
def clC (s : sg_) (x y : Int) : Int × sg_ := if s 65 3 = 10 then (-2, s) else (s 65 3 + 1, up (up (up s 66 (s 65 3) x) 67 (s 65 3) y) 65 3 (s 65 3 + 1))
def adC (s : sg_) (x y : Int) : Int × sg_ := if x = -1 then (0, up s 65 3 0) else if okA (s 48 1) x y then clC s x y else (-2, s)
def adR (s : sg_) (x y : Int) : Int × sg_ := if x = -1 then (0, up s 139 6 0) else if okA (s 139 1) x y then (if s 139 6 = 10 then (-2, s) else (s 139 6 + 1, up (up (up s 139 (164 + 2 * s 139 6) x) 139 (164 + 2 * s 139 6 + 1) y) 139 6 (s 139 6 + 1))) else (-2, s)
theorem uc_144 {nn d : Nat} {h : mj_H} {s : sg_} (C : CS h s) (i3 : 0 ≤ s 61 3 ∧ s 61 3 ≤ 8) {p b : Int} (hp : wp_r p) (hb : b = 0 ∨ b = 1) : wl_R nn d 144 0 [some (.ref 61), some (wp_i p), some (wp_i b)] [] h (fun v1 h1 => v1 = some (wp_i (fdC s p b).1) ∧ CS h1 (fdC s p b).2) := by
  refine wl_s (pc' := 1) ji_144_0 rfl rfl rfl ?_
  refine wl_s (pc' := 2) ji_144_1 rfl rfl rfl ?_
  refine wl_icmp (t := 12) ji_144_2 rfl (by omega) (by omega) (fun (hb1 : ¬ (p : Int) = (-1)) => ?_) (fun (hb1 : ¬ (¬ (p : Int) = (-1))) => ?_)
  · refine wl_s (pc' := 13) ji_144_12 rfl rfl rfl ?_
    refine wl_if (t := 31) ji_144_13 rfl (by omega) (fun (hb2 : (p : Int) < 0) => ?_) (fun (hb2 : ¬ ((p : Int) < 0)) => ?_)
    · refine wl_bp ji_144_31 rfl ?_
      exact wl_ri ji_144_33 jr_144 rfl ((by have e9 : fdC s p b = (-2, s) := (by { unfold fdC; rw [if_neg (by omega), if_neg (by omega)] }); rw [e9]; exact ⟨rfl, C⟩))
    · refine wl_s (pc' := 17) ji_144_16 rfl rfl rfl ?_
      refine wl_bp ji_144_17 rfl ?_
      refine wl_icmp (t := 31) ji_144_19 rfl (by omega) (by omega) (fun (hb3 : (99 : Int) < p) => ?_) (fun (hb3 : ¬ ((99 : Int) < p)) => ?_)
      · refine wl_bp ji_144_31 rfl ?_
        exact wl_ri ji_144_33 jr_144 rfl ((by have e9 : fdC s p b = (-2, s) := (by { unfold fdC; rw [if_neg (by omega), if_neg (by omega)] }); rw [e9]; exact ⟨rfl, C⟩))
      · refine wl_s (pc' := 23) ji_144_22 rfl rfl rfl ?_
        refine cs_gi (k := 3) (kI := 3) C (by decide) (by decide) sq_61 rfl rfl ji_144_23 jf_144_22 ?_
        have bd4 : wp_r (s 61 3) := cs_ri (k := 3) (kI := 3) C (by decide) (by decide) sq_61 rfl rfl (show 3 < 4 by decide)
        refine wl_bp ji_144_26 rfl ?_
        refine wl_icmp (t := 34) ji_144_28 rfl (by omega) (by omega) (fun (hb5 : ¬ (s 61 3 : Int) = 8) => ?_) (fun (hb5 : ¬ (¬ (s 61 3 : Int) = 8)) => ?_)
        · refine wl_s (pc' := 35) ji_144_34 rfl rfl rfl ?_
          refine cs_gr (r := 62) (k := 0) C (by decide) sq_61 rfl ji_144_35 jf_144_11 ?_
          refine wl_s (pc' := 39) ji_144_38 rfl rfl rfl ?_
          refine cs_gi (k := 3) (kI := 3) C (by decide) (by decide) sq_61 rfl rfl ji_144_39 jf_144_22 ?_
          refine wl_s (pc' := 43) ji_144_42 rfl rfl rfl ?_
          refine cs_s (x := s 61 3) (y := p) C (by decide) sq_62 (by omega) (by omega) ji_144_43 (fun h st60 st61 C => ?_)
          obtain ⟨s7, es7⟩ : ∃ z9_, up s 62 (s 61 3) p = z9_ := ⟨_, rfl⟩
          rw [es7] at C
          refine wl_s (pc' := 45) ji_144_44 rfl rfl rfl ?_
          refine cs_gr (r := 63) (k := 1) C (by decide) sq_61 rfl ji_144_45 jf_144_15 ?_
          refine wl_s (pc' := 49) ji_144_48 rfl rfl rfl ?_
          refine cs_gi (k := 3) (kI := 3) C (by decide) (by decide) sq_61 rfl rfl ji_144_49 jf_144_22 ?_
          have rd8 : s7 61 3 = s 61 3 := by rw [← es7, up_a (by omega)]
          rw [rd8]
          refine wl_s (pc' := 53) ji_144_52 rfl rfl rfl ?_
          refine cs_sb (x := s 61 3) (y := b) C (by decide) sq_63 (by omega) (by omega) ji_144_53 (fun h st90 st91 C => ?_)
          obtain ⟨s10, es10⟩ : ∃ z9_, up s7 63 (s 61 3) b = z9_ := ⟨_, rfl⟩
          rw [es10] at C
          refine wl_s (pc' := 55) ji_144_54 rfl rfl rfl ?_
          refine wl_s (pc' := 56) ji_144_55 rfl rfl rfl ?_
          refine cs_gi (k := 3) (kI := 3) C (by decide) (by decide) sq_61 rfl rfl ji_144_56 jf_144_22 ?_
          have rd11 : s10 61 3 = s 61 3 := by rw [← es10, up_a (by omega)]; rw [← es7, up_a (by omega)]
          rw [rd11]
          refine wl_s (pc' := 60) ji_144_59 rfl rfl rfl ?_
          refine wl_iadd (x := s 61 3) (y := 1) (z := s 61 3 + 1) ji_144_60 (by omega) ?_
          refine cs_pi (k := 3) (kI := 3) (y := s 61 3 + 1) C (by decide) sq_61 rfl rfl ji_144_61 jf_144_22 rfl rfl (by omega) (fun h C => ?_)
          obtain ⟨s12, es12⟩ : ∃ z9_, up s10 61 3 (s 61 3 + 1) = z9_ := ⟨_, rfl⟩
          rw [es12] at C
          refine wl_s (pc' := 65) ji_144_64 rfl rfl rfl ?_
          refine cs_gi (k := 3) (kI := 3) C (by decide) (by decide) sq_61 rfl rfl ji_144_65 jf_144_22 ?_
          have rd13 : s12 61 3 = s 61 3 + 1 := by rw [← es12, up_e]
          rw [rd13]
          exact wl_ri ji_144_68 jr_144 rfl ((by have e9 : fdC s p b = (s 61 3 + 1, up (up (up s 62 (s 61 3) p) 63 (s 61 3) b) 61 3 (s 61 3 + 1)) := (by { unfold fdC; rw [if_neg (by omega), if_pos (by omega)] }); rw [e9]; exact ⟨rfl, cs_mono C (by rw [es7, es10, es12])⟩))
        · refine wl_bp ji_144_31 rfl ?_
          exact wl_ri ji_144_33 jr_144 rfl ((by have e9 : fdC s p b = (-2, s) := (by { unfold fdC; rw [if_neg (by omega), if_neg (by omega)] }); rw [e9]; exact ⟨rfl, C⟩))
  · refine wl_s (pc' := 6) ji_144_5 rfl rfl rfl ?_
    refine wl_s (pc' := 7) ji_144_6 rfl rfl rfl ?_
    refine cs_pi (k := 3) (kI := 3) (y := 0) C (by decide) sq_61 rfl rfl ji_144_7 jf_144_22 rfl rfl (by omega) (fun h C => ?_)
    obtain ⟨s14, es14⟩ : ∃ z9_, up s 61 3 0 = z9_ := ⟨_, rfl⟩
    rw [es14] at C
    refine wl_s (pc' := 11) ji_144_10 rfl rfl rfl ?_
    exact wl_ri ji_144_11 jr_144 rfl ((by have e9 : fdC s p b = (0, up s 61 3 0) := (by { unfold fdC; rw [if_pos (by omega)] }); rw [e9]; exact ⟨rfl, cs_mono C (by rw [es14])⟩))
theorem uc_143 {nn d : Nat} {h : mj_H} {s : sg_} (C : CS h s) (i3 : 0 ≤ s 61 3 ∧ s 61 3 ≤ 8) {p b : Int} (hp : wp_r p) (hb : b = 0 ∨ b = 1) : wl_R nn (d + 1) 143 0 [some (.ref 9), some (wp_i p), some (wp_i b)] [] h (fun v1 h1 => v1 = some (wp_i (fdC s p b).1) ∧ CS h1 (fdC s p b).2) := by
  refine wl_s (pc' := 1) ji_143_0 rfl rfl rfl ?_
  refine cs_gr (r := 47) (k := 0) C (by decide) sq_9 rfl ji_143_1 jf_143_19 ?_
  refine cs_gr (r := 61) (k := 3) C (by decide) sq_47 rfl ji_143_4 jf_143_287 ?_
  refine wl_s (pc' := 8) ji_143_7 rfl rfl rfl ?_
  refine wl_s (pc' := 9) ji_143_8 rfl rfl rfl ?_
  obtain ⟨q2, hq2⟩ := cs_c C (by decide) sq_61
  refine wl_vc (d := d) (as := [.ref 61, wp_i p, wp_i b]) (rest := []) ji_143_9 jc_143_291 rfl hq2 jk_144.symm (Nat.le_of_ble_eq_true rfl) rfl (by rw [jn_144]; rfl) (uc_144 (d := d) C i3 (p := p) (b := b) hp hb) (fun v1 h1 R => ?_)
  obtain ⟨ee, C⟩ := R
  rw [ee]
  show wl_R _ _ 143 12 [some (.ref 9), some (wp_i p), some (wp_i b)] [wp_i ((fdC s p b).1)] h1 _
  exact wl_ri ji_143_12 jr_143 rfl (⟨rfl, C⟩)
theorem uc_152 {nn d : Nat} {h : mj_H} {s : sg_} (C : CS h s) (i3 : 0 ≤ s 65 3 ∧ s 65 3 ≤ 10) {x y : Int} (hx : wp_r x) (hy : wp_r y) : wl_R nn d 152 0 [some (.ref 65), some (wp_i x), some (wp_i y)] [] h (fun v1 h1 => v1 = some (wp_i (clC s x y).1) ∧ CS h1 (clC s x y).2) := by
  refine wl_s (pc' := 1) ji_152_0 rfl rfl rfl ?_
  refine cs_gi (k := 3) (kI := 3) C (by decide) (by decide) sq_65 rfl rfl ji_152_1 jf_152_21 ?_
  have bd1 : wp_r (s 65 3) := cs_ri (k := 3) (kI := 3) C (by decide) (by decide) sq_65 rfl rfl (show 3 < 4 by decide)
  refine wl_bp ji_152_4 rfl ?_
  refine wl_icmp (t := 12) ji_152_6 rfl (by omega) (by omega) (fun (hb2 : ¬ (s 65 3 : Int) = 10) => ?_) (fun (hb2 : ¬ (¬ (s 65 3 : Int) = 10)) => ?_)
  · refine wl_s (pc' := 13) ji_152_12 rfl rfl rfl ?_
    refine cs_gr (r := 66) (k := 0) C (by decide) sq_65 rfl ji_152_13 jf_152_11 ?_
    refine wl_s (pc' := 17) ji_152_16 rfl rfl rfl ?_
    refine cs_gi (k := 3) (kI := 3) C (by decide) (by decide) sq_65 rfl rfl ji_152_17 jf_152_21 ?_
    refine wl_s (pc' := 21) ji_152_20 rfl rfl rfl ?_
    refine cs_s (x := s 65 3) (y := x) C (by decide) sq_66 (by omega) (by omega) ji_152_21 (fun h st30 st31 C => ?_)
    obtain ⟨s4, es4⟩ : ∃ z9_, up s 66 (s 65 3) x = z9_ := ⟨_, rfl⟩
    rw [es4] at C
    refine wl_s (pc' := 23) ji_152_22 rfl rfl rfl ?_
    refine cs_gr (r := 67) (k := 1) C (by decide) sq_65 rfl ji_152_23 jf_152_15 ?_
    refine wl_s (pc' := 27) ji_152_26 rfl rfl rfl ?_
    refine cs_gi (k := 3) (kI := 3) C (by decide) (by decide) sq_65 rfl rfl ji_152_27 jf_152_21 ?_
    have rd5 : s4 65 3 = s 65 3 := by rw [← es4, up_a (by omega)]
    rw [rd5]
    refine wl_s (pc' := 31) ji_152_30 rfl rfl rfl ?_
    refine cs_s (x := s 65 3) (y := y) C (by decide) sq_67 (by omega) (by omega) ji_152_31 (fun h st60 st61 C => ?_)
    obtain ⟨s7, es7⟩ : ∃ z9_, up s4 67 (s 65 3) y = z9_ := ⟨_, rfl⟩
    rw [es7] at C
    refine wl_s (pc' := 33) ji_152_32 rfl rfl rfl ?_
    refine wl_s (pc' := 34) ji_152_33 rfl rfl rfl ?_
    refine cs_gi (k := 3) (kI := 3) C (by decide) (by decide) sq_65 rfl rfl ji_152_34 jf_152_21 ?_
    have rd8 : s7 65 3 = s 65 3 := by rw [← es7, up_a (by omega)]; rw [← es4, up_a (by omega)]
    rw [rd8]
    refine wl_s (pc' := 38) ji_152_37 rfl rfl rfl ?_
    refine wl_iadd (x := s 65 3) (y := 1) (z := s 65 3 + 1) ji_152_38 (by omega) ?_
    refine cs_pi (k := 3) (kI := 3) (y := s 65 3 + 1) C (by decide) sq_65 rfl rfl ji_152_39 jf_152_21 rfl rfl (by omega) (fun h C => ?_)
    obtain ⟨s9, es9⟩ : ∃ z9_, up s7 65 3 (s 65 3 + 1) = z9_ := ⟨_, rfl⟩
    rw [es9] at C
    refine wl_s (pc' := 43) ji_152_42 rfl rfl rfl ?_
    refine cs_gi (k := 3) (kI := 3) C (by decide) (by decide) sq_65 rfl rfl ji_152_43 jf_152_21 ?_
    have rd10 : s9 65 3 = s 65 3 + 1 := by rw [← es9, up_e]
    rw [rd10]
    exact wl_ri ji_152_46 jr_152 rfl ((by have e9 : clC s x y = (s 65 3 + 1, up (up (up s 66 (s 65 3) x) 67 (s 65 3) y) 65 3 (s 65 3 + 1)) := (by { unfold clC; rw [if_neg (by omega)] }); rw [e9]; exact ⟨rfl, cs_mono C (by rw [es4, es7, es9])⟩))
  · refine wl_bp ji_152_9 rfl ?_
    exact wl_ri ji_152_11 jr_152 rfl ((by have e9 : clC s x y = (-2, s) := (by { unfold clC; rw [if_pos (by omega)] }); rw [e9]; exact ⟨rfl, C⟩))
theorem uc_151 {nn d : Nat} {h : mj_H} {s : sg_} (C : CS h s) (i3 : 0 ≤ s 65 3 ∧ s 65 3 ≤ 10) {x y : Int} (hx : wp_r x) (hy : wp_r y) : wl_R nn (d + 1) 151 0 [some (.ref 9), some (wp_i x), some (wp_i y)] [] h (fun v1 h1 => v1 = some (wp_i (adC s x y).1) ∧ CS h1 (adC s x y).2) := by
  refine wl_s (pc' := 1) ji_151_0 rfl rfl rfl ?_
  refine wl_s (pc' := 2) ji_151_1 rfl rfl rfl ?_
  refine wl_icmp (t := 18) ji_151_2 rfl (by omega) (by omega) (fun (hb1 : ¬ (x : Int) = (-1)) => ?_) (fun (hb1 : ¬ (¬ (x : Int) = (-1))) => ?_)
  · refine wl_s (pc' := 19) ji_151_18 rfl rfl rfl ?_
    refine cs_gr (r := 47) (k := 0) C (by decide) sq_9 rfl ji_151_19 jf_151_19 ?_
    refine cs_gr (r := 48) (k := 0) C (by decide) sq_47 rfl ji_151_22 jf_151_49 ?_
    refine wl_s (pc' := 26) ji_151_25 rfl rfl rfl ?_
    obtain ⟨q3, hq3⟩ := cs_c C (by decide) sq_48
    refine wl_vc (d := d) (as := [.ref 48, wp_i x]) (rest := []) ji_151_26 jc_151_177 rfl hq3 jk_80.symm (Nat.le_of_ble_eq_true rfl) rfl (by rw [jn_80]; rfl) (uc_80 (d := d) C isF_48 (p := x) (by omega)) (fun v1 h2 R => ?_)
    obtain ⟨ee, y4, rfl, hy4a, hy4b⟩ := R
    rw [ee]
    clear ee
    show wl_R _ _ 151 29 [some (.ref 9), some (wp_i x), some (wp_i y)] [wp_i y4] _ _
    refine wl_if (t := 51) ji_151_29 rfl (by omega) (fun (hb5 : (y4 : Int) = 0) => ?_) (fun (hb5 : ¬ ((y4 : Int) = 0)) => ?_)
    · refine wl_bp ji_151_51 rfl ?_
      exact wl_ri ji_151_53 jr_151 rfl ((by have e9 : adC s x y = (-2, s) := (by { unfold adC; rw [if_neg (by omega), if_neg (by omega)] }); rw [e9]; exact ⟨rfl, C⟩))
    · refine wl_s (pc' := 33) ji_151_32 rfl rfl rfl ?_
      refine cs_gr (r := 47) (k := 0) C (by decide) sq_9 rfl ji_151_33 jf_151_19 ?_
      refine cs_gr (r := 48) (k := 0) C (by decide) sq_47 rfl ji_151_36 jf_151_49 ?_
      refine wl_s (pc' := 40) ji_151_39 rfl rfl rfl ?_
      obtain ⟨q7, hq7⟩ := cs_c C (by decide) sq_48
      refine wl_vc (d := d) (as := [.ref 48, wp_i y]) (rest := []) ji_151_40 jc_151_177 rfl hq7 jk_80.symm (Nat.le_of_ble_eq_true rfl) rfl (by rw [jn_80]; rfl) (uc_80 (d := d) C isF_48 (p := y) (by omega)) (fun v1 h6 R => ?_)
      obtain ⟨ee, y8, rfl, hy8a, hy8b⟩ := R
      rw [ee]
      clear ee
      show wl_R _ _ 151 43 [some (.ref 9), some (wp_i x), some (wp_i y)] [wp_i y8] _ _
      refine wl_if (t := 51) ji_151_43 rfl (by omega) (fun (hb9 : (y8 : Int) = 0) => ?_) (fun (hb9 : ¬ ((y8 : Int) = 0)) => ?_)
      · refine wl_bp ji_151_51 rfl ?_
        exact wl_ri ji_151_53 jr_151 rfl ((by have e9 : adC s x y = (-2, s) := (by { unfold adC; rw [if_neg (by omega), if_neg (by omega)] }); rw [e9]; exact ⟨rfl, C⟩))
      · refine wl_s (pc' := 47) ji_151_46 rfl rfl rfl ?_
        refine wl_s (pc' := 48) ji_151_47 rfl rfl rfl ?_
        refine wl_icmp (t := 54) ji_151_48 rfl (by omega) (by omega) (fun (hb10 : ¬ (x : Int) = y) => ?_) (fun (hb10 : ¬ (¬ (x : Int) = y)) => ?_)
        · refine wl_s (pc' := 55) ji_151_54 rfl rfl rfl ?_
          refine cs_gr (r := 47) (k := 0) C (by decide) sq_9 rfl ji_151_55 jf_151_19 ?_
          refine cs_gr (r := 65) (k := 4) C (by decide) sq_47 rfl ji_151_58 jf_151_304 ?_
          refine wl_s (pc' := 62) ji_151_61 rfl rfl rfl ?_
          refine wl_s (pc' := 63) ji_151_62 rfl rfl rfl ?_
          obtain ⟨q12, hq12⟩ := cs_c C (by decide) sq_65
          refine wl_vc (d := d) (as := [.ref 65, wp_i x, wp_i y]) (rest := []) ji_151_63 jc_151_311 rfl hq12 jk_152.symm (Nat.le_of_ble_eq_true rfl) rfl (by rw [jn_152]; rfl) (uc_152 (d := d) C i3 (x := x) (y := y) hx hy) (fun v1 h11 R => ?_)
          obtain ⟨ee, C⟩ := R
          rw [ee]
          have e8 : adC s x y = clC s x y := by { unfold adC; rw [if_neg (by omega), if_pos (by omega)] }
          rw [← e8] at C ⊢
          show wl_R _ _ 151 66 [some (.ref 9), some (wp_i x), some (wp_i y)] [wp_i ((adC s x y).1)] h11 _
          exact wl_ri ji_151_66 jr_151 rfl (⟨rfl, C⟩)
        · refine wl_bp ji_151_51 rfl ?_
          exact wl_ri ji_151_53 jr_151 rfl ((by have e9 : adC s x y = (-2, s) := (by { unfold adC; rw [if_neg (by omega), if_neg (by omega)] }); rw [e9]; exact ⟨rfl, C⟩))
  · refine wl_s (pc' := 6) ji_151_5 rfl rfl rfl ?_
    refine cs_gr (r := 47) (k := 0) C (by decide) sq_9 rfl ji_151_6 jf_151_19 ?_
    refine cs_gr (r := 65) (k := 4) C (by decide) sq_47 rfl ji_151_9 jf_151_304 ?_
    refine wl_s (pc' := 13) ji_151_12 rfl rfl rfl ?_
    refine cs_pi (k := 3) (kI := 3) (y := 0) C (by decide) sq_65 rfl rfl ji_151_13 jf_151_308 rfl rfl (by omega) (fun h C => ?_)
    obtain ⟨s13, es13⟩ : ∃ z9_, up s 65 3 0 = z9_ := ⟨_, rfl⟩
    rw [es13] at C
    refine wl_s (pc' := 17) ji_151_16 rfl rfl rfl ?_
    exact wl_ri ji_151_17 jr_151 rfl ((by have e9 : adC s x y = (0, up s 65 3 0) := (by { unfold adC; rw [if_pos (by omega)] }); rw [e9]; exact ⟨rfl, cs_mono C (by rw [es13])⟩))
theorem uc_300 {nn d : Nat} {h : mj_H} {s : sg_} (C : CS h s) (i3 : 0 ≤ s 139 5 ∧ s 139 5 ≤ 8) {p b : Int} (hp : wp_r p) (hb : b = 0 ∨ b = 1) : wl_R nn (d + 1) 300 0 [some (.ref 138), some (wp_i p), some (wp_i b)] [] h (fun v1 h1 => v1 = some (wp_i (fdR s p b).1) ∧ CS h1 (fdR s p b).2) := by
  refine wl_s (pc' := 1) ji_300_0 rfl rfl rfl ?_
  refine wl_s (pc' := 2) ji_300_1 rfl rfl rfl ?_
  refine wl_icmp (t := 14) ji_300_2 rfl (by omega) (by omega) (fun (hb1 : ¬ (p : Int) = (-1)) => ?_) (fun (hb1 : ¬ (¬ (p : Int) = (-1))) => ?_)
  · refine wl_s (pc' := 15) ji_300_14 rfl rfl rfl ?_
    refine wl_s (pc' := 16) ji_300_15 rfl rfl rfl ?_
    refine wl_bp ji_300_16 rfl ?_
    refine wl_sc (d := d) (as := [wp_i p, wp_i 0, wp_i 99]) (rest := []) ji_300_18 jc_300_66 (Nat.le_of_ble_eq_true rfl) rfl (Nat.le_of_ble_eq_true rfl) rfl (by rw [jn_171]; rfl) (uc_171 (d := d) (x := p) (a := 0) (b := 99) (by omega) (by omega) (by omega)) (fun v1 h2 R => ?_)
    obtain ⟨ee, y3, rfl, hy3a, hy3b⟩ := R
    rw [ee]
    clear ee
    show wl_R _ _ 300 21 [some (.ref 138), some (wp_i p), some (wp_i b)] [wp_i y3] _ _
    refine wl_if (t := 35) ji_300_21 rfl (by omega) (fun (hb4 : (y3 : Int) = 0) => ?_) (fun (hb4 : ¬ ((y3 : Int) = 0)) => ?_)
    · refine wl_bp ji_300_35 rfl ?_
      exact wl_ri ji_300_37 jr_300 rfl ((by have e9 : fdR s p b = (-2, s) := (by { unfold fdR; rw [if_neg (by omega), if_neg (by omega)] }); rw [e9]; exact ⟨rfl, C⟩))
    · refine wl_s (pc' := 25) ji_300_24 rfl rfl rfl ?_
      refine cs_gr (r := 139) (k := 0) C (by decide) sq_138 rfl ji_300_25 jf_300_7 ?_
      refine wl_s (pc' := 29) ji_300_28 rfl rfl rfl ?_
      refine cs_l (x := 5) C (by decide) (by decide) sq_139 (by omega) ji_300_29 (fun ld50 ld51 ld52 => ?_)
      refine wl_bp ji_300_30 rfl ?_
      refine wl_icmp (t := 38) ji_300_32 rfl (by omega) (by omega) (fun (hb6 : ¬ (s 139 5 : Int) = 8) => ?_) (fun (hb6 : ¬ (¬ (s 139 5 : Int) = 8)) => ?_)
      · refine wl_s (pc' := 39) ji_300_38 rfl rfl rfl ?_
        refine cs_gr (r := 139) (k := 0) C (by decide) sq_138 rfl ji_300_39 jf_300_7 ?_
        refine wl_sp ji_300_42 rfl ?_
        refine wl_s (pc' := 46) ji_300_45 rfl rfl rfl ?_
        refine wl_s (pc' := 47) ji_300_46 rfl rfl rfl ?_
        refine cs_gr (r := 139) (k := 0) C (by decide) sq_138 rfl ji_300_47 jf_300_7 ?_
        refine wl_s (pc' := 51) ji_300_50 rfl rfl rfl ?_
        refine cs_l (x := 5) C (by decide) (by decide) sq_139 (by omega) ji_300_51 (fun ld70 ld71 ld72 => ?_)
        refine wl_imul (x := 2) (y := s 139 5) (z := 2 * (s 139 5)) ji_300_52 (by omega) ?_
        refine wl_iadd (x := 148) (y := 2 * (s 139 5)) (z := 148 + (2 * (s 139 5))) ji_300_53 (by omega) ?_
        refine wl_s (pc' := 55) ji_300_54 rfl rfl rfl ?_
        refine cs_s (x := 148 + (2 * (s 139 5))) (y := p) C (by decide) sq_139 (by omega) (by omega) ji_300_55 (fun h st80 st81 C => ?_)
        obtain ⟨s9, es9⟩ : ∃ z9_, up s 139 (148 + (2 * (s 139 5))) p = z9_ := ⟨_, rfl⟩
        rw [es9] at C
        refine wl_s (pc' := 57) ji_300_56 rfl rfl rfl ?_
        refine cs_gr (r := 139) (k := 0) C (by decide) sq_138 rfl ji_300_57 jf_300_7 ?_
        refine wl_sp ji_300_60 rfl ?_
        refine wl_s (pc' := 64) ji_300_63 rfl rfl rfl ?_
        refine wl_s (pc' := 65) ji_300_64 rfl rfl rfl ?_
        refine cs_gr (r := 139) (k := 0) C (by decide) sq_138 rfl ji_300_65 jf_300_7 ?_
        refine wl_s (pc' := 69) ji_300_68 rfl rfl rfl ?_
        refine cs_l (x := 5) C (by decide) (by decide) sq_139 (by omega) ji_300_69 (fun ld100 ld101 ld102 => ?_)
        have rd11 : s9 139 5 = s 139 5 := by rw [← es9, up_k (by omega)]
        rw [rd11] at ld102 ⊢
        refine wl_imul (x := 2) (y := s 139 5) (z := 2 * (s 139 5)) ji_300_70 (by omega) ?_
        refine wl_iadd (x := 148) (y := 2 * (s 139 5)) (z := 148 + (2 * (s 139 5))) ji_300_71 (by omega) ?_
        refine wl_s (pc' := 73) ji_300_72 rfl rfl rfl ?_
        refine wl_iadd (x := 148 + (2 * (s 139 5))) (y := 1) (z := 148 + (2 * (s 139 5)) + 1) ji_300_73 (by omega) ?_
        refine wl_s (pc' := 75) ji_300_74 rfl rfl rfl ?_
        refine wl_if (t := 82) ji_300_75 rfl (by omega) (fun (hb12 : (b : Int) = 0) => ?_) (fun (hb12 : ¬ ((b : Int) = 0)) => ?_)
        · refine wl_s (pc' := 83) ji_300_82 rfl rfl rfl ?_
          refine cs_s (x := 148 + (2 * (s 139 5)) + 1) (y := 0) C (by decide) sq_139 (by omega) (by omega) ji_300_83 (fun h st130 st131 C => ?_)
          obtain ⟨s14, es14⟩ : ∃ z9_, up s9 139 (148 + (2 * (s 139 5)) + 1) 0 = z9_ := ⟨_, rfl⟩
          rw [es14] at C
          refine wl_s (pc' := 85) ji_300_84 rfl rfl rfl ?_
          refine cs_gr (r := 139) (k := 0) C (by decide) sq_138 rfl ji_300_85 jf_300_7 ?_
          refine wl_s (pc' := 89) ji_300_88 rfl rfl rfl ?_
          refine wl_s (pc' := 90) ji_300_89 rfl rfl rfl ?_
          refine cs_l (x := 5) C (by decide) (by decide) sq_139 (by omega) ji_300_90 (fun ld150 ld151 ld152 => ?_)
          have rd16 : s14 139 5 = s 139 5 := by rw [← es14, up_k (by omega)]; rw [← es9, up_k (by omega)]
          rw [rd16] at ld152 ⊢
          refine wl_s (pc' := 92) ji_300_91 rfl rfl rfl ?_
          refine wl_iadd (x := s 139 5) (y := 1) (z := s 139 5 + 1) ji_300_92 (by omega) ?_
          refine cs_s (x := 5) (y := s 139 5 + 1) C (by decide) sq_139 (by omega) (by omega) ji_300_93 (fun h st170 st171 C => ?_)
          obtain ⟨s18, es18⟩ : ∃ z9_, up s14 139 5 (s 139 5 + 1) = z9_ := ⟨_, rfl⟩
          rw [es18] at C
          refine wl_s (pc' := 95) ji_300_94 rfl rfl rfl ?_
          refine cs_gr (r := 139) (k := 0) C (by decide) sq_138 rfl ji_300_95 jf_300_7 ?_
          refine wl_s (pc' := 99) ji_300_98 rfl rfl rfl ?_
          refine cs_l (x := 5) C (by decide) (by decide) sq_139 (by omega) ji_300_99 (fun ld190 ld191 ld192 => ?_)
          have rd20 : s18 139 5 = s 139 5 + 1 := by rw [← es18, up_e]
          rw [rd20] at ld192 ⊢
          exact wl_ri ji_300_100 jr_300 rfl ((by have e9 : fdR s p b = (s 139 5 + 1, up (up (up s 139 (148 + 2 * s 139 5) p) 139 (148 + 2 * s 139 5 + 1) b) 139 5 (s 139 5 + 1)) := (by { unfold fdR; rw [if_neg (by omega), if_pos (by omega)] }); rw [e9]; exact ⟨rfl, cs_mono C (by rw [show b = 0 by omega, es9, es14, es18])⟩))
        · refine wl_s (pc' := 79) ji_300_78 rfl rfl rfl ?_
          refine wl_goto (t := 83) ji_300_79 rfl ?_
          refine cs_s (x := 148 + (2 * (s 139 5)) + 1) (y := 1) C (by decide) sq_139 (by omega) (by omega) ji_300_83 (fun h st210 st211 C => ?_)
          obtain ⟨s22, es22⟩ : ∃ z9_, up s9 139 (148 + (2 * (s 139 5)) + 1) 1 = z9_ := ⟨_, rfl⟩
          rw [es22] at C
          refine wl_s (pc' := 85) ji_300_84 rfl rfl rfl ?_
          refine cs_gr (r := 139) (k := 0) C (by decide) sq_138 rfl ji_300_85 jf_300_7 ?_
          refine wl_s (pc' := 89) ji_300_88 rfl rfl rfl ?_
          refine wl_s (pc' := 90) ji_300_89 rfl rfl rfl ?_
          refine cs_l (x := 5) C (by decide) (by decide) sq_139 (by omega) ji_300_90 (fun ld230 ld231 ld232 => ?_)
          have rd24 : s22 139 5 = s 139 5 := by rw [← es22, up_k (by omega)]; rw [← es9, up_k (by omega)]
          rw [rd24] at ld232 ⊢
          refine wl_s (pc' := 92) ji_300_91 rfl rfl rfl ?_
          refine wl_iadd (x := s 139 5) (y := 1) (z := s 139 5 + 1) ji_300_92 (by omega) ?_
          refine cs_s (x := 5) (y := s 139 5 + 1) C (by decide) sq_139 (by omega) (by omega) ji_300_93 (fun h st250 st251 C => ?_)
          obtain ⟨s26, es26⟩ : ∃ z9_, up s22 139 5 (s 139 5 + 1) = z9_ := ⟨_, rfl⟩
          rw [es26] at C
          refine wl_s (pc' := 95) ji_300_94 rfl rfl rfl ?_
          refine cs_gr (r := 139) (k := 0) C (by decide) sq_138 rfl ji_300_95 jf_300_7 ?_
          refine wl_s (pc' := 99) ji_300_98 rfl rfl rfl ?_
          refine cs_l (x := 5) C (by decide) (by decide) sq_139 (by omega) ji_300_99 (fun ld270 ld271 ld272 => ?_)
          have rd28 : s26 139 5 = s 139 5 + 1 := by rw [← es26, up_e]
          rw [rd28] at ld272 ⊢
          exact wl_ri ji_300_100 jr_300 rfl ((by have e9 : fdR s p b = (s 139 5 + 1, up (up (up s 139 (148 + 2 * s 139 5) p) 139 (148 + 2 * s 139 5 + 1) b) 139 5 (s 139 5 + 1)) := (by { unfold fdR; rw [if_neg (by omega), if_pos (by omega)] }); rw [e9]; exact ⟨rfl, cs_mono C (by rw [show b = 1 by omega, es9, es22, es26])⟩))
      · refine wl_bp ji_300_35 rfl ?_
        exact wl_ri ji_300_37 jr_300 rfl ((by have e9 : fdR s p b = (-2, s) := (by { unfold fdR; rw [if_neg (by omega), if_neg (by omega)] }); rw [e9]; exact ⟨rfl, C⟩))
  · refine wl_s (pc' := 6) ji_300_5 rfl rfl rfl ?_
    refine cs_gr (r := 139) (k := 0) C (by decide) sq_138 rfl ji_300_6 jf_300_7 ?_
    refine wl_s (pc' := 10) ji_300_9 rfl rfl rfl ?_
    refine wl_s (pc' := 11) ji_300_10 rfl rfl rfl ?_
    refine cs_s (x := 5) (y := 0) C (by decide) sq_139 (by omega) (by omega) ji_300_11 (fun h st290 st291 C => ?_)
    obtain ⟨s30, es30⟩ : ∃ z9_, up s 139 5 0 = z9_ := ⟨_, rfl⟩
    rw [es30] at C
    refine wl_s (pc' := 13) ji_300_12 rfl rfl rfl ?_
    exact wl_ri ji_300_13 jr_300 rfl ((by have e9 : fdR s p b = (0, up s 139 5 0) := (by { unfold fdR; rw [if_pos (by omega)] }); rw [e9]; exact ⟨rfl, cs_mono C (by rw [es30])⟩))
theorem uc_306 {nn d : Nat} {h : mj_H} {s : sg_} (C : CS h s) (i3 : 0 ≤ s 139 6 ∧ s 139 6 ≤ 10) (i1 : 0 ≤ s 139 1 ∧ s 139 1 ≤ 6) {x y : Int} (hx : wp_r x) (hy : wp_r y) : wl_R nn (d + 2) 306 0 [some (.ref 138), some (wp_i x), some (wp_i y)] [] h (fun v1 h1 => v1 = some (wp_i (adR s x y).1) ∧ CS h1 (adR s x y).2) := by
  refine wl_s (pc' := 1) ji_306_0 rfl rfl rfl ?_
  refine wl_s (pc' := 2) ji_306_1 rfl rfl rfl ?_
  refine wl_icmp (t := 15) ji_306_2 rfl (by omega) (by omega) (fun (hb1 : ¬ (x : Int) = (-1)) => ?_) (fun (hb1 : ¬ (¬ (x : Int) = (-1))) => ?_)
  · refine wl_s (pc' := 16) ji_306_15 rfl rfl rfl ?_
    refine wl_s (pc' := 17) ji_306_16 rfl rfl rfl ?_
    obtain ⟨q3, hq3⟩ := cs_c C (by decide) sq_138
    refine wl_vc (d := d + 1) (as := [.ref 138, wp_i x]) (rest := []) ji_306_17 jc_306_345 rfl hq3 jk_247.symm (Nat.le_of_ble_eq_true rfl) rfl (by rw [jn_247]; rfl) (uc_247 (d := d) C i1 (w := x) (by omega)) (fun v1 h2 R => ?_)
    obtain ⟨ee, y4, rfl, hy4a, hy4b⟩ := R
    rw [ee]
    clear ee
    show wl_R _ _ 306 20 [some (.ref 138), some (wp_i x), some (wp_i y)] [wp_i y4] _ _
    refine wl_if (t := 48) ji_306_20 rfl (by omega) (fun (hb5 : (y4 : Int) = 0) => ?_) (fun (hb5 : ¬ ((y4 : Int) = 0)) => ?_)
    · refine wl_bp ji_306_48 rfl ?_
      exact wl_ri ji_306_50 jr_306 rfl ((by { by_cases q9 : okA (s 139 1) x y; { have e9 : adR s x y = (-2, s) := (by { unfold adR; rw [if_neg (by omega), if_pos q9, if_pos (by omega)] }); rw [e9]; exact ⟨rfl, C⟩ }; { have e9 : adR s x y = (-2, s) := (by { unfold adR; rw [if_neg (by omega), if_neg q9] }); rw [e9]; exact ⟨rfl, C⟩ } }))
    · refine wl_s (pc' := 24) ji_306_23 rfl rfl rfl ?_
      refine wl_s (pc' := 25) ji_306_24 rfl rfl rfl ?_
      obtain ⟨q7, hq7⟩ := cs_c C (by decide) sq_138
      refine wl_vc (d := d + 1) (as := [.ref 138, wp_i y]) (rest := []) ji_306_25 jc_306_345 rfl hq7 jk_247.symm (Nat.le_of_ble_eq_true rfl) rfl (by rw [jn_247]; rfl) (uc_247 (d := d) C i1 (w := y) (by omega)) (fun v1 h6 R => ?_)
      obtain ⟨ee, y8, rfl, hy8a, hy8b⟩ := R
      rw [ee]
      clear ee
      show wl_R _ _ 306 28 [some (.ref 138), some (wp_i x), some (wp_i y)] [wp_i y8] _ _
      refine wl_if (t := 48) ji_306_28 rfl (by omega) (fun (hb9 : (y8 : Int) = 0) => ?_) (fun (hb9 : ¬ ((y8 : Int) = 0)) => ?_)
      · refine wl_bp ji_306_48 rfl ?_
        exact wl_ri ji_306_50 jr_306 rfl ((by { by_cases q9 : okA (s 139 1) x y; { have e9 : adR s x y = (-2, s) := (by { unfold adR; rw [if_neg (by omega), if_pos q9, if_pos (by omega)] }); rw [e9]; exact ⟨rfl, C⟩ }; { have e9 : adR s x y = (-2, s) := (by { unfold adR; rw [if_neg (by omega), if_neg q9] }); rw [e9]; exact ⟨rfl, C⟩ } }))
      · refine wl_s (pc' := 32) ji_306_31 rfl rfl rfl ?_
        refine wl_s (pc' := 33) ji_306_32 rfl rfl rfl ?_
        refine wl_icmp (t := 48) ji_306_33 rfl (by omega) (by omega) (fun (hb10 : (x : Int) = y) => ?_) (fun (hb10 : ¬ ((x : Int) = y)) => ?_)
        · refine wl_bp ji_306_48 rfl ?_
          exact wl_ri ji_306_50 jr_306 rfl ((by { by_cases q9 : okA (s 139 1) x y; { have e9 : adR s x y = (-2, s) := (by { unfold adR; rw [if_neg (by omega), if_pos q9, if_pos (by omega)] }); rw [e9]; exact ⟨rfl, C⟩ }; { have e9 : adR s x y = (-2, s) := (by { unfold adR; rw [if_neg (by omega), if_neg q9] }); rw [e9]; exact ⟨rfl, C⟩ } }))
        · refine wl_s (pc' := 37) ji_306_36 rfl rfl rfl ?_
          refine cs_gr (r := 139) (k := 0) C (by decide) sq_138 rfl ji_306_37 jf_306_7 ?_
          refine wl_bp ji_306_40 rfl ?_
          refine cs_l (x := 6) C (by decide) (by decide) sq_139 (by omega) ji_306_42 (fun ld110 ld111 ld112 => ?_)
          refine wl_bp ji_306_43 rfl ?_
          refine wl_icmp (t := 51) ji_306_45 rfl (by omega) (by omega) (fun (hb12 : ¬ (s 139 6 : Int) = 10) => ?_) (fun (hb12 : ¬ (¬ (s 139 6 : Int) = 10)) => ?_)
          · refine wl_s (pc' := 52) ji_306_51 rfl rfl rfl ?_
            refine cs_gr (r := 139) (k := 0) C (by decide) sq_138 rfl ji_306_52 jf_306_7 ?_
            refine wl_sp ji_306_55 rfl ?_
            refine wl_s (pc' := 59) ji_306_58 rfl rfl rfl ?_
            refine wl_s (pc' := 60) ji_306_59 rfl rfl rfl ?_
            refine cs_gr (r := 139) (k := 0) C (by decide) sq_138 rfl ji_306_60 jf_306_7 ?_
            refine wl_bp ji_306_63 rfl ?_
            refine cs_l (x := 6) C (by decide) (by decide) sq_139 (by omega) ji_306_65 (fun ld130 ld131 ld132 => ?_)
            refine wl_imul (x := 2) (y := s 139 6) (z := 2 * (s 139 6)) ji_306_66 (by omega) ?_
            refine wl_iadd (x := 164) (y := 2 * (s 139 6)) (z := 164 + (2 * (s 139 6))) ji_306_67 (by omega) ?_
            refine wl_s (pc' := 69) ji_306_68 rfl rfl rfl ?_
            refine cs_s (x := 164 + (2 * (s 139 6))) (y := x) C (by decide) sq_139 (by omega) (by omega) ji_306_69 (fun h st140 st141 C => ?_)
            obtain ⟨s15, es15⟩ : ∃ z9_, up s 139 (164 + (2 * (s 139 6))) x = z9_ := ⟨_, rfl⟩
            rw [es15] at C
            refine wl_s (pc' := 71) ji_306_70 rfl rfl rfl ?_
            refine cs_gr (r := 139) (k := 0) C (by decide) sq_138 rfl ji_306_71 jf_306_7 ?_
            refine wl_sp ji_306_74 rfl ?_
            refine wl_s (pc' := 78) ji_306_77 rfl rfl rfl ?_
            refine wl_s (pc' := 79) ji_306_78 rfl rfl rfl ?_
            refine cs_gr (r := 139) (k := 0) C (by decide) sq_138 rfl ji_306_79 jf_306_7 ?_
            refine wl_bp ji_306_82 rfl ?_
            refine cs_l (x := 6) C (by decide) (by decide) sq_139 (by omega) ji_306_84 (fun ld160 ld161 ld162 => ?_)
            have rd17 : s15 139 6 = s 139 6 := by rw [← es15, up_k (by omega)]
            rw [rd17] at ld162 ⊢
            refine wl_imul (x := 2) (y := s 139 6) (z := 2 * (s 139 6)) ji_306_85 (by omega) ?_
            refine wl_iadd (x := 164) (y := 2 * (s 139 6)) (z := 164 + (2 * (s 139 6))) ji_306_86 (by omega) ?_
            refine wl_s (pc' := 88) ji_306_87 rfl rfl rfl ?_
            refine wl_iadd (x := 164 + (2 * (s 139 6))) (y := 1) (z := 164 + (2 * (s 139 6)) + 1) ji_306_88 (by omega) ?_
            refine wl_s (pc' := 90) ji_306_89 rfl rfl rfl ?_
            refine cs_s (x := 164 + (2 * (s 139 6)) + 1) (y := y) C (by decide) sq_139 (by omega) (by omega) ji_306_90 (fun h st180 st181 C => ?_)
            obtain ⟨s19, es19⟩ : ∃ z9_, up s15 139 (164 + (2 * (s 139 6)) + 1) y = z9_ := ⟨_, rfl⟩
            rw [es19] at C
            refine wl_s (pc' := 92) ji_306_91 rfl rfl rfl ?_
            refine cs_gr (r := 139) (k := 0) C (by decide) sq_138 rfl ji_306_92 jf_306_7 ?_
            refine wl_bp ji_306_95 rfl ?_
            refine wl_s (pc' := 98) ji_306_97 rfl rfl rfl ?_
            refine cs_l (x := 6) C (by decide) (by decide) sq_139 (by omega) ji_306_98 (fun ld200 ld201 ld202 => ?_)
            have rd21 : s19 139 6 = s 139 6 := by rw [← es19, up_k (by omega)]; rw [← es15, up_k (by omega)]
            rw [rd21] at ld202 ⊢
            refine wl_s (pc' := 100) ji_306_99 rfl rfl rfl ?_
            refine wl_iadd (x := s 139 6) (y := 1) (z := s 139 6 + 1) ji_306_100 (by omega) ?_
            refine cs_s (x := 6) (y := s 139 6 + 1) C (by decide) sq_139 (by omega) (by omega) ji_306_101 (fun h st220 st221 C => ?_)
            obtain ⟨s23, es23⟩ : ∃ z9_, up s19 139 6 (s 139 6 + 1) = z9_ := ⟨_, rfl⟩
            rw [es23] at C
            refine wl_s (pc' := 103) ji_306_102 rfl rfl rfl ?_
            refine cs_gr (r := 139) (k := 0) C (by decide) sq_138 rfl ji_306_103 jf_306_7 ?_
            refine wl_bp ji_306_106 rfl ?_
            refine cs_l (x := 6) C (by decide) (by decide) sq_139 (by omega) ji_306_108 (fun ld240 ld241 ld242 => ?_)
            have rd25 : s23 139 6 = s 139 6 + 1 := by rw [← es23, up_e]
            rw [rd25] at ld242 ⊢
            exact wl_ri ji_306_109 jr_306 rfl ((by have e9 : adR s x y = (s 139 6 + 1, up (up (up s 139 (164 + 2 * s 139 6) x) 139 (164 + 2 * s 139 6 + 1) y) 139 6 (s 139 6 + 1)) := (by { unfold adR; rw [if_neg (by omega), if_pos (by omega), if_neg (by omega)] }); rw [e9]; exact ⟨rfl, cs_mono C (by rw [es15, es19, es23])⟩))
          · refine wl_bp ji_306_48 rfl ?_
            exact wl_ri ji_306_50 jr_306 rfl ((by { by_cases q9 : okA (s 139 1) x y; { have e9 : adR s x y = (-2, s) := (by { unfold adR; rw [if_neg (by omega), if_pos q9, if_pos (by omega)] }); rw [e9]; exact ⟨rfl, C⟩ }; { have e9 : adR s x y = (-2, s) := (by { unfold adR; rw [if_neg (by omega), if_neg q9] }); rw [e9]; exact ⟨rfl, C⟩ } }))
  · refine wl_s (pc' := 6) ji_306_5 rfl rfl rfl ?_
    refine cs_gr (r := 139) (k := 0) C (by decide) sq_138 rfl ji_306_6 jf_306_7 ?_
    refine wl_bp ji_306_9 rfl ?_
    refine wl_s (pc' := 12) ji_306_11 rfl rfl rfl ?_
    refine cs_s (x := 6) (y := 0) C (by decide) sq_139 (by omega) (by omega) ji_306_12 (fun h st260 st261 C => ?_)
    obtain ⟨s27, es27⟩ : ∃ z9_, up s 139 6 0 = z9_ := ⟨_, rfl⟩
    rw [es27] at C
    refine wl_s (pc' := 14) ji_306_13 rfl rfl rfl ?_
    exact wl_ri ji_306_14 jr_306 rfl ((by have e9 : adR s x y = (0, up s 139 6 0) := (by { unfold adR; rw [if_pos (by omega)] }); rw [e9]; exact ⟨rfl, cs_mono C (by rw [es27])⟩))
