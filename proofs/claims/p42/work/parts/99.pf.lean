/-! -/
set_option maxRecDepth 100000 in
theorem jn_38 : mj_nl 38 = 2 := by decide +kernel
set_option maxRecDepth 100000 in
theorem jk_38 : mj_cls 38 = 9 := by decide +kernel
set_option maxRecDepth 100000 in
theorem jn_39 : mj_nl 39 = 2 := by decide +kernel
set_option maxRecDepth 100000 in
theorem jk_39 : mj_cls 39 = 9 := by decide +kernel
set_option maxRecDepth 100000 in
theorem jk_43 : mj_cls 43 = 9 := by decide +kernel
set_option maxRecDepth 100000 in
theorem jn_44 : mj_nl 44 = 4 := by decide +kernel
set_option maxRecDepth 100000 in
theorem jk_44 : mj_cls 44 = 9 := by decide +kernel
set_option maxRecDepth 100000 in
theorem jn_45 : mj_nl 45 = 3 := by decide +kernel
set_option maxRecDepth 100000 in
theorem jk_45 : mj_cls 45 = 9 := by decide +kernel
set_option maxRecDepth 100000 in
theorem jn_46 : mj_nl 46 = 1 := by decide +kernel
set_option maxRecDepth 100000 in
theorem jk_46 : mj_cls 46 = 9 := by decide +kernel
set_option maxRecDepth 100000 in
theorem jn_47 : mj_nl 47 = 1 := by decide +kernel
set_option maxRecDepth 100000 in
theorem jk_47 : mj_cls 47 = 9 := by decide +kernel
set_option maxRecDepth 100000 in
theorem jn_48 : mj_nl 48 = 1 := by decide +kernel
set_option maxRecDepth 100000 in
theorem jk_48 : mj_cls 48 = 9 := by decide +kernel
set_option maxRecDepth 100000 in
theorem jn_37 : mj_nl 37 = 2 := by decide +kernel
set_option maxRecDepth 100000 in
theorem jk_37 : mj_cls 37 = 9 := by decide +kernel
set_option maxRecDepth 100000 in
theorem jn_42 : mj_nl 42 = 1 := by decide +kernel
set_option maxRecDepth 100000 in
theorem jk_42 : mj_cls 42 = 9 := by decide +kernel
set_option maxRecDepth 100000 in
theorem ji_38_0 : mj_ins 38 0 = some (.aload_n 0) := by decide +kernel
set_option maxRecDepth 100000 in
theorem ji_38_1 : mj_ins 38 1 = some (.getfield 35) := by decide +kernel
set_option maxRecDepth 100000 in
theorem jf_38_35 : mj_fld 38 35 = some (9, 9, .int, true) := by decide +kernel
set_option maxRecDepth 100000 in
theorem ji_38_4 : mj_ins 38 4 = some (.bipush 8) := by decide +kernel
set_option maxRecDepth 100000 in
theorem ji_38_6 : mj_ins 38 6 = some (.if_icmp .ne 9) := by decide +kernel
set_option maxRecDepth 100000 in
theorem ji_38_15 : mj_ins 38 15 = some (.aload_n 0) := by decide +kernel
set_option maxRecDepth 100000 in
theorem ji_38_16 : mj_ins 38 16 = some (.dup) := by decide +kernel
set_option maxRecDepth 100000 in
theorem ji_38_17 : mj_ins 38 17 = some (.getfield 35) := by decide +kernel
set_option maxRecDepth 100000 in
theorem ji_38_20 : mj_ins 38 20 = some (.iconst 1) := by decide +kernel
set_option maxRecDepth 100000 in
theorem ji_38_21 : mj_ins 38 21 = some (.iadd) := by decide +kernel
set_option maxRecDepth 100000 in
theorem ji_38_22 : mj_ins 38 22 = some (.putfield 35) := by decide +kernel
set_option maxRecDepth 100000 in
theorem ji_38_25 : mj_ins 38 25 = some (.iload_n 1) := by decide +kernel
set_option maxRecDepth 100000 in
theorem ji_38_26 : mj_ins 38 26 = some (.bipush 40) := by decide +kernel
set_option maxRecDepth 100000 in
theorem ji_38_28 : mj_ins 38 28 = some (.if_icmp .eq 9) := by decide +kernel
set_option maxRecDepth 100000 in
theorem ji_38_37 : mj_ins 38 37 = some (.aload_n 0) := by decide +kernel
set_option maxRecDepth 100000 in
theorem ji_38_38 : mj_ins 38 38 = some (.dup) := by decide +kernel
set_option maxRecDepth 100000 in
theorem ji_38_39 : mj_ins 38 39 = some (.getfield 38) := by decide +kernel
set_option maxRecDepth 100000 in
theorem jf_38_38 : mj_fld 38 38 = some (9, 10, .int, true) := by decide +kernel
set_option maxRecDepth 100000 in
theorem ji_38_42 : mj_ins 38 42 = some (.iconst 1) := by decide +kernel
set_option maxRecDepth 100000 in
theorem ji_38_43 : mj_ins 38 43 = some (.iadd) := by decide +kernel
set_option maxRecDepth 100000 in
theorem ji_38_44 : mj_ins 38 44 = some (.putfield 38) := by decide +kernel
set_option maxRecDepth 100000 in
theorem ji_38_47 : mj_ins 38 47 = some (.aload_n 0) := by decide +kernel
set_option maxRecDepth 100000 in
theorem ji_38_48 : mj_ins 38 48 = some (.iload_n 1) := by decide +kernel
set_option maxRecDepth 100000 in
theorem ji_38_49 : mj_ins 38 49 = some (.invokevirtual 148) := by decide +kernel
set_option maxRecDepth 100000 in
theorem jc_38_148 : mj_cal 38 148 = some (2, 39, 1) := by decide +kernel
set_option maxRecDepth 100000 in
theorem ji_38_52 : mj_ins 38 52 = some (.aload_n 0) := by decide +kernel
set_option maxRecDepth 100000 in
theorem ji_38_53 : mj_ins 38 53 = some (.iload_n 1) := by decide +kernel
set_option maxRecDepth 100000 in
theorem ji_38_54 : mj_ins 38 54 = some (.bipush 33) := by decide +kernel
set_option maxRecDepth 100000 in
theorem ji_38_56 : mj_ins 38 56 = some (.if_icmp .ne 7) := by decide +kernel
set_option maxRecDepth 100000 in
theorem ji_38_63 : mj_ins 38 63 = some (.iconst 1) := by decide +kernel
set_option maxRecDepth 100000 in
theorem ji_38_64 : mj_ins 38 64 = some (.putfield 25) := by decide +kernel
set_option maxRecDepth 100000 in
theorem jf_38_25 : mj_fld 38 25 = some (9, 6, .int, true) := by decide +kernel
set_option maxRecDepth 100000 in
theorem ji_38_67 : mj_ins 38 67 = some (.return_) := by decide +kernel
set_option maxRecDepth 100000 in
theorem jr_38 : mj_ret 38 = none := by decide +kernel
set_option maxRecDepth 100000 in
theorem ji_38_59 : mj_ins 38 59 = some (.iconst 0) := by decide +kernel
set_option maxRecDepth 100000 in
theorem ji_38_60 : mj_ins 38 60 = some (.goto 4) := by decide +kernel
set_option maxRecDepth 100000 in
theorem ji_38_31 : mj_ins 38 31 = some (.iload_n 1) := by decide +kernel
set_option maxRecDepth 100000 in
theorem ji_38_32 : mj_ins 38 32 = some (.bipush 91) := by decide +kernel
set_option maxRecDepth 100000 in
theorem ji_38_34 : mj_ins 38 34 = some (.if_icmp .ne 13) := by decide +kernel
set_option maxRecDepth 100000 in
theorem ji_38_9 : mj_ins 38 9 = some (.aload_n 0) := by decide +kernel
set_option maxRecDepth 100000 in
theorem ji_38_10 : mj_ins 38 10 = some (.iconst 3) := by decide +kernel
set_option maxRecDepth 100000 in
theorem ji_38_11 : mj_ins 38 11 = some (.invokevirtual 80) := by decide +kernel
set_option maxRecDepth 100000 in
theorem jc_38_80 : mj_cal 38 80 = some (2, 31, 1) := by decide +kernel
set_option maxRecDepth 100000 in
theorem ji_38_14 : mj_ins 38 14 = some (.return_) := by decide +kernel
set_option maxRecDepth 100000 in
theorem ji_48_0 : mj_ins 48 0 = some (.aload_n 0) := by decide +kernel
set_option maxRecDepth 100000 in
theorem ji_48_1 : mj_ins 48 1 = some (.getfield 41) := by decide +kernel
set_option maxRecDepth 100000 in
theorem jf_48_41 : mj_fld 48 41 = some (9, 11, .int, true) := by decide +kernel
set_option maxRecDepth 100000 in
theorem ji_48_4 : mj_ins 48 4 = some (.bipush 6) := by decide +kernel
set_option maxRecDepth 100000 in
theorem ji_48_6 : mj_ins 48 6 = some (.if_icmp .ne 12) := by decide +kernel
set_option maxRecDepth 100000 in
theorem ji_48_18 : mj_ins 48 18 = some (.aload_n 0) := by decide +kernel
set_option maxRecDepth 100000 in
theorem ji_48_19 : mj_ins 48 19 = some (.dup) := by decide +kernel
set_option maxRecDepth 100000 in
theorem ji_48_20 : mj_ins 48 20 = some (.getfield 41) := by decide +kernel
set_option maxRecDepth 100000 in
theorem ji_48_23 : mj_ins 48 23 = some (.iconst 1) := by decide +kernel
set_option maxRecDepth 100000 in
theorem ji_48_24 : mj_ins 48 24 = some (.iadd) := by decide +kernel
set_option maxRecDepth 100000 in
theorem ji_48_25 : mj_ins 48 25 = some (.putfield 41) := by decide +kernel
set_option maxRecDepth 100000 in
theorem ji_48_28 : mj_ins 48 28 = some (.aload_n 0) := by decide +kernel
set_option maxRecDepth 100000 in
theorem ji_48_29 : mj_ins 48 29 = some (.iconst 1) := by decide +kernel
set_option maxRecDepth 100000 in
theorem ji_48_30 : mj_ins 48 30 = some (.putfield 25) := by decide +kernel
set_option maxRecDepth 100000 in
theorem jf_48_25 : mj_fld 48 25 = some (9, 6, .int, true) := by decide +kernel
set_option maxRecDepth 100000 in
theorem ji_48_33 : mj_ins 48 33 = some (.return_) := by decide +kernel
set_option maxRecDepth 100000 in
theorem jr_48 : mj_ret 48 = none := by decide +kernel
set_option maxRecDepth 100000 in
theorem ji_48_9 : mj_ins 48 9 = some (.aload_n 0) := by decide +kernel
set_option maxRecDepth 100000 in
theorem ji_48_10 : mj_ins 48 10 = some (.bipush 7) := by decide +kernel
set_option maxRecDepth 100000 in
theorem ji_48_12 : mj_ins 48 12 = some (.invokevirtual 80) := by decide +kernel
set_option maxRecDepth 100000 in
theorem jc_48_80 : mj_cal 48 80 = some (2, 31, 1) := by decide +kernel
set_option maxRecDepth 100000 in
theorem ji_48_15 : mj_ins 48 15 = some (.goto 18) := by decide +kernel
set_option maxRecDepth 100000 in
theorem ji_44_0 : mj_ins 44 0 = some (.aload_n 0) := by decide +kernel
set_option maxRecDepth 100000 in
theorem ji_44_1 : mj_ins 44 1 = some (.iload_n 2) := by decide +kernel
set_option maxRecDepth 100000 in
theorem ji_44_2 : mj_ins 44 2 = some (.invokevirtual 162) := by decide +kernel
set_option maxRecDepth 100000 in
theorem jc_44_162 : mj_cal 44 162 = some (2, 45, 1) := by decide +kernel
set_option maxRecDepth 100000 in
theorem ji_44_5 : mj_ins 44 5 = some (.aload_n 0) := by decide +kernel
set_option maxRecDepth 100000 in
theorem ji_44_6 : mj_ins 44 6 = some (.iload_n 1) := by decide +kernel
set_option maxRecDepth 100000 in
theorem ji_44_7 : mj_ins 44 7 = some (.invokevirtual 148) := by decide +kernel
set_option maxRecDepth 100000 in
theorem jc_44_148 : mj_cal 44 148 = some (2, 39, 1) := by decide +kernel
set_option maxRecDepth 100000 in
theorem ji_44_10 : mj_ins 44 10 = some (.aload_n 0) := by decide +kernel
set_option maxRecDepth 100000 in
theorem ji_44_11 : mj_ins 44 11 = some (.iload_n 3) := by decide +kernel
set_option maxRecDepth 100000 in
theorem ji_44_12 : mj_ins 44 12 = some (.putfield 25) := by decide +kernel
set_option maxRecDepth 100000 in
theorem jf_44_25 : mj_fld 44 25 = some (9, 6, .int, true) := by decide +kernel
set_option maxRecDepth 100000 in
theorem ji_44_15 : mj_ins 44 15 = some (.return_) := by decide +kernel
set_option maxRecDepth 100000 in
theorem jr_44 : mj_ret 44 = none := by decide +kernel
set_option maxRecDepth 100000 in
theorem ji_47_0 : mj_ins 47 0 = some (.aload_n 0) := by decide +kernel
set_option maxRecDepth 100000 in
theorem ji_47_1 : mj_ins 47 1 = some (.iconst 5) := by decide +kernel
set_option maxRecDepth 100000 in
theorem ji_47_2 : mj_ins 47 2 = some (.invokevirtual 162) := by decide +kernel
set_option maxRecDepth 100000 in
theorem jc_47_162 : mj_cal 47 162 = some (2, 45, 1) := by decide +kernel
set_option maxRecDepth 100000 in
theorem ji_47_5 : mj_ins 47 5 = some (.aload_n 0) := by decide +kernel
set_option maxRecDepth 100000 in
theorem ji_47_6 : mj_ins 47 6 = some (.getfield 32) := by decide +kernel
set_option maxRecDepth 100000 in
theorem jf_47_32 : mj_fld 47 32 = some (9, 8, .int, true) := by decide +kernel
set_option maxRecDepth 100000 in
theorem ji_47_9 : mj_ins 47 9 = some (.ifCond .le 23) := by decide +kernel
set_option maxRecDepth 100000 in
theorem ji_47_32 : mj_ins 47 32 = some (.iconst 0) := by decide +kernel
set_option maxRecDepth 100000 in
theorem ji_47_33 : mj_ins 47 33 = some (.ireturn) := by decide +kernel
set_option maxRecDepth 100000 in
theorem jr_47 : mj_ret 47 = some .boolean := by decide +kernel
set_option maxRecDepth 100000 in
theorem ji_47_12 : mj_ins 47 12 = some (.aload_n 0) := by decide +kernel
set_option maxRecDepth 100000 in
theorem ji_47_13 : mj_ins 47 13 = some (.getfield 28) := by decide +kernel
set_option maxRecDepth 100000 in
theorem jf_47_28 : mj_fld 47 28 = some (9, 7, (.array .int), false) := by decide +kernel
set_option maxRecDepth 100000 in
theorem ji_47_16 : mj_ins 47 16 = some (.aload_n 0) := by decide +kernel
set_option maxRecDepth 100000 in
theorem ji_47_17 : mj_ins 47 17 = some (.getfield 32) := by decide +kernel
set_option maxRecDepth 100000 in
theorem ji_47_20 : mj_ins 47 20 = some (.iconst 1) := by decide +kernel
set_option maxRecDepth 100000 in
theorem ji_47_21 : mj_ins 47 21 = some (.isub) := by decide +kernel
set_option maxRecDepth 100000 in
theorem ji_47_22 : mj_ins 47 22 = some (.iaload) := by decide +kernel
set_option maxRecDepth 100000 in
theorem ji_47_23 : mj_ins 47 23 = some (.bipush 91) := by decide +kernel
set_option maxRecDepth 100000 in
theorem ji_47_25 : mj_ins 47 25 = some (.if_icmp .ne 7) := by decide +kernel
set_option maxRecDepth 100000 in
theorem ji_47_28 : mj_ins 47 28 = some (.iconst 1) := by decide +kernel
set_option maxRecDepth 100000 in
theorem ji_47_29 : mj_ins 47 29 = some (.goto 4) := by decide +kernel
set_option maxRecDepth 100000 in
theorem ji_46_0 : mj_ins 46 0 = some (.aload_n 0) := by decide +kernel
set_option maxRecDepth 100000 in
theorem ji_46_1 : mj_ins 46 1 = some (.iconst 5) := by decide +kernel
set_option maxRecDepth 100000 in
theorem ji_46_2 : mj_ins 46 2 = some (.invokevirtual 162) := by decide +kernel
set_option maxRecDepth 100000 in
theorem jc_46_162 : mj_cal 46 162 = some (2, 45, 1) := by decide +kernel
set_option maxRecDepth 100000 in
theorem ji_46_5 : mj_ins 46 5 = some (.aload_n 0) := by decide +kernel
set_option maxRecDepth 100000 in
theorem ji_46_6 : mj_ins 46 6 = some (.getfield 32) := by decide +kernel
set_option maxRecDepth 100000 in
theorem jf_46_32 : mj_fld 46 32 = some (9, 8, .int, true) := by decide +kernel
set_option maxRecDepth 100000 in
theorem ji_46_9 : mj_ins 46 9 = some (.ifCond .ne 9) := by decide +kernel
set_option maxRecDepth 100000 in
theorem ji_46_18 : mj_ins 46 18 = some (.aload_n 0) := by decide +kernel
set_option maxRecDepth 100000 in
theorem ji_46_19 : mj_ins 46 19 = some (.dup) := by decide +kernel
set_option maxRecDepth 100000 in
theorem ji_46_20 : mj_ins 46 20 = some (.getfield 32) := by decide +kernel
set_option maxRecDepth 100000 in
theorem ji_46_23 : mj_ins 46 23 = some (.iconst 1) := by decide +kernel
set_option maxRecDepth 100000 in
theorem ji_46_24 : mj_ins 46 24 = some (.isub) := by decide +kernel
set_option maxRecDepth 100000 in
theorem ji_46_25 : mj_ins 46 25 = some (.putfield 32) := by decide +kernel
set_option maxRecDepth 100000 in
theorem ji_46_28 : mj_ins 46 28 = some (.aload_n 0) := by decide +kernel
set_option maxRecDepth 100000 in
theorem ji_46_29 : mj_ins 46 29 = some (.dup) := by decide +kernel
set_option maxRecDepth 100000 in
theorem ji_46_30 : mj_ins 46 30 = some (.getfield 35) := by decide +kernel
set_option maxRecDepth 100000 in
theorem jf_46_35 : mj_fld 46 35 = some (9, 9, .int, true) := by decide +kernel
set_option maxRecDepth 100000 in
theorem ji_46_33 : mj_ins 46 33 = some (.iconst 1) := by decide +kernel
set_option maxRecDepth 100000 in
theorem ji_46_34 : mj_ins 46 34 = some (.isub) := by decide +kernel
set_option maxRecDepth 100000 in
theorem ji_46_35 : mj_ins 46 35 = some (.putfield 35) := by decide +kernel
set_option maxRecDepth 100000 in
theorem ji_46_38 : mj_ins 46 38 = some (.aload_n 0) := by decide +kernel
set_option maxRecDepth 100000 in
theorem ji_46_39 : mj_ins 46 39 = some (.dup) := by decide +kernel
set_option maxRecDepth 100000 in
theorem ji_46_40 : mj_ins 46 40 = some (.getfield 38) := by decide +kernel
set_option maxRecDepth 100000 in
theorem jf_46_38 : mj_fld 46 38 = some (9, 10, .int, true) := by decide +kernel
set_option maxRecDepth 100000 in
theorem ji_46_43 : mj_ins 46 43 = some (.iconst 1) := by decide +kernel
set_option maxRecDepth 100000 in
theorem ji_46_44 : mj_ins 46 44 = some (.isub) := by decide +kernel
set_option maxRecDepth 100000 in
theorem ji_46_45 : mj_ins 46 45 = some (.putfield 38) := by decide +kernel
set_option maxRecDepth 100000 in
theorem ji_46_48 : mj_ins 46 48 = some (.aload_n 0) := by decide +kernel
set_option maxRecDepth 100000 in
theorem ji_46_49 : mj_ins 46 49 = some (.iconst 2) := by decide +kernel
set_option maxRecDepth 100000 in
theorem ji_46_50 : mj_ins 46 50 = some (.putfield 25) := by decide +kernel
set_option maxRecDepth 100000 in
theorem jf_46_25 : mj_fld 46 25 = some (9, 6, .int, true) := by decide +kernel
set_option maxRecDepth 100000 in
theorem ji_46_53 : mj_ins 46 53 = some (.aload_n 0) := by decide +kernel
set_option maxRecDepth 100000 in
theorem ji_46_54 : mj_ins 46 54 = some (.getfield 28) := by decide +kernel
set_option maxRecDepth 100000 in
theorem jf_46_28 : mj_fld 46 28 = some (9, 7, (.array .int), false) := by decide +kernel
set_option maxRecDepth 100000 in
theorem ji_46_57 : mj_ins 46 57 = some (.aload_n 0) := by decide +kernel
set_option maxRecDepth 100000 in
theorem ji_46_58 : mj_ins 46 58 = some (.getfield 32) := by decide +kernel
set_option maxRecDepth 100000 in
theorem ji_46_61 : mj_ins 46 61 = some (.iaload) := by decide +kernel
set_option maxRecDepth 100000 in
theorem ji_46_62 : mj_ins 46 62 = some (.bipush 91) := by decide +kernel
set_option maxRecDepth 100000 in
theorem ji_46_64 : mj_ins 46 64 = some (.if_icmp .ne 23) := by decide +kernel
set_option maxRecDepth 100000 in
theorem ji_46_87 : mj_ins 46 87 = some (.return_) := by decide +kernel
set_option maxRecDepth 100000 in
theorem jr_46 : mj_ret 46 = none := by decide +kernel
set_option maxRecDepth 100000 in
theorem ji_46_67 : mj_ins 46 67 = some (.aload_n 0) := by decide +kernel
set_option maxRecDepth 100000 in
theorem ji_46_68 : mj_ins 46 68 = some (.getfield 51) := by decide +kernel
set_option maxRecDepth 100000 in
theorem jf_46_51 : mj_fld 46 51 = some (9, 1, (.object "ForestOfPoles$Text"), true) := by decide +kernel
set_option maxRecDepth 100000 in
theorem ji_46_71 : mj_ins 46 71 = some (.sipush 30000) := by decide +kernel
set_option maxRecDepth 100000 in
theorem ji_46_74 : mj_ins 46 74 = some (.aload_n 0) := by decide +kernel
set_option maxRecDepth 100000 in
theorem ji_46_75 : mj_ins 46 75 = some (.getfield 41) := by decide +kernel
set_option maxRecDepth 100000 in
theorem jf_46_41 : mj_fld 46 41 = some (9, 11, .int, true) := by decide +kernel
set_option maxRecDepth 100000 in
theorem ji_46_78 : mj_ins 46 78 = some (.iadd) := by decide +kernel
set_option maxRecDepth 100000 in
theorem ji_46_79 : mj_ins 46 79 = some (.invokevirtual 139) := by decide +kernel
set_option maxRecDepth 100000 in
theorem jc_46_139 : mj_cal 46 139 = some (2, 36, 1) := by decide +kernel
set_option maxRecDepth 100000 in
theorem ji_46_82 : mj_ins 46 82 = some (.aload_n 0) := by decide +kernel
set_option maxRecDepth 100000 in
theorem ji_46_83 : mj_ins 46 83 = some (.iconst 4) := by decide +kernel
set_option maxRecDepth 100000 in
theorem ji_46_84 : mj_ins 46 84 = some (.putfield 25) := by decide +kernel
set_option maxRecDepth 100000 in
theorem ji_42_0 : mj_ins 42 0 = some (.aload_n 0) := by decide +kernel
set_option maxRecDepth 100000 in
theorem ji_42_1 : mj_ins 42 1 = some (.getfield 47) := by decide +kernel
set_option maxRecDepth 100000 in
theorem jf_42_47 : mj_fld 42 47 = some (9, 0, (.object "ForestOfPoles$Tape"), false) := by decide +kernel
set_option maxRecDepth 100000 in
theorem ji_42_4 : mj_ins 42 4 = some (.getfield 68) := by decide +kernel
set_option maxRecDepth 100000 in
theorem jf_42_68 : mj_fld 42 68 = some (8, 2, .int, true) := by decide +kernel
set_option maxRecDepth 100000 in
theorem ji_42_7 : mj_ins 42 7 = some (.iconst 2) := by decide +kernel
set_option maxRecDepth 100000 in
theorem ji_42_8 : mj_ins 42 8 = some (.if_icmp .ne 11) := by decide +kernel
set_option maxRecDepth 100000 in
theorem ji_42_19 : mj_ins 42 19 = some (.aload_n 0) := by decide +kernel
set_option maxRecDepth 100000 in
theorem ji_42_20 : mj_ins 42 20 = some (.getfield 47) := by decide +kernel
set_option maxRecDepth 100000 in
theorem ji_42_23 : mj_ins 42 23 = some (.getfield 68) := by decide +kernel
set_option maxRecDepth 100000 in
theorem ji_42_26 : mj_ins 42 26 = some (.ifCond .eq 5) := by decide +kernel
set_option maxRecDepth 100000 in
theorem ji_42_31 : mj_ins 42 31 = some (.aload_n 0) := by decide +kernel
set_option maxRecDepth 100000 in
theorem ji_42_32 : mj_ins 42 32 = some (.getfield 47) := by decide +kernel
set_option maxRecDepth 100000 in
theorem ji_42_35 : mj_ins 42 35 = some (.getfield 77) := by decide +kernel
set_option maxRecDepth 100000 in
theorem jf_42_77 : mj_fld 42 77 = some (8, 3, .int, true) := by decide +kernel
set_option maxRecDepth 100000 in
theorem ji_42_38 : mj_ins 42 38 = some (.tableswitch 39 13 16 #[30, 33, 39, 36]) := by decide +kernel
set_option maxRecDepth 100000 in
theorem ji_42_68 : mj_ins 42 68 = some (.bipush 124) := by decide +kernel
set_option maxRecDepth 100000 in
theorem ji_42_70 : mj_ins 42 70 = some (.ireturn) := by decide +kernel
set_option maxRecDepth 100000 in
theorem jr_42 : mj_ret 42 = some .int := by decide +kernel
set_option maxRecDepth 100000 in
theorem ji_42_71 : mj_ins 42 71 = some (.bipush 38) := by decide +kernel
set_option maxRecDepth 100000 in
theorem ji_42_73 : mj_ins 42 73 = some (.ireturn) := by decide +kernel
set_option maxRecDepth 100000 in
theorem ji_42_77 : mj_ins 42 77 = some (.iconst (-1)) := by decide +kernel
set_option maxRecDepth 100000 in
theorem ji_42_78 : mj_ins 42 78 = some (.ireturn) := by decide +kernel
set_option maxRecDepth 100000 in
theorem ji_42_74 : mj_ins 42 74 = some (.bipush 91) := by decide +kernel
set_option maxRecDepth 100000 in
theorem ji_42_76 : mj_ins 42 76 = some (.ireturn) := by decide +kernel
set_option maxRecDepth 100000 in
theorem ji_42_29 : mj_ins 42 29 = some (.iconst (-1)) := by decide +kernel
set_option maxRecDepth 100000 in
theorem ji_42_30 : mj_ins 42 30 = some (.ireturn) := by decide +kernel
set_option maxRecDepth 100000 in
theorem ji_42_11 : mj_ins 42 11 = some (.aload_n 0) := by decide +kernel
set_option maxRecDepth 100000 in
theorem ji_42_12 : mj_ins 42 12 = some (.getfield 47) := by decide +kernel
set_option maxRecDepth 100000 in
theorem ji_42_15 : mj_ins 42 15 = some (.getfield 77) := by decide +kernel
set_option maxRecDepth 100000 in
theorem ji_42_18 : mj_ins 42 18 = some (.ireturn) := by decide +kernel
/-! the class's reader: what a token does in a law; laid by program (wp_cread2.py) -/
theorem wc_open {nn d : Nat} {c : Int} {h0 h : mj_H} {bl fr : List Value} {t : Nat} {w : List Int} {L k v s p f q law st ls as_ cl : Int} (ht : 12 ≤ t ∧ t ≤ 33) (V : cH h0 h bl t L k v s p f q law st w ls as_ cl fr) (hw : w.length ≤ 39) (hc : c = 40 ∨ c = 91 ∨ c = 110 ∨ c = 33) : wl_R nn (d + 1) 38 0 [some (.ref 93), some (wp_i c)] [] h (fun v1 h1 => v1 = none ∧ ((opn w = 8 ∧ cH h0 h1 bl t L k v s p 3 s law st w ls as_ cl fr) ∨ (¬ opn w = 8 ∧ cH h0 h1 bl t L k v s p f q law (if c = 33 then 0 else 1) (c :: w) ls as_ cl fr))) := by
  obtain ⟨ws, e, hlen, V⟩ := V
  have hop := opn_0 w
  have hbr := brn_0 w
  refine wl_s (pc' := 1) ji_38_0 rfl rfl rfl ?_
  refine cl_g V ji_38_1 jf_38_35 rfl ?_
  refine wl_bp ji_38_4 rfl ?_
  refine wl_icmp (t := 15) ji_38_6 rfl (by omega) (by omega) (fun (hb1 : ¬ (opn w : Int) = 8) => ?_) (fun (hb1 : ¬ (¬ (opn w : Int) = 8)) => ?_)
  · refine wl_s (pc' := 16) ji_38_15 rfl rfl rfl ?_
    refine wl_s (pc' := 17) ji_38_16 rfl rfl rfl ?_
    refine cl_g V ji_38_17 jf_38_35 rfl ?_
    refine wl_s (pc' := 21) ji_38_20 rfl rfl rfl ?_
    refine wl_iadd (x := opn w) (y := 1) (z := opn w + 1) ji_38_21 (by omega) ?_
    refine cl_p (y := opn w + 1) (f' := f) (q' := q) (law' := law) (st' := st) (wn' := (w.length : Int)) (op' := opn w + 1) (br' := brn w) (ls' := ls) (as_' := as_) ht V ji_38_22 jf_38_35 (by decide) rfl rfl rfl (fun h V => ?_)
    refine wl_s (pc' := 26) ji_38_25 rfl rfl rfl ?_
    refine wl_bp ji_38_26 rfl ?_
    refine wl_icmp (t := 37) ji_38_28 rfl (by omega) (by omega) (fun (hb2 : (c : Int) = 40) => ?_) (fun (hb2 : ¬ ((c : Int) = 40)) => ?_)
    · refine wl_s (pc' := 38) ji_38_37 rfl rfl rfl ?_
      refine wl_s (pc' := 39) ji_38_38 rfl rfl rfl ?_
      refine cl_g V ji_38_39 jf_38_38 rfl ?_
      refine wl_s (pc' := 43) ji_38_42 rfl rfl rfl ?_
      refine wl_iadd (x := brn w) (y := 1) (z := brn w + 1) ji_38_43 (by omega) ?_
      refine cl_p (y := brn w + 1) (f' := f) (q' := q) (law' := law) (st' := st) (wn' := (w.length : Int)) (op' := opn w + 1) (br' := brn w + 1) (ls' := ls) (as_' := as_) ht V ji_38_44 jf_38_38 (by decide) rfl rfl rfl (fun h V => ?_)
      refine wl_s (pc' := 48) ji_38_47 rfl rfl rfl ?_
      refine wl_s (pc' := 49) ji_38_48 rfl rfl rfl ?_
      refine wl_vc (d := d) (as := [.ref 93, wp_i c]) (rest := []) ji_38_49 jc_38_148 rfl (cl_93 V) jk_39.symm (Nat.le_of_ble_eq_true rfl) rfl (by rw [jn_39]; rfl) (wc_aw (c := c) ht V e (by omega) (by omega)) (fun v1 h1 R => ?_)
      obtain ⟨rfl, ws', e', V⟩ := R
      show wl_R _ _ 38 52 [some (.ref 93), some (wp_i c)] [] h1 _
      refine wl_s (pc' := 53) ji_38_52 rfl rfl rfl ?_
      refine wl_s (pc' := 54) ji_38_53 rfl rfl rfl ?_
      refine wl_bp ji_38_54 rfl ?_
      refine wl_icmp (t := 63) ji_38_56 rfl (by omega) (by omega) (fun (hb3 : ¬ (c : Int) = 33) => ?_) (fun (hb3 : ¬ (¬ (c : Int) = 33)) => ?_)
      · refine wl_s (pc' := 64) ji_38_63 rfl rfl rfl ?_
        refine cl_p (y := 1) (f' := f) (q' := q) (law' := law) (st' := 1) (wn' := (w.length : Int) + 1) (op' := opn w + 1) (br' := brn w + 1) (ls' := ls) (as_' := as_) ht V ji_38_64 jf_38_25 (by decide) rfl rfl rfl (fun h V => ?_)
        rw [show opn w + 1 = opn (c :: w) by show _ = opn w + opc c; unfold opc; rw [if_pos (by omega)], show brn w + 1 = brn (c :: w) by show _ = brn w + brc c; unfold brc; rw [if_pos (by omega)]] at V
        exact wl_rv ji_38_67 jr_38 ⟨rfl, Or.inr ⟨by omega, ws', e', by show w.length + 1 ≤ 40; omega, by rw [show (if c = 33 then (0 : Int) else 1) = 1 from if_neg (by omega)]; exact V⟩⟩
      · refine wl_s (pc' := 60) ji_38_59 rfl rfl rfl ?_
        refine wl_goto (t := 64) ji_38_60 rfl ?_
        refine cl_p (y := 0) (f' := f) (q' := q) (law' := law) (st' := 0) (wn' := (w.length : Int) + 1) (op' := opn w + 1) (br' := brn w + 1) (ls' := ls) (as_' := as_) ht V ji_38_64 jf_38_25 (by decide) rfl rfl rfl (fun h V => ?_)
        rw [show opn w + 1 = opn (c :: w) by show _ = opn w + opc c; unfold opc; rw [if_pos (by omega)], show brn w + 1 = brn (c :: w) by show _ = brn w + brc c; unfold brc; rw [if_pos (by omega)]] at V
        exact wl_rv ji_38_67 jr_38 ⟨rfl, Or.inr ⟨by omega, ws', e', by show w.length + 1 ≤ 40; omega, by rw [show (if c = 33 then (0 : Int) else 1) = 0 from if_pos (by omega)]; exact V⟩⟩
    · refine wl_s (pc' := 32) ji_38_31 rfl rfl rfl ?_
      refine wl_bp ji_38_32 rfl ?_
      refine wl_icmp (t := 47) ji_38_34 rfl (by omega) (by omega) (fun (hb4 : ¬ (c : Int) = 91) => ?_) (fun (hb4 : ¬ (¬ (c : Int) = 91)) => ?_)
      · refine wl_s (pc' := 48) ji_38_47 rfl rfl rfl ?_
        refine wl_s (pc' := 49) ji_38_48 rfl rfl rfl ?_
        refine wl_vc (d := d) (as := [.ref 93, wp_i c]) (rest := []) ji_38_49 jc_38_148 rfl (cl_93 V) jk_39.symm (Nat.le_of_ble_eq_true rfl) rfl (by rw [jn_39]; rfl) (wc_aw (c := c) ht V e (by omega) (by omega)) (fun v1 h1 R => ?_)
        obtain ⟨rfl, ws', e', V⟩ := R
        show wl_R _ _ 38 52 [some (.ref 93), some (wp_i c)] [] h1 _
        refine wl_s (pc' := 53) ji_38_52 rfl rfl rfl ?_
        refine wl_s (pc' := 54) ji_38_53 rfl rfl rfl ?_
        refine wl_bp ji_38_54 rfl ?_
        refine wl_icmp (t := 63) ji_38_56 rfl (by omega) (by omega) (fun (hb5 : ¬ (c : Int) = 33) => ?_) (fun (hb5 : ¬ (¬ (c : Int) = 33)) => ?_)
        · refine wl_s (pc' := 64) ji_38_63 rfl rfl rfl ?_
          refine cl_p (y := 1) (f' := f) (q' := q) (law' := law) (st' := 1) (wn' := (w.length : Int) + 1) (op' := opn w + 1) (br' := brn w) (ls' := ls) (as_' := as_) ht V ji_38_64 jf_38_25 (by decide) rfl rfl rfl (fun h V => ?_)
          rw [show opn w + 1 = opn (c :: w) by show _ = opn w + opc c; unfold opc; rw [if_pos (by omega)], show brn w = brn (c :: w) by show _ = brn w + brc c; unfold brc; rw [if_neg (by omega)]; omega] at V
          exact wl_rv ji_38_67 jr_38 ⟨rfl, Or.inr ⟨by omega, ws', e', by show w.length + 1 ≤ 40; omega, by rw [show (if c = 33 then (0 : Int) else 1) = 1 from if_neg (by omega)]; exact V⟩⟩
        · refine wl_s (pc' := 60) ji_38_59 rfl rfl rfl ?_
          refine wl_goto (t := 64) ji_38_60 rfl ?_
          refine cl_p (y := 0) (f' := f) (q' := q) (law' := law) (st' := 0) (wn' := (w.length : Int) + 1) (op' := opn w + 1) (br' := brn w) (ls' := ls) (as_' := as_) ht V ji_38_64 jf_38_25 (by decide) rfl rfl rfl (fun h V => ?_)
          rw [show opn w + 1 = opn (c :: w) by show _ = opn w + opc c; unfold opc; rw [if_pos (by omega)], show brn w = brn (c :: w) by show _ = brn w + brc c; unfold brc; rw [if_neg (by omega)]; omega] at V
          exact wl_rv ji_38_67 jr_38 ⟨rfl, Or.inr ⟨by omega, ws', e', by show w.length + 1 ≤ 40; omega, by rw [show (if c = 33 then (0 : Int) else 1) = 0 from if_pos (by omega)]; exact V⟩⟩
      · refine wl_s (pc' := 38) ji_38_37 rfl rfl rfl ?_
        refine wl_s (pc' := 39) ji_38_38 rfl rfl rfl ?_
        refine cl_g V ji_38_39 jf_38_38 rfl ?_
        refine wl_s (pc' := 43) ji_38_42 rfl rfl rfl ?_
        refine wl_iadd (x := brn w) (y := 1) (z := brn w + 1) ji_38_43 (by omega) ?_
        refine cl_p (y := brn w + 1) (f' := f) (q' := q) (law' := law) (st' := st) (wn' := (w.length : Int)) (op' := opn w + 1) (br' := brn w + 1) (ls' := ls) (as_' := as_) ht V ji_38_44 jf_38_38 (by decide) rfl rfl rfl (fun h V => ?_)
        refine wl_s (pc' := 48) ji_38_47 rfl rfl rfl ?_
        refine wl_s (pc' := 49) ji_38_48 rfl rfl rfl ?_
        refine wl_vc (d := d) (as := [.ref 93, wp_i c]) (rest := []) ji_38_49 jc_38_148 rfl (cl_93 V) jk_39.symm (Nat.le_of_ble_eq_true rfl) rfl (by rw [jn_39]; rfl) (wc_aw (c := c) ht V e (by omega) (by omega)) (fun v1 h1 R => ?_)
        obtain ⟨rfl, ws', e', V⟩ := R
        show wl_R _ _ 38 52 [some (.ref 93), some (wp_i c)] [] h1 _
        refine wl_s (pc' := 53) ji_38_52 rfl rfl rfl ?_
        refine wl_s (pc' := 54) ji_38_53 rfl rfl rfl ?_
        refine wl_bp ji_38_54 rfl ?_
        refine wl_icmp (t := 63) ji_38_56 rfl (by omega) (by omega) (fun (hb6 : ¬ (c : Int) = 33) => ?_) (fun (hb6 : ¬ (¬ (c : Int) = 33)) => ?_)
        · refine wl_s (pc' := 64) ji_38_63 rfl rfl rfl ?_
          refine cl_p (y := 1) (f' := f) (q' := q) (law' := law) (st' := 1) (wn' := (w.length : Int) + 1) (op' := opn w + 1) (br' := brn w + 1) (ls' := ls) (as_' := as_) ht V ji_38_64 jf_38_25 (by decide) rfl rfl rfl (fun h V => ?_)
          rw [show opn w + 1 = opn (c :: w) by show _ = opn w + opc c; unfold opc; rw [if_pos (by omega)], show brn w + 1 = brn (c :: w) by show _ = brn w + brc c; unfold brc; rw [if_pos (by omega)]] at V
          exact wl_rv ji_38_67 jr_38 ⟨rfl, Or.inr ⟨by omega, ws', e', by show w.length + 1 ≤ 40; omega, by rw [show (if c = 33 then (0 : Int) else 1) = 1 from if_neg (by omega)]; exact V⟩⟩
        · refine wl_s (pc' := 60) ji_38_59 rfl rfl rfl ?_
          refine wl_goto (t := 64) ji_38_60 rfl ?_
          refine cl_p (y := 0) (f' := f) (q' := q) (law' := law) (st' := 0) (wn' := (w.length : Int) + 1) (op' := opn w + 1) (br' := brn w + 1) (ls' := ls) (as_' := as_) ht V ji_38_64 jf_38_25 (by decide) rfl rfl rfl (fun h V => ?_)
          rw [show opn w + 1 = opn (c :: w) by show _ = opn w + opc c; unfold opc; rw [if_pos (by omega)], show brn w + 1 = brn (c :: w) by show _ = brn w + brc c; unfold brc; rw [if_pos (by omega)]] at V
          exact wl_rv ji_38_67 jr_38 ⟨rfl, Or.inr ⟨by omega, ws', e', by show w.length + 1 ≤ 40; omega, by rw [show (if c = 33 then (0 : Int) else 1) = 0 from if_pos (by omega)]; exact V⟩⟩
  · refine wl_s (pc' := 10) ji_38_9 rfl rfl rfl ?_
    refine wl_s (pc' := 11) ji_38_10 rfl rfl rfl ?_
    refine wl_vc (d := d) (as := [.ref 93, wp_i 3]) (rest := []) ji_38_11 jc_38_80 rfl (cl_93 V) jk_31.symm (Nat.le_of_ble_eq_true rfl) rfl (by rw [jn_31]; rfl) (wc_fail ht V) (fun v1 h1 R => ?_)
    obtain ⟨rfl, V⟩ := R
    show wl_R _ _ 38 14 [some (.ref 93), some (wp_i c)] [] h1 _
    exact wl_rv ji_38_14 jr_38 ⟨rfl, Or.inl ⟨by omega, ws, e, hlen, V⟩⟩
theorem wc_com {nn d : Nat} {h0 h : mj_H} {bl fr : List Value} {t : Nat} {w : List Int} {L k v s p f q law st ls as_ cl : Int} (ht : 12 ≤ t ∧ t ≤ 33) (V : cH h0 h bl t L k v s p f q law st w ls as_ cl fr) (hls : 0 ≤ ls ∧ ls ≤ 100) : wl_R nn (d + 1) 48 0 [some (.ref 93)] [] h (fun v1 h1 => v1 = none ∧ ((ls = 6 ∧ cH h0 h1 bl t L k v s p 7 s law st w ls as_ cl fr) ∨ (¬ ls = 6 ∧ cH h0 h1 bl t L k v s p f q law 1 w (ls + 1) as_ cl fr))) := by
  obtain ⟨ws, e, hlen, V⟩ := V
  have hop := opn_0 w
  have hbr := brn_0 w
  refine wl_s (pc' := 1) ji_48_0 rfl rfl rfl ?_
  refine cl_g V ji_48_1 jf_48_41 rfl ?_
  refine wl_bp ji_48_4 rfl ?_
  refine wl_icmp (t := 18) ji_48_6 rfl (by omega) (by omega) (fun (hb1 : ¬ (ls : Int) = 6) => ?_) (fun (hb1 : ¬ (¬ (ls : Int) = 6)) => ?_)
  · refine wl_s (pc' := 19) ji_48_18 rfl rfl rfl ?_
    refine wl_s (pc' := 20) ji_48_19 rfl rfl rfl ?_
    refine cl_g V ji_48_20 jf_48_41 rfl ?_
    refine wl_s (pc' := 24) ji_48_23 rfl rfl rfl ?_
    refine wl_iadd (x := ls) (y := 1) (z := ls + 1) ji_48_24 (by omega) ?_
    refine cl_p (y := ls + 1) (f' := f) (q' := q) (law' := law) (st' := st) (wn' := (w.length : Int)) (op' := opn w) (br' := brn w) (ls' := ls + 1) (as_' := as_) ht V ji_48_25 jf_48_41 (by decide) rfl rfl rfl (fun h V => ?_)
    refine wl_s (pc' := 29) ji_48_28 rfl rfl rfl ?_
    refine wl_s (pc' := 30) ji_48_29 rfl rfl rfl ?_
    refine cl_p (y := 1) (f' := f) (q' := q) (law' := law) (st' := 1) (wn' := (w.length : Int)) (op' := opn w) (br' := brn w) (ls' := ls + 1) (as_' := as_) ht V ji_48_30 jf_48_25 (by decide) rfl rfl rfl (fun h V => ?_)
    exact wl_rv ji_48_33 jr_48 ⟨rfl, Or.inr ⟨by omega, ws, e, hlen, V⟩⟩
  · refine wl_s (pc' := 10) ji_48_9 rfl rfl rfl ?_
    refine wl_bp ji_48_10 rfl ?_
    refine wl_vc (d := d) (as := [.ref 93, wp_i 7]) (rest := []) ji_48_12 jc_48_80 rfl (cl_93 V) jk_31.symm (Nat.le_of_ble_eq_true rfl) rfl (by rw [jn_31]; rfl) (wc_fail ht V) (fun v1 h1 R => ?_)
    obtain ⟨rfl, V⟩ := R
    show wl_R _ _ 48 15 [some (.ref 93)] [] h1 _
    refine wl_goto (t := 33) ji_48_15 rfl ?_
    exact wl_rv ji_48_33 jr_48 ⟨rfl, Or.inl ⟨by omega, ws, e, hlen, V⟩⟩
theorem wc_jb {nn d : Nat} {c r x : Int} {h0 h : mj_H} {bl fr : List Value} {t : Nat} {w : List Int} {L k v s p f q law st ls as_ cl : Int} (ht : 12 ≤ t ∧ t ≤ 33) (V : cH h0 h bl t L k v s p f q law st w ls as_ cl fr) (hr : 1 ≤ r ∧ r ≤ 7) (hw : (jwt r w).length ≤ 39) (hc : (0 ≤ c ∧ c ≤ 200) ∧ opc c = 0 ∧ brc c = 0) : wl_R nn (d + 2) 44 0 [some (.ref 93), some (wp_i c), some (wp_i r), some (wp_i x)] [] h (fun v1 h1 => v1 = none ∧ cH h0 h1 bl t L k v s p f q law x (c :: jwt r w) ls as_ cl fr) := by
  obtain ⟨ws, e, hlen, V⟩ := V
  refine wl_s (pc' := 1) ji_44_0 rfl rfl rfl ?_
  refine wl_s (pc' := 2) ji_44_1 rfl rfl rfl ?_
  refine wl_vc (d := d + 1) (as := [.ref 93, wp_i r]) (rest := []) ji_44_2 jc_44_162 rfl (cl_93 V) jk_45.symm (Nat.le_of_ble_eq_true rfl) rfl (by rw [jn_45]; rfl) (wc_jw ht hr nn w _ none ⟨ws, e, hlen, V⟩) (fun v1 h1 R => ?_)
  obtain ⟨rfl, V⟩ := R
  obtain ⟨ws1, e, hlen, V⟩ := V
  show wl_R _ _ 44 5 [some (.ref 93), some (wp_i c), some (wp_i r), some (wp_i x)] [] h1 _
  refine wl_s (pc' := 6) ji_44_5 rfl rfl rfl ?_
  refine wl_s (pc' := 7) ji_44_6 rfl rfl rfl ?_
  refine wl_vc (d := d + 1) (as := [.ref 93, wp_i c]) (rest := []) ji_44_7 jc_44_148 rfl (cl_93 V) jk_39.symm (Nat.le_of_ble_eq_true rfl) rfl (by rw [jn_39]; rfl) (wc_aw (c := c) ht V e hw (by omega)) (fun v1 h2 R => ?_)
  obtain ⟨rfl, ws', e', V⟩ := R
  show wl_R _ _ 44 10 [some (.ref 93), some (wp_i c), some (wp_i r), some (wp_i x)] [] h2 _
  refine wl_s (pc' := 11) ji_44_10 rfl rfl rfl ?_
  refine wl_s (pc' := 12) ji_44_11 rfl rfl rfl ?_
  refine cl_p (y := x) (f' := f) (q' := q) (law' := law) (st' := x) (wn' := ((jwt r w).length : Int) + 1) (op' := opn (jwt r w)) (br' := brn (jwt r w)) (ls' := ls) (as_' := as_) ht V ji_44_12 jf_44_25 (by decide) rfl rfl rfl (fun h V => ?_)
  rw [show opn (jwt r w) = opn (c :: jwt r w) by show _ = opn (jwt r w) + opc c; rw [hc.2.1, Int.add_zero], show brn (jwt r w) = brn (c :: jwt r w) by show _ = brn (jwt r w) + brc c; rw [hc.2.2, Int.add_zero]] at V
  exact wl_rv ji_44_15 jr_44 ⟨rfl, ws', e', by show (jwt r w).length + 1 ≤ 40; omega, V⟩
theorem wc_inl {nn d : Nat} {h0 h : mj_H} {bl fr : List Value} {t : Nat} {w : List Int} {L k v s p f q law st ls as_ cl : Int} (ht : 12 ≤ t ∧ t ≤ 33) (V : cH h0 h bl t L k v s p f q law st w ls as_ cl fr) : wl_R nn (d + 2) 47 0 [some (.ref 93)] [] h (fun v1 h1 => cH h0 h1 bl t L k v s p f q law st (jwt 5 w) ls as_ cl fr ∧ ∃ y : Int, v1 = some (wp_i y) ∧ (y = 0 ∨ y = 1) ∧ (y = 1 ↔ ∃ w1, jwt 5 w = 91 :: w1)) := by
  obtain ⟨ws, e, hlen, V⟩ := V
  refine wl_s (pc' := 1) ji_47_0 rfl rfl rfl ?_
  refine wl_s (pc' := 2) ji_47_1 rfl rfl rfl ?_
  refine wl_vc (d := d + 1) (as := [.ref 93, wp_i 5]) (rest := []) ji_47_2 jc_47_162 rfl (cl_93 V) jk_45.symm (Nat.le_of_ble_eq_true rfl) rfl (by rw [jn_45]; rfl) (wc_jw ht (by omega) nn w _ none ⟨ws, e, hlen, V⟩) (fun v1 h1 R => ?_)
  obtain ⟨rfl, V⟩ := R
  show wl_R _ _ 47 5 [some (.ref 93)] [] h1 _
  obtain ⟨w0, hw0⟩ : ∃ w0, jwt 5 w = w0 := ⟨_, rfl⟩
  rw [hw0] at V
  rw [hw0]
  obtain ⟨ws, e, hlen, V⟩ := V
  cases w0 with
  | nil =>
    have V : cL h0 h1 bl t L k v s p f q law st 0 0 0 ls as_ cl ws fr := V
    refine wl_s (pc' := 6) ji_47_5 rfl rfl rfl ?_
    refine cl_g V ji_47_6 jf_47_32 rfl ?_
    refine wl_if (t := 32) ji_47_9 rfl (by omega) (fun (hb1 : (0 : Int) ≤ 0) => ?_) (fun (hb1 : ¬ ((0 : Int) ≤ 0)) => (by exfalso; omega))
    refine wl_s (pc' := 33) ji_47_32 rfl rfl rfl ?_
    exact wl_ri ji_47_33 jr_47 rfl ⟨⟨ws, e, hlen, V⟩, 0, rfl, by omega, ⟨fun x => by omega, fun x => by obtain ⟨w1, x⟩ := x; cases x⟩⟩
  | cons c w1 =>
    obtain ⟨⟨e1, e1b⟩, e2⟩ := e
    have hop := opn_0 w1
    have hbr := brn_0 w1
    have hlen1 : w1.length + 1 ≤ 40 := hlen
    have hoc : 0 ≤ opc c ∧ opc c ≤ 1 := by unfold opc; split <;> omega
    have hbc : 0 ≤ brc c ∧ brc c ≤ 1 := by unfold brc; split <;> omega
    have V : cL h0 h1 bl t L k v s p f q law st ((w1.length : Int) + 1) (opn w1 + opc c) (brn w1 + brc c) ls as_ cl ws fr := V
    refine wl_s (pc' := 6) ji_47_5 rfl rfl rfl ?_
    refine cl_g V ji_47_6 jf_47_32 rfl ?_
    refine wl_if (t := 32) ji_47_9 rfl (by omega) (fun (hb1 : ((w1.length : Int) + 1 : Int) ≤ 0) => (by exfalso; omega)) (fun (hb1 : ¬ (((w1.length : Int) + 1 : Int) ≤ 0)) => ?_)
    refine wl_s (pc' := 13) ji_47_12 rfl rfl rfl ?_
    refine cl_g V ji_47_13 jf_47_28 rfl ?_
    refine wl_s (pc' := 17) ji_47_16 rfl rfl rfl ?_
    refine cl_g V ji_47_17 jf_47_32 rfl ?_
    refine wl_s (pc' := 21) ji_47_20 rfl rfl rfl ?_
    refine wl_isub (x := (w1.length : Int) + 1) (y := 1) (z := (w1.length : Int) + 1 - 1) ji_47_21 (by omega) ?_
    refine cl_l (x := (w1.length : Int) + 1 - 1) V (by omega) ji_47_22 (fun y y1 y2 y3 => ?_)
    rw [show ((w1.length : Int) + 1 - 1).toNat = w1.length by omega, e1] at y3
    cases y3
    refine wl_bp ji_47_23 rfl ?_
    refine wl_icmp (t := 32) ji_47_25 rfl (by omega) (by omega) (fun (hb2 : ¬ (c : Int) = 91) => ?_) (fun (hb2 : ¬ (¬ (c : Int) = 91)) => ?_)
    · refine wl_s (pc' := 33) ji_47_32 rfl rfl rfl ?_
      exact wl_ri ji_47_33 jr_47 rfl ⟨⟨ws, ⟨⟨e1, e1b⟩, e2⟩, hlen, V⟩, 0, rfl, by omega, ⟨fun x => ⟨w1, by rw [show c = 91 by omega]⟩, fun x => by obtain ⟨w2, x⟩ := x; injection x with x1 x2; omega⟩⟩
    · refine wl_s (pc' := 29) ji_47_28 rfl rfl rfl ?_
      refine wl_goto (t := 33) ji_47_29 rfl ?_
      exact wl_ri ji_47_33 jr_47 rfl ⟨⟨ws, ⟨⟨e1, e1b⟩, e2⟩, hlen, V⟩, 1, rfl, by omega, ⟨fun x => ⟨w1, by rw [show c = 91 by omega]⟩, fun x => by obtain ⟨w2, x⟩ := x; injection x with x1 x2; omega⟩⟩
theorem wc_cls {nn d : Nat} {h0 h : mj_H} {bl fr : List Value} {t : Nat} {w : List Int} {L k v s p f q law st ls as_ cl : Int} (ht : 12 ≤ t ∧ t ≤ 33) (V : cH h0 h bl t L k v s p f q law st w ls as_ cl fr) (hls : 0 ≤ ls ∧ ls ≤ 100) (hbk : ∀ c w1, jwt 5 w = c :: w1 → c = 40 ∨ c = 91) (hne : ¬ jwt 5 w = []) : wl_R nn (d + 2) 46 0 [some (.ref 93)] [] h (fun v1 h1 => v1 = none ∧ ∃ c w1, jwt 5 w = c :: w1 ∧ cH h0 h1 bl t L k v s p f q law (if c = 91 then 4 else 2) w1 ls as_ cl fr) := by
  obtain ⟨ws, e, hlen, V⟩ := V
  refine wl_s (pc' := 1) ji_46_0 rfl rfl rfl ?_
  refine wl_s (pc' := 2) ji_46_1 rfl rfl rfl ?_
  refine wl_vc (d := d + 1) (as := [.ref 93, wp_i 5]) (rest := []) ji_46_2 jc_46_162 rfl (cl_93 V) jk_45.symm (Nat.le_of_ble_eq_true rfl) rfl (by rw [jn_45]; rfl) (wc_jw ht (by omega) nn w _ none ⟨ws, e, hlen, V⟩) (fun v1 h1 R => ?_)
  obtain ⟨rfl, V⟩ := R
  show wl_R _ _ 46 5 [some (.ref 93)] [] h1 _
  obtain ⟨w0, hw0⟩ : ∃ w0, jwt 5 w = w0 := ⟨_, rfl⟩
  rw [hw0] at V
  rw [hw0] at hbk hne ⊢
  obtain ⟨ws, e, hlen, V⟩ := V
  cases w0 with
  | nil =>
    have V : cL h0 h1 bl t L k v s p f q law st 0 0 0 ls as_ cl ws fr := V
    exact absurd rfl hne
  | cons c w1 =>
    obtain ⟨⟨e1, e1b⟩, e2⟩ := e
    have hop := opn_0 w1
    have hbr := brn_0 w1
    have hlen1 : w1.length + 1 ≤ 40 := hlen
    have hoc : 0 ≤ opc c ∧ opc c ≤ 1 := by unfold opc; split <;> omega
    have hbc : 0 ≤ brc c ∧ brc c ≤ 1 := by unfold brc; split <;> omega
    have V : cL h0 h1 bl t L k v s p f q law st ((w1.length : Int) + 1) (opn w1 + opc c) (brn w1 + brc c) ls as_ cl ws fr := V
    refine wl_s (pc' := 6) ji_46_5 rfl rfl rfl ?_
    refine cl_g V ji_46_6 jf_46_32 rfl ?_
    refine wl_if (t := 18) ji_46_9 rfl (by omega) (fun (hb1 : ¬ ((w1.length : Int) + 1 : Int) = 0) => ?_) (fun (hb1 : ¬ (¬ ((w1.length : Int) + 1 : Int) = 0)) => (by exfalso; omega))
    refine wl_s (pc' := 19) ji_46_18 rfl rfl rfl ?_
    refine wl_s (pc' := 20) ji_46_19 rfl rfl rfl ?_
    refine cl_g V ji_46_20 jf_46_32 rfl ?_
    refine wl_s (pc' := 24) ji_46_23 rfl rfl rfl ?_
    refine wl_isub (x := (w1.length : Int) + 1) (y := 1) (z := (w1.length : Int) + 1 - 1) ji_46_24 (by omega) ?_
    refine cl_p (y := (w1.length : Int) + 1 - 1) (f' := f) (q' := q) (law' := law) (st' := st) (wn' := (w1.length : Int) + 1 - 1) (op' := opn w1 + opc c) (br' := brn w1 + brc c) (ls' := ls) (as_' := as_) ht V ji_46_25 jf_46_32 (by decide) rfl rfl rfl (fun h V => ?_)
    refine wl_s (pc' := 29) ji_46_28 rfl rfl rfl ?_
    refine wl_s (pc' := 30) ji_46_29 rfl rfl rfl ?_
    refine cl_g V ji_46_30 jf_46_35 rfl ?_
    refine wl_s (pc' := 34) ji_46_33 rfl rfl rfl ?_
    refine wl_isub (x := opn w1 + opc c) (y := 1) (z := opn w1 + opc c - 1) ji_46_34 (by omega) ?_
    refine cl_p (y := opn w1 + opc c - 1) (f' := f) (q' := q) (law' := law) (st' := st) (wn' := (w1.length : Int) + 1 - 1) (op' := opn w1 + opc c - 1) (br' := brn w1 + brc c) (ls' := ls) (as_' := as_) ht V ji_46_35 jf_46_35 (by decide) rfl rfl rfl (fun h V => ?_)
    refine wl_s (pc' := 39) ji_46_38 rfl rfl rfl ?_
    refine wl_s (pc' := 40) ji_46_39 rfl rfl rfl ?_
    refine cl_g V ji_46_40 jf_46_38 rfl ?_
    refine wl_s (pc' := 44) ji_46_43 rfl rfl rfl ?_
    refine wl_isub (x := brn w1 + brc c) (y := 1) (z := brn w1 + brc c - 1) ji_46_44 (by omega) ?_
    refine cl_p (y := brn w1 + brc c - 1) (f' := f) (q' := q) (law' := law) (st' := st) (wn' := (w1.length : Int) + 1 - 1) (op' := opn w1 + opc c - 1) (br' := brn w1 + brc c - 1) (ls' := ls) (as_' := as_) ht V ji_46_45 jf_46_38 (by decide) rfl rfl rfl (fun h V => ?_)
    refine wl_s (pc' := 49) ji_46_48 rfl rfl rfl ?_
    refine wl_s (pc' := 50) ji_46_49 rfl rfl rfl ?_
    refine cl_p (y := 2) (f' := f) (q' := q) (law' := law) (st' := 2) (wn' := (w1.length : Int) + 1 - 1) (op' := opn w1 + opc c - 1) (br' := brn w1 + brc c - 1) (ls' := ls) (as_' := as_) ht V ji_46_50 jf_46_25 (by decide) rfl rfl rfl (fun h V => ?_)
    refine wl_s (pc' := 54) ji_46_53 rfl rfl rfl ?_
    refine cl_g V ji_46_54 jf_46_28 rfl ?_
    refine wl_s (pc' := 58) ji_46_57 rfl rfl rfl ?_
    refine cl_g V ji_46_58 jf_46_32 rfl ?_
    refine cl_l (x := (w1.length : Int) + 1 - 1) V (by omega) ji_46_61 (fun y y1 y2 y3 => ?_)
    rw [show ((w1.length : Int) + 1 - 1).toNat = w1.length by omega, e1] at y3
    cases y3
    refine wl_bp ji_46_62 rfl ?_
    refine wl_icmp (t := 87) ji_46_64 rfl (by omega) (by omega) (fun (hb2 : ¬ (c : Int) = 91) => ?_) (fun (hb2 : ¬ (¬ (c : Int) = 91)) => ?_)
    · have hb := hbk c w1 rfl
      rw [show opn w1 + opc c - 1 = opn w1 by unfold opc; rw [if_pos (by omega)]; omega, show brn w1 + brc c - 1 = brn w1 by unfold brc; rw [if_pos (by omega)]; omega, show (w1.length : Int) + 1 - 1 = (w1.length : Int) by omega] at V
      exact wl_rv ji_46_87 jr_46 ⟨rfl, c, w1, rfl, ws, e2, by omega, by rw [show (if c = 91 then (4 : Int) else 2) = 2 from if_neg (by omega)]; exact V⟩
    · refine wl_s (pc' := 68) ji_46_67 rfl rfl rfl ?_
      refine cl_g V ji_46_68 jf_46_51 rfl ?_
      refine wl_sp ji_46_71 rfl ?_
      refine wl_s (pc' := 75) ji_46_74 rfl rfl rfl ?_
      refine cl_g V ji_46_75 jf_46_41 rfl ?_
      refine wl_iadd (x := 30000) (y := ls) (z := 30000 + ls) ji_46_78 (by omega) ?_
      obtain ⟨tfs, htc⟩ := cl_tc V
      refine wl_vc (d := d + 1) (as := [.ref t, wp_i (30000 + ls)]) (rest := []) ji_46_79 jc_46_139 rfl htc jk_36.symm (Nat.le_of_ble_eq_true rfl) rfl (by rw [jn_36]; rfl) (wc_write ht V) (fun v1 h2 R => ?_)
      obtain ⟨rfl, V⟩ := R
      show wl_R _ _ 46 82 [some (.ref 93)] [] h2 _
      refine wl_s (pc' := 83) ji_46_82 rfl rfl rfl ?_
      refine wl_s (pc' := 84) ji_46_83 rfl rfl rfl ?_
      refine cl_p (y := 4) (f' := f) (q' := q) (law' := law) (st' := 4) (wn' := (w1.length : Int) + 1 - 1) (op' := opn w1 + opc c - 1) (br' := brn w1 + brc c - 1) (ls' := ls) (as_' := as_) ht V ji_46_84 jf_46_25 (by decide) rfl rfl rfl (fun h V => ?_)
      have hb := hbk c w1 rfl
      rw [show opn w1 + opc c - 1 = opn w1 by unfold opc; rw [if_pos (by omega)]; omega, show brn w1 + brc c - 1 = brn w1 by unfold brc; rw [if_pos (by omega)]; omega, show (w1.length : Int) + 1 - 1 = (w1.length : Int) by omega] at V
      exact wl_rv ji_46_87 jr_46 ⟨rfl, c, w1, rfl, ws, e2, by omega, by rw [show (if c = 91 then (4 : Int) else 2) = 4 from if_pos (by omega)]; exact V⟩
def sh (k v : Int) : Int := if k = 2 then v else if k = 0 then (if v = 13 then 124 else if v = 14 then 38 else if v = 16 then 91 else -1) else -1
theorem wc_sh {nn d : Nat} {h0 h : mj_H} {bl fr : List Value} {t : Nat} {w : List Int} {L k v s p f q law st ls as_ cl : Int} (ht : 12 ≤ t ∧ t ≤ 33) (V : cH h0 h bl t L k v s p f q law st w ls as_ cl fr) (hkv : wp_r k ∧ wp_r v) : wl_R nn d 42 0 [some (.ref 93)] [] h (fun v1 h1 => h1 = h ∧ v1 = some (wp_i (sh k v))) := by
  obtain ⟨ws, e, hlen, V⟩ := V
  have hop := opn_0 w
  have hbr := brn_0 w
  refine wl_s (pc' := 1) ji_42_0 rfl rfl rfl ?_
  refine cl_g V ji_42_1 jf_42_47 rfl ?_
  refine cl_t V ji_42_4 jf_42_68 rfl ?_
  refine wl_s (pc' := 8) ji_42_7 rfl rfl rfl ?_
  refine wl_icmp (t := 19) ji_42_8 rfl (by omega) (by omega) (fun (hb1 : ¬ (k : Int) = 2) => ?_) (fun (hb1 : ¬ (¬ (k : Int) = 2)) => ?_)
  · refine wl_s (pc' := 20) ji_42_19 rfl rfl rfl ?_
    refine cl_g V ji_42_20 jf_42_47 rfl ?_
    refine cl_t V ji_42_23 jf_42_68 rfl ?_
    refine wl_if (t := 31) ji_42_26 rfl (by omega) (fun (hb2 : (k : Int) = 0) => ?_) (fun (hb2 : ¬ ((k : Int) = 0)) => ?_)
    · refine wl_s (pc' := 32) ji_42_31 rfl rfl rfl ?_
      refine cl_g V ji_42_32 jf_42_47 rfl ?_
      refine cl_t V ji_42_35 jf_42_77 rfl ?_
      have hk0 : k = 0 := by omega
      by_cases ev13 : v = 13
      · refine wl_s (pc' := 68) (lv' := [some (.ref 93)]) (st' := []) (h' := h) ji_42_38 rfl rfl (by rw [ev13]; simp only [mj_st, wp_ti (show wp_r 13 by omega)]; rfl) ?_
        refine wl_bp ji_42_68 rfl ?_
        rw [show sh k v = 124 by unfold sh; repeat' split; all_goals omega]
        exact wl_ri ji_42_70 jr_42 rfl ⟨rfl, rfl⟩
      by_cases ev14 : v = 14
      · refine wl_s (pc' := 71) (lv' := [some (.ref 93)]) (st' := []) (h' := h) ji_42_38 rfl rfl (by rw [ev14]; simp only [mj_st, wp_ti (show wp_r 14 by omega)]; rfl) ?_
        refine wl_bp ji_42_71 rfl ?_
        rw [show sh k v = 38 by unfold sh; repeat' split; all_goals omega]
        exact wl_ri ji_42_73 jr_42 rfl ⟨rfl, rfl⟩
      by_cases ev15 : v = 15
      · refine wl_s (pc' := 77) (lv' := [some (.ref 93)]) (st' := []) (h' := h) ji_42_38 rfl rfl (by rw [ev15]; simp only [mj_st, wp_ti (show wp_r 15 by omega)]; rfl) ?_
        refine wl_s (pc' := 78) ji_42_77 rfl rfl rfl ?_
        rw [show sh k v = -1 by unfold sh; repeat' split; all_goals omega]
        exact wl_ri ji_42_78 jr_42 rfl ⟨rfl, rfl⟩
      by_cases ev16 : v = 16
      · refine wl_s (pc' := 74) (lv' := [some (.ref 93)]) (st' := []) (h' := h) ji_42_38 rfl rfl (by rw [ev16]; simp only [mj_st, wp_ti (show wp_r 16 by omega)]; rfl) ?_
        refine wl_bp ji_42_74 rfl ?_
        rw [show sh k v = 91 by unfold sh; repeat' split; all_goals omega]
        exact wl_ri ji_42_76 jr_42 rfl ⟨rfl, rfl⟩
      refine wl_s (pc' := 77) (lv' := [some (.ref 93)]) (st' := []) (h' := h) ji_42_38 rfl rfl ?_ ?_
      · simp only [mj_st, wp_ti (show wp_r v by omega)]
        by_cases hr : v < 13 ∨ 16 < v
        · rw [if_pos hr]; rfl
        · have hc2 : v = 13 ∨ v = 14 ∨ v = 15 ∨ v = 16 := by omega
          rcases hc2 with e3 | e3 | e3 | e3 <;> (subst e3; first | (exfalso; omega) | rfl)
      refine wl_s (pc' := 78) ji_42_77 rfl rfl rfl ?_
      rw [show sh k v = -1 by unfold sh; repeat' split; all_goals omega]
      exact wl_ri ji_42_78 jr_42 rfl ⟨rfl, rfl⟩
    · refine wl_s (pc' := 30) ji_42_29 rfl rfl rfl ?_
      rw [show sh k v = -1 by unfold sh; repeat' split; all_goals omega]
      exact wl_ri ji_42_30 jr_42 rfl ⟨rfl, rfl⟩
  · refine wl_s (pc' := 12) ji_42_11 rfl rfl rfl ?_
    refine cl_g V ji_42_12 jf_42_47 rfl ?_
    refine cl_t V ji_42_15 jf_42_77 rfl ?_
    rw [show sh k v = v by unfold sh; repeat' split; all_goals omega]
    exact wl_ri ji_42_18 jr_42 rfl ⟨rfl, rfl⟩
