/-! -/
/-! -/
set_option maxRecDepth 100000 in
theorem ji_80_0 : mj_ins 80 0 = some (.iload_n 1) := by decide +kernel
set_option maxRecDepth 100000 in
theorem ji_80_1 : mj_ins 80 1 = some (.ifCond .lt 15) := by decide +kernel
set_option maxRecDepth 100000 in
theorem ji_80_16 : mj_ins 80 16 = some (.iconst 0) := by decide +kernel
set_option maxRecDepth 100000 in
theorem ji_80_17 : mj_ins 80 17 = some (.ireturn) := by decide +kernel
set_option maxRecDepth 100000 in
theorem jr_80 : mj_ret 80 = some .boolean := by decide +kernel
set_option maxRecDepth 100000 in
theorem ji_80_4 : mj_ins 80 4 = some (.iload_n 1) := by decide +kernel
set_option maxRecDepth 100000 in
theorem ji_80_5 : mj_ins 80 5 = some (.aload_n 0) := by decide +kernel
set_option maxRecDepth 100000 in
theorem ji_80_6 : mj_ins 80 6 = some (.getfield 15) := by decide +kernel
set_option maxRecDepth 100000 in
theorem jf_80_15 : mj_fld 80 15 = some (3, 1, .int, true) := by decide +kernel
set_option maxRecDepth 100000 in
theorem ji_80_9 : mj_ins 80 9 = some (.if_icmp .ge 7) := by decide +kernel
set_option maxRecDepth 100000 in
theorem ji_80_12 : mj_ins 80 12 = some (.iconst 1) := by decide +kernel
set_option maxRecDepth 100000 in
theorem ji_80_13 : mj_ins 80 13 = some (.goto 4) := by decide +kernel
set_option maxRecDepth 100000 in
theorem ji_81_0 : mj_ins 81 0 = some (.iload_n 1) := by decide +kernel
set_option maxRecDepth 100000 in
theorem ji_81_1 : mj_ins 81 1 = some (.ifCond .lt 15) := by decide +kernel
set_option maxRecDepth 100000 in
theorem ji_81_16 : mj_ins 81 16 = some (.iconst 0) := by decide +kernel
set_option maxRecDepth 100000 in
theorem ji_81_17 : mj_ins 81 17 = some (.ireturn) := by decide +kernel
set_option maxRecDepth 100000 in
theorem jr_81 : mj_ret 81 = some .boolean := by decide +kernel
set_option maxRecDepth 100000 in
theorem ji_81_4 : mj_ins 81 4 = some (.iload_n 1) := by decide +kernel
set_option maxRecDepth 100000 in
theorem ji_81_5 : mj_ins 81 5 = some (.aload_n 0) := by decide +kernel
set_option maxRecDepth 100000 in
theorem ji_81_6 : mj_ins 81 6 = some (.getfield 9) := by decide +kernel
set_option maxRecDepth 100000 in
theorem jf_81_9 : mj_fld 81 9 = some (3, 0, .int, true) := by decide +kernel
set_option maxRecDepth 100000 in
theorem ji_81_9 : mj_ins 81 9 = some (.if_icmp .ge 7) := by decide +kernel
set_option maxRecDepth 100000 in
theorem ji_81_12 : mj_ins 81 12 = some (.iconst 1) := by decide +kernel
set_option maxRecDepth 100000 in
theorem ji_81_13 : mj_ins 81 13 = some (.goto 4) := by decide +kernel
set_option maxRecDepth 100000 in
theorem ji_13_0 : mj_ins 13 0 = some (.aload_n 0) := by decide +kernel
set_option maxRecDepth 100000 in
theorem ji_13_1 : mj_ins 13 1 = some (.getfield 9) := by decide +kernel
set_option maxRecDepth 100000 in
theorem jf_13_9 : mj_fld 13 9 = some (3, 0, .int, true) := by decide +kernel
set_option maxRecDepth 100000 in
theorem ji_13_4 : mj_ins 13 4 = some (.bipush 8) := by decide +kernel
set_option maxRecDepth 100000 in
theorem ji_13_6 : mj_ins 13 6 = some (.if_icmp .eq 24) := by decide +kernel
set_option maxRecDepth 100000 in
theorem ji_13_30 : mj_ins 13 30 = some (.iconst (-1)) := by decide +kernel
set_option maxRecDepth 100000 in
theorem ji_13_31 : mj_ins 13 31 = some (.ireturn) := by decide +kernel
set_option maxRecDepth 100000 in
theorem jr_13 : mj_ret 13 = some .int := by decide +kernel
set_option maxRecDepth 100000 in
theorem ji_13_9 : mj_ins 13 9 = some (.iload_n 1) := by decide +kernel
set_option maxRecDepth 100000 in
theorem ji_13_10 : mj_ins 13 10 = some (.iconst 1) := by decide +kernel
set_option maxRecDepth 100000 in
theorem ji_13_11 : mj_ins 13 11 = some (.if_icmp .lt 19) := by decide +kernel
set_option maxRecDepth 100000 in
theorem ji_13_14 : mj_ins 13 14 = some (.iload_n 1) := by decide +kernel
set_option maxRecDepth 100000 in
theorem ji_13_15 : mj_ins 13 15 = some (.bipush 99) := by decide +kernel
set_option maxRecDepth 100000 in
theorem ji_13_17 : mj_ins 13 17 = some (.if_icmp .gt 13) := by decide +kernel
set_option maxRecDepth 100000 in
theorem ji_13_20 : mj_ins 13 20 = some (.iload_n 2) := by decide +kernel
set_option maxRecDepth 100000 in
theorem ji_13_21 : mj_ins 13 21 = some (.ifCond .lt 9) := by decide +kernel
set_option maxRecDepth 100000 in
theorem ji_13_24 : mj_ins 13 24 = some (.iload_n 2) := by decide +kernel
set_option maxRecDepth 100000 in
theorem ji_13_25 : mj_ins 13 25 = some (.bipush 99) := by decide +kernel
set_option maxRecDepth 100000 in
theorem ji_13_27 : mj_ins 13 27 = some (.if_icmp .le 5) := by decide +kernel
set_option maxRecDepth 100000 in
theorem ji_13_32 : mj_ins 13 32 = some (.aload_n 0) := by decide +kernel
set_option maxRecDepth 100000 in
theorem ji_13_33 : mj_ins 13 33 = some (.getfield 18) := by decide +kernel
set_option maxRecDepth 100000 in
theorem jf_13_18 : mj_fld 13 18 = some (3, 2, (.array .int), false) := by decide +kernel
set_option maxRecDepth 100000 in
theorem ji_13_36 : mj_ins 13 36 = some (.aload_n 0) := by decide +kernel
set_option maxRecDepth 100000 in
theorem ji_13_37 : mj_ins 13 37 = some (.getfield 9) := by decide +kernel
set_option maxRecDepth 100000 in
theorem ji_13_40 : mj_ins 13 40 = some (.iload_n 1) := by decide +kernel
set_option maxRecDepth 100000 in
theorem ji_13_41 : mj_ins 13 41 = some (.iastore) := by decide +kernel
set_option maxRecDepth 100000 in
theorem ji_13_42 : mj_ins 13 42 = some (.aload_n 0) := by decide +kernel
set_option maxRecDepth 100000 in
theorem ji_13_43 : mj_ins 13 43 = some (.getfield 22) := by decide +kernel
set_option maxRecDepth 100000 in
theorem jf_13_22 : mj_fld 13 22 = some (3, 3, (.array .int), false) := by decide +kernel
set_option maxRecDepth 100000 in
theorem ji_13_46 : mj_ins 13 46 = some (.aload_n 0) := by decide +kernel
set_option maxRecDepth 100000 in
theorem ji_13_47 : mj_ins 13 47 = some (.getfield 9) := by decide +kernel
set_option maxRecDepth 100000 in
theorem ji_13_50 : mj_ins 13 50 = some (.iload_n 1) := by decide +kernel
set_option maxRecDepth 100000 in
theorem ji_13_51 : mj_ins 13 51 = some (.iastore) := by decide +kernel
set_option maxRecDepth 100000 in
theorem ji_13_52 : mj_ins 13 52 = some (.aload_n 0) := by decide +kernel
set_option maxRecDepth 100000 in
theorem ji_13_53 : mj_ins 13 53 = some (.getfield 25) := by decide +kernel
set_option maxRecDepth 100000 in
theorem jf_13_25 : mj_fld 13 25 = some (3, 4, (.array .int), false) := by decide +kernel
set_option maxRecDepth 100000 in
theorem ji_13_56 : mj_ins 13 56 = some (.aload_n 0) := by decide +kernel
set_option maxRecDepth 100000 in
theorem ji_13_57 : mj_ins 13 57 = some (.getfield 9) := by decide +kernel
set_option maxRecDepth 100000 in
theorem ji_13_60 : mj_ins 13 60 = some (.iload_n 2) := by decide +kernel
set_option maxRecDepth 100000 in
theorem ji_13_61 : mj_ins 13 61 = some (.iastore) := by decide +kernel
set_option maxRecDepth 100000 in
theorem ji_13_62 : mj_ins 13 62 = some (.aload_n 0) := by decide +kernel
set_option maxRecDepth 100000 in
theorem ji_13_63 : mj_ins 13 63 = some (.dup) := by decide +kernel
set_option maxRecDepth 100000 in
theorem ji_13_64 : mj_ins 13 64 = some (.getfield 9) := by decide +kernel
set_option maxRecDepth 100000 in
theorem ji_13_67 : mj_ins 13 67 = some (.iconst 1) := by decide +kernel
set_option maxRecDepth 100000 in
theorem ji_13_68 : mj_ins 13 68 = some (.iadd) := by decide +kernel
set_option maxRecDepth 100000 in
theorem ji_13_69 : mj_ins 13 69 = some (.putfield 9) := by decide +kernel
set_option maxRecDepth 100000 in
theorem ji_13_72 : mj_ins 13 72 = some (.aload_n 0) := by decide +kernel
set_option maxRecDepth 100000 in
theorem ji_13_73 : mj_ins 13 73 = some (.getfield 9) := by decide +kernel
set_option maxRecDepth 100000 in
theorem ji_13_76 : mj_ins 13 76 = some (.iconst 1) := by decide +kernel
set_option maxRecDepth 100000 in
theorem ji_13_77 : mj_ins 13 77 = some (.isub) := by decide +kernel
set_option maxRecDepth 100000 in
theorem ji_13_78 : mj_ins 13 78 = some (.ireturn) := by decide +kernel
set_option maxRecDepth 100000 in
theorem ji_15_0 : mj_ins 15 0 = some (.aload_n 0) := by decide +kernel
set_option maxRecDepth 100000 in
theorem ji_15_1 : mj_ins 15 1 = some (.getfield 15) := by decide +kernel
set_option maxRecDepth 100000 in
theorem jf_15_15 : mj_fld 15 15 = some (3, 1, .int, true) := by decide +kernel
set_option maxRecDepth 100000 in
theorem ji_15_4 : mj_ins 15 4 = some (.bipush 6) := by decide +kernel
set_option maxRecDepth 100000 in
theorem ji_15_6 : mj_ins 15 6 = some (.if_icmp .eq 25) := by decide +kernel
set_option maxRecDepth 100000 in
theorem ji_15_31 : mj_ins 15 31 = some (.iconst (-1)) := by decide +kernel
set_option maxRecDepth 100000 in
theorem ji_15_32 : mj_ins 15 32 = some (.ireturn) := by decide +kernel
set_option maxRecDepth 100000 in
theorem jr_15 : mj_ret 15 = some .int := by decide +kernel
set_option maxRecDepth 100000 in
theorem ji_15_9 : mj_ins 15 9 = some (.iload_n 1) := by decide +kernel
set_option maxRecDepth 100000 in
theorem ji_15_10 : mj_ins 15 10 = some (.iconst 1) := by decide +kernel
set_option maxRecDepth 100000 in
theorem ji_15_11 : mj_ins 15 11 = some (.if_icmp .lt 20) := by decide +kernel
set_option maxRecDepth 100000 in
theorem ji_15_14 : mj_ins 15 14 = some (.iload_n 1) := by decide +kernel
set_option maxRecDepth 100000 in
theorem ji_15_15 : mj_ins 15 15 = some (.bipush 9) := by decide +kernel
set_option maxRecDepth 100000 in
theorem ji_15_17 : mj_ins 15 17 = some (.if_icmp .gt 14) := by decide +kernel
set_option maxRecDepth 100000 in
theorem ji_15_20 : mj_ins 15 20 = some (.iload_n 2) := by decide +kernel
set_option maxRecDepth 100000 in
theorem ji_15_21 : mj_ins 15 21 = some (.ifCond .lt 10) := by decide +kernel
set_option maxRecDepth 100000 in
theorem ji_15_24 : mj_ins 15 24 = some (.iload_n 2) := by decide +kernel
set_option maxRecDepth 100000 in
theorem ji_15_25 : mj_ins 15 25 = some (.sipush 511) := by decide +kernel
set_option maxRecDepth 100000 in
theorem ji_15_28 : mj_ins 15 28 = some (.if_icmp .le 5) := by decide +kernel
set_option maxRecDepth 100000 in
theorem ji_15_33 : mj_ins 15 33 = some (.aload_n 0) := by decide +kernel
set_option maxRecDepth 100000 in
theorem ji_15_34 : mj_ins 15 34 = some (.getfield 28) := by decide +kernel
set_option maxRecDepth 100000 in
theorem jf_15_28 : mj_fld 15 28 = some (3, 5, (.array .int), false) := by decide +kernel
set_option maxRecDepth 100000 in
theorem ji_15_37 : mj_ins 15 37 = some (.aload_n 0) := by decide +kernel
set_option maxRecDepth 100000 in
theorem ji_15_38 : mj_ins 15 38 = some (.getfield 15) := by decide +kernel
set_option maxRecDepth 100000 in
theorem ji_15_41 : mj_ins 15 41 = some (.iload_n 1) := by decide +kernel
set_option maxRecDepth 100000 in
theorem ji_15_42 : mj_ins 15 42 = some (.iastore) := by decide +kernel
set_option maxRecDepth 100000 in
theorem ji_15_43 : mj_ins 15 43 = some (.aload_n 0) := by decide +kernel
set_option maxRecDepth 100000 in
theorem ji_15_44 : mj_ins 15 44 = some (.getfield 31) := by decide +kernel
set_option maxRecDepth 100000 in
theorem jf_15_31 : mj_fld 15 31 = some (3, 6, (.array .int), false) := by decide +kernel
set_option maxRecDepth 100000 in
theorem ji_15_47 : mj_ins 15 47 = some (.aload_n 0) := by decide +kernel
set_option maxRecDepth 100000 in
theorem ji_15_48 : mj_ins 15 48 = some (.getfield 15) := by decide +kernel
set_option maxRecDepth 100000 in
theorem ji_15_51 : mj_ins 15 51 = some (.iload_n 2) := by decide +kernel
set_option maxRecDepth 100000 in
theorem ji_15_52 : mj_ins 15 52 = some (.iastore) := by decide +kernel
set_option maxRecDepth 100000 in
theorem ji_15_53 : mj_ins 15 53 = some (.aload_n 0) := by decide +kernel
set_option maxRecDepth 100000 in
theorem ji_15_54 : mj_ins 15 54 = some (.dup) := by decide +kernel
set_option maxRecDepth 100000 in
theorem ji_15_55 : mj_ins 15 55 = some (.getfield 15) := by decide +kernel
set_option maxRecDepth 100000 in
theorem ji_15_58 : mj_ins 15 58 = some (.iconst 1) := by decide +kernel
set_option maxRecDepth 100000 in
theorem ji_15_59 : mj_ins 15 59 = some (.iadd) := by decide +kernel
set_option maxRecDepth 100000 in
theorem ji_15_60 : mj_ins 15 60 = some (.putfield 15) := by decide +kernel
set_option maxRecDepth 100000 in
theorem ji_15_63 : mj_ins 15 63 = some (.aload_n 0) := by decide +kernel
set_option maxRecDepth 100000 in
theorem ji_15_64 : mj_ins 15 64 = some (.getfield 15) := by decide +kernel
set_option maxRecDepth 100000 in
theorem ji_15_67 : mj_ins 15 67 = some (.iconst 1) := by decide +kernel
set_option maxRecDepth 100000 in
theorem ji_15_68 : mj_ins 15 68 = some (.isub) := by decide +kernel
set_option maxRecDepth 100000 in
theorem ji_15_69 : mj_ins 15 69 = some (.ireturn) := by decide +kernel
set_option maxRecDepth 100000 in
theorem ji_82_0 : mj_ins 82 0 = some (.aload_n 0) := by decide +kernel
set_option maxRecDepth 100000 in
theorem ji_82_1 : mj_ins 82 1 = some (.getfield 34) := by decide +kernel
set_option maxRecDepth 100000 in
theorem jf_82_34 : mj_fld 82 34 = some (3, 7, (.array .int), false) := by decide +kernel
set_option maxRecDepth 100000 in
theorem ji_82_4 : mj_ins 82 4 = some (.iload_n 2) := by decide +kernel
set_option maxRecDepth 100000 in
theorem ji_82_5 : mj_ins 82 5 = some (.bipush 6) := by decide +kernel
set_option maxRecDepth 100000 in
theorem ji_82_7 : mj_ins 82 7 = some (.imul) := by decide +kernel
set_option maxRecDepth 100000 in
theorem ji_82_8 : mj_ins 82 8 = some (.iload_n 1) := by decide +kernel
set_option maxRecDepth 100000 in
theorem ji_82_9 : mj_ins 82 9 = some (.iadd) := by decide +kernel
set_option maxRecDepth 100000 in
theorem ji_82_10 : mj_ins 82 10 = some (.iconst 0) := by decide +kernel
set_option maxRecDepth 100000 in
theorem ji_82_11 : mj_ins 82 11 = some (.iastore) := by decide +kernel
set_option maxRecDepth 100000 in
theorem ji_82_12 : mj_ins 82 12 = some (.aload_n 0) := by decide +kernel
set_option maxRecDepth 100000 in
theorem ji_82_13 : mj_ins 82 13 = some (.getfield 37) := by decide +kernel
set_option maxRecDepth 100000 in
theorem jf_82_37 : mj_fld 82 37 = some (3, 8, (.array .int), false) := by decide +kernel
set_option maxRecDepth 100000 in
theorem ji_82_16 : mj_ins 82 16 = some (.iload_n 2) := by decide +kernel
set_option maxRecDepth 100000 in
theorem ji_82_17 : mj_ins 82 17 = some (.bipush 6) := by decide +kernel
set_option maxRecDepth 100000 in
theorem ji_82_19 : mj_ins 82 19 = some (.imul) := by decide +kernel
set_option maxRecDepth 100000 in
theorem ji_82_20 : mj_ins 82 20 = some (.iload_n 1) := by decide +kernel
set_option maxRecDepth 100000 in
theorem ji_82_21 : mj_ins 82 21 = some (.iadd) := by decide +kernel
set_option maxRecDepth 100000 in
theorem ji_82_22 : mj_ins 82 22 = some (.iconst 0) := by decide +kernel
set_option maxRecDepth 100000 in
theorem ji_82_23 : mj_ins 82 23 = some (.iastore) := by decide +kernel
set_option maxRecDepth 100000 in
theorem ji_82_24 : mj_ins 82 24 = some (.return_) := by decide +kernel
set_option maxRecDepth 100000 in
theorem jr_82 : mj_ret 82 = none := by decide +kernel
set_option maxRecDepth 100000 in
theorem ji_71_0 : mj_ins 71 0 = some (.aload_n 0) := by decide +kernel
set_option maxRecDepth 100000 in
theorem ji_71_1 : mj_ins 71 1 = some (.getfield 34) := by decide +kernel
set_option maxRecDepth 100000 in
theorem jf_71_34 : mj_fld 71 34 = some (3, 7, (.array .int), false) := by decide +kernel
set_option maxRecDepth 100000 in
theorem ji_71_4 : mj_ins 71 4 = some (.iload_n 2) := by decide +kernel
set_option maxRecDepth 100000 in
theorem ji_71_5 : mj_ins 71 5 = some (.bipush 6) := by decide +kernel
set_option maxRecDepth 100000 in
theorem ji_71_7 : mj_ins 71 7 = some (.imul) := by decide +kernel
set_option maxRecDepth 100000 in
theorem ji_71_8 : mj_ins 71 8 = some (.iload_n 1) := by decide +kernel
set_option maxRecDepth 100000 in
theorem ji_71_9 : mj_ins 71 9 = some (.iadd) := by decide +kernel
set_option maxRecDepth 100000 in
theorem ji_71_10 : mj_ins 71 10 = some (.iconst (-1)) := by decide +kernel
set_option maxRecDepth 100000 in
theorem ji_71_11 : mj_ins 71 11 = some (.iastore) := by decide +kernel
set_option maxRecDepth 100000 in
theorem ji_71_12 : mj_ins 71 12 = some (.return_) := by decide +kernel
set_option maxRecDepth 100000 in
theorem jr_71 : mj_ret 71 = none := by decide +kernel
set_option maxRecDepth 100000 in
theorem ji_73_0 : mj_ins 73 0 = some (.iload_n 1) := by decide +kernel
set_option maxRecDepth 100000 in
theorem ji_73_1 : mj_ins 73 1 = some (.aload_n 0) := by decide +kernel
set_option maxRecDepth 100000 in
theorem ji_73_2 : mj_ins 73 2 = some (.getfield 46) := by decide +kernel
set_option maxRecDepth 100000 in
theorem jf_73_46 : mj_fld 73 46 = some (3, 11, .int, true) := by decide +kernel
set_option maxRecDepth 100000 in
theorem ji_73_5 : mj_ins 73 5 = some (.if_icmp .eq 11) := by decide +kernel
set_option maxRecDepth 100000 in
theorem ji_73_16 : mj_ins 73 16 = some (.iload_n 1) := by decide +kernel
set_option maxRecDepth 100000 in
theorem ji_73_17 : mj_ins 73 17 = some (.aload_n 0) := by decide +kernel
set_option maxRecDepth 100000 in
theorem ji_73_18 : mj_ins 73 18 = some (.getfield 46) := by decide +kernel
set_option maxRecDepth 100000 in
theorem ji_73_21 : mj_ins 73 21 = some (.if_icmp .ne 7) := by decide +kernel
set_option maxRecDepth 100000 in
theorem ji_73_28 : mj_ins 73 28 = some (.iconst 0) := by decide +kernel
set_option maxRecDepth 100000 in
theorem ji_73_29 : mj_ins 73 29 = some (.ireturn) := by decide +kernel
set_option maxRecDepth 100000 in
theorem jr_73 : mj_ret 73 = some .boolean := by decide +kernel
set_option maxRecDepth 100000 in
theorem ji_73_24 : mj_ins 73 24 = some (.iconst 1) := by decide +kernel
set_option maxRecDepth 100000 in
theorem ji_73_25 : mj_ins 73 25 = some (.goto 4) := by decide +kernel
set_option maxRecDepth 100000 in
theorem ji_73_8 : mj_ins 73 8 = some (.iload_n 2) := by decide +kernel
set_option maxRecDepth 100000 in
theorem ji_73_9 : mj_ins 73 9 = some (.aload_n 0) := by decide +kernel
set_option maxRecDepth 100000 in
theorem ji_73_10 : mj_ins 73 10 = some (.getfield 46) := by decide +kernel
set_option maxRecDepth 100000 in
theorem ji_73_13 : mj_ins 73 13 = some (.if_icmp .ne 17) := by decide +kernel
set_option maxRecDepth 100000 in
theorem ji_73_30 : mj_ins 73 30 = some (.iload_n 2) := by decide +kernel
set_option maxRecDepth 100000 in
theorem ji_73_31 : mj_ins 73 31 = some (.ifCond .ge 5) := by decide +kernel
set_option maxRecDepth 100000 in
theorem ji_73_36 : mj_ins 73 36 = some (.aload_n 0) := by decide +kernel
set_option maxRecDepth 100000 in
theorem ji_73_37 : mj_ins 73 37 = some (.getfield 28) := by decide +kernel
set_option maxRecDepth 100000 in
theorem jf_73_28 : mj_fld 73 28 = some (3, 5, (.array .int), false) := by decide +kernel
set_option maxRecDepth 100000 in
theorem ji_73_40 : mj_ins 73 40 = some (.iload_n 1) := by decide +kernel
set_option maxRecDepth 100000 in
theorem ji_73_41 : mj_ins 73 41 = some (.iaload) := by decide +kernel
set_option maxRecDepth 100000 in
theorem ji_73_42 : mj_ins 73 42 = some (.aload_n 0) := by decide +kernel
set_option maxRecDepth 100000 in
theorem ji_73_43 : mj_ins 73 43 = some (.getfield 28) := by decide +kernel
set_option maxRecDepth 100000 in
theorem ji_73_46 : mj_ins 73 46 = some (.iload_n 2) := by decide +kernel
set_option maxRecDepth 100000 in
theorem ji_73_47 : mj_ins 73 47 = some (.iaload) := by decide +kernel
set_option maxRecDepth 100000 in
theorem ji_73_48 : mj_ins 73 48 = some (.if_icmp .gt 23) := by decide +kernel
set_option maxRecDepth 100000 in
theorem ji_73_71 : mj_ins 73 71 = some (.iconst 1) := by decide +kernel
set_option maxRecDepth 100000 in
theorem ji_73_72 : mj_ins 73 72 = some (.goto 4) := by decide +kernel
set_option maxRecDepth 100000 in
theorem ji_73_76 : mj_ins 73 76 = some (.ireturn) := by decide +kernel
set_option maxRecDepth 100000 in
theorem ji_73_51 : mj_ins 73 51 = some (.aload_n 0) := by decide +kernel
set_option maxRecDepth 100000 in
theorem ji_73_52 : mj_ins 73 52 = some (.getfield 28) := by decide +kernel
set_option maxRecDepth 100000 in
theorem ji_73_55 : mj_ins 73 55 = some (.iload_n 1) := by decide +kernel
set_option maxRecDepth 100000 in
theorem ji_73_56 : mj_ins 73 56 = some (.iaload) := by decide +kernel
set_option maxRecDepth 100000 in
theorem ji_73_57 : mj_ins 73 57 = some (.aload_n 0) := by decide +kernel
set_option maxRecDepth 100000 in
theorem ji_73_58 : mj_ins 73 58 = some (.getfield 28) := by decide +kernel
set_option maxRecDepth 100000 in
theorem ji_73_61 : mj_ins 73 61 = some (.iload_n 2) := by decide +kernel
set_option maxRecDepth 100000 in
theorem ji_73_62 : mj_ins 73 62 = some (.iaload) := by decide +kernel
set_option maxRecDepth 100000 in
theorem ji_73_63 : mj_ins 73 63 = some (.if_icmp .ne 12) := by decide +kernel
set_option maxRecDepth 100000 in
theorem ji_73_75 : mj_ins 73 75 = some (.iconst 0) := by decide +kernel
set_option maxRecDepth 100000 in
theorem ji_73_66 : mj_ins 73 66 = some (.iload_n 1) := by decide +kernel
set_option maxRecDepth 100000 in
theorem ji_73_67 : mj_ins 73 67 = some (.iload_n 2) := by decide +kernel
set_option maxRecDepth 100000 in
theorem ji_73_68 : mj_ins 73 68 = some (.if_icmp .ge 7) := by decide +kernel
set_option maxRecDepth 100000 in
theorem ji_73_34 : mj_ins 73 34 = some (.iconst 1) := by decide +kernel
set_option maxRecDepth 100000 in
theorem ji_73_35 : mj_ins 73 35 = some (.ireturn) := by decide +kernel
/-! the class's forest: leaves; laid by program (wp_u1.py) -/
theorem cs_mono {h : mj_H} {s s2 : sg_} (C : CS h s) (e : s = s2) : CS h s2 := e ▸ C
/-- small invariants of a forest -/
def IF (s : sg_) (F : Nat) : Prop := (0 ≤ s F 0 ∧ s F 0 ≤ 8) ∧ (0 ≤ s F 1 ∧ s F 1 ≤ 6) ∧ (∀ p, 0 ≤ p → p < 8 → 0 ≤ s (F + 2) p ∧ s (F + 2) p ≤ 99) ∧ (∀ w, 0 ≤ w → w < 6 → 0 ≤ s (F + 4) w ∧ s (F + 4) w ≤ 9) ∧ (∀ k, 0 ≤ k → k < 48 → -1 ≤ s (F + 6) k ∧ s (F + 6) k ≤ 99) ∧ (∀ k, 0 ≤ k → k < 48 → 0 ≤ s (F + 7) k ∧ s (F + 7) k ≤ 199) ∧ (0 ≤ s F 9 ∧ s F 9 ≤ 9) ∧ (0 ≤ s F 10 ∧ s F 10 ≤ 20000) ∧ (-1 ≤ s F 11 ∧ s F 11 ≤ 5) ∧ (0 ≤ s F 12 ∧ s F 12 ≤ 30306)
theorem uc_80 {nn d : Nat} {h : mj_H} {s : sg_} (C : CS h s) {F : Nat} (hF : isF F) {p : Int} (hp : wp_r p) : wl_R nn d 80 0 [some (.ref F), some (wp_i p)] [] h (fun v1 h1 => h1 = h ∧ ∃ y : Int, v1 = some (wp_i y) ∧ (y = 0 ∨ y = 1) ∧ (y = 1 ↔ 0 ≤ p ∧ p < s F 1)) := by
  refine wl_s (pc' := 1) ji_80_0 rfl rfl rfl ?_
  refine wl_if (t := 16) ji_80_1 rfl (by omega) (fun (hb1 : (p : Int) < 0) => ?_) (fun (hb1 : ¬ ((p : Int) < 0)) => ?_)
  · refine wl_s (pc' := 17) ji_80_16 rfl rfl rfl ?_
    exact wl_ri ji_80_17 jr_80 (pv_nb (by omega)) (⟨rfl, 0, rfl, by omega, by omega⟩)
  · refine wl_s (pc' := 5) ji_80_4 rfl rfl rfl ?_
    refine wl_s (pc' := 6) ji_80_5 rfl rfl rfl ?_
    refine cs_gi (k := 1) (kI := 1) C (Nat.lt_of_lt_of_le (by decide) hF.1) (isF_n hF 0 (by decide)) hF.2.1 rfl rfl ji_80_6 jf_80_15 ?_
    have bd2 : wp_r (s F 1) := cs_ri (k := 1) (kI := 1) C (Nat.lt_of_lt_of_le (by decide) hF.1) (isF_n hF 0 (by decide)) hF.2.1 rfl rfl (show 1 < 13 by decide)
    refine wl_icmp (t := 16) ji_80_9 rfl (by omega) (by omega) (fun (hb3 : (s F 1 : Int) ≤ p) => ?_) (fun (hb3 : ¬ ((s F 1 : Int) ≤ p)) => ?_)
    · refine wl_s (pc' := 17) ji_80_16 rfl rfl rfl ?_
      exact wl_ri ji_80_17 jr_80 (pv_nb (by omega)) (⟨rfl, 0, rfl, by omega, by omega⟩)
    · refine wl_s (pc' := 13) ji_80_12 rfl rfl rfl ?_
      refine wl_goto (t := 17) ji_80_13 rfl ?_
      exact wl_ri ji_80_17 jr_80 (pv_nb (by omega)) (⟨rfl, 1, rfl, by omega, by omega⟩)
theorem uc_81 {nn d : Nat} {h : mj_H} {s : sg_} (C : CS h s) {F : Nat} (hF : isF F) {p : Int} (hp : wp_r p) : wl_R nn d 81 0 [some (.ref F), some (wp_i p)] [] h (fun v1 h1 => h1 = h ∧ ∃ y : Int, v1 = some (wp_i y) ∧ (y = 0 ∨ y = 1) ∧ (y = 1 ↔ 0 ≤ p ∧ p < s F 0)) := by
  refine wl_s (pc' := 1) ji_81_0 rfl rfl rfl ?_
  refine wl_if (t := 16) ji_81_1 rfl (by omega) (fun (hb1 : (p : Int) < 0) => ?_) (fun (hb1 : ¬ ((p : Int) < 0)) => ?_)
  · refine wl_s (pc' := 17) ji_81_16 rfl rfl rfl ?_
    exact wl_ri ji_81_17 jr_81 (pv_nb (by omega)) (⟨rfl, 0, rfl, by omega, by omega⟩)
  · refine wl_s (pc' := 5) ji_81_4 rfl rfl rfl ?_
    refine wl_s (pc' := 6) ji_81_5 rfl rfl rfl ?_
    refine cs_gi (k := 0) (kI := 0) C (Nat.lt_of_lt_of_le (by decide) hF.1) (isF_n hF 0 (by decide)) hF.2.1 rfl rfl ji_81_6 jf_81_9 ?_
    have bd2 : wp_r (s F 0) := cs_ri (k := 0) (kI := 0) C (Nat.lt_of_lt_of_le (by decide) hF.1) (isF_n hF 0 (by decide)) hF.2.1 rfl rfl (show 0 < 13 by decide)
    refine wl_icmp (t := 16) ji_81_9 rfl (by omega) (by omega) (fun (hb3 : (s F 0 : Int) ≤ p) => ?_) (fun (hb3 : ¬ ((s F 0 : Int) ≤ p)) => ?_)
    · refine wl_s (pc' := 17) ji_81_16 rfl rfl rfl ?_
      exact wl_ri ji_81_17 jr_81 (pv_nb (by omega)) (⟨rfl, 0, rfl, by omega, by omega⟩)
    · refine wl_s (pc' := 13) ji_81_12 rfl rfl rfl ?_
      refine wl_goto (t := 17) ji_81_13 rfl ?_
      exact wl_ri ji_81_17 jr_81 (pv_nb (by omega)) (⟨rfl, 1, rfl, by omega, by omega⟩)
theorem uc_13 {nn d : Nat} {h : mj_H} {s : sg_} (C : CS h s) {F : Nat} (hF : isF F) (I : IF s F) {x z : Int} (hx : wp_r x) (hz : wp_r z) : wl_R nn d 13 0 [some (.ref F), some (wp_i x), some (wp_i z)] [] h (fun v1 h1 => (¬ (s F 0 < 8 ∧ (1 ≤ x ∧ x ≤ 99) ∧ (0 ≤ z ∧ z ≤ 99)) ∧ v1 = some (wp_i (-1)) ∧ h1 = h) ∨ ((s F 0 < 8 ∧ (1 ≤ x ∧ x ≤ 99) ∧ (0 ≤ z ∧ z ≤ 99)) ∧ v1 = some (wp_i (s F 0)) ∧ CS h1 (up (up (up (up s (F + 1) (s F 0) x) (F + 2) (s F 0) x) (F + 3) (s F 0) z) F 0 (s F 0 + 1)))) := by
  refine wl_s (pc' := 1) ji_13_0 rfl rfl rfl ?_
  refine cs_gi (k := 0) (kI := 0) C (Nat.lt_of_lt_of_le (by decide) hF.1) (isF_n hF 0 (by decide)) hF.2.1 rfl rfl ji_13_1 jf_13_9 ?_
  have bd1 := I.1
  refine wl_bp ji_13_4 rfl ?_
  refine wl_icmp (t := 30) ji_13_6 rfl (by omega) (by omega) (fun (hb2 : (s F 0 : Int) = 8) => ?_) (fun (hb2 : ¬ ((s F 0 : Int) = 8)) => ?_)
  · refine wl_s (pc' := 31) ji_13_30 rfl rfl rfl ?_
    exact wl_ri ji_13_31 jr_13 rfl (Or.inl ⟨by omega, rfl, rfl⟩)
  · refine wl_s (pc' := 10) ji_13_9 rfl rfl rfl ?_
    refine wl_s (pc' := 11) ji_13_10 rfl rfl rfl ?_
    refine wl_icmp (t := 30) ji_13_11 rfl (by omega) (by omega) (fun (hb3 : (x : Int) < 1) => ?_) (fun (hb3 : ¬ ((x : Int) < 1)) => ?_)
    · refine wl_s (pc' := 31) ji_13_30 rfl rfl rfl ?_
      exact wl_ri ji_13_31 jr_13 rfl (Or.inl ⟨by omega, rfl, rfl⟩)
    · refine wl_s (pc' := 15) ji_13_14 rfl rfl rfl ?_
      refine wl_bp ji_13_15 rfl ?_
      refine wl_icmp (t := 30) ji_13_17 rfl (by omega) (by omega) (fun (hb4 : (99 : Int) < x) => ?_) (fun (hb4 : ¬ ((99 : Int) < x)) => ?_)
      · refine wl_s (pc' := 31) ji_13_30 rfl rfl rfl ?_
        exact wl_ri ji_13_31 jr_13 rfl (Or.inl ⟨by omega, rfl, rfl⟩)
      · refine wl_s (pc' := 21) ji_13_20 rfl rfl rfl ?_
        refine wl_if (t := 30) ji_13_21 rfl (by omega) (fun (hb5 : (z : Int) < 0) => ?_) (fun (hb5 : ¬ ((z : Int) < 0)) => ?_)
        · refine wl_s (pc' := 31) ji_13_30 rfl rfl rfl ?_
          exact wl_ri ji_13_31 jr_13 rfl (Or.inl ⟨by omega, rfl, rfl⟩)
        · refine wl_s (pc' := 25) ji_13_24 rfl rfl rfl ?_
          refine wl_bp ji_13_25 rfl ?_
          refine wl_icmp (t := 32) ji_13_27 rfl (by omega) (by omega) (fun (hb6 : (z : Int) ≤ 99) => ?_) (fun (hb6 : ¬ ((z : Int) ≤ 99)) => ?_)
          · refine wl_s (pc' := 33) ji_13_32 rfl rfl rfl ?_
            refine cs_gr (r := F + 1) (k := 2) C (Nat.lt_of_lt_of_le (by decide) hF.1) hF.2.1 rfl ji_13_33 jf_13_18 ?_
            refine wl_s (pc' := 37) ji_13_36 rfl rfl rfl ?_
            refine cs_gi (k := 0) (kI := 0) C (Nat.lt_of_lt_of_le (by decide) hF.1) (isF_n hF 0 (by decide)) hF.2.1 rfl rfl ji_13_37 jf_13_9 ?_
            refine wl_s (pc' := 41) ji_13_40 rfl rfl rfl ?_
            refine cs_s (x := s F 0) (y := x) C (Nat.lt_of_lt_of_le (by decide) (Nat.le_trans hF.1 (Nat.le_add_right _ _))) hF.2.2.1 (by omega) (by omega) ji_13_41 (fun h st70 st71 C => ?_)
            obtain ⟨s8, es8⟩ : ∃ z9_, up s (F + 1) (s F 0) x = z9_ := ⟨_, rfl⟩
            rw [es8] at C
            refine wl_s (pc' := 43) ji_13_42 rfl rfl rfl ?_
            refine cs_gr (r := F + 2) (k := 3) C (Nat.lt_of_lt_of_le (by decide) hF.1) hF.2.1 rfl ji_13_43 jf_13_22 ?_
            refine wl_s (pc' := 47) ji_13_46 rfl rfl rfl ?_
            refine cs_gi (k := 0) (kI := 0) C (Nat.lt_of_lt_of_le (by decide) hF.1) (isF_n hF 0 (by decide)) hF.2.1 rfl rfl ji_13_47 jf_13_9 ?_
            have rd9 : s8 F 0 = s F 0 := by rw [← es8, up_a (by omega)]
            rw [rd9]
            refine wl_s (pc' := 51) ji_13_50 rfl rfl rfl ?_
            refine cs_s (x := s F 0) (y := x) C (Nat.lt_of_lt_of_le (by decide) (Nat.le_trans hF.1 (Nat.le_add_right _ _))) hF.2.2.2.1 (by omega) (by omega) ji_13_51 (fun h st100 st101 C => ?_)
            obtain ⟨s11, es11⟩ : ∃ z9_, up s8 (F + 2) (s F 0) x = z9_ := ⟨_, rfl⟩
            rw [es11] at C
            refine wl_s (pc' := 53) ji_13_52 rfl rfl rfl ?_
            refine cs_gr (r := F + 3) (k := 4) C (Nat.lt_of_lt_of_le (by decide) hF.1) hF.2.1 rfl ji_13_53 jf_13_25 ?_
            refine wl_s (pc' := 57) ji_13_56 rfl rfl rfl ?_
            refine cs_gi (k := 0) (kI := 0) C (Nat.lt_of_lt_of_le (by decide) hF.1) (isF_n hF 0 (by decide)) hF.2.1 rfl rfl ji_13_57 jf_13_9 ?_
            have rd12 : s11 F 0 = s F 0 := by rw [← es11, up_a (by omega)]; rw [← es8, up_a (by omega)]
            rw [rd12]
            refine wl_s (pc' := 61) ji_13_60 rfl rfl rfl ?_
            refine cs_s (x := s F 0) (y := z) C (Nat.lt_of_lt_of_le (by decide) (Nat.le_trans hF.1 (Nat.le_add_right _ _))) hF.2.2.2.2.1 (by omega) (by omega) ji_13_61 (fun h st130 st131 C => ?_)
            obtain ⟨s14, es14⟩ : ∃ z9_, up s11 (F + 3) (s F 0) z = z9_ := ⟨_, rfl⟩
            rw [es14] at C
            refine wl_s (pc' := 63) ji_13_62 rfl rfl rfl ?_
            refine wl_s (pc' := 64) ji_13_63 rfl rfl rfl ?_
            refine cs_gi (k := 0) (kI := 0) C (Nat.lt_of_lt_of_le (by decide) hF.1) (isF_n hF 0 (by decide)) hF.2.1 rfl rfl ji_13_64 jf_13_9 ?_
            have rd15 : s14 F 0 = s F 0 := by rw [← es14, up_a (by omega)]; rw [← es11, up_a (by omega)]; rw [← es8, up_a (by omega)]
            rw [rd15]
            refine wl_s (pc' := 68) ji_13_67 rfl rfl rfl ?_
            refine wl_iadd (x := s F 0) (y := 1) (z := s F 0 + 1) ji_13_68 (by omega) ?_
            refine cs_pi (k := 0) (kI := 0) (y := s F 0 + 1) C hF.1 hF.2.1 rfl rfl ji_13_69 jf_13_9 rfl rfl (by omega) (fun h C => ?_)
            obtain ⟨s16, es16⟩ : ∃ z9_, up s14 F 0 (s F 0 + 1) = z9_ := ⟨_, rfl⟩
            rw [es16] at C
            refine wl_s (pc' := 73) ji_13_72 rfl rfl rfl ?_
            refine cs_gi (k := 0) (kI := 0) C (Nat.lt_of_lt_of_le (by decide) hF.1) (isF_n hF 0 (by decide)) hF.2.1 rfl rfl ji_13_73 jf_13_9 ?_
            have rd17 : s16 F 0 = s F 0 + 1 := by rw [← es16, up_e]
            rw [rd17]
            have bd18 := I.1
            refine wl_s (pc' := 77) ji_13_76 rfl rfl rfl ?_
            refine wl_isub (x := s F 0 + 1) (y := 1) (z := s F 0 + 1 - 1) ji_13_77 (by omega) ?_
            exact wl_ri ji_13_78 jr_13 rfl (Or.inr ⟨by omega, by rw [show s F 0 + 1 - 1 = s F 0 by omega], cs_mono C (by rw [← es16, ← es14, ← es11, ← es8])⟩)
          · refine wl_s (pc' := 31) ji_13_30 rfl rfl rfl ?_
            exact wl_ri ji_13_31 jr_13 rfl (Or.inl ⟨by omega, rfl, rfl⟩)
theorem uc_15 {nn d : Nat} {h : mj_H} {s : sg_} (C : CS h s) {F : Nat} (hF : isF F) (I : IF s F) {x z : Int} (hx : wp_r x) (hz : wp_r z) : wl_R nn d 15 0 [some (.ref F), some (wp_i x), some (wp_i z)] [] h (fun v1 h1 => (¬ (s F 1 < 6 ∧ (1 ≤ x ∧ x ≤ 9) ∧ (0 ≤ z ∧ z ≤ 511)) ∧ v1 = some (wp_i (-1)) ∧ h1 = h) ∨ ((s F 1 < 6 ∧ (1 ≤ x ∧ x ≤ 9) ∧ (0 ≤ z ∧ z ≤ 511)) ∧ v1 = some (wp_i (s F 1)) ∧ CS h1 (up (up (up s (F + 4) (s F 1) x) (F + 5) (s F 1) z) F 1 (s F 1 + 1)))) := by
  refine wl_s (pc' := 1) ji_15_0 rfl rfl rfl ?_
  refine cs_gi (k := 1) (kI := 1) C (Nat.lt_of_lt_of_le (by decide) hF.1) (isF_n hF 0 (by decide)) hF.2.1 rfl rfl ji_15_1 jf_15_15 ?_
  have bd1 := I.2.1
  refine wl_bp ji_15_4 rfl ?_
  refine wl_icmp (t := 31) ji_15_6 rfl (by omega) (by omega) (fun (hb2 : (s F 1 : Int) = 6) => ?_) (fun (hb2 : ¬ ((s F 1 : Int) = 6)) => ?_)
  · refine wl_s (pc' := 32) ji_15_31 rfl rfl rfl ?_
    exact wl_ri ji_15_32 jr_15 rfl (Or.inl ⟨by omega, rfl, rfl⟩)
  · refine wl_s (pc' := 10) ji_15_9 rfl rfl rfl ?_
    refine wl_s (pc' := 11) ji_15_10 rfl rfl rfl ?_
    refine wl_icmp (t := 31) ji_15_11 rfl (by omega) (by omega) (fun (hb3 : (x : Int) < 1) => ?_) (fun (hb3 : ¬ ((x : Int) < 1)) => ?_)
    · refine wl_s (pc' := 32) ji_15_31 rfl rfl rfl ?_
      exact wl_ri ji_15_32 jr_15 rfl (Or.inl ⟨by omega, rfl, rfl⟩)
    · refine wl_s (pc' := 15) ji_15_14 rfl rfl rfl ?_
      refine wl_bp ji_15_15 rfl ?_
      refine wl_icmp (t := 31) ji_15_17 rfl (by omega) (by omega) (fun (hb4 : (9 : Int) < x) => ?_) (fun (hb4 : ¬ ((9 : Int) < x)) => ?_)
      · refine wl_s (pc' := 32) ji_15_31 rfl rfl rfl ?_
        exact wl_ri ji_15_32 jr_15 rfl (Or.inl ⟨by omega, rfl, rfl⟩)
      · refine wl_s (pc' := 21) ji_15_20 rfl rfl rfl ?_
        refine wl_if (t := 31) ji_15_21 rfl (by omega) (fun (hb5 : (z : Int) < 0) => ?_) (fun (hb5 : ¬ ((z : Int) < 0)) => ?_)
        · refine wl_s (pc' := 32) ji_15_31 rfl rfl rfl ?_
          exact wl_ri ji_15_32 jr_15 rfl (Or.inl ⟨by omega, rfl, rfl⟩)
        · refine wl_s (pc' := 25) ji_15_24 rfl rfl rfl ?_
          refine wl_sp ji_15_25 rfl ?_
          refine wl_icmp (t := 33) ji_15_28 rfl (by omega) (by omega) (fun (hb6 : (z : Int) ≤ 511) => ?_) (fun (hb6 : ¬ ((z : Int) ≤ 511)) => ?_)
          · refine wl_s (pc' := 34) ji_15_33 rfl rfl rfl ?_
            refine cs_gr (r := F + 4) (k := 5) C (Nat.lt_of_lt_of_le (by decide) hF.1) hF.2.1 rfl ji_15_34 jf_15_28 ?_
            refine wl_s (pc' := 38) ji_15_37 rfl rfl rfl ?_
            refine cs_gi (k := 1) (kI := 1) C (Nat.lt_of_lt_of_le (by decide) hF.1) (isF_n hF 0 (by decide)) hF.2.1 rfl rfl ji_15_38 jf_15_15 ?_
            refine wl_s (pc' := 42) ji_15_41 rfl rfl rfl ?_
            refine cs_s (x := s F 1) (y := x) C (Nat.lt_of_lt_of_le (by decide) (Nat.le_trans hF.1 (Nat.le_add_right _ _))) hF.2.2.2.2.2.1 (by omega) (by omega) ji_15_42 (fun h st70 st71 C => ?_)
            obtain ⟨s8, es8⟩ : ∃ z9_, up s (F + 4) (s F 1) x = z9_ := ⟨_, rfl⟩
            rw [es8] at C
            refine wl_s (pc' := 44) ji_15_43 rfl rfl rfl ?_
            refine cs_gr (r := F + 5) (k := 6) C (Nat.lt_of_lt_of_le (by decide) hF.1) hF.2.1 rfl ji_15_44 jf_15_31 ?_
            refine wl_s (pc' := 48) ji_15_47 rfl rfl rfl ?_
            refine cs_gi (k := 1) (kI := 1) C (Nat.lt_of_lt_of_le (by decide) hF.1) (isF_n hF 0 (by decide)) hF.2.1 rfl rfl ji_15_48 jf_15_15 ?_
            have rd9 : s8 F 1 = s F 1 := by rw [← es8, up_a (by omega)]
            rw [rd9]
            refine wl_s (pc' := 52) ji_15_51 rfl rfl rfl ?_
            refine cs_s (x := s F 1) (y := z) C (Nat.lt_of_lt_of_le (by decide) (Nat.le_trans hF.1 (Nat.le_add_right _ _))) hF.2.2.2.2.2.2.1 (by omega) (by omega) ji_15_52 (fun h st100 st101 C => ?_)
            obtain ⟨s11, es11⟩ : ∃ z9_, up s8 (F + 5) (s F 1) z = z9_ := ⟨_, rfl⟩
            rw [es11] at C
            refine wl_s (pc' := 54) ji_15_53 rfl rfl rfl ?_
            refine wl_s (pc' := 55) ji_15_54 rfl rfl rfl ?_
            refine cs_gi (k := 1) (kI := 1) C (Nat.lt_of_lt_of_le (by decide) hF.1) (isF_n hF 0 (by decide)) hF.2.1 rfl rfl ji_15_55 jf_15_15 ?_
            have rd12 : s11 F 1 = s F 1 := by rw [← es11, up_a (by omega)]; rw [← es8, up_a (by omega)]
            rw [rd12]
            refine wl_s (pc' := 59) ji_15_58 rfl rfl rfl ?_
            refine wl_iadd (x := s F 1) (y := 1) (z := s F 1 + 1) ji_15_59 (by omega) ?_
            refine cs_pi (k := 1) (kI := 1) (y := s F 1 + 1) C hF.1 hF.2.1 rfl rfl ji_15_60 jf_15_15 rfl rfl (by omega) (fun h C => ?_)
            obtain ⟨s13, es13⟩ : ∃ z9_, up s11 F 1 (s F 1 + 1) = z9_ := ⟨_, rfl⟩
            rw [es13] at C
            refine wl_s (pc' := 64) ji_15_63 rfl rfl rfl ?_
            refine cs_gi (k := 1) (kI := 1) C (Nat.lt_of_lt_of_le (by decide) hF.1) (isF_n hF 0 (by decide)) hF.2.1 rfl rfl ji_15_64 jf_15_15 ?_
            have rd14 : s13 F 1 = s F 1 + 1 := by rw [← es13, up_e]
            rw [rd14]
            have bd15 := I.2.1
            refine wl_s (pc' := 68) ji_15_67 rfl rfl rfl ?_
            refine wl_isub (x := s F 1 + 1) (y := 1) (z := s F 1 + 1 - 1) ji_15_68 (by omega) ?_
            exact wl_ri ji_15_69 jr_15 rfl (Or.inr ⟨by omega, by rw [show s F 1 + 1 - 1 = s F 1 by omega], cs_mono C (by rw [← es13, ← es11, ← es8])⟩)
          · refine wl_s (pc' := 32) ji_15_31 rfl rfl rfl ?_
            exact wl_ri ji_15_32 jr_15 rfl (Or.inl ⟨by omega, rfl, rfl⟩)
theorem uc_82 {nn d : Nat} {h : mj_H} {s : sg_} (C : CS h s) {F : Nat} (hF : isF F) {w p : Int} (hw : 0 ≤ w ∧ w < 6) (hp : 0 ≤ p ∧ p < 8) : wl_R nn d 82 0 [some (.ref F), some (wp_i w), some (wp_i p)] [] h (fun v1 h1 => v1 = none ∧ CS h1 (up (up s (F + 6) (p * 6 + w) 0) (F + 7) (p * 6 + w) 0)) := by
  refine wl_s (pc' := 1) ji_82_0 rfl rfl rfl ?_
  refine cs_gr (r := F + 6) (k := 7) C (Nat.lt_of_lt_of_le (by decide) hF.1) hF.2.1 rfl ji_82_1 jf_82_34 ?_
  refine wl_s (pc' := 5) ji_82_4 rfl rfl rfl ?_
  refine wl_bp ji_82_5 rfl ?_
  refine wl_imul (x := p) (y := 6) (z := p * 6) ji_82_7 (by omega) ?_
  refine wl_s (pc' := 9) ji_82_8 rfl rfl rfl ?_
  refine wl_iadd (x := p * 6) (y := w) (z := p * 6 + w) ji_82_9 (by omega) ?_
  refine wl_s (pc' := 11) ji_82_10 rfl rfl rfl ?_
  refine cs_s (x := p * 6 + w) (y := 0) C (Nat.lt_of_lt_of_le (by decide) (Nat.le_trans hF.1 (Nat.le_add_right _ _))) hF.2.2.2.2.2.2.2.1 (by omega) (by omega) ji_82_11 (fun h st10 st11 C => ?_)
  obtain ⟨s2, es2⟩ : ∃ z9_, up s (F + 6) (p * 6 + w) 0 = z9_ := ⟨_, rfl⟩
  rw [es2] at C
  refine wl_s (pc' := 13) ji_82_12 rfl rfl rfl ?_
  refine cs_gr (r := F + 7) (k := 8) C (Nat.lt_of_lt_of_le (by decide) hF.1) hF.2.1 rfl ji_82_13 jf_82_37 ?_
  refine wl_s (pc' := 17) ji_82_16 rfl rfl rfl ?_
  refine wl_bp ji_82_17 rfl ?_
  refine wl_imul (x := p) (y := 6) (z := p * 6) ji_82_19 (by omega) ?_
  refine wl_s (pc' := 21) ji_82_20 rfl rfl rfl ?_
  refine wl_iadd (x := p * 6) (y := w) (z := p * 6 + w) ji_82_21 (by omega) ?_
  refine wl_s (pc' := 23) ji_82_22 rfl rfl rfl ?_
  refine cs_s (x := p * 6 + w) (y := 0) C (Nat.lt_of_lt_of_le (by decide) (Nat.le_trans hF.1 (Nat.le_add_right _ _))) hF.2.2.2.2.2.2.2.2.1 (by omega) (by omega) ji_82_23 (fun h st30 st31 C => ?_)
  obtain ⟨s4, es4⟩ : ∃ z9_, up s2 (F + 7) (p * 6 + w) 0 = z9_ := ⟨_, rfl⟩
  rw [es4] at C
  exact wl_rv ji_82_24 jr_82 (⟨rfl, cs_mono C (by rw [← es4, ← es2])⟩)
theorem uc_71 {nn d : Nat} {h : mj_H} {s : sg_} (C : CS h s) {F : Nat} (hF : isF F) {w p : Int} (hw : 0 ≤ w ∧ w < 6) (hp : 0 ≤ p ∧ p < 8) : wl_R nn d 71 0 [some (.ref F), some (wp_i w), some (wp_i p)] [] h (fun v1 h1 => v1 = none ∧ CS h1 (up s (F + 6) (p * 6 + w) (-1))) := by
  refine wl_s (pc' := 1) ji_71_0 rfl rfl rfl ?_
  refine cs_gr (r := F + 6) (k := 7) C (Nat.lt_of_lt_of_le (by decide) hF.1) hF.2.1 rfl ji_71_1 jf_71_34 ?_
  refine wl_s (pc' := 5) ji_71_4 rfl rfl rfl ?_
  refine wl_bp ji_71_5 rfl ?_
  refine wl_imul (x := p) (y := 6) (z := p * 6) ji_71_7 (by omega) ?_
  refine wl_s (pc' := 9) ji_71_8 rfl rfl rfl ?_
  refine wl_iadd (x := p * 6) (y := w) (z := p * 6 + w) ji_71_9 (by omega) ?_
  refine wl_s (pc' := 11) ji_71_10 rfl rfl rfl ?_
  refine cs_s (x := p * 6 + w) (y := -1) C (Nat.lt_of_lt_of_le (by decide) (Nat.le_trans hF.1 (Nat.le_add_right _ _))) hF.2.2.2.2.2.2.2.1 (by omega) (by omega) ji_71_11 (fun h st10 st11 C => ?_)
  obtain ⟨s2, es2⟩ : ∃ z9_, up s (F + 6) (p * 6 + w) (-1) = z9_ := ⟨_, rfl⟩
  rw [es2] at C
  exact wl_rv ji_71_12 jr_71 (⟨rfl, cs_mono C (by rw [← es2])⟩)
theorem uc_73 {nn d : Nat} {h : mj_H} {s : sg_} (C : CS h s) {F : Nat} (hF : isF F) (I : IF s F) {w z : Int} (hw : 0 ≤ w ∧ w < 6) (hz : -1 ≤ z ∧ z < 6) : wl_R nn d 73 0 [some (.ref F), some (wp_i w), some (wp_i z)] [] h (fun v1 h1 => h1 = h ∧ ∃ y : Int, v1 = some (wp_i y) ∧ (y = 0 ∨ y = 1) ∧ (y = 1 ↔ (w = s F 11 ∨ (¬ z = s F 11 ∧ (z < 0 ∨ s (F + 4) z < s (F + 4) w ∨ (s (F + 4) z = s (F + 4) w ∧ w < z)))))) := by
  refine wl_s (pc' := 1) ji_73_0 rfl rfl rfl ?_
  refine wl_s (pc' := 2) ji_73_1 rfl rfl rfl ?_
  refine cs_gi (k := 11) (kI := 11) C (Nat.lt_of_lt_of_le (by decide) hF.1) (isF_n hF 0 (by decide)) hF.2.1 rfl rfl ji_73_2 jf_73_46 ?_
  have bd1 := I.2.2.2.2.2.2.2.2.1
  refine wl_icmp (t := 16) ji_73_5 rfl (by omega) (by omega) (fun (hb2 : (w : Int) = (s F 11)) => ?_) (fun (hb2 : ¬ ((w : Int) = (s F 11))) => ?_)
  · refine wl_s (pc' := 17) ji_73_16 rfl rfl rfl ?_
    refine wl_s (pc' := 18) ji_73_17 rfl rfl rfl ?_
    refine cs_gi (k := 11) (kI := 11) C (Nat.lt_of_lt_of_le (by decide) hF.1) (isF_n hF 0 (by decide)) hF.2.1 rfl rfl ji_73_18 jf_73_46 ?_
    refine wl_icmp (t := 28) ji_73_21 rfl (by omega) (by omega) (fun (hb3 : ¬ (w : Int) = (s F 11)) => ?_) (fun (hb3 : ¬ (¬ (w : Int) = (s F 11))) => ?_)
    · refine wl_s (pc' := 29) ji_73_28 rfl rfl rfl ?_
      exact wl_ri ji_73_29 jr_73 (pv_nb (by omega)) (⟨rfl, 0, rfl, by omega, by omega⟩)
    · refine wl_s (pc' := 25) ji_73_24 rfl rfl rfl ?_
      refine wl_goto (t := 29) ji_73_25 rfl ?_
      exact wl_ri ji_73_29 jr_73 (pv_nb (by omega)) (⟨rfl, 1, rfl, by omega, by omega⟩)
  · refine wl_s (pc' := 9) ji_73_8 rfl rfl rfl ?_
    refine wl_s (pc' := 10) ji_73_9 rfl rfl rfl ?_
    refine cs_gi (k := 11) (kI := 11) C (Nat.lt_of_lt_of_le (by decide) hF.1) (isF_n hF 0 (by decide)) hF.2.1 rfl rfl ji_73_10 jf_73_46 ?_
    refine wl_icmp (t := 30) ji_73_13 rfl (by omega) (by omega) (fun (hb4 : ¬ (z : Int) = (s F 11)) => ?_) (fun (hb4 : ¬ (¬ (z : Int) = (s F 11))) => ?_)
    · refine wl_s (pc' := 31) ji_73_30 rfl rfl rfl ?_
      refine wl_if (t := 36) ji_73_31 rfl (by omega) (fun (hb5 : (0 : Int) ≤ z) => ?_) (fun (hb5 : ¬ ((0 : Int) ≤ z)) => ?_)
      · refine wl_s (pc' := 37) ji_73_36 rfl rfl rfl ?_
        refine cs_gr (r := F + 4) (k := 5) C (Nat.lt_of_lt_of_le (by decide) hF.1) hF.2.1 rfl ji_73_37 jf_73_28 ?_
        refine wl_s (pc' := 41) ji_73_40 rfl rfl rfl ?_
        refine cs_l (x := w) C (Nat.lt_of_lt_of_le (by decide) (Nat.le_trans hF.1 (Nat.le_add_right _ _))) (isF_n hF 4 (by decide)) hF.2.2.2.2.2.1 (by omega) ji_73_41 (fun ld60 ld61 ld62 => ?_)
        have bd7 := I.2.2.2.1 (w) (by omega) (by omega)
        refine wl_s (pc' := 43) ji_73_42 rfl rfl rfl ?_
        refine cs_gr (r := F + 4) (k := 5) C (Nat.lt_of_lt_of_le (by decide) hF.1) hF.2.1 rfl ji_73_43 jf_73_28 ?_
        refine wl_s (pc' := 47) ji_73_46 rfl rfl rfl ?_
        refine cs_l (x := z) C (Nat.lt_of_lt_of_le (by decide) (Nat.le_trans hF.1 (Nat.le_add_right _ _))) (isF_n hF 4 (by decide)) hF.2.2.2.2.2.1 (by omega) ji_73_47 (fun ld80 ld81 ld82 => ?_)
        have bd9 := I.2.2.2.1 (z) (by omega) (by omega)
        refine wl_icmp (t := 71) ji_73_48 rfl (by omega) (by omega) (fun (hb10 : (s (F + 4) z : Int) < (s (F + 4) w)) => ?_) (fun (hb10 : ¬ ((s (F + 4) z : Int) < (s (F + 4) w))) => ?_)
        · refine wl_s (pc' := 72) ji_73_71 rfl rfl rfl ?_
          refine wl_goto (t := 76) ji_73_72 rfl ?_
          exact wl_ri ji_73_76 jr_73 (pv_nb (by omega)) (⟨rfl, 1, rfl, by omega, by omega⟩)
        · refine wl_s (pc' := 52) ji_73_51 rfl rfl rfl ?_
          refine cs_gr (r := F + 4) (k := 5) C (Nat.lt_of_lt_of_le (by decide) hF.1) hF.2.1 rfl ji_73_52 jf_73_28 ?_
          refine wl_s (pc' := 56) ji_73_55 rfl rfl rfl ?_
          refine cs_l (x := w) C (Nat.lt_of_lt_of_le (by decide) (Nat.le_trans hF.1 (Nat.le_add_right _ _))) (isF_n hF 4 (by decide)) hF.2.2.2.2.2.1 (by omega) ji_73_56 (fun ld110 ld111 ld112 => ?_)
          refine wl_s (pc' := 58) ji_73_57 rfl rfl rfl ?_
          refine cs_gr (r := F + 4) (k := 5) C (Nat.lt_of_lt_of_le (by decide) hF.1) hF.2.1 rfl ji_73_58 jf_73_28 ?_
          refine wl_s (pc' := 62) ji_73_61 rfl rfl rfl ?_
          refine cs_l (x := z) C (Nat.lt_of_lt_of_le (by decide) (Nat.le_trans hF.1 (Nat.le_add_right _ _))) (isF_n hF 4 (by decide)) hF.2.2.2.2.2.1 (by omega) ji_73_62 (fun ld120 ld121 ld122 => ?_)
          refine wl_icmp (t := 75) ji_73_63 rfl (by omega) (by omega) (fun (hb13 : ¬ (s (F + 4) w : Int) = (s (F + 4) z)) => ?_) (fun (hb13 : ¬ (¬ (s (F + 4) w : Int) = (s (F + 4) z))) => ?_)
          · refine wl_s (pc' := 76) ji_73_75 rfl rfl rfl ?_
            exact wl_ri ji_73_76 jr_73 (pv_nb (by omega)) (⟨rfl, 0, rfl, by omega, by omega⟩)
          · refine wl_s (pc' := 67) ji_73_66 rfl rfl rfl ?_
            refine wl_s (pc' := 68) ji_73_67 rfl rfl rfl ?_
            refine wl_icmp (t := 75) ji_73_68 rfl (by omega) (by omega) (fun (hb14 : (z : Int) ≤ w) => ?_) (fun (hb14 : ¬ ((z : Int) ≤ w)) => ?_)
            · refine wl_s (pc' := 76) ji_73_75 rfl rfl rfl ?_
              exact wl_ri ji_73_76 jr_73 (pv_nb (by omega)) (⟨rfl, 0, rfl, by omega, by omega⟩)
            · refine wl_s (pc' := 72) ji_73_71 rfl rfl rfl ?_
              refine wl_goto (t := 76) ji_73_72 rfl ?_
              exact wl_ri ji_73_76 jr_73 (pv_nb (by omega)) (⟨rfl, 1, rfl, by omega, by omega⟩)
      · refine wl_s (pc' := 35) ji_73_34 rfl rfl rfl ?_
        exact wl_ri ji_73_35 jr_73 (pv_nb (by omega)) (⟨rfl, 1, rfl, by omega, by omega⟩)
    · refine wl_s (pc' := 17) ji_73_16 rfl rfl rfl ?_
      refine wl_s (pc' := 18) ji_73_17 rfl rfl rfl ?_
      refine cs_gi (k := 11) (kI := 11) C (Nat.lt_of_lt_of_le (by decide) hF.1) (isF_n hF 0 (by decide)) hF.2.1 rfl rfl ji_73_18 jf_73_46 ?_
      refine wl_icmp (t := 28) ji_73_21 rfl (by omega) (by omega) (fun (hb15 : ¬ (w : Int) = (s F 11)) => ?_) (fun (hb15 : ¬ (¬ (w : Int) = (s F 11))) => ?_)
      · refine wl_s (pc' := 29) ji_73_28 rfl rfl rfl ?_
        exact wl_ri ji_73_29 jr_73 (pv_nb (by omega)) (⟨rfl, 0, rfl, by omega, by omega⟩)
      · refine wl_s (pc' := 25) ji_73_24 rfl rfl rfl ?_
        refine wl_goto (t := 29) ji_73_25 rfl ?_
        exact wl_ri ji_73_29 jr_73 (pv_nb (by omega)) (⟨rfl, 1, rfl, by omega, by omega⟩)
