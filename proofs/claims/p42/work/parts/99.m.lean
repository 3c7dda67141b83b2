/-! -/
set_option maxRecDepth 100000 in
theorem ji_117_8 : mj_ins 117 8 = some (.iload 5) := by decide +kernel
set_option maxRecDepth 100000 in
theorem ji_117_10 : mj_ins 117 10 = some (.bipush 64) := by decide +kernel
set_option maxRecDepth 100000 in
theorem ji_117_12 : mj_ins 117 12 = some (.if_icmp .ge 27) := by decide +kernel
set_option maxRecDepth 100000 in
theorem ji_117_15 : mj_ins 117 15 = some (.iload 4) := by decide +kernel
set_option maxRecDepth 100000 in
theorem ji_117_17 : mj_ins 117 17 = some (.ifCond .eq 22) := by decide +kernel
set_option maxRecDepth 100000 in
theorem ji_117_20 : mj_ins 117 20 = some (.iload_n 3) := by decide +kernel
set_option maxRecDepth 100000 in
theorem ji_117_21 : mj_ins 117 21 = some (.iload 4) := by decide +kernel
set_option maxRecDepth 100000 in
theorem ji_117_23 : mj_ins 117 23 = some (.irem) := by decide +kernel
set_option maxRecDepth 100000 in
theorem ji_117_24 : mj_ins 117 24 = some (.istore 6) := by decide +kernel
set_option maxRecDepth 100000 in
theorem ji_117_26 : mj_ins 117 26 = some (.iload 4) := by decide +kernel
set_option maxRecDepth 100000 in
theorem ji_117_28 : mj_ins 117 28 = some (.istore_n 3) := by decide +kernel
set_option maxRecDepth 100000 in
theorem ji_117_29 : mj_ins 117 29 = some (.iload 6) := by decide +kernel
set_option maxRecDepth 100000 in
theorem ji_117_31 : mj_ins 117 31 = some (.istore 4) := by decide +kernel
set_option maxRecDepth 100000 in
theorem ji_117_33 : mj_ins 117 33 = some (.iinc 5 1) := by decide +kernel
set_option maxRecDepth 100000 in
theorem ji_117_36 : mj_ins 117 36 = some (.goto (-28)) := by decide +kernel
set_option maxRecDepth 100000 in
theorem ji_117_39 : mj_ins 117 39 = some (.iload_n 3) := by decide +kernel
set_option maxRecDepth 100000 in
theorem ji_117_40 : mj_ins 117 40 = some (.ifCond .ne 5) := by decide +kernel
set_option maxRecDepth 100000 in
theorem ji_117_45 : mj_ins 117 45 = some (.iload_n 2) := by decide +kernel
set_option maxRecDepth 100000 in
theorem ji_117_46 : mj_ins 117 46 = some (.ifCond .eq 9) := by decide +kernel
set_option maxRecDepth 100000 in
theorem ji_117_55 : mj_ins 117 55 = some (.iload_n 0) := by decide +kernel
set_option maxRecDepth 100000 in
theorem ji_117_56 : mj_ins 117 56 = some (.iload_n 3) := by decide +kernel
set_option maxRecDepth 100000 in
theorem ji_117_57 : mj_ins 117 57 = some (.idiv) := by decide +kernel
set_option maxRecDepth 100000 in
theorem ji_117_58 : mj_ins 117 58 = some (.ireturn) := by decide +kernel
set_option maxRecDepth 100000 in
theorem jr_117 : mj_ret 117 = some .int := by decide +kernel
set_option maxRecDepth 100000 in
theorem ji_117_49 : mj_ins 117 49 = some (.iload_n 1) := by decide +kernel
set_option maxRecDepth 100000 in
theorem ji_117_50 : mj_ins 117 50 = some (.iload_n 3) := by decide +kernel
set_option maxRecDepth 100000 in
theorem ji_117_51 : mj_ins 117 51 = some (.idiv) := by decide +kernel
set_option maxRecDepth 100000 in
theorem ji_117_52 : mj_ins 117 52 = some (.goto 6) := by decide +kernel
set_option maxRecDepth 100000 in
theorem ji_117_0 : mj_ins 117 0 = some (.iload_n 0) := by decide +kernel
set_option maxRecDepth 100000 in
theorem ji_117_1 : mj_ins 117 1 = some (.istore_n 3) := by decide +kernel
set_option maxRecDepth 100000 in
theorem ji_117_2 : mj_ins 117 2 = some (.iload_n 1) := by decide +kernel
set_option maxRecDepth 100000 in
theorem ji_117_3 : mj_ins 117 3 = some (.istore 4) := by decide +kernel
set_option maxRecDepth 100000 in
theorem ji_117_5 : mj_ins 117 5 = some (.iconst 0) := by decide +kernel
set_option maxRecDepth 100000 in
theorem ji_117_6 : mj_ins 117 6 = some (.istore 5) := by decide +kernel
set_option maxRecDepth 100000 in
theorem ji_280_6 : mj_ins 280 6 = some (.lload 6) := by decide +kernel
set_option maxRecDepth 100000 in
theorem ji_280_8 : mj_ins 280 8 = some (.lconst 0) := by decide +kernel
set_option maxRecDepth 100000 in
theorem ji_280_9 : mj_ins 280 9 = some (.lcmp) := by decide +kernel
set_option maxRecDepth 100000 in
theorem ji_280_10 : mj_ins 280 10 = some (.ifCond .eq 21) := by decide +kernel
set_option maxRecDepth 100000 in
theorem ji_280_13 : mj_ins 280 13 = some (.lload 4) := by decide +kernel
set_option maxRecDepth 100000 in
theorem ji_280_15 : mj_ins 280 15 = some (.lload 6) := by decide +kernel
set_option maxRecDepth 100000 in
theorem ji_280_17 : mj_ins 280 17 = some (.lrem) := by decide +kernel
set_option maxRecDepth 100000 in
theorem ji_280_18 : mj_ins 280 18 = some (.lstore 8) := by decide +kernel
set_option maxRecDepth 100000 in
theorem ji_280_20 : mj_ins 280 20 = some (.lload 6) := by decide +kernel
set_option maxRecDepth 100000 in
theorem ji_280_22 : mj_ins 280 22 = some (.lstore 4) := by decide +kernel
set_option maxRecDepth 100000 in
theorem ji_280_24 : mj_ins 280 24 = some (.lload 8) := by decide +kernel
set_option maxRecDepth 100000 in
theorem ji_280_26 : mj_ins 280 26 = some (.lstore 6) := by decide +kernel
set_option maxRecDepth 100000 in
theorem ji_280_28 : mj_ins 280 28 = some (.goto (-22)) := by decide +kernel
set_option maxRecDepth 100000 in
theorem ji_280_31 : mj_ins 280 31 = some (.lload 4) := by decide +kernel
set_option maxRecDepth 100000 in
theorem ji_280_33 : mj_ins 280 33 = some (.lreturn) := by decide +kernel
set_option maxRecDepth 100000 in
theorem jr_280 : mj_ret 280 = some .long := by decide +kernel
set_option maxRecDepth 100000 in
theorem ji_280_0 : mj_ins 280 0 = some (.lload_n 0) := by decide +kernel
set_option maxRecDepth 100000 in
theorem ji_280_1 : mj_ins 280 1 = some (.lstore 4) := by decide +kernel
set_option maxRecDepth 100000 in
theorem ji_280_3 : mj_ins 280 3 = some (.lload_n 2) := by decide +kernel
set_option maxRecDepth 100000 in
theorem ji_280_4 : mj_ins 280 4 = some (.lstore 6) := by decide +kernel
set_option maxRecDepth 100000 in
theorem ji_279_0 : mj_ins 279 0 = some (.iload 4) := by decide +kernel
set_option maxRecDepth 100000 in
theorem ji_279_2 : mj_ins 279 2 = some (.ifCond .eq 7) := by decide +kernel
set_option maxRecDepth 100000 in
theorem ji_279_9 : mj_ins 279 9 = some (.lload_n 0) := by decide +kernel
set_option maxRecDepth 100000 in
theorem ji_279_10 : mj_ins 279 10 = some (.lload_n 0) := by decide +kernel
set_option maxRecDepth 100000 in
theorem ji_279_11 : mj_ins 279 11 = some (.lload_n 2) := by decide +kernel
set_option maxRecDepth 100000 in
theorem ji_279_12 : mj_ins 279 12 = some (.invokestatic 409) := by decide +kernel
set_option maxRecDepth 100000 in
theorem jc_279_409 : mj_cal 279 409 = some (1, 280, 2) := by decide +kernel
set_option maxRecDepth 100000 in
theorem jn_280 : mj_nl 280 = 10 := by decide +kernel
set_option maxRecDepth 100000 in
theorem ji_279_15 : mj_ins 279 15 = some (.ldiv) := by decide +kernel
set_option maxRecDepth 100000 in
theorem ji_279_16 : mj_ins 279 16 = some (.lreturn) := by decide +kernel
set_option maxRecDepth 100000 in
theorem jr_279 : mj_ret 279 = some .long := by decide +kernel
set_option maxRecDepth 100000 in
theorem ji_279_5 : mj_ins 279 5 = some (.lload_n 2) := by decide +kernel
set_option maxRecDepth 100000 in
theorem ji_279_6 : mj_ins 279 6 = some (.goto 4) := by decide +kernel
set_option maxRecDepth 100000 in
theorem ji_142_44 : mj_ins 142 44 = some (.iload 7) := by decide +kernel
set_option maxRecDepth 100000 in
theorem ji_142_46 : mj_ins 142 46 = some (.bipush 48) := by decide +kernel
set_option maxRecDepth 100000 in
theorem ji_142_48 : mj_ins 142 48 = some (.if_icmp .gt 46) := by decide +kernel
set_option maxRecDepth 100000 in
theorem ji_142_51 : mj_ins 142 51 = some (.iload 6) := by decide +kernel
set_option maxRecDepth 100000 in
theorem ji_142_53 : mj_ins 142 53 = some (.bipush 99) := by decide +kernel
set_option maxRecDepth 100000 in
theorem ji_142_55 : mj_ins 142 55 = some (.iload 7) := by decide +kernel
set_option maxRecDepth 100000 in
theorem ji_142_57 : mj_ins 142 57 = some (.iconst 1) := by decide +kernel
set_option maxRecDepth 100000 in
theorem ji_142_58 : mj_ins 142 58 = some (.isub) := by decide +kernel
set_option maxRecDepth 100000 in
theorem ji_142_59 : mj_ins 142 59 = some (.iload_n 2) := by decide +kernel
set_option maxRecDepth 100000 in
theorem ji_142_60 : mj_ins 142 60 = some (.imul) := by decide +kernel
set_option maxRecDepth 100000 in
theorem ji_142_61 : mj_ins 142 61 = some (.invokestatic 282) := by decide +kernel
set_option maxRecDepth 100000 in
theorem jc_142_282 : mj_cal 142 282 = some (11, 0, 0) := by decide +kernel
set_option maxRecDepth 100000 in
theorem ji_142_64 : mj_ins 142 64 = some (.iadd) := by decide +kernel
set_option maxRecDepth 100000 in
theorem ji_142_65 : mj_ins 142 65 = some (.istore 6) := by decide +kernel
set_option maxRecDepth 100000 in
theorem ji_142_67 : mj_ins 142 67 = some (.iload 6) := by decide +kernel
set_option maxRecDepth 100000 in
theorem ji_142_69 : mj_ins 142 69 = some (.iload 4) := by decide +kernel
set_option maxRecDepth 100000 in
theorem ji_142_71 : mj_ins 142 71 = some (.imul) := by decide +kernel
set_option maxRecDepth 100000 in
theorem ji_142_72 : mj_ins 142 72 = some (.iload 5) := by decide +kernel
set_option maxRecDepth 100000 in
theorem ji_142_74 : mj_ins 142 74 = some (.iload 7) := by decide +kernel
set_option maxRecDepth 100000 in
theorem ji_142_76 : mj_ins 142 76 = some (.imul) := by decide +kernel
set_option maxRecDepth 100000 in
theorem ji_142_77 : mj_ins 142 77 = some (.if_icmp .ge 11) := by decide +kernel
set_option maxRecDepth 100000 in
theorem ji_142_88 : mj_ins 142 88 = some (.iinc 7 1) := by decide +kernel
set_option maxRecDepth 100000 in
theorem ji_142_91 : mj_ins 142 91 = some (.goto (-47)) := by decide +kernel
set_option maxRecDepth 100000 in
theorem ji_142_80 : mj_ins 142 80 = some (.iload 7) := by decide +kernel
set_option maxRecDepth 100000 in
theorem ji_142_82 : mj_ins 142 82 = some (.istore 4) := by decide +kernel
set_option maxRecDepth 100000 in
theorem ji_142_84 : mj_ins 142 84 = some (.iload 6) := by decide +kernel
set_option maxRecDepth 100000 in
theorem ji_142_86 : mj_ins 142 86 = some (.istore 5) := by decide +kernel
set_option maxRecDepth 100000 in
theorem ji_299_44 : mj_ins 299 44 = some (.iload 7) := by decide +kernel
set_option maxRecDepth 100000 in
theorem ji_299_46 : mj_ins 299 46 = some (.bipush 48) := by decide +kernel
set_option maxRecDepth 100000 in
theorem ji_299_48 : mj_ins 299 48 = some (.if_icmp .gt 60) := by decide +kernel
set_option maxRecDepth 100000 in
theorem ji_299_51 : mj_ins 299 51 = some (.iload 6) := by decide +kernel
set_option maxRecDepth 100000 in
theorem ji_299_53 : mj_ins 299 53 = some (.iload_n 2) := by decide +kernel
set_option maxRecDepth 100000 in
theorem ji_299_54 : mj_ins 299 54 = some (.iload 7) := by decide +kernel
set_option maxRecDepth 100000 in
theorem ji_299_56 : mj_ins 299 56 = some (.iconst 1) := by decide +kernel
set_option maxRecDepth 100000 in
theorem ji_299_57 : mj_ins 299 57 = some (.isub) := by decide +kernel
set_option maxRecDepth 100000 in
theorem ji_299_58 : mj_ins 299 58 = some (.imul) := by decide +kernel
set_option maxRecDepth 100000 in
theorem ji_299_59 : mj_ins 299 59 = some (.bipush 99) := by decide +kernel
set_option maxRecDepth 100000 in
theorem ji_299_61 : mj_ins 299 61 = some (.if_icmp .ge 12) := by decide +kernel
set_option maxRecDepth 100000 in
theorem ji_299_73 : mj_ins 299 73 = some (.bipush 99) := by decide +kernel
set_option maxRecDepth 100000 in
theorem ji_299_75 : mj_ins 299 75 = some (.iadd) := by decide +kernel
set_option maxRecDepth 100000 in
theorem ji_299_76 : mj_ins 299 76 = some (.istore 6) := by decide +kernel
set_option maxRecDepth 100000 in
theorem ji_299_78 : mj_ins 299 78 = some (.iload 6) := by decide +kernel
set_option maxRecDepth 100000 in
theorem ji_299_80 : mj_ins 299 80 = some (.iload 4) := by decide +kernel
set_option maxRecDepth 100000 in
theorem ji_299_82 : mj_ins 299 82 = some (.imul) := by decide +kernel
set_option maxRecDepth 100000 in
theorem ji_299_83 : mj_ins 299 83 = some (.iload 5) := by decide +kernel
set_option maxRecDepth 100000 in
theorem ji_299_85 : mj_ins 299 85 = some (.iload 7) := by decide +kernel
set_option maxRecDepth 100000 in
theorem ji_299_87 : mj_ins 299 87 = some (.imul) := by decide +kernel
set_option maxRecDepth 100000 in
theorem ji_299_88 : mj_ins 299 88 = some (.if_icmp .lt 6) := by decide +kernel
set_option maxRecDepth 100000 in
theorem ji_299_94 : mj_ins 299 94 = some (.iload 6) := by decide +kernel
set_option maxRecDepth 100000 in
theorem ji_299_96 : mj_ins 299 96 = some (.istore 5) := by decide +kernel
set_option maxRecDepth 100000 in
theorem ji_299_98 : mj_ins 299 98 = some (.iload 7) := by decide +kernel
set_option maxRecDepth 100000 in
theorem ji_299_100 : mj_ins 299 100 = some (.istore 4) := by decide +kernel
set_option maxRecDepth 100000 in
theorem ji_299_102 : mj_ins 299 102 = some (.iinc 7 1) := by decide +kernel
set_option maxRecDepth 100000 in
theorem ji_299_105 : mj_ins 299 105 = some (.goto (-61)) := by decide +kernel
set_option maxRecDepth 100000 in
theorem ji_299_91 : mj_ins 299 91 = some (.goto 11) := by decide +kernel
set_option maxRecDepth 100000 in
theorem ji_299_64 : mj_ins 299 64 = some (.iload_n 2) := by decide +kernel
set_option maxRecDepth 100000 in
theorem ji_299_65 : mj_ins 299 65 = some (.iload 7) := by decide +kernel
set_option maxRecDepth 100000 in
theorem ji_299_67 : mj_ins 299 67 = some (.iconst 1) := by decide +kernel
set_option maxRecDepth 100000 in
theorem ji_299_68 : mj_ins 299 68 = some (.isub) := by decide +kernel
set_option maxRecDepth 100000 in
theorem ji_299_69 : mj_ins 299 69 = some (.imul) := by decide +kernel
set_option maxRecDepth 100000 in
theorem ji_299_70 : mj_ins 299 70 = some (.goto 5) := by decide +kernel
set_option maxRecDepth 100000 in
theorem ji_142_94 : mj_ins 142 94 = some (.iload_n 3) := by decide +kernel
set_option maxRecDepth 100000 in
theorem ji_142_95 : mj_ins 142 95 = some (.ifCond .ne 8) := by decide +kernel
set_option maxRecDepth 100000 in
theorem ji_142_103 : mj_ins 142 103 = some (.iload 5) := by decide +kernel
set_option maxRecDepth 100000 in
theorem ji_142_105 : mj_ins 142 105 = some (.iload 4) := by decide +kernel
set_option maxRecDepth 100000 in
theorem ji_142_107 : mj_ins 142 107 = some (.iload_n 3) := by decide +kernel
set_option maxRecDepth 100000 in
theorem ji_142_108 : mj_ins 142 108 = some (.iconst 2) := by decide +kernel
set_option maxRecDepth 100000 in
theorem ji_142_109 : mj_ins 142 109 = some (.if_icmp .ne 7) := by decide +kernel
set_option maxRecDepth 100000 in
theorem ji_142_116 : mj_ins 142 116 = some (.iconst 0) := by decide +kernel
set_option maxRecDepth 100000 in
theorem ji_142_117 : mj_ins 142 117 = some (.invokestatic 237) := by decide +kernel
set_option maxRecDepth 100000 in
theorem jc_142_237 : mj_cal 142 237 = some (1, 117, 3) := by decide +kernel
set_option maxRecDepth 100000 in
theorem jn_117 : mj_nl 117 = 7 := by decide +kernel
set_option maxRecDepth 100000 in
theorem ji_142_120 : mj_ins 142 120 = some (.ireturn) := by decide +kernel
set_option maxRecDepth 100000 in
theorem jr_142 : mj_ret 142 = some .int := by decide +kernel
set_option maxRecDepth 100000 in
theorem ji_142_112 : mj_ins 142 112 = some (.iconst 1) := by decide +kernel
set_option maxRecDepth 100000 in
theorem ji_142_113 : mj_ins 142 113 = some (.goto 4) := by decide +kernel
set_option maxRecDepth 100000 in
theorem ji_142_98 : mj_ins 142 98 = some (.iload 4) := by decide +kernel
set_option maxRecDepth 100000 in
theorem ji_142_100 : mj_ins 142 100 = some (.goto 20) := by decide +kernel
set_option maxRecDepth 100000 in
theorem ji_142_0 : mj_ins 142 0 = some (.iload_n 1) := by decide +kernel
set_option maxRecDepth 100000 in
theorem ji_142_1 : mj_ins 142 1 = some (.ifCond .lt 29) := by decide +kernel
set_option maxRecDepth 100000 in
theorem ji_142_30 : mj_ins 142 30 = some (.iconst (-1)) := by decide +kernel
set_option maxRecDepth 100000 in
theorem ji_142_31 : mj_ins 142 31 = some (.ireturn) := by decide +kernel
set_option maxRecDepth 100000 in
theorem ji_142_4 : mj_ins 142 4 = some (.iload_n 1) := by decide +kernel
set_option maxRecDepth 100000 in
theorem ji_142_5 : mj_ins 142 5 = some (.sipush 999) := by decide +kernel
set_option maxRecDepth 100000 in
theorem ji_142_8 : mj_ins 142 8 = some (.if_icmp .gt 22) := by decide +kernel
set_option maxRecDepth 100000 in
theorem ji_142_11 : mj_ins 142 11 = some (.iload_n 2) := by decide +kernel
set_option maxRecDepth 100000 in
theorem ji_142_12 : mj_ins 142 12 = some (.ifCond .lt 18) := by decide +kernel
set_option maxRecDepth 100000 in
theorem ji_142_15 : mj_ins 142 15 = some (.iload_n 2) := by decide +kernel
set_option maxRecDepth 100000 in
theorem ji_142_16 : mj_ins 142 16 = some (.bipush 99) := by decide +kernel
set_option maxRecDepth 100000 in
theorem ji_142_18 : mj_ins 142 18 = some (.if_icmp .gt 12) := by decide +kernel
set_option maxRecDepth 100000 in
theorem ji_142_21 : mj_ins 142 21 = some (.iload_n 3) := by decide +kernel
set_option maxRecDepth 100000 in
theorem ji_142_22 : mj_ins 142 22 = some (.ifCond .lt 8) := by decide +kernel
set_option maxRecDepth 100000 in
theorem ji_142_25 : mj_ins 142 25 = some (.iload_n 3) := by decide +kernel
set_option maxRecDepth 100000 in
theorem ji_142_26 : mj_ins 142 26 = some (.iconst 2) := by decide +kernel
set_option maxRecDepth 100000 in
theorem ji_142_27 : mj_ins 142 27 = some (.if_icmp .le 5) := by decide +kernel
set_option maxRecDepth 100000 in
theorem ji_142_32 : mj_ins 142 32 = some (.iconst 1) := by decide +kernel
set_option maxRecDepth 100000 in
theorem ji_142_33 : mj_ins 142 33 = some (.istore 4) := by decide +kernel
set_option maxRecDepth 100000 in
theorem ji_142_35 : mj_ins 142 35 = some (.iload_n 1) := by decide +kernel
set_option maxRecDepth 100000 in
theorem ji_142_36 : mj_ins 142 36 = some (.istore 5) := by decide +kernel
set_option maxRecDepth 100000 in
theorem ji_142_38 : mj_ins 142 38 = some (.iload_n 1) := by decide +kernel
set_option maxRecDepth 100000 in
theorem ji_142_39 : mj_ins 142 39 = some (.istore 6) := by decide +kernel
set_option maxRecDepth 100000 in
theorem ji_142_41 : mj_ins 142 41 = some (.iconst 2) := by decide +kernel
set_option maxRecDepth 100000 in
theorem ji_142_42 : mj_ins 142 42 = some (.istore 7) := by decide +kernel
set_option maxRecDepth 100000 in
theorem ji_299_108 : mj_ins 299 108 = some (.iload_n 3) := by decide +kernel
set_option maxRecDepth 100000 in
theorem ji_299_109 : mj_ins 299 109 = some (.ifCond .ne 8) := by decide +kernel
set_option maxRecDepth 100000 in
theorem ji_299_117 : mj_ins 299 117 = some (.iload 5) := by decide +kernel
set_option maxRecDepth 100000 in
theorem ji_299_119 : mj_ins 299 119 = some (.i2l) := by decide +kernel
set_option maxRecDepth 100000 in
theorem ji_299_120 : mj_ins 299 120 = some (.iload 4) := by decide +kernel
set_option maxRecDepth 100000 in
theorem ji_299_122 : mj_ins 299 122 = some (.i2l) := by decide +kernel
set_option maxRecDepth 100000 in
theorem ji_299_123 : mj_ins 299 123 = some (.iload_n 3) := by decide +kernel
set_option maxRecDepth 100000 in
theorem ji_299_124 : mj_ins 299 124 = some (.iconst 2) := by decide +kernel
set_option maxRecDepth 100000 in
theorem ji_299_125 : mj_ins 299 125 = some (.if_icmp .ne 7) := by decide +kernel
set_option maxRecDepth 100000 in
theorem ji_299_132 : mj_ins 299 132 = some (.iconst 0) := by decide +kernel
set_option maxRecDepth 100000 in
theorem ji_299_133 : mj_ins 299 133 = some (.invokestatic 418) := by decide +kernel
set_option maxRecDepth 100000 in
theorem jc_299_418 : mj_cal 299 418 = some (1, 279, 3) := by decide +kernel
set_option maxRecDepth 100000 in
theorem jn_279 : mj_nl 279 = 5 := by decide +kernel
set_option maxRecDepth 100000 in
theorem ji_299_136 : mj_ins 299 136 = some (.l2i) := by decide +kernel
set_option maxRecDepth 100000 in
theorem ji_299_137 : mj_ins 299 137 = some (.ireturn) := by decide +kernel
set_option maxRecDepth 100000 in
theorem jr_299 : mj_ret 299 = some .int := by decide +kernel
set_option maxRecDepth 100000 in
theorem ji_299_128 : mj_ins 299 128 = some (.iconst 1) := by decide +kernel
set_option maxRecDepth 100000 in
theorem ji_299_129 : mj_ins 299 129 = some (.goto 4) := by decide +kernel
set_option maxRecDepth 100000 in
theorem ji_299_112 : mj_ins 299 112 = some (.iload 4) := by decide +kernel
set_option maxRecDepth 100000 in
theorem ji_299_114 : mj_ins 299 114 = some (.goto 23) := by decide +kernel
set_option maxRecDepth 100000 in
theorem ji_299_0 : mj_ins 299 0 = some (.iload_n 1) := by decide +kernel
set_option maxRecDepth 100000 in
theorem ji_299_1 : mj_ins 299 1 = some (.iconst 0) := by decide +kernel
set_option maxRecDepth 100000 in
theorem ji_299_2 : mj_ins 299 2 = some (.sipush 999) := by decide +kernel
set_option maxRecDepth 100000 in
theorem ji_299_5 : mj_ins 299 5 = some (.invokestatic 66) := by decide +kernel
set_option maxRecDepth 100000 in
theorem jc_299_66 : mj_cal 299 66 = some (1, 171, 3) := by decide +kernel
set_option maxRecDepth 100000 in
theorem ji_299_8 : mj_ins 299 8 = some (.ifCond .eq 22) := by decide +kernel
set_option maxRecDepth 100000 in
theorem ji_299_30 : mj_ins 299 30 = some (.iconst (-1)) := by decide +kernel
set_option maxRecDepth 100000 in
theorem ji_299_31 : mj_ins 299 31 = some (.ireturn) := by decide +kernel
set_option maxRecDepth 100000 in
theorem ji_299_11 : mj_ins 299 11 = some (.iload_n 2) := by decide +kernel
set_option maxRecDepth 100000 in
theorem ji_299_12 : mj_ins 299 12 = some (.iconst 0) := by decide +kernel
set_option maxRecDepth 100000 in
theorem ji_299_13 : mj_ins 299 13 = some (.bipush 99) := by decide +kernel
set_option maxRecDepth 100000 in
theorem ji_299_15 : mj_ins 299 15 = some (.invokestatic 66) := by decide +kernel
set_option maxRecDepth 100000 in
theorem ji_299_18 : mj_ins 299 18 = some (.ifCond .eq 12) := by decide +kernel
set_option maxRecDepth 100000 in
theorem ji_299_21 : mj_ins 299 21 = some (.iload_n 3) := by decide +kernel
set_option maxRecDepth 100000 in
theorem ji_299_22 : mj_ins 299 22 = some (.iconst 0) := by decide +kernel
set_option maxRecDepth 100000 in
theorem ji_299_23 : mj_ins 299 23 = some (.iconst 2) := by decide +kernel
set_option maxRecDepth 100000 in
theorem ji_299_24 : mj_ins 299 24 = some (.invokestatic 66) := by decide +kernel
set_option maxRecDepth 100000 in
theorem ji_299_27 : mj_ins 299 27 = some (.ifCond .ne 5) := by decide +kernel
set_option maxRecDepth 100000 in
theorem ji_299_32 : mj_ins 299 32 = some (.iconst 1) := by decide +kernel
set_option maxRecDepth 100000 in
theorem ji_299_33 : mj_ins 299 33 = some (.istore 4) := by decide +kernel
set_option maxRecDepth 100000 in
theorem ji_299_35 : mj_ins 299 35 = some (.iload_n 1) := by decide +kernel
set_option maxRecDepth 100000 in
theorem ji_299_36 : mj_ins 299 36 = some (.istore 5) := by decide +kernel
set_option maxRecDepth 100000 in
theorem ji_299_38 : mj_ins 299 38 = some (.iload_n 1) := by decide +kernel
set_option maxRecDepth 100000 in
theorem ji_299_39 : mj_ins 299 39 = some (.istore 6) := by decide +kernel
set_option maxRecDepth 100000 in
theorem ji_299_41 : mj_ins 299 41 = some (.iconst 2) := by decide +kernel
set_option maxRecDepth 100000 in
theorem ji_299_42 : mj_ins 299 42 = some (.istore 7) := by decide +kernel
/-! change, of the class and of the reference: both answer the same number; laid by program (wp_chg.py) -/
section WPD
variable {d m pc : Nat} {lv : mj_L} {st : List Value} {h : mj_H} {Q : Option Value → mj_H → Prop}
theorem wp_nz {y : Int} (hy : wp_r y) (h0 : ¬ y = 0) : ¬ Int32.ofInt y = 0 := fun e => by
  have := congrArg Int32.toInt e
  rw [wp_ti hy] at this
  exact h0 (this.trans (by decide))
theorem wp_td {x y : Int} (hx : 0 ≤ x ∧ x ≤ 2147483647) (hy : 0 < y ∧ y ≤ 2147483647) : Int32.ofInt x / Int32.ofInt y = Int32.ofInt (x / y) := by
  have e1 : Int32.minValue.toInt = -2147483648 := by decide
  have e2 : Int32.maxValue.toInt = 2147483647 := by decide
  rw [← Int.tdiv_eq_ediv_of_nonneg hx.1, Int32.ofInt_tdiv (by omega) (by omega) (by omega) (by omega)]
theorem wp_idiv {x y : Int} (hi : mj_ins m pc = some .idiv) (hx : 0 ≤ x ∧ x ≤ 2147483647) (hy : 0 < y ∧ y ≤ 2147483647) (hr : wp_R d m (pc + 1) lv (wp_i (x / y) :: st) h Q) : wp_R d m pc lv (wp_i y :: wp_i x :: st) h Q := by
  refine wp_s (pc' := pc + 1) (lv' := lv) (st' := wp_i (x / y) :: st) (h' := h) hi rfl rfl ?_ hr
  show (if Int32.ofInt y = 0 then none else some (pc + 1, lv, Value.int (Int32.ofInt x / Int32.ofInt y) :: st, h)) = _
  rw [if_neg (wp_nz (by omega) (by omega)), wp_td hx hy]
theorem wp_irem {x y : Int} (hi : mj_ins m pc = some .irem) (hx : 0 ≤ x ∧ x ≤ 2147483647) (hy : 0 < y ∧ y ≤ 2147483647) (hr : wp_R d m (pc + 1) lv (wp_i (x % y) :: st) h Q) : wp_R d m pc lv (wp_i y :: wp_i x :: st) h Q := by
  refine wp_s (pc' := pc + 1) (lv' := lv) (st' := wp_i (x % y) :: st) (h' := h) hi rfl rfl ?_ hr
  show (if Int32.ofInt y = 0 then none else some (pc + 1, lv, Value.int (Int32.ofInt x - Int32.ofInt x / Int32.ofInt y * Int32.ofInt y) :: st, h)) = _
  rw [if_neg (wp_nz (by omega) (by omega)), wp_td hx hy, ← Int32.ofInt_mul, ← Int32.ofInt_sub, Int.emod_def, Int.mul_comm y]
theorem wp_tl {x : Int} (hx : 0 ≤ x ∧ x ≤ 2147483647) : (Int64.ofInt x).toInt = x := Int64.toInt_ofInt_of_le (by omega) (by omega)
theorem wp_Ld {x y : Int} (hx : 0 ≤ x ∧ x ≤ 2147483647) (hy : 0 < y ∧ y ≤ 2147483647) : Int64.ofInt x / Int64.ofInt y = Int64.ofInt (x / y) := by
  have e1 : Int64.minValue.toInt = -9223372036854775808 := by decide
  have e2 : Int64.maxValue.toInt = 9223372036854775807 := by decide
  rw [← Int.tdiv_eq_ediv_of_nonneg hx.1, Int64.ofInt_tdiv (by omega) (by omega) (by omega) (by omega)]
theorem wp_Lnz {y : Int} (hy : 0 < y ∧ y ≤ 2147483647) : ¬ Int64.ofInt y = 0 := fun e => by
  have := congrArg Int64.toInt e
  rw [wp_tl (by omega)] at this
  have q : (0 : Int64).toInt = 0 := by decide
  omega
theorem wp_ldiv {x y : Int} (hi : mj_ins m pc = some .ldiv) (hx : 0 ≤ x ∧ x ≤ 2147483647) (hy : 0 < y ∧ y ≤ 2147483647) (hr : wp_R d m (pc + 1) lv (.long (Int64.ofInt (x / y)) :: st) h Q) : wp_R d m pc lv (.long (Int64.ofInt y) :: .long (Int64.ofInt x) :: st) h Q := by
  refine wp_s (pc' := pc + 1) (lv' := lv) (st' := .long (Int64.ofInt (x / y)) :: st) (h' := h) hi rfl rfl ?_ hr
  show (if Int64.ofInt y = 0 then none else some (pc + 1, lv, Value.long (Int64.ofInt x / Int64.ofInt y) :: st, h)) = _
  rw [if_neg (wp_Lnz hy), wp_Ld hx hy]
theorem wp_lrem {x y : Int} (hi : mj_ins m pc = some .lrem) (hx : 0 ≤ x ∧ x ≤ 2147483647) (hy : 0 < y ∧ y ≤ 2147483647) (hr : wp_R d m (pc + 1) lv (.long (Int64.ofInt (x % y)) :: st) h Q) : wp_R d m pc lv (.long (Int64.ofInt y) :: .long (Int64.ofInt x) :: st) h Q := by
  refine wp_s (pc' := pc + 1) (lv' := lv) (st' := .long (Int64.ofInt (x % y)) :: st) (h' := h) hi rfl rfl ?_ hr
  show (if Int64.ofInt y = 0 then none else some (pc + 1, lv, Value.long (Int64.ofInt x - Int64.ofInt x / Int64.ofInt y * Int64.ofInt y) :: st, h)) = _
  rw [if_neg (wp_Lnz hy), wp_Ld hx hy, ← Int64.ofInt_mul, ← Int64.ofInt_sub, Int.emod_def, Int.mul_comm y]
theorem wp_i2l {x : Int} (hi : mj_ins m pc = some .i2l) (hx : 0 ≤ x ∧ x ≤ 2147483647) (hr : wp_R d m (pc + 1) lv (.long (Int64.ofInt x) :: st) h Q) : wp_R d m pc lv (wp_i x :: st) h Q := by
  refine wp_s (pc' := pc + 1) (lv' := lv) (st' := .long (Int64.ofInt x) :: st) (h' := h) hi rfl rfl ?_ hr
  show some (pc + 1, lv, Value.long (Int32.ofInt x).toInt64 :: st, h) = _
  rw [← Int64.ofInt_int32ToInt, wp_ti (by omega)]
theorem wp_l2i {x : Int} (hi : mj_ins m pc = some .l2i) (hx : 0 ≤ x ∧ x ≤ 2147483647) (hr : wp_R d m (pc + 1) lv (wp_i x :: st) h Q) : wp_R d m pc lv (.long (Int64.ofInt x) :: st) h Q := by
  refine wp_s (pc' := pc + 1) (lv' := lv) (st' := wp_i x :: st) (h' := h) hi rfl rfl ?_ hr
  show some (pc + 1, lv, Value.int (Int64.ofInt x).toInt32 :: st, h) = _
  rw [← Int32.ofInt_int64ToInt, wp_tl hx]
theorem wp_lcmp0 {x : Int} (hi : mj_ins m pc = some .lcmp) (hx : 0 ≤ x ∧ x ≤ 2147483647) (hr : ∀ y : Int, wp_r y → (y = 0 ↔ x = 0) → wp_R d m (pc + 1) lv (wp_i y :: st) h Q) : wp_R d m pc lv (.long (Int64.ofNat 0) :: .long (Int64.ofInt x) :: st) h Q := by
  have e := sx_cmp_sg (Int64.ofInt x) (Int64.ofNat 0)
  rw [wp_tl hx, show (Int64.ofNat 0).toInt = 0 from by decide, Int.sub_zero] at e
  have hq := hr (lg_cmp (Int64.ofInt x) (Int64.ofNat 0)).toInt (sx_r32 _) (by rw [e]; exact Int.sign_eq_zero_iff_zero)
  rw [← wp_iz] at hq
  exact wp_s (pc' := pc + 1) hi rfl rfl rfl hq
theorem wp_min {x c0 : Nat} {a b : Int} (hi : mj_ins m pc = some (.invokestatic x)) (hc : mj_cal m x = some (11, c0, 0)) (hq : mj_cat st ≤ 8) (ha : wp_r a) (hb : wp_r b) (hr : wp_R d m (pc + 3) lv (wp_i (if b < a then b else a) :: st) h Q) : wp_R d m pc lv (wp_i b :: wp_i a :: st) h Q := by
  have hcall : mj_call m (.invokestatic x) (wp_i b :: wp_i a :: st) h = none := by
    simp only [mj_call, hc]
  refine wp_s (pc' := pc + 3) (lv' := lv) (st' := wp_i (if b < a then b else a) :: st) (h' := h) hi rfl hcall ?_ hr
  simp only [mj_st, hc]
  rw [if_pos hq]
  have e : (Int32.ofInt b < Int32.ofInt a) ↔ b < a := by rw [Int32.lt_iff_toInt_lt, wp_ti ha, wp_ti hb]
  by_cases hlt : b < a
  · rw [if_pos (e.mpr hlt), if_pos hlt]
  · rw [if_neg (fun q => hlt (e.mp q)), if_neg hlt]
end WPD
theorem mul_b {a b A B : Int} (ha : 0 ≤ a ∧ a ≤ A) (hb : 0 ≤ b ∧ b ≤ B) : 0 ≤ a * b ∧ a * b ≤ A * B := ⟨Int.mul_nonneg ha.1 hb.1, Int.mul_le_mul ha.2 hb.2 hb.1 (by omega)⟩
/-! Euclid -/
def eu : Nat → Int → Int → Int
  | 0, a, _ => a
  | n + 1, a, b => if b = 0 then a else eu n b (a % b)
theorem eu_p : ∀ {n : Nat} {a b A : Int}, 0 ≤ a → a ≤ A → 0 ≤ b → b ≤ A → (0 < a ∨ 0 < b) → b < n → 0 < eu n a b ∧ eu n a b ≤ A
  | 0, a, b, A, h1, h2, h3, h4, h5, h6 => by omega
  | n + 1, a, b, A, h1, h2, h3, h4, h5, h6 => by
    unfold eu
    split
    · omega
    · have m1 := Int.emod_nonneg a (b := b) (by omega)
      have m2 := Int.emod_lt_of_pos a (b := b) (by omega)
      exact eu_p h3 h4 m1 (by omega) (Or.inl (by omega)) (by omega)
/-- a part of a ratio in lowest terms -/
def lw (up lo fl : Int) : Int := (if fl = 0 then up else lo) / eu 49 up lo
theorem lt8 {d : Nat} {h : mj_H} {up lo fl : Int} {Q : Option Value → mj_H → Prop} : ∀ (n : Nat) (a b i : Int) (x6 : Option Value), (0 ≤ a ∧ a ≤ 100000) → (0 ≤ b ∧ b ≤ 48) → b < n → (0 ≤ i ∧ i + b ≤ 48) → (∀ (b' i' : Int) (x6' : Option Value), wp_R d 117 39 [some (wp_i up), some (wp_i lo), some (wp_i fl), some (wp_i (eu n a b)), some (wp_i b'), some (wp_i i'), x6'] [] h Q) → wp_R d 117 8 [some (wp_i up), some (wp_i lo), some (wp_i fl), some (wp_i a), some (wp_i b), some (wp_i i), x6] [] h Q := by
  intro n
  induction n with
  | zero => intro a b i x6 h1 h2 h3; omega
  | succ n ih =>
    intro a b i x6 ha hb hn hi hQ
    refine wp_s (pc' := 10) ji_117_8 rfl rfl rfl ?_
    refine wp_bp ji_117_10 rfl ?_
    refine wp_icmp (t := 39) ji_117_12 rfl (by omega) (by omega) (fun (hb1 : (64 : Int) ≤ i) => (by exfalso; omega)) (fun (hb1 : ¬ ((64 : Int) ≤ i)) => ?_)
    refine wp_s (pc' := 17) ji_117_15 rfl rfl rfl ?_
    refine wp_if (t := 39) ji_117_17 rfl (by omega) (fun (hb2 : (b : Int) = 0) => ?_) (fun (hb2 : ¬ ((b : Int) = 0)) => ?_)
    · rw [eu, if_pos (by omega)] at hQ
      exact hQ _ _ _
    · refine wp_s (pc' := 21) ji_117_20 rfl rfl rfl ?_
      refine wp_s (pc' := 23) ji_117_21 rfl rfl rfl ?_
      refine wp_irem (x := a) (y := b) ji_117_23 (by omega) (by omega) ?_
      refine wp_s (pc' := 26) (lv' := [some (wp_i up), some (wp_i lo), some (wp_i fl), some (wp_i a), some (wp_i b), some (wp_i i), some (wp_i (a % b))]) ji_117_24 rfl rfl rfl ?_
      refine wp_s (pc' := 28) ji_117_26 rfl rfl rfl ?_
      refine wp_s (pc' := 29) (lv' := [some (wp_i up), some (wp_i lo), some (wp_i fl), some (wp_i b), some (wp_i b), some (wp_i i), some (wp_i (a % b))]) ji_117_28 rfl rfl rfl ?_
      refine wp_s (pc' := 31) ji_117_29 rfl rfl rfl ?_
      refine wp_s (pc' := 33) (lv' := [some (wp_i up), some (wp_i lo), some (wp_i fl), some (wp_i b), some (wp_i (a % b)), some (wp_i i), some (wp_i (a % b))]) ji_117_31 rfl rfl rfl ?_
      refine wp_iinc (x := i) (z := i + 1) (lv' := [some (wp_i up), some (wp_i lo), some (wp_i fl), some (wp_i b), some (wp_i (a % b)), some (wp_i (i + 1)), some (wp_i (a % b))]) ji_117_33 rfl (Nat.le_of_ble_eq_true rfl) (by omega) rfl ?_
      refine wp_goto (t := 8) ji_117_36 rfl ?_
      rw [eu, if_neg (by omega)] at hQ
      have m1 := Int.emod_nonneg a (b := b) (by omega)
      have m2 := Int.emod_lt_of_pos a (b := b) (by omega)
      exact ih b (a % b) (i + 1) _ (by omega) (by omega) (by omega) (by omega) hQ
theorem ws_low {d : Nat} {h : mj_H} {up lo fl : Int} (hu : 0 ≤ up ∧ up ≤ 100000) (hl : 1 ≤ lo ∧ lo ≤ 48) (hf : fl = 0 ∨ fl = 1) : wp_R d 117 0 [some (wp_i up), some (wp_i lo), some (wp_i fl), none, none, none, none] [] h (fun v h1 => h1 = h ∧ v = some (wp_i (lw up lo fl))) := by
  have hp := eu_p (n := 49) (a := up) (b := lo) (A := 100000) (by omega) (by omega) (by omega) (by omega) (by omega) (by omega)
  refine wp_s (pc' := 1) ji_117_0 rfl rfl rfl ?_
  refine wp_s (pc' := 2) (lv' := [some (wp_i up), some (wp_i lo), some (wp_i fl), some (wp_i up), none, none, none]) ji_117_1 rfl rfl rfl ?_
  refine wp_s (pc' := 3) ji_117_2 rfl rfl rfl ?_
  refine wp_s (pc' := 5) (lv' := [some (wp_i up), some (wp_i lo), some (wp_i fl), some (wp_i up), some (wp_i lo), none, none]) ji_117_3 rfl rfl rfl ?_
  refine wp_s (pc' := 6) ji_117_5 rfl rfl rfl ?_
  refine wp_s (pc' := 8) (lv' := [some (wp_i up), some (wp_i lo), some (wp_i fl), some (wp_i up), some (wp_i lo), some (wp_i 0), none]) ji_117_6 rfl rfl rfl ?_
  refine lt8 49 up lo 0 none (by omega) (by omega) (by omega) (by omega) (fun b' i' x6 => ?_)
  obtain ⟨e, he⟩ : ∃ e, eu 49 up lo = e := ⟨_, rfl⟩
  rw [he] at hp ⊢
  refine wp_s (pc' := 40) ji_117_39 rfl rfl rfl ?_
  refine wp_if (t := 45) ji_117_40 rfl (by omega) (fun (hb1 : ¬ (e : Int) = 0) => ?_) (fun (hb1 : ¬ (¬ (e : Int) = 0)) => (by exfalso; omega))
  refine wp_s (pc' := 46) ji_117_45 rfl rfl rfl ?_
  refine wp_if (t := 55) ji_117_46 rfl (by omega) (fun (hb2 : (fl : Int) = 0) => ?_) (fun (hb2 : ¬ ((fl : Int) = 0)) => ?_)
  · refine wp_s (pc' := 56) ji_117_55 rfl rfl rfl ?_
    refine wp_s (pc' := 57) ji_117_56 rfl rfl rfl ?_
    refine wp_idiv (x := up) (y := e) ji_117_57 (by omega) (by omega) ?_
    refine wp_ri ji_117_58 jr_117 rfl ⟨rfl, ?_⟩
    unfold lw
    rw [he, if_pos (by omega)]
  · refine wp_s (pc' := 50) ji_117_49 rfl rfl rfl ?_
    refine wp_s (pc' := 51) ji_117_50 rfl rfl rfl ?_
    refine wp_idiv (x := lo) (y := e) ji_117_51 (by omega) (by omega) ?_
    refine wp_goto (t := 58) ji_117_52 rfl ?_
    refine wp_ri ji_117_58 jr_117 rfl ⟨rfl, ?_⟩
    unfold lw
    rw [he, if_neg (by omega)]
theorem cm6 {d : Nat} {h : mj_H} {x y : Int} {Q : Option Value → mj_H → Prop} : ∀ (n : Nat) (p q : Int) (x8 x9 : Option Value), (0 ≤ p ∧ p ≤ 100000) → (0 ≤ q ∧ q ≤ 100000) → q < n → (∀ (q' : Int) (x8' x9' : Option Value), wp_R d 280 31 [some (.long (Int64.ofInt x)), none, some (.long (Int64.ofInt y)), none, some (.long (Int64.ofInt (eu n p q))), none, some (.long (Int64.ofInt q')), none, x8', x9'] [] h Q) → wp_R d 280 6 [some (.long (Int64.ofInt x)), none, some (.long (Int64.ofInt y)), none, some (.long (Int64.ofInt p)), none, some (.long (Int64.ofInt q)), none, x8, x9] [] h Q := by
  intro n
  induction n with
  | zero => intro p q x8 x9 h1 h2 h3; omega
  | succ n ih =>
    intro p q x8 x9 hp hq hn hQ
    refine wp_s (pc' := 8) ji_280_6 rfl rfl rfl ?_
    refine wp_s (pc' := 9) ji_280_8 rfl rfl rfl ?_
    refine wp_lcmp0 (x := q) ji_280_9 (by omega) (fun y1 ry1 iy1 => ?_)
    refine wp_if (t := 31) ji_280_10 rfl (by omega) (fun (hb2 : (y1 : Int) = 0) => ?_) (fun (hb2 : ¬ ((y1 : Int) = 0)) => ?_)
    · rw [eu, if_pos (by omega)] at hQ
      exact hQ _ _ _
    · refine wp_s (pc' := 15) ji_280_13 rfl rfl rfl ?_
      refine wp_s (pc' := 17) ji_280_15 rfl rfl rfl ?_
      refine wp_lrem (x := p) (y := q) ji_280_17 (by omega) (by omega) ?_
      refine wp_s (pc' := 20) (lv' := [some (.long (Int64.ofInt x)), none, some (.long (Int64.ofInt y)), none, some (.long (Int64.ofInt p)), none, some (.long (Int64.ofInt q)), none, some (.long (Int64.ofInt (p % q))), none]) ji_280_18 rfl rfl rfl ?_
      refine wp_s (pc' := 22) ji_280_20 rfl rfl rfl ?_
      refine wp_s (pc' := 24) (lv' := [some (.long (Int64.ofInt x)), none, some (.long (Int64.ofInt y)), none, some (.long (Int64.ofInt q)), none, some (.long (Int64.ofInt q)), none, some (.long (Int64.ofInt (p % q))), none]) ji_280_22 rfl rfl rfl ?_
      refine wp_s (pc' := 26) ji_280_24 rfl rfl rfl ?_
      refine wp_s (pc' := 28) (lv' := [some (.long (Int64.ofInt x)), none, some (.long (Int64.ofInt y)), none, some (.long (Int64.ofInt q)), none, some (.long (Int64.ofInt (p % q))), none, some (.long (Int64.ofInt (p % q))), none]) ji_280_26 rfl rfl rfl ?_
      refine wp_goto (t := 6) ji_280_28 rfl ?_
      rw [eu, if_neg (by omega)] at hQ
      have m1 := Int.emod_nonneg p (b := q) (by omega)
      have m2 := Int.emod_lt_of_pos p (b := q) (by omega)
      exact ih q (p % q) _ _ (by omega) (by omega) (by omega) hQ
theorem ws_common {d : Nat} {h : mj_H} {x y : Int} (hx : 0 ≤ x ∧ x ≤ 100000) (hy : 0 ≤ y ∧ y ≤ 48) : wp_R d 280 0 [some (.long (Int64.ofInt x)), none, some (.long (Int64.ofInt y)), none, none, none, none, none, none, none] [] h (fun v h1 => h1 = h ∧ v = some (.long (Int64.ofInt (eu 49 x y)))) := by
  refine wp_s (pc' := 1) ji_280_0 rfl rfl rfl ?_
  refine wp_s (pc' := 3) (lv' := [some (.long (Int64.ofInt x)), none, some (.long (Int64.ofInt y)), none, some (.long (Int64.ofInt x)), none, none, none, none, none]) ji_280_1 rfl rfl rfl ?_
  refine wp_s (pc' := 4) ji_280_3 rfl rfl rfl ?_
  refine wp_s (pc' := 6) (lv' := [some (.long (Int64.ofInt x)), none, some (.long (Int64.ofInt y)), none, some (.long (Int64.ofInt x)), none, some (.long (Int64.ofInt y)), none, none, none]) ji_280_4 rfl rfl rfl ?_
  refine cm6 49 x y none none (by omega) (by omega) (by omega) (fun q' x8 x9 => ?_)
  refine wp_s (pc' := 33) ji_280_31 rfl rfl rfl ?_
  exact wp_rl ji_280_33 jr_280 ⟨rfl, rfl⟩
theorem ws_part {d : Nat} {h : mj_H} {up lo fl : Int} (hu : 0 ≤ up ∧ up ≤ 100000) (hl : 1 ≤ lo ∧ lo ≤ 48) (hf : fl = 0 ∨ fl = 1) : wp_R (d + 1) 279 0 [some (.long (Int64.ofInt up)), none, some (.long (Int64.ofInt lo)), none, some (wp_i fl)] [] h (fun v h1 => h1 = h ∧ v = some (.long (Int64.ofInt (lw up lo fl)))) := by
  have hp := eu_p (n := 49) (a := up) (b := lo) (A := 100000) (by omega) (by omega) (by omega) (by omega) (by omega) (by omega)
  refine wp_s (pc' := 2) ji_279_0 rfl rfl rfl ?_
  refine wp_if (t := 9) ji_279_2 rfl (by omega) (fun (hb1 : (fl : Int) = 0) => ?_) (fun (hb1 : ¬ ((fl : Int) = 0)) => ?_)
  · refine wp_s (pc' := 10) ji_279_9 rfl rfl rfl ?_
    refine wp_s (pc' := 11) ji_279_10 rfl rfl rfl ?_
    refine wp_s (pc' := 12) ji_279_11 rfl rfl rfl ?_
    refine wp_sc (as := [.long (Int64.ofInt up), .long (Int64.ofInt lo)]) (rest := [.long (Int64.ofInt up)]) ji_279_12 jc_279_409 (Nat.le_of_ble_eq_true rfl) rfl (Nat.le_of_ble_eq_true rfl) rfl (by rw [jn_280]; rfl) (ws_common hu (by omega)) (fun v h R => ?_)
    obtain ⟨rfl, rfl⟩ := R
    show wp_R (d + 1) 279 15 [some (.long (Int64.ofInt up)), none, some (.long (Int64.ofInt lo)), none, some (wp_i fl)] [.long (Int64.ofInt (eu 49 up lo)), .long (Int64.ofInt up)] h _
    refine wp_ldiv (x := up) (y := (eu 49 up lo)) ji_279_15 (by omega) (by omega) ?_
    refine wp_rl ji_279_16 jr_279 ⟨rfl, ?_⟩
    unfold lw
    rw [if_pos (by omega)]
  · refine wp_s (pc' := 6) ji_279_5 rfl rfl rfl ?_
    refine wp_goto (t := 10) ji_279_6 rfl ?_
    refine wp_s (pc' := 11) ji_279_10 rfl rfl rfl ?_
    refine wp_s (pc' := 12) ji_279_11 rfl rfl rfl ?_
    refine wp_sc (as := [.long (Int64.ofInt up), .long (Int64.ofInt lo)]) (rest := [.long (Int64.ofInt lo)]) ji_279_12 jc_279_409 (Nat.le_of_ble_eq_true rfl) rfl (Nat.le_of_ble_eq_true rfl) rfl (by rw [jn_280]; rfl) (ws_common hu (by omega)) (fun v h R => ?_)
    obtain ⟨rfl, rfl⟩ := R
    show wp_R (d + 1) 279 15 [some (.long (Int64.ofInt up)), none, some (.long (Int64.ofInt lo)), none, some (wp_i fl)] [.long (Int64.ofInt (eu 49 up lo)), .long (Int64.ofInt lo)] h _
    refine wp_ldiv (x := lo) (y := (eu 49 up lo)) ji_279_15 (by omega) (by omega) ?_
    refine wp_rl ji_279_16 jr_279 ⟨rfl, ?_⟩
    unfold lw
    rw [if_neg (by omega)]
def m9 (x : Int) : Int := if x < 99 then x else 99
def cg (t : Int) : Nat → Int → Int → Int → Int → Int × Int
  | 0, _, f, l, _ => (f, l)
  | k + 1, n, f, l, s => if (s + m9 (t * (n - 1))) * f < l * n then cg t k (n + 1) n (s + m9 (t * (n - 1))) (s + m9 (t * (n - 1))) else cg t k (n + 1) f l (s + m9 (t * (n - 1)))
def chg (c t w : Int) : Int := if 0 ≤ c ∧ c ≤ 999 ∧ 0 ≤ t ∧ t ≤ 99 ∧ 0 ≤ w ∧ w ≤ 2 then (if w = 0 then (cg t 47 2 1 c c).1 else lw (cg t 47 2 1 c c).2 (cg t 47 2 1 c c).1 (if w = 2 then 1 else 0)) else -1
theorem cg_b {t : Int} (ht : 0 ≤ t ∧ t ≤ 99) : ∀ {k : Nat} {n f l s : Int}, n + k = 49 → 2 ≤ n → (1 ≤ f ∧ f ≤ 48) → (0 ≤ l ∧ l ≤ 999 + 99 * (n - 2)) → (0 ≤ s ∧ s ≤ 999 + 99 * (n - 2)) → (1 ≤ (cg t k n f l s).1 ∧ (cg t k n f l s).1 ≤ 48) ∧ (0 ≤ (cg t k n f l s).2 ∧ (cg t k n f l s).2 ≤ 100000)
  | 0, n, f, l, s, h1, h2, hf, hl, hs => by
    unfold cg
    dsimp only
    omega
  | k + 1, n, f, l, s, h1, h2, hf, hl, hs => by
    have hm := mul_b (a := t) (b := n - 1) ht (B := 47) (by omega)
    have h9 : 0 ≤ m9 (t * (n - 1)) ∧ m9 (t * (n - 1)) ≤ 99 := by
      unfold m9
      split <;> omega
    unfold cg
    split
    · exact cg_b ht (by omega) (by omega) (by omega) (by omega) (by omega)
    · exact cg_b ht (by omega) (by omega) (by omega) (by omega) (by omega)
theorem cl44 {d : Nat} {h : mj_H} {a : Nat} {c t w : Int} (ht : 0 ≤ t ∧ t ≤ 99) {Q : Option Value → mj_H → Prop} : ∀ (k : Nat) (n f l s : Int), n + k = 49 → 2 ≤ n → (1 ≤ f ∧ f ≤ 48) → (0 ≤ l ∧ l ≤ 999 + 99 * (n - 2)) → (0 ≤ s ∧ s ≤ 999 + 99 * (n - 2)) → (∀ (s' n' : Int), wp_R d 142 94 [some (.ref a), some (wp_i c), some (wp_i t), some (wp_i w), some (wp_i (cg t k n f l s).1), some (wp_i (cg t k n f l s).2), some (wp_i s'), some (wp_i n')] [] h Q) → wp_R d 142 44 [some (.ref a), some (wp_i c), some (wp_i t), some (wp_i w), some (wp_i f), some (wp_i l), some (wp_i s), some (wp_i n)] [] h Q := by
  intro k
  induction k with
  | zero =>
    intro n f l s hk hn hf hl hs hQ
    refine wp_s (pc' := 46) ji_142_44 rfl rfl rfl ?_
    refine wp_bp ji_142_46 rfl ?_
    refine wp_icmp (t := 94) ji_142_48 rfl (by omega) (by omega) (fun (hb1 : (48 : Int) < n) => ?_) (fun (hb1 : ¬ ((48 : Int) < n)) => (by exfalso; omega))
    exact hQ _ _
  | succ k ih =>
    intro n f l s hk hn hf hl hs hQ
    have hm := mul_b (a := t) (b := n - 1) ht (B := 47) (by omega)
    have h9 : 0 ≤ m9 (t * (n - 1)) ∧ m9 (t * (n - 1)) ≤ 99 := by
      unfold m9
      split <;> omega
    obtain ⟨s2, hs2⟩ : ∃ s2, s + m9 (t * (n - 1)) = s2 := ⟨_, rfl⟩
    have hsf := mul_b (a := s2) (b := f) (A := 6000) (B := 48) (by omega) (by omega)
    have hln := mul_b (a := l) (b := n) (A := 6000) (B := 48) (by omega) (by omega)
    refine wp_s (pc' := 46) ji_142_44 rfl rfl rfl ?_
    refine wp_bp ji_142_46 rfl ?_
    refine wp_icmp (t := 94) ji_142_48 rfl (by omega) (by omega) (fun (hb1 : (48 : Int) < n) => (by exfalso; omega)) (fun (hb1 : ¬ ((48 : Int) < n)) => ?_)
    refine wp_s (pc' := 53) ji_142_51 rfl rfl rfl ?_
    refine wp_bp ji_142_53 rfl ?_
    refine wp_s (pc' := 57) ji_142_55 rfl rfl rfl ?_
    refine wp_s (pc' := 58) ji_142_57 rfl rfl rfl ?_
    refine wp_isub (x := n) (y := 1) (z := n - 1) ji_142_58 (by omega) ?_
    refine wp_s (pc' := 60) ji_142_59 rfl rfl rfl ?_
    refine wp_imul (x := n - 1) (y := t) (z := (n - 1) * t) ji_142_60 rfl ?_
    refine wp_min (a := 99) (b := (n - 1) * t) ji_142_61 jc_142_282 (Nat.le_of_ble_eq_true rfl) (by omega) (by rw [Int.mul_comm (n - 1) t]; omega) ?_
    rw [Int.mul_comm (n - 1) t, show (if t * (n - 1) < 99 then t * (n - 1) else 99) = m9 (t * (n - 1)) from rfl]
    refine wp_iadd (x := s) (y := m9 (t * (n - 1))) (z := s2) ji_142_64 (by omega) ?_
    refine wp_s (pc' := 67) (lv' := [some (.ref a), some (wp_i c), some (wp_i t), some (wp_i w), some (wp_i f), some (wp_i l), some (wp_i s2), some (wp_i n)]) ji_142_65 rfl rfl rfl ?_
    refine wp_s (pc' := 69) ji_142_67 rfl rfl rfl ?_
    refine wp_s (pc' := 71) ji_142_69 rfl rfl rfl ?_
    refine wp_imul (x := s2) (y := f) (z := s2 * f) ji_142_71 rfl ?_
    refine wp_s (pc' := 74) ji_142_72 rfl rfl rfl ?_
    refine wp_s (pc' := 76) ji_142_74 rfl rfl rfl ?_
    refine wp_imul (x := l) (y := n) (z := l * n) ji_142_76 rfl ?_
    refine wp_icmp (t := 88) ji_142_77 rfl (by omega) (by omega) (fun (hb2 : (l * n : Int) ≤ (s2 * f)) => ?_) (fun (hb2 : ¬ ((l * n : Int) ≤ (s2 * f))) => ?_)
    · refine wp_iinc (x := n) (z := n + 1) (lv' := [some (.ref a), some (wp_i c), some (wp_i t), some (wp_i w), some (wp_i f), some (wp_i l), some (wp_i s2), some (wp_i (n + 1))]) ji_142_88 rfl (Nat.le_of_ble_eq_true rfl) (by omega) rfl ?_
      refine wp_goto (t := 44) ji_142_91 rfl ?_
      rw [cg, hs2, if_neg (by omega)] at hQ
      exact ih _ _ _ _ (by omega) (by omega) (by omega) (by omega) (by omega) hQ
    · refine wp_s (pc' := 82) ji_142_80 rfl rfl rfl ?_
      refine wp_s (pc' := 84) (lv' := [some (.ref a), some (wp_i c), some (wp_i t), some (wp_i w), some (wp_i n), some (wp_i l), some (wp_i s2), some (wp_i n)]) ji_142_82 rfl rfl rfl ?_
      refine wp_s (pc' := 86) ji_142_84 rfl rfl rfl ?_
      refine wp_s (pc' := 88) (lv' := [some (.ref a), some (wp_i c), some (wp_i t), some (wp_i w), some (wp_i n), some (wp_i s2), some (wp_i s2), some (wp_i n)]) ji_142_86 rfl rfl rfl ?_
      refine wp_iinc (x := n) (z := n + 1) (lv' := [some (.ref a), some (wp_i c), some (wp_i t), some (wp_i w), some (wp_i n), some (wp_i s2), some (wp_i s2), some (wp_i (n + 1))]) ji_142_88 rfl (Nat.le_of_ble_eq_true rfl) (by omega) rfl ?_
      refine wp_goto (t := 44) ji_142_91 rfl ?_
      rw [cg, hs2, if_pos (by omega)] at hQ
      exact ih _ _ _ _ (by omega) (by omega) (by omega) (by omega) (by omega) hQ
theorem rf44 {d : Nat} {h : mj_H} {a : Nat} {c t w : Int} (ht : 0 ≤ t ∧ t ≤ 99) {Q : Option Value → mj_H → Prop} : ∀ (k : Nat) (n f l s : Int), n + k = 49 → 2 ≤ n → (1 ≤ f ∧ f ≤ 48) → (0 ≤ l ∧ l ≤ 999 + 99 * (n - 2)) → (0 ≤ s ∧ s ≤ 999 + 99 * (n - 2)) → (∀ (s' n' : Int), wp_R d 299 108 [some (.ref a), some (wp_i c), some (wp_i t), some (wp_i w), some (wp_i (cg t k n f l s).1), some (wp_i (cg t k n f l s).2), some (wp_i s'), some (wp_i n')] [] h Q) → wp_R d 299 44 [some (.ref a), some (wp_i c), some (wp_i t), some (wp_i w), some (wp_i f), some (wp_i l), some (wp_i s), some (wp_i n)] [] h Q := by
  intro k
  induction k with
  | zero =>
    intro n f l s hk hn hf hl hs hQ
    refine wp_s (pc' := 46) ji_299_44 rfl rfl rfl ?_
    refine wp_bp ji_299_46 rfl ?_
    refine wp_icmp (t := 108) ji_299_48 rfl (by omega) (by omega) (fun (hb1 : (48 : Int) < n) => ?_) (fun (hb1 : ¬ ((48 : Int) < n)) => (by exfalso; omega))
    exact hQ _ _
  | succ k ih =>
    intro n f l s hk hn hf hl hs hQ
    have hm := mul_b (a := t) (b := n - 1) ht (B := 47) (by omega)
    have h9 : 0 ≤ m9 (t * (n - 1)) ∧ m9 (t * (n - 1)) ≤ 99 := by
      unfold m9
      split <;> omega
    obtain ⟨s2, hs2⟩ : ∃ s2, s + m9 (t * (n - 1)) = s2 := ⟨_, rfl⟩
    have hsf := mul_b (a := s2) (b := f) (A := 6000) (B := 48) (by omega) (by omega)
    have hln := mul_b (a := l) (b := n) (A := 6000) (B := 48) (by omega) (by omega)
    refine wp_s (pc' := 46) ji_299_44 rfl rfl rfl ?_
    refine wp_bp ji_299_46 rfl ?_
    refine wp_icmp (t := 108) ji_299_48 rfl (by omega) (by omega) (fun (hb1 : (48 : Int) < n) => (by exfalso; omega)) (fun (hb1 : ¬ ((48 : Int) < n)) => ?_)
    refine wp_s (pc' := 53) ji_299_51 rfl rfl rfl ?_
    refine wp_s (pc' := 54) ji_299_53 rfl rfl rfl ?_
    refine wp_s (pc' := 56) ji_299_54 rfl rfl rfl ?_
    refine wp_s (pc' := 57) ji_299_56 rfl rfl rfl ?_
    refine wp_isub (x := n) (y := 1) (z := n - 1) ji_299_57 (by omega) ?_
    refine wp_imul (x := t) (y := n - 1) (z := t * (n - 1)) ji_299_58 rfl ?_
    refine wp_bp ji_299_59 rfl ?_
    refine wp_icmp (t := 73) ji_299_61 rfl (by omega) (by omega) (fun (hb2 : (99 : Int) ≤ (t * (n - 1))) => ?_) (fun (hb2 : ¬ ((99 : Int) ≤ (t * (n - 1)))) => ?_)
    · refine wp_bp ji_299_73 rfl ?_
      refine wp_iadd (x := s) (y := 99) (z := s2) ji_299_75 (by rw [← hs2, m9, if_neg (by omega)]) ?_
      refine wp_s (pc' := 78) (lv' := [some (.ref a), some (wp_i c), some (wp_i t), some (wp_i w), some (wp_i f), some (wp_i l), some (wp_i s2), some (wp_i n)]) ji_299_76 rfl rfl rfl ?_
      refine wp_s (pc' := 80) ji_299_78 rfl rfl rfl ?_
      refine wp_s (pc' := 82) ji_299_80 rfl rfl rfl ?_
      refine wp_imul (x := s2) (y := f) (z := s2 * f) ji_299_82 rfl ?_
      refine wp_s (pc' := 85) ji_299_83 rfl rfl rfl ?_
      refine wp_s (pc' := 87) ji_299_85 rfl rfl rfl ?_
      refine wp_imul (x := l) (y := n) (z := l * n) ji_299_87 rfl ?_
      refine wp_icmp (t := 94) ji_299_88 rfl (by omega) (by omega) (fun (hb3 : (s2 * f : Int) < (l * n)) => ?_) (fun (hb3 : ¬ ((s2 * f : Int) < (l * n))) => ?_)
      · refine wp_s (pc' := 96) ji_299_94 rfl rfl rfl ?_
        refine wp_s (pc' := 98) (lv' := [some (.ref a), some (wp_i c), some (wp_i t), some (wp_i w), some (wp_i f), some (wp_i s2), some (wp_i s2), some (wp_i n)]) ji_299_96 rfl rfl rfl ?_
        refine wp_s (pc' := 100) ji_299_98 rfl rfl rfl ?_
        refine wp_s (pc' := 102) (lv' := [some (.ref a), some (wp_i c), some (wp_i t), some (wp_i w), some (wp_i n), some (wp_i s2), some (wp_i s2), some (wp_i n)]) ji_299_100 rfl rfl rfl ?_
        refine wp_iinc (x := n) (z := n + 1) (lv' := [some (.ref a), some (wp_i c), some (wp_i t), some (wp_i w), some (wp_i n), some (wp_i s2), some (wp_i s2), some (wp_i (n + 1))]) ji_299_102 rfl (Nat.le_of_ble_eq_true rfl) (by omega) rfl ?_
        refine wp_goto (t := 44) ji_299_105 rfl ?_
        rw [cg, hs2, if_pos (by omega)] at hQ
        exact ih _ _ _ _ (by omega) (by omega) (by omega) (by omega) (by omega) hQ
      · refine wp_goto (t := 102) ji_299_91 rfl ?_
        refine wp_iinc (x := n) (z := n + 1) (lv' := [some (.ref a), some (wp_i c), some (wp_i t), some (wp_i w), some (wp_i f), some (wp_i l), some (wp_i s2), some (wp_i (n + 1))]) ji_299_102 rfl (Nat.le_of_ble_eq_true rfl) (by omega) rfl ?_
        refine wp_goto (t := 44) ji_299_105 rfl ?_
        rw [cg, hs2, if_neg (by omega)] at hQ
        exact ih _ _ _ _ (by omega) (by omega) (by omega) (by omega) (by omega) hQ
    · refine wp_s (pc' := 65) ji_299_64 rfl rfl rfl ?_
      refine wp_s (pc' := 67) ji_299_65 rfl rfl rfl ?_
      refine wp_s (pc' := 68) ji_299_67 rfl rfl rfl ?_
      refine wp_isub (x := n) (y := 1) (z := n - 1) ji_299_68 (by omega) ?_
      refine wp_imul (x := t) (y := n - 1) (z := t * (n - 1)) ji_299_69 rfl ?_
      refine wp_goto (t := 75) ji_299_70 rfl ?_
      refine wp_iadd (x := s) (y := t * (n - 1)) (z := s2) ji_299_75 (by rw [← hs2, m9, if_pos (by omega)]) ?_
      refine wp_s (pc' := 78) (lv' := [some (.ref a), some (wp_i c), some (wp_i t), some (wp_i w), some (wp_i f), some (wp_i l), some (wp_i s2), some (wp_i n)]) ji_299_76 rfl rfl rfl ?_
      refine wp_s (pc' := 80) ji_299_78 rfl rfl rfl ?_
      refine wp_s (pc' := 82) ji_299_80 rfl rfl rfl ?_
      refine wp_imul (x := s2) (y := f) (z := s2 * f) ji_299_82 rfl ?_
      refine wp_s (pc' := 85) ji_299_83 rfl rfl rfl ?_
      refine wp_s (pc' := 87) ji_299_85 rfl rfl rfl ?_
      refine wp_imul (x := l) (y := n) (z := l * n) ji_299_87 rfl ?_
      refine wp_icmp (t := 94) ji_299_88 rfl (by omega) (by omega) (fun (hb4 : (s2 * f : Int) < (l * n)) => ?_) (fun (hb4 : ¬ ((s2 * f : Int) < (l * n))) => ?_)
      · refine wp_s (pc' := 96) ji_299_94 rfl rfl rfl ?_
        refine wp_s (pc' := 98) (lv' := [some (.ref a), some (wp_i c), some (wp_i t), some (wp_i w), some (wp_i f), some (wp_i s2), some (wp_i s2), some (wp_i n)]) ji_299_96 rfl rfl rfl ?_
        refine wp_s (pc' := 100) ji_299_98 rfl rfl rfl ?_
        refine wp_s (pc' := 102) (lv' := [some (.ref a), some (wp_i c), some (wp_i t), some (wp_i w), some (wp_i n), some (wp_i s2), some (wp_i s2), some (wp_i n)]) ji_299_100 rfl rfl rfl ?_
        refine wp_iinc (x := n) (z := n + 1) (lv' := [some (.ref a), some (wp_i c), some (wp_i t), some (wp_i w), some (wp_i n), some (wp_i s2), some (wp_i s2), some (wp_i (n + 1))]) ji_299_102 rfl (Nat.le_of_ble_eq_true rfl) (by omega) rfl ?_
        refine wp_goto (t := 44) ji_299_105 rfl ?_
        rw [cg, hs2, if_pos (by omega)] at hQ
        exact ih _ _ _ _ (by omega) (by omega) (by omega) (by omega) (by omega) hQ
      · refine wp_goto (t := 102) ji_299_91 rfl ?_
        refine wp_iinc (x := n) (z := n + 1) (lv' := [some (.ref a), some (wp_i c), some (wp_i t), some (wp_i w), some (wp_i f), some (wp_i l), some (wp_i s2), some (wp_i (n + 1))]) ji_299_102 rfl (Nat.le_of_ble_eq_true rfl) (by omega) rfl ?_
        refine wp_goto (t := 44) ji_299_105 rfl ?_
        rw [cg, hs2, if_neg (by omega)] at hQ
        exact ih _ _ _ _ (by omega) (by omega) (by omega) (by omega) (by omega) hQ
theorem lw_b {up lo fl : Int} (hu : 0 ≤ up ∧ up ≤ 100000) (hl : 1 ≤ lo ∧ lo ≤ 48) : 0 ≤ lw up lo fl ∧ lw up lo fl ≤ 100000 := by
  have hp := eu_p (n := 49) (a := up) (b := lo) (A := 100000) (by omega) (by omega) (by omega) (by omega) (by omega) (by omega)
  unfold lw
  have hd : ∀ {x : Int}, 0 ≤ x → x ≤ 100000 → 0 ≤ x / eu 49 up lo ∧ x / eu 49 up lo ≤ 100000 := fun h1 h2 => ⟨Int.ediv_nonneg h1 (by omega), Int.le_trans (Int.ediv_le_self _ h1) h2⟩
  split
  · exact hd hu.1 hu.2
  · exact hd (by omega) (by omega)
theorem ws_chg142 {d : Nat} {h : mj_H} {a : Nat} {c t w : Int} (hc : wp_r c) (ht : wp_r t) (hw : wp_r w) : wp_R (d + 1) 142 0 [some (.ref a), some (wp_i c), some (wp_i t), some (wp_i w), none, none, none, none] [] h (fun v h1 => h1 = h ∧ v = some (wp_i (chg c t w))) := by
  refine wp_s (pc' := 1) ji_142_0 rfl rfl rfl ?_
  refine wp_if (t := 30) ji_142_1 rfl (by omega) (fun (hb1 : (c : Int) < 0) => ?_) (fun (hb1 : ¬ ((c : Int) < 0)) => ?_)
  · refine wp_s (pc' := 31) ji_142_30 rfl rfl rfl ?_
    exact wp_ri ji_142_31 jr_142 rfl ⟨rfl, by rw [chg, if_neg (by omega)]⟩
  · refine wp_s (pc' := 5) ji_142_4 rfl rfl rfl ?_
    refine wp_sp ji_142_5 rfl ?_
    refine wp_icmp (t := 30) ji_142_8 rfl (by omega) (by omega) (fun (hb2 : (999 : Int) < c) => ?_) (fun (hb2 : ¬ ((999 : Int) < c)) => ?_)
    · refine wp_s (pc' := 31) ji_142_30 rfl rfl rfl ?_
      exact wp_ri ji_142_31 jr_142 rfl ⟨rfl, by rw [chg, if_neg (by omega)]⟩
    · refine wp_s (pc' := 12) ji_142_11 rfl rfl rfl ?_
      refine wp_if (t := 30) ji_142_12 rfl (by omega) (fun (hb3 : (t : Int) < 0) => ?_) (fun (hb3 : ¬ ((t : Int) < 0)) => ?_)
      · refine wp_s (pc' := 31) ji_142_30 rfl rfl rfl ?_
        exact wp_ri ji_142_31 jr_142 rfl ⟨rfl, by rw [chg, if_neg (by omega)]⟩
      · refine wp_s (pc' := 16) ji_142_15 rfl rfl rfl ?_
        refine wp_bp ji_142_16 rfl ?_
        refine wp_icmp (t := 30) ji_142_18 rfl (by omega) (by omega) (fun (hb4 : (99 : Int) < t) => ?_) (fun (hb4 : ¬ ((99 : Int) < t)) => ?_)
        · refine wp_s (pc' := 31) ji_142_30 rfl rfl rfl ?_
          exact wp_ri ji_142_31 jr_142 rfl ⟨rfl, by rw [chg, if_neg (by omega)]⟩
        · refine wp_s (pc' := 22) ji_142_21 rfl rfl rfl ?_
          refine wp_if (t := 30) ji_142_22 rfl (by omega) (fun (hb5 : (w : Int) < 0) => ?_) (fun (hb5 : ¬ ((w : Int) < 0)) => ?_)
          · refine wp_s (pc' := 31) ji_142_30 rfl rfl rfl ?_
            exact wp_ri ji_142_31 jr_142 rfl ⟨rfl, by rw [chg, if_neg (by omega)]⟩
          · refine wp_s (pc' := 26) ji_142_25 rfl rfl rfl ?_
            refine wp_s (pc' := 27) ji_142_26 rfl rfl rfl ?_
            refine wp_icmp (t := 32) ji_142_27 rfl (by omega) (by omega) (fun (hb6 : (w : Int) ≤ 2) => ?_) (fun (hb6 : ¬ ((w : Int) ≤ 2)) => ?_)
            · refine wp_s (pc' := 33) ji_142_32 rfl rfl rfl ?_
              refine wp_s (pc' := 35) (lv' := [some (.ref a), some (wp_i c), some (wp_i t), some (wp_i w), some (wp_i 1), none, none, none]) ji_142_33 rfl rfl rfl ?_
              refine wp_s (pc' := 36) ji_142_35 rfl rfl rfl ?_
              refine wp_s (pc' := 38) (lv' := [some (.ref a), some (wp_i c), some (wp_i t), some (wp_i w), some (wp_i 1), some (wp_i c), none, none]) ji_142_36 rfl rfl rfl ?_
              refine wp_s (pc' := 39) ji_142_38 rfl rfl rfl ?_
              refine wp_s (pc' := 41) (lv' := [some (.ref a), some (wp_i c), some (wp_i t), some (wp_i w), some (wp_i 1), some (wp_i c), some (wp_i c), none]) ji_142_39 rfl rfl rfl ?_
              refine wp_s (pc' := 42) ji_142_41 rfl rfl rfl ?_
              refine wp_s (pc' := 44) (lv' := [some (.ref a), some (wp_i c), some (wp_i t), some (wp_i w), some (wp_i 1), some (wp_i c), some (wp_i c), some (wp_i 2)]) ji_142_42 rfl rfl rfl ?_
              refine cl44 (by omega) 47 2 1 c c (by omega) (by omega) (by omega) (by omega) (by omega) (fun s' n' => ?_)
              have hb := cg_b (t := t) (by omega) (k := 47) (n := 2) (f := 1) (l := c) (s := c) (by omega) (by omega) (by omega) (by omega) (by omega)
              obtain ⟨F, L, hcg⟩ : ∃ F L, cg t 47 2 1 c c = (F, L) := ⟨_, _, rfl⟩
              rw [hcg] at hb ⊢
              dsimp only at hb ⊢
              refine wp_s (pc' := 95) ji_142_94 rfl rfl rfl ?_
              refine wp_if (t := 103) ji_142_95 rfl (by omega) (fun (hb1 : ¬ (w : Int) = 0) => ?_) (fun (hb1 : ¬ (¬ (w : Int) = 0)) => ?_)
              · refine wp_s (pc' := 105) ji_142_103 rfl rfl rfl ?_
                refine wp_s (pc' := 107) ji_142_105 rfl rfl rfl ?_
                refine wp_s (pc' := 108) ji_142_107 rfl rfl rfl ?_
                refine wp_s (pc' := 109) ji_142_108 rfl rfl rfl ?_
                refine wp_icmp (t := 116) ji_142_109 rfl (by omega) (by omega) (fun (hb2 : ¬ (w : Int) = 2) => ?_) (fun (hb2 : ¬ (¬ (w : Int) = 2)) => ?_)
                · refine wp_s (pc' := 117) ji_142_116 rfl rfl rfl ?_
                  refine wp_sc (as := [wp_i L, wp_i F, wp_i 0]) (rest := []) ji_142_117 jc_142_237 (Nat.le_of_ble_eq_true rfl) rfl (Nat.le_of_ble_eq_true rfl) rfl (by rw [jn_117]; rfl) (ws_low hb.2 hb.1 (by omega)) (fun v h R => ?_)
                  obtain ⟨rfl, rfl⟩ := R
                  show wp_R (d + 1) 142 120 [some (.ref a), some (wp_i c), some (wp_i t), some (wp_i w), some (wp_i F), some (wp_i L), some (wp_i s'), some (wp_i n')] [wp_i (lw L F 0)] h _
                  refine wp_ri ji_142_120 jr_142 rfl ⟨rfl, ?_⟩
                  rw [chg, if_pos (by omega), if_neg (by omega), hcg, if_neg (by omega)]
                · refine wp_s (pc' := 113) ji_142_112 rfl rfl rfl ?_
                  refine wp_goto (t := 117) ji_142_113 rfl ?_
                  refine wp_sc (as := [wp_i L, wp_i F, wp_i 1]) (rest := []) ji_142_117 jc_142_237 (Nat.le_of_ble_eq_true rfl) rfl (Nat.le_of_ble_eq_true rfl) rfl (by rw [jn_117]; rfl) (ws_low hb.2 hb.1 (by omega)) (fun v h R => ?_)
                  obtain ⟨rfl, rfl⟩ := R
                  show wp_R (d + 1) 142 120 [some (.ref a), some (wp_i c), some (wp_i t), some (wp_i w), some (wp_i F), some (wp_i L), some (wp_i s'), some (wp_i n')] [wp_i (lw L F 1)] h _
                  refine wp_ri ji_142_120 jr_142 rfl ⟨rfl, ?_⟩
                  rw [chg, if_pos (by omega), if_neg (by omega), hcg, if_pos (by omega)]
              · refine wp_s (pc' := 100) ji_142_98 rfl rfl rfl ?_
                refine wp_goto (t := 120) ji_142_100 rfl ?_
                refine wp_ri ji_142_120 jr_142 rfl ⟨rfl, ?_⟩
                rw [chg, if_pos (by omega), if_pos (by omega), hcg]
            · refine wp_s (pc' := 31) ji_142_30 rfl rfl rfl ?_
              exact wp_ri ji_142_31 jr_142 rfl ⟨rfl, by rw [chg, if_neg (by omega)]⟩
theorem ws_chg299 {d : Nat} {h : mj_H} {a : Nat} {c t w : Int} (hc : wp_r c) (ht : wp_r t) (hw : wp_r w) : wp_R (d + 1 + 1) 299 0 [some (.ref a), some (wp_i c), some (wp_i t), some (wp_i w), none, none, none, none] [] h (fun v h1 => h1 = h ∧ v = some (wp_i (chg c t w))) := by
  refine wp_s (pc' := 1) ji_299_0 rfl rfl rfl ?_
  refine wp_s (pc' := 2) ji_299_1 rfl rfl rfl ?_
  refine wp_sp ji_299_2 rfl ?_
  refine wp_sc (as := [wp_i c, wp_i 0, wp_i 999]) (rest := []) ji_299_5 jc_299_66 (Nat.le_of_ble_eq_true rfl) rfl (Nat.le_of_ble_eq_true rfl) rfl (by rw [jn_171]; rfl) (ws_isIn (by omega) (by omega) (by omega)) (fun v h R => ?_)
  obtain ⟨rfl, rfl⟩ := R
  obtain ⟨y1, hyy1⟩ : ∃ y : Int, y = (if 0 ≤ c ∧ c ≤ 999 then 1 else 0) := ⟨_, rfl⟩
  rw [← hyy1]
  show wp_R (d + 1 + 1) 299 8 [some (.ref a), some (wp_i c), some (wp_i t), some (wp_i w), none, none, none, none] [wp_i y1] h _
  have h2y1 : (y1 = 0 ∨ y1 = 1) ∧ (y1 = 1 ↔ 0 ≤ c ∧ c ≤ 999) := by rw [hyy1]; split <;> omega
  refine wp_if (t := 30) ji_299_8 rfl (by omega) (fun (hb2 : (y1 : Int) = 0) => ?_) (fun (hb2 : ¬ ((y1 : Int) = 0)) => ?_)
  · refine wp_s (pc' := 31) ji_299_30 rfl rfl rfl ?_
    exact wp_ri ji_299_31 jr_299 rfl ⟨rfl, by rw [chg, if_neg (by omega)]⟩
  · refine wp_s (pc' := 12) ji_299_11 rfl rfl rfl ?_
    refine wp_s (pc' := 13) ji_299_12 rfl rfl rfl ?_
    refine wp_bp ji_299_13 rfl ?_
    refine wp_sc (as := [wp_i t, wp_i 0, wp_i 99]) (rest := []) ji_299_15 jc_299_66 (Nat.le_of_ble_eq_true rfl) rfl (Nat.le_of_ble_eq_true rfl) rfl (by rw [jn_171]; rfl) (ws_isIn (by omega) (by omega) (by omega)) (fun v h R => ?_)
    obtain ⟨rfl, rfl⟩ := R
    obtain ⟨y3, hyy3⟩ : ∃ y : Int, y = (if 0 ≤ t ∧ t ≤ 99 then 1 else 0) := ⟨_, rfl⟩
    rw [← hyy3]
    show wp_R (d + 1 + 1) 299 18 [some (.ref a), some (wp_i c), some (wp_i t), some (wp_i w), none, none, none, none] [wp_i y3] h _
    have h2y3 : (y3 = 0 ∨ y3 = 1) ∧ (y3 = 1 ↔ 0 ≤ t ∧ t ≤ 99) := by rw [hyy3]; split <;> omega
    refine wp_if (t := 30) ji_299_18 rfl (by omega) (fun (hb4 : (y3 : Int) = 0) => ?_) (fun (hb4 : ¬ ((y3 : Int) = 0)) => ?_)
    · refine wp_s (pc' := 31) ji_299_30 rfl rfl rfl ?_
      exact wp_ri ji_299_31 jr_299 rfl ⟨rfl, by rw [chg, if_neg (by omega)]⟩
    · refine wp_s (pc' := 22) ji_299_21 rfl rfl rfl ?_
      refine wp_s (pc' := 23) ji_299_22 rfl rfl rfl ?_
      refine wp_s (pc' := 24) ji_299_23 rfl rfl rfl ?_
      refine wp_sc (as := [wp_i w, wp_i 0, wp_i 2]) (rest := []) ji_299_24 jc_299_66 (Nat.le_of_ble_eq_true rfl) rfl (Nat.le_of_ble_eq_true rfl) rfl (by rw [jn_171]; rfl) (ws_isIn (by omega) (by omega) (by omega)) (fun v h R => ?_)
      obtain ⟨rfl, rfl⟩ := R
      obtain ⟨y5, hyy5⟩ : ∃ y : Int, y = (if 0 ≤ w ∧ w ≤ 2 then 1 else 0) := ⟨_, rfl⟩
      rw [← hyy5]
      show wp_R (d + 1 + 1) 299 27 [some (.ref a), some (wp_i c), some (wp_i t), some (wp_i w), none, none, none, none] [wp_i y5] h _
      have h2y5 : (y5 = 0 ∨ y5 = 1) ∧ (y5 = 1 ↔ 0 ≤ w ∧ w ≤ 2) := by rw [hyy5]; split <;> omega
      refine wp_if (t := 32) ji_299_27 rfl (by omega) (fun (hb6 : ¬ (y5 : Int) = 0) => ?_) (fun (hb6 : ¬ (¬ (y5 : Int) = 0)) => ?_)
      · refine wp_s (pc' := 33) ji_299_32 rfl rfl rfl ?_
        refine wp_s (pc' := 35) (lv' := [some (.ref a), some (wp_i c), some (wp_i t), some (wp_i w), some (wp_i 1), none, none, none]) ji_299_33 rfl rfl rfl ?_
        refine wp_s (pc' := 36) ji_299_35 rfl rfl rfl ?_
        refine wp_s (pc' := 38) (lv' := [some (.ref a), some (wp_i c), some (wp_i t), some (wp_i w), some (wp_i 1), some (wp_i c), none, none]) ji_299_36 rfl rfl rfl ?_
        refine wp_s (pc' := 39) ji_299_38 rfl rfl rfl ?_
        refine wp_s (pc' := 41) (lv' := [some (.ref a), some (wp_i c), some (wp_i t), some (wp_i w), some (wp_i 1), some (wp_i c), some (wp_i c), none]) ji_299_39 rfl rfl rfl ?_
        refine wp_s (pc' := 42) ji_299_41 rfl rfl rfl ?_
        refine wp_s (pc' := 44) (lv' := [some (.ref a), some (wp_i c), some (wp_i t), some (wp_i w), some (wp_i 1), some (wp_i c), some (wp_i c), some (wp_i 2)]) ji_299_42 rfl rfl rfl ?_
        refine rf44 (by omega) 47 2 1 c c (by omega) (by omega) (by omega) (by omega) (by omega) (fun s' n' => ?_)
        have hb := cg_b (t := t) (by omega) (k := 47) (n := 2) (f := 1) (l := c) (s := c) (by omega) (by omega) (by omega) (by omega) (by omega)
        obtain ⟨F, L, hcg⟩ : ∃ F L, cg t 47 2 1 c c = (F, L) := ⟨_, _, rfl⟩
        rw [hcg] at hb ⊢
        dsimp only at hb ⊢
        refine wp_s (pc' := 109) ji_299_108 rfl rfl rfl ?_
        refine wp_if (t := 117) ji_299_109 rfl (by omega) (fun (hb1 : ¬ (w : Int) = 0) => ?_) (fun (hb1 : ¬ (¬ (w : Int) = 0)) => ?_)
        · refine wp_s (pc' := 119) ji_299_117 rfl rfl rfl ?_
          refine wp_i2l (x := L) ji_299_119 (by omega) ?_
          refine wp_s (pc' := 122) ji_299_120 rfl rfl rfl ?_
          refine wp_i2l (x := F) ji_299_122 (by omega) ?_
          refine wp_s (pc' := 124) ji_299_123 rfl rfl rfl ?_
          refine wp_s (pc' := 125) ji_299_124 rfl rfl rfl ?_
          refine wp_icmp (t := 132) ji_299_125 rfl (by omega) (by omega) (fun (hb2 : ¬ (w : Int) = 2) => ?_) (fun (hb2 : ¬ (¬ (w : Int) = 2)) => ?_)
          · refine wp_s (pc' := 133) ji_299_132 rfl rfl rfl ?_
            refine wp_sc (as := [.long (Int64.ofInt L), .long (Int64.ofInt F), wp_i 0]) (rest := []) ji_299_133 jc_299_418 (Nat.le_of_ble_eq_true rfl) rfl (Nat.le_of_ble_eq_true rfl) rfl (by rw [jn_279]; rfl) (ws_part hb.2 hb.1 (by omega)) (fun v h R => ?_)
            obtain ⟨rfl, rfl⟩ := R
            show wp_R (d + 1 + 1) 299 136 [some (.ref a), some (wp_i c), some (wp_i t), some (wp_i w), some (wp_i F), some (wp_i L), some (wp_i s'), some (wp_i n')] [.long (Int64.ofInt (lw L F 0))] h _
            have hlw := lw_b hb.2 hb.1 (fl := 0)
            refine wp_l2i (x := lw L F 0) ji_299_136 (by omega) ?_
            refine wp_ri ji_299_137 jr_299 rfl ⟨rfl, ?_⟩
            rw [chg, if_pos (by omega), if_neg (by omega), hcg, if_neg (by omega)]
          · refine wp_s (pc' := 129) ji_299_128 rfl rfl rfl ?_
            refine wp_goto (t := 133) ji_299_129 rfl ?_
            refine wp_sc (as := [.long (Int64.ofInt L), .long (Int64.ofInt F), wp_i 1]) (rest := []) ji_299_133 jc_299_418 (Nat.le_of_ble_eq_true rfl) rfl (Nat.le_of_ble_eq_true rfl) rfl (by rw [jn_279]; rfl) (ws_part hb.2 hb.1 (by omega)) (fun v h R => ?_)
            obtain ⟨rfl, rfl⟩ := R
            show wp_R (d + 1 + 1) 299 136 [some (.ref a), some (wp_i c), some (wp_i t), some (wp_i w), some (wp_i F), some (wp_i L), some (wp_i s'), some (wp_i n')] [.long (Int64.ofInt (lw L F 1))] h _
            have hlw := lw_b hb.2 hb.1 (fl := 1)
            refine wp_l2i (x := lw L F 1) ji_299_136 (by omega) ?_
            refine wp_ri ji_299_137 jr_299 rfl ⟨rfl, ?_⟩
            rw [chg, if_pos (by omega), if_neg (by omega), hcg, if_pos (by omega)]
        · refine wp_s (pc' := 114) ji_299_112 rfl rfl rfl ?_
          refine wp_goto (t := 137) ji_299_114 rfl ?_
          refine wp_ri ji_299_137 jr_299 rfl ⟨rfl, ?_⟩
          rw [chg, if_pos (by omega), if_pos (by omega), hcg]
      · refine wp_s (pc' := 31) ji_299_30 rfl rfl rfl ?_
        exact wp_ri ji_299_31 jr_299 rfl ⟨rfl, by rw [chg, if_neg (by omega)]⟩
