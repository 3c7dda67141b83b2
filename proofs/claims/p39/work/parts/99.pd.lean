/-! -/
set_option maxRecDepth 100000 in
theorem ji_150_4 : mj_ins 150 4 = some (.iload_n 3) := by decide +kernel
set_option maxRecDepth 100000 in
theorem ji_150_5 : mj_ins 150 5 = some (.aload_n 0) := by decide +kernel
set_option maxRecDepth 100000 in
theorem ji_150_6 : mj_ins 150 6 = some (.getfield 22) := by decide +kernel
set_option maxRecDepth 100000 in
theorem jf_150_22 : mj_fld 150 22 = some (6, 3, .int, true) := by decide +kernel
set_option maxRecDepth 100000 in
theorem ji_150_9 : mj_ins 150 9 = some (.if_icmp .ge 29) := by decide +kernel
set_option maxRecDepth 100000 in
theorem ji_150_12 : mj_ins 150 12 = some (.iload_n 2) := by decide +kernel
set_option maxRecDepth 100000 in
theorem ji_150_13 : mj_ins 150 13 = some (.ifCond .ne 13) := by decide +kernel
set_option maxRecDepth 100000 in
theorem ji_150_26 : mj_ins 150 26 = some (.iconst 1) := by decide +kernel
set_option maxRecDepth 100000 in
theorem ji_150_27 : mj_ins 150 27 = some (.goto 4) := by decide +kernel
set_option maxRecDepth 100000 in
theorem ji_150_31 : mj_ins 150 31 = some (.istore_n 2) := by decide +kernel
set_option maxRecDepth 100000 in
theorem ji_150_32 : mj_ins 150 32 = some (.iinc 3 1) := by decide +kernel
set_option maxRecDepth 100000 in
theorem ji_150_35 : mj_ins 150 35 = some (.goto (-31)) := by decide +kernel
set_option maxRecDepth 100000 in
theorem ji_150_16 : mj_ins 150 16 = some (.aload_n 0) := by decide +kernel
set_option maxRecDepth 100000 in
theorem ji_150_17 : mj_ins 150 17 = some (.getfield 11) := by decide +kernel
set_option maxRecDepth 100000 in
theorem jf_150_11 : mj_fld 150 11 = some (6, 0, (.array .int), false) := by decide +kernel
set_option maxRecDepth 100000 in
theorem ji_150_20 : mj_ins 150 20 = some (.iload_n 3) := by decide +kernel
set_option maxRecDepth 100000 in
theorem ji_150_21 : mj_ins 150 21 = some (.iaload) := by decide +kernel
set_option maxRecDepth 100000 in
theorem ji_150_22 : mj_ins 150 22 = some (.iload_n 1) := by decide +kernel
set_option maxRecDepth 100000 in
theorem ji_150_23 : mj_ins 150 23 = some (.if_icmp .ne 7) := by decide +kernel
set_option maxRecDepth 100000 in
theorem ji_150_30 : mj_ins 150 30 = some (.iconst 0) := by decide +kernel
set_option maxRecDepth 100000 in
theorem ji_150_38 : mj_ins 150 38 = some (.iload_n 2) := by decide +kernel
set_option maxRecDepth 100000 in
theorem ji_150_39 : mj_ins 150 39 = some (.ireturn) := by decide +kernel
set_option maxRecDepth 100000 in
theorem jr_150 : mj_ret 150 = some .boolean := by decide +kernel
set_option maxRecDepth 100000 in
theorem ji_150_0 : mj_ins 150 0 = some (.iconst 0) := by decide +kernel
set_option maxRecDepth 100000 in
theorem ji_150_1 : mj_ins 150 1 = some (.istore_n 2) := by decide +kernel
set_option maxRecDepth 100000 in
theorem ji_150_2 : mj_ins 150 2 = some (.iconst 0) := by decide +kernel
set_option maxRecDepth 100000 in
theorem ji_150_3 : mj_ins 150 3 = some (.istore_n 3) := by decide +kernel
set_option maxRecDepth 100000 in
theorem ji_146_12 : mj_ins 146 12 = some (.iload 4) := by decide +kernel
set_option maxRecDepth 100000 in
theorem ji_146_14 : mj_ins 146 14 = some (.bipush 99) := by decide +kernel
set_option maxRecDepth 100000 in
theorem ji_146_16 : mj_ins 146 16 = some (.if_icmp .gt 56) := by decide +kernel
set_option maxRecDepth 100000 in
theorem ji_146_19 : mj_ins 146 19 = some (.iload_n 1) := by decide +kernel
set_option maxRecDepth 100000 in
theorem ji_146_20 : mj_ins 146 20 = some (.iconst 2) := by decide +kernel
set_option maxRecDepth 100000 in
theorem ji_146_21 : mj_ins 146 21 = some (.if_icmp .lt 51) := by decide +kernel
set_option maxRecDepth 100000 in
theorem ji_146_24 : mj_ins 146 24 = some (.iconst 2) := by decide +kernel
set_option maxRecDepth 100000 in
theorem ji_146_25 : mj_ins 146 25 = some (.aload_n 0) := by decide +kernel
set_option maxRecDepth 100000 in
theorem ji_146_26 : mj_ins 146 26 = some (.getfield 19) := by decide +kernel
set_option maxRecDepth 100000 in
theorem jf_146_19 : mj_fld 146 19 = some (6, 2, (.array .int), false) := by decide +kernel
set_option maxRecDepth 100000 in
theorem ji_146_29 : mj_ins 146 29 = some (.iload 4) := by decide +kernel
set_option maxRecDepth 100000 in
theorem ji_146_31 : mj_ins 146 31 = some (.iaload) := by decide +kernel
set_option maxRecDepth 100000 in
theorem ji_146_32 : mj_ins 146 32 = some (.imul) := by decide +kernel
set_option maxRecDepth 100000 in
theorem ji_146_33 : mj_ins 146 33 = some (.iload_n 1) := by decide +kernel
set_option maxRecDepth 100000 in
theorem ji_146_34 : mj_ins 146 34 = some (.isub) := by decide +kernel
set_option maxRecDepth 100000 in
theorem ji_146_35 : mj_ins 146 35 = some (.invokestatic 38) := by decide +kernel
set_option maxRecDepth 100000 in
theorem jc_146_38 : mj_cal 146 38 = some (12, 0, 0) := by decide +kernel
set_option maxRecDepth 100000 in
theorem ji_146_38 : mj_ins 146 38 = some (.istore 5) := by decide +kernel
set_option maxRecDepth 100000 in
theorem ji_146_40 : mj_ins 146 40 = some (.aload_n 0) := by decide +kernel
set_option maxRecDepth 100000 in
theorem ji_146_41 : mj_ins 146 41 = some (.iload 4) := by decide +kernel
set_option maxRecDepth 100000 in
theorem ji_146_43 : mj_ins 146 43 = some (.invokevirtual 44) := by decide +kernel
set_option maxRecDepth 100000 in
theorem jc_146_44 : mj_cal 146 44 = some (2, 150, 1) := by decide +kernel
set_option maxRecDepth 100000 in
theorem ji_146_46 : mj_ins 146 46 = some (.ifCond .ne 20) := by decide +kernel
set_option maxRecDepth 100000 in
theorem ji_146_66 : mj_ins 146 66 = some (.iinc 4 1) := by decide +kernel
set_option maxRecDepth 100000 in
theorem ji_146_69 : mj_ins 146 69 = some (.goto (-57)) := by decide +kernel
set_option maxRecDepth 100000 in
theorem ji_146_49 : mj_ins 146 49 = some (.iload_n 2) := by decide +kernel
set_option maxRecDepth 100000 in
theorem ji_146_50 : mj_ins 146 50 = some (.iconst (-1)) := by decide +kernel
set_option maxRecDepth 100000 in
theorem ji_146_51 : mj_ins 146 51 = some (.if_icmp .eq 9) := by decide +kernel
set_option maxRecDepth 100000 in
theorem ji_146_60 : mj_ins 146 60 = some (.iload 4) := by decide +kernel
set_option maxRecDepth 100000 in
theorem ji_146_62 : mj_ins 146 62 = some (.istore_n 2) := by decide +kernel
set_option maxRecDepth 100000 in
theorem ji_146_63 : mj_ins 146 63 = some (.iload 5) := by decide +kernel
set_option maxRecDepth 100000 in
theorem ji_146_65 : mj_ins 146 65 = some (.istore_n 3) := by decide +kernel
set_option maxRecDepth 100000 in
theorem ji_146_54 : mj_ins 146 54 = some (.iload 5) := by decide +kernel
set_option maxRecDepth 100000 in
theorem ji_146_56 : mj_ins 146 56 = some (.iload_n 3) := by decide +kernel
set_option maxRecDepth 100000 in
theorem ji_146_57 : mj_ins 146 57 = some (.if_icmp .ge 9) := by decide +kernel
set_option maxRecDepth 100000 in
theorem ji_146_72 : mj_ins 146 72 = some (.iload_n 2) := by decide +kernel
set_option maxRecDepth 100000 in
theorem ji_146_73 : mj_ins 146 73 = some (.ireturn) := by decide +kernel
set_option maxRecDepth 100000 in
theorem jr_146 : mj_ret 146 = some .int := by decide +kernel
set_option maxRecDepth 100000 in
theorem jn_146 : mj_nl 146 = 6 := by decide +kernel
set_option maxRecDepth 100000 in
theorem jk_146 : mj_cls 146 = 6 := by decide +kernel
set_option maxRecDepth 100000 in
theorem ji_146_0 : mj_ins 146 0 = some (.aload_n 0) := by decide +kernel
set_option maxRecDepth 100000 in
theorem ji_146_1 : mj_ins 146 1 = some (.invokevirtual 34) := by decide +kernel
set_option maxRecDepth 100000 in
theorem jc_146_34 : mj_cal 146 34 = some (2, 147, 0) := by decide +kernel
set_option maxRecDepth 100000 in
theorem ji_146_4 : mj_ins 146 4 = some (.istore_n 1) := by decide +kernel
set_option maxRecDepth 100000 in
theorem ji_146_5 : mj_ins 146 5 = some (.iconst (-1)) := by decide +kernel
set_option maxRecDepth 100000 in
theorem ji_146_6 : mj_ins 146 6 = some (.istore_n 2) := by decide +kernel
set_option maxRecDepth 100000 in
theorem ji_146_7 : mj_ins 146 7 = some (.iconst 0) := by decide +kernel
set_option maxRecDepth 100000 in
theorem ji_146_8 : mj_ins 146 8 = some (.istore_n 3) := by decide +kernel
set_option maxRecDepth 100000 in
theorem ji_146_9 : mj_ins 146 9 = some (.iconst 0) := by decide +kernel
set_option maxRecDepth 100000 in
theorem ji_146_10 : mj_ins 146 10 = some (.istore 4) := by decide +kernel
set_option maxRecDepth 100000 in
theorem jr_145 : mj_ret 145 = some .int := by decide +kernel
set_option maxRecDepth 100000 in
theorem ji_145_0 : mj_ins 145 0 = some (.iload_n 1) := by decide +kernel
set_option maxRecDepth 100000 in
theorem ji_145_1 : mj_ins 145 1 = some (.ifCond .eq 16) := by decide +kernel
set_option maxRecDepth 100000 in
theorem ji_145_17 : mj_ins 145 17 = some (.aload_n 0) := by decide +kernel
set_option maxRecDepth 100000 in
theorem ji_145_18 : mj_ins 145 18 = some (.getfield 19) := by decide +kernel
set_option maxRecDepth 100000 in
theorem jf_145_19 : mj_fld 145 19 = some (0, 0, (.object "ForestOfPoles$State"), false) := by decide +kernel
set_option maxRecDepth 100000 in
theorem ji_145_21 : mj_ins 145 21 = some (.getfield 287) := by decide +kernel
set_option maxRecDepth 100000 in
theorem jf_145_287 : mj_fld 145 287 = some (2, 3, (.object "ForestOfPoles$Finds"), false) := by decide +kernel
set_option maxRecDepth 100000 in
theorem ji_145_24 : mj_ins 145 24 = some (.invokevirtual 301) := by decide +kernel
set_option maxRecDepth 100000 in
theorem jc_145_301 : mj_cal 145 301 = some (2, 147, 0) := by decide +kernel
set_option maxRecDepth 100000 in
theorem ji_145_27 : mj_ins 145 27 = some (.ireturn) := by decide +kernel
set_option maxRecDepth 100000 in
theorem ji_145_4 : mj_ins 145 4 = some (.aload_n 0) := by decide +kernel
set_option maxRecDepth 100000 in
theorem ji_145_5 : mj_ins 145 5 = some (.getfield 19) := by decide +kernel
set_option maxRecDepth 100000 in
theorem ji_145_8 : mj_ins 145 8 = some (.getfield 287) := by decide +kernel
set_option maxRecDepth 100000 in
theorem ji_145_11 : mj_ins 145 11 = some (.invokevirtual 297) := by decide +kernel
set_option maxRecDepth 100000 in
theorem jc_145_297 : mj_cal 145 297 = some (2, 146, 0) := by decide +kernel
set_option maxRecDepth 100000 in
theorem ji_145_14 : mj_ins 145 14 = some (.goto 13) := by decide +kernel
set_option maxRecDepth 100000 in
theorem jn_145 : mj_nl 145 = 2 := by decide +kernel
set_option maxRecDepth 100000 in
theorem ji_304_0 : mj_ins 304 0 = some (.iload_n 0) := by decide +kernel
set_option maxRecDepth 100000 in
theorem ji_304_1 : mj_ins 304 1 = some (.iload_n 2) := by decide +kernel
set_option maxRecDepth 100000 in
theorem ji_304_2 : mj_ins 304 2 = some (.if_icmp .lt 15) := by decide +kernel
set_option maxRecDepth 100000 in
theorem ji_304_17 : mj_ins 304 17 = some (.iconst 0) := by decide +kernel
set_option maxRecDepth 100000 in
theorem ji_304_18 : mj_ins 304 18 = some (.ireturn) := by decide +kernel
set_option maxRecDepth 100000 in
theorem jr_304 : mj_ret 304 = some .boolean := by decide +kernel
set_option maxRecDepth 100000 in
theorem ji_304_5 : mj_ins 304 5 = some (.iload_n 0) := by decide +kernel
set_option maxRecDepth 100000 in
theorem ji_304_6 : mj_ins 304 6 = some (.iload_n 2) := by decide +kernel
set_option maxRecDepth 100000 in
theorem ji_304_7 : mj_ins 304 7 = some (.isub) := by decide +kernel
set_option maxRecDepth 100000 in
theorem ji_304_8 : mj_ins 304 8 = some (.iload_n 1) := by decide +kernel
set_option maxRecDepth 100000 in
theorem ji_304_9 : mj_ins 304 9 = some (.irem) := by decide +kernel
set_option maxRecDepth 100000 in
theorem ji_304_10 : mj_ins 304 10 = some (.ifCond .ne 7) := by decide +kernel
set_option maxRecDepth 100000 in
theorem ji_304_13 : mj_ins 304 13 = some (.iconst 1) := by decide +kernel
set_option maxRecDepth 100000 in
theorem ji_304_14 : mj_ins 304 14 = some (.goto 4) := by decide +kernel
set_option maxRecDepth 100000 in
theorem jn_302 : mj_nl 302 = 5 := by decide +kernel
set_option maxRecDepth 100000 in
theorem jk_302 : mj_cls 302 = 11 := by decide +kernel
set_option maxRecDepth 100000 in
theorem jn_303 : mj_nl 303 = 4 := by decide +kernel
set_option maxRecDepth 100000 in
theorem jk_303 : mj_cls 303 = 11 := by decide +kernel
set_option maxRecDepth 100000 in
theorem jn_304 : mj_nl 304 = 3 := by decide +kernel
set_option maxRecDepth 100000 in
theorem jk_304 : mj_cls 304 = 11 := by decide +kernel
set_option maxRecDepth 100000 in
theorem jn_305 : mj_nl 305 = 3 := by decide +kernel
set_option maxRecDepth 100000 in
theorem jk_305 : mj_cls 305 = 11 := by decide +kernel
set_option maxRecDepth 100000 in
theorem ji_303_2 : mj_ins 303 2 = some (.iload_n 3) := by decide +kernel
set_option maxRecDepth 100000 in
theorem ji_303_3 : mj_ins 303 3 = some (.aload_n 0) := by decide +kernel
set_option maxRecDepth 100000 in
theorem ji_303_4 : mj_ins 303 4 = some (.getfield 7) := by decide +kernel
set_option maxRecDepth 100000 in
theorem jf_303_7 : mj_fld 303 7 = some (11, 0, (.array .int), false) := by decide +kernel
set_option maxRecDepth 100000 in
theorem ji_303_7 : mj_ins 303 7 = some (.iconst 5) := by decide +kernel
set_option maxRecDepth 100000 in
theorem ji_303_8 : mj_ins 303 8 = some (.iaload) := by decide +kernel
set_option maxRecDepth 100000 in
theorem ji_303_9 : mj_ins 303 9 = some (.if_icmp .ge 54) := by decide +kernel
set_option maxRecDepth 100000 in
theorem ji_303_12 : mj_ins 303 12 = some (.aload_n 0) := by decide +kernel
set_option maxRecDepth 100000 in
theorem ji_303_13 : mj_ins 303 13 = some (.getfield 7) := by decide +kernel
set_option maxRecDepth 100000 in
theorem ji_303_16 : mj_ins 303 16 = some (.sipush 148) := by decide +kernel
set_option maxRecDepth 100000 in
theorem ji_303_19 : mj_ins 303 19 = some (.iconst 2) := by decide +kernel
set_option maxRecDepth 100000 in
theorem ji_303_20 : mj_ins 303 20 = some (.iload_n 3) := by decide +kernel
set_option maxRecDepth 100000 in
theorem ji_303_21 : mj_ins 303 21 = some (.imul) := by decide +kernel
set_option maxRecDepth 100000 in
theorem ji_303_22 : mj_ins 303 22 = some (.iadd) := by decide +kernel
set_option maxRecDepth 100000 in
theorem ji_303_23 : mj_ins 303 23 = some (.iaload) := by decide +kernel
set_option maxRecDepth 100000 in
theorem ji_303_24 : mj_ins 303 24 = some (.iload_n 1) := by decide +kernel
set_option maxRecDepth 100000 in
theorem ji_303_25 : mj_ins 303 25 = some (.iload_n 2) := by decide +kernel
set_option maxRecDepth 100000 in
theorem ji_303_26 : mj_ins 303 26 = some (.invokestatic 449) := by decide +kernel
set_option maxRecDepth 100000 in
theorem jc_303_449 : mj_cal 303 449 = some (1, 304, 3) := by decide +kernel
set_option maxRecDepth 100000 in
theorem ji_303_29 : mj_ins 303 29 = some (.aload_n 0) := by decide +kernel
set_option maxRecDepth 100000 in
theorem ji_303_30 : mj_ins 303 30 = some (.getfield 7) := by decide +kernel
set_option maxRecDepth 100000 in
theorem ji_303_33 : mj_ins 303 33 = some (.sipush 148) := by decide +kernel
set_option maxRecDepth 100000 in
theorem ji_303_36 : mj_ins 303 36 = some (.iconst 2) := by decide +kernel
set_option maxRecDepth 100000 in
theorem ji_303_37 : mj_ins 303 37 = some (.iload_n 3) := by decide +kernel
set_option maxRecDepth 100000 in
theorem ji_303_38 : mj_ins 303 38 = some (.imul) := by decide +kernel
set_option maxRecDepth 100000 in
theorem ji_303_39 : mj_ins 303 39 = some (.iadd) := by decide +kernel
set_option maxRecDepth 100000 in
theorem ji_303_40 : mj_ins 303 40 = some (.iconst 1) := by decide +kernel
set_option maxRecDepth 100000 in
theorem ji_303_41 : mj_ins 303 41 = some (.iadd) := by decide +kernel
set_option maxRecDepth 100000 in
theorem ji_303_42 : mj_ins 303 42 = some (.iaload) := by decide +kernel
set_option maxRecDepth 100000 in
theorem ji_303_43 : mj_ins 303 43 = some (.iconst 1) := by decide +kernel
set_option maxRecDepth 100000 in
theorem ji_303_44 : mj_ins 303 44 = some (.if_icmp .ne 7) := by decide +kernel
set_option maxRecDepth 100000 in
theorem ji_303_51 : mj_ins 303 51 = some (.iconst 0) := by decide +kernel
set_option maxRecDepth 100000 in
theorem ji_303_52 : mj_ins 303 52 = some (.if_icmp .eq 5) := by decide +kernel
set_option maxRecDepth 100000 in
theorem ji_303_57 : mj_ins 303 57 = some (.iinc 3 1) := by decide +kernel
set_option maxRecDepth 100000 in
theorem ji_303_60 : mj_ins 303 60 = some (.goto (-58)) := by decide +kernel
set_option maxRecDepth 100000 in
theorem ji_303_55 : mj_ins 303 55 = some (.iconst 0) := by decide +kernel
set_option maxRecDepth 100000 in
theorem ji_303_56 : mj_ins 303 56 = some (.ireturn) := by decide +kernel
set_option maxRecDepth 100000 in
theorem jr_303 : mj_ret 303 = some .boolean := by decide +kernel
set_option maxRecDepth 100000 in
theorem ji_303_47 : mj_ins 303 47 = some (.iconst 1) := by decide +kernel
set_option maxRecDepth 100000 in
theorem ji_303_48 : mj_ins 303 48 = some (.goto 4) := by decide +kernel
set_option maxRecDepth 100000 in
theorem ji_303_63 : mj_ins 303 63 = some (.iconst 1) := by decide +kernel
set_option maxRecDepth 100000 in
theorem ji_303_64 : mj_ins 303 64 = some (.ireturn) := by decide +kernel
set_option maxRecDepth 100000 in
theorem ji_303_0 : mj_ins 303 0 = some (.iconst 0) := by decide +kernel
set_option maxRecDepth 100000 in
theorem ji_303_1 : mj_ins 303 1 = some (.istore_n 3) := by decide +kernel
set_option maxRecDepth 100000 in
theorem ji_305_2 : mj_ins 305 2 = some (.iload_n 2) := by decide +kernel
set_option maxRecDepth 100000 in
theorem ji_305_3 : mj_ins 305 3 = some (.aload_n 0) := by decide +kernel
set_option maxRecDepth 100000 in
theorem ji_305_4 : mj_ins 305 4 = some (.getfield 7) := by decide +kernel
set_option maxRecDepth 100000 in
theorem jf_305_7 : mj_fld 305 7 = some (11, 0, (.array .int), false) := by decide +kernel
set_option maxRecDepth 100000 in
theorem ji_305_7 : mj_ins 305 7 = some (.iconst 5) := by decide +kernel
set_option maxRecDepth 100000 in
theorem ji_305_8 : mj_ins 305 8 = some (.iaload) := by decide +kernel
set_option maxRecDepth 100000 in
theorem ji_305_9 : mj_ins 305 9 = some (.if_icmp .ge 27) := by decide +kernel
set_option maxRecDepth 100000 in
theorem ji_305_12 : mj_ins 305 12 = some (.aload_n 0) := by decide +kernel
set_option maxRecDepth 100000 in
theorem ji_305_13 : mj_ins 305 13 = some (.getfield 7) := by decide +kernel
set_option maxRecDepth 100000 in
theorem ji_305_16 : mj_ins 305 16 = some (.sipush 148) := by decide +kernel
set_option maxRecDepth 100000 in
theorem ji_305_19 : mj_ins 305 19 = some (.iconst 2) := by decide +kernel
set_option maxRecDepth 100000 in
theorem ji_305_20 : mj_ins 305 20 = some (.iload_n 2) := by decide +kernel
set_option maxRecDepth 100000 in
theorem ji_305_21 : mj_ins 305 21 = some (.imul) := by decide +kernel
set_option maxRecDepth 100000 in
theorem ji_305_22 : mj_ins 305 22 = some (.iadd) := by decide +kernel
set_option maxRecDepth 100000 in
theorem ji_305_23 : mj_ins 305 23 = some (.iaload) := by decide +kernel
set_option maxRecDepth 100000 in
theorem ji_305_24 : mj_ins 305 24 = some (.iload_n 1) := by decide +kernel
set_option maxRecDepth 100000 in
theorem ji_305_25 : mj_ins 305 25 = some (.if_icmp .ne 5) := by decide +kernel
set_option maxRecDepth 100000 in
theorem ji_305_30 : mj_ins 305 30 = some (.iinc 2 1) := by decide +kernel
set_option maxRecDepth 100000 in
theorem ji_305_33 : mj_ins 305 33 = some (.goto (-31)) := by decide +kernel
set_option maxRecDepth 100000 in
theorem ji_305_28 : mj_ins 305 28 = some (.iconst 1) := by decide +kernel
set_option maxRecDepth 100000 in
theorem ji_305_29 : mj_ins 305 29 = some (.ireturn) := by decide +kernel
set_option maxRecDepth 100000 in
theorem jr_305 : mj_ret 305 = some .boolean := by decide +kernel
set_option maxRecDepth 100000 in
theorem ji_305_36 : mj_ins 305 36 = some (.iconst 0) := by decide +kernel
set_option maxRecDepth 100000 in
theorem ji_305_37 : mj_ins 305 37 = some (.ireturn) := by decide +kernel
set_option maxRecDepth 100000 in
theorem ji_305_0 : mj_ins 305 0 = some (.iconst 0) := by decide +kernel
set_option maxRecDepth 100000 in
theorem ji_305_1 : mj_ins 305 1 = some (.istore_n 2) := by decide +kernel
set_option maxRecDepth 100000 in
theorem ji_302_13 : mj_ins 302 13 = some (.iload 4) := by decide +kernel
set_option maxRecDepth 100000 in
theorem ji_302_15 : mj_ins 302 15 = some (.iload_n 3) := by decide +kernel
set_option maxRecDepth 100000 in
theorem ji_302_16 : mj_ins 302 16 = some (.if_icmp .ge 42) := by decide +kernel
set_option maxRecDepth 100000 in
theorem ji_302_19 : mj_ins 302 19 = some (.iload_n 2) := by decide +kernel
set_option maxRecDepth 100000 in
theorem ji_302_20 : mj_ins 302 20 = some (.aload_n 0) := by decide +kernel
set_option maxRecDepth 100000 in
theorem ji_302_21 : mj_ins 302 21 = some (.iload_n 3) := by decide +kernel
set_option maxRecDepth 100000 in
theorem ji_302_22 : mj_ins 302 22 = some (.iload 4) := by decide +kernel
set_option maxRecDepth 100000 in
theorem ji_302_24 : mj_ins 302 24 = some (.invokevirtual 452) := by decide +kernel
set_option maxRecDepth 100000 in
theorem jc_302_452 : mj_cal 302 452 = some (2, 303, 2) := by decide +kernel
set_option maxRecDepth 100000 in
theorem ji_302_27 : mj_ins 302 27 = some (.ifCond .eq 22) := by decide +kernel
set_option maxRecDepth 100000 in
theorem ji_302_49 : mj_ins 302 49 = some (.iconst 0) := by decide +kernel
set_option maxRecDepth 100000 in
theorem ji_302_50 : mj_ins 302 50 = some (.iadd) := by decide +kernel
set_option maxRecDepth 100000 in
theorem ji_302_51 : mj_ins 302 51 = some (.istore_n 2) := by decide +kernel
set_option maxRecDepth 100000 in
theorem ji_302_52 : mj_ins 302 52 = some (.iinc 4 1) := by decide +kernel
set_option maxRecDepth 100000 in
theorem ji_302_55 : mj_ins 302 55 = some (.goto (-42)) := by decide +kernel
set_option maxRecDepth 100000 in
theorem ji_302_30 : mj_ins 302 30 = some (.iload_n 1) := by decide +kernel
set_option maxRecDepth 100000 in
theorem ji_302_31 : mj_ins 302 31 = some (.iconst (-1)) := by decide +kernel
set_option maxRecDepth 100000 in
theorem ji_302_32 : mj_ins 302 32 = some (.if_icmp .eq 13) := by decide +kernel
set_option maxRecDepth 100000 in
theorem ji_302_45 : mj_ins 302 45 = some (.iconst 1) := by decide +kernel
set_option maxRecDepth 100000 in
theorem ji_302_46 : mj_ins 302 46 = some (.goto 4) := by decide +kernel
set_option maxRecDepth 100000 in
theorem ji_302_4 : mj_ins 302 4 = some (.iload_n 3) := by decide +kernel
set_option maxRecDepth 100000 in
theorem ji_302_5 : mj_ins 302 5 = some (.bipush 20) := by decide +kernel
set_option maxRecDepth 100000 in
theorem ji_302_7 : mj_ins 302 7 = some (.if_icmp .gt 57) := by decide +kernel
set_option maxRecDepth 100000 in
theorem ji_302_64 : mj_ins 302 64 = some (.iload_n 2) := by decide +kernel
set_option maxRecDepth 100000 in
theorem ji_302_65 : mj_ins 302 65 = some (.ireturn) := by decide +kernel
set_option maxRecDepth 100000 in
theorem jr_302 : mj_ret 302 = some .int := by decide +kernel
set_option maxRecDepth 100000 in
theorem ji_302_10 : mj_ins 302 10 = some (.iconst 0) := by decide +kernel
set_option maxRecDepth 100000 in
theorem ji_302_11 : mj_ins 302 11 = some (.istore 4) := by decide +kernel
set_option maxRecDepth 100000 in
theorem ji_302_58 : mj_ins 302 58 = some (.iinc 3 1) := by decide +kernel
set_option maxRecDepth 100000 in
theorem ji_302_61 : mj_ins 302 61 = some (.goto (-57)) := by decide +kernel
set_option maxRecDepth 100000 in
theorem ji_302_0 : mj_ins 302 0 = some (.iconst 0) := by decide +kernel
set_option maxRecDepth 100000 in
theorem ji_302_1 : mj_ins 302 1 = some (.istore_n 2) := by decide +kernel
set_option maxRecDepth 100000 in
theorem ji_302_2 : mj_ins 302 2 = some (.iconst 1) := by decide +kernel
set_option maxRecDepth 100000 in
theorem ji_302_3 : mj_ins 302 3 = some (.istore_n 3) := by decide +kernel
set_option maxRecDepth 100000 in
theorem ji_302_35 : mj_ins 302 35 = some (.iload_n 1) := by decide +kernel
set_option maxRecDepth 100000 in
theorem ji_302_36 : mj_ins 302 36 = some (.iload_n 3) := by decide +kernel
set_option maxRecDepth 100000 in
theorem ji_302_37 : mj_ins 302 37 = some (.iload 4) := by decide +kernel
set_option maxRecDepth 100000 in
theorem ji_302_39 : mj_ins 302 39 = some (.invokestatic 449) := by decide +kernel
set_option maxRecDepth 100000 in
theorem jc_302_449 : mj_cal 302 449 = some (1, 304, 3) := by decide +kernel
set_option maxRecDepth 100000 in
theorem ji_302_42 : mj_ins 302 42 = some (.ifCond .eq 7) := by decide +kernel
set_option maxRecDepth 100000 in
theorem ji_301_22 : mj_ins 301 22 = some (.iload 5) := by decide +kernel
set_option maxRecDepth 100000 in
theorem ji_301_24 : mj_ins 301 24 = some (.bipush 100) := by decide +kernel
set_option maxRecDepth 100000 in
theorem ji_301_26 : mj_ins 301 26 = some (.if_icmp .ge 70) := by decide +kernel
set_option maxRecDepth 100000 in
theorem ji_301_29 : mj_ins 301 29 = some (.iload_n 2) := by decide +kernel
set_option maxRecDepth 100000 in
theorem ji_301_30 : mj_ins 301 30 = some (.iconst 1) := by decide +kernel
set_option maxRecDepth 100000 in
theorem ji_301_31 : mj_ins 301 31 = some (.if_icmp .le 65) := by decide +kernel
set_option maxRecDepth 100000 in
theorem ji_301_34 : mj_ins 301 34 = some (.aload_n 0) := by decide +kernel
set_option maxRecDepth 100000 in
theorem ji_301_35 : mj_ins 301 35 = some (.iload 5) := by decide +kernel
set_option maxRecDepth 100000 in
theorem ji_301_37 : mj_ins 301 37 = some (.invokevirtual 458) := by decide +kernel
set_option maxRecDepth 100000 in
theorem jc_301_458 : mj_cal 301 458 = some (2, 305, 1) := by decide +kernel
set_option maxRecDepth 100000 in
theorem ji_301_40 : mj_ins 301 40 = some (.ifCond .eq 6) := by decide +kernel
set_option maxRecDepth 100000 in
theorem ji_301_46 : mj_ins 301 46 = some (.iconst 2) := by decide +kernel
set_option maxRecDepth 100000 in
theorem ji_301_47 : mj_ins 301 47 = some (.aload_n 0) := by decide +kernel
set_option maxRecDepth 100000 in
theorem ji_301_48 : mj_ins 301 48 = some (.iload 5) := by decide +kernel
set_option maxRecDepth 100000 in
theorem ji_301_50 : mj_ins 301 50 = some (.invokevirtual 455) := by decide +kernel
set_option maxRecDepth 100000 in
theorem jc_301_455 : mj_cal 301 455 = some (2, 302, 1) := by decide +kernel
set_option maxRecDepth 100000 in
theorem ji_301_53 : mj_ins 301 53 = some (.imul) := by decide +kernel
set_option maxRecDepth 100000 in
theorem ji_301_54 : mj_ins 301 54 = some (.iload_n 2) := by decide +kernel
set_option maxRecDepth 100000 in
theorem ji_301_55 : mj_ins 301 55 = some (.isub) := by decide +kernel
set_option maxRecDepth 100000 in
theorem ji_301_56 : mj_ins 301 56 = some (.istore 6) := by decide +kernel
set_option maxRecDepth 100000 in
theorem ji_301_58 : mj_ins 301 58 = some (.iload 6) := by decide +kernel
set_option maxRecDepth 100000 in
theorem ji_301_60 : mj_ins 301 60 = some (.ifCond .ge 9) := by decide +kernel
set_option maxRecDepth 100000 in
theorem ji_301_69 : mj_ins 301 69 = some (.iload 6) := by decide +kernel
set_option maxRecDepth 100000 in
theorem ji_301_71 : mj_ins 301 71 = some (.istore 6) := by decide +kernel
set_option maxRecDepth 100000 in
theorem ji_301_73 : mj_ins 301 73 = some (.iload 6) := by decide +kernel
set_option maxRecDepth 100000 in
theorem ji_301_75 : mj_ins 301 75 = some (.iload 4) := by decide +kernel
set_option maxRecDepth 100000 in
theorem ji_301_77 : mj_ins 301 77 = some (.if_icmp .lt 6) := by decide +kernel
set_option maxRecDepth 100000 in
theorem ji_301_83 : mj_ins 301 83 = some (.iload 6) := by decide +kernel
set_option maxRecDepth 100000 in
theorem ji_301_85 : mj_ins 301 85 = some (.istore 4) := by decide +kernel
set_option maxRecDepth 100000 in
theorem ji_301_87 : mj_ins 301 87 = some (.iload 5) := by decide +kernel
set_option maxRecDepth 100000 in
theorem ji_301_89 : mj_ins 301 89 = some (.istore_n 3) := by decide +kernel
set_option maxRecDepth 100000 in
theorem ji_301_90 : mj_ins 301 90 = some (.iinc 5 1) := by decide +kernel
set_option maxRecDepth 100000 in
theorem ji_301_93 : mj_ins 301 93 = some (.goto (-71)) := by decide +kernel
set_option maxRecDepth 100000 in
theorem ji_301_63 : mj_ins 301 63 = some (.iload 6) := by decide +kernel
set_option maxRecDepth 100000 in
theorem ji_301_65 : mj_ins 301 65 = some (.ineg) := by decide +kernel
set_option maxRecDepth 100000 in
theorem ji_301_66 : mj_ins 301 66 = some (.goto 5) := by decide +kernel
set_option maxRecDepth 100000 in
theorem ji_301_43 : mj_ins 301 43 = some (.goto 47) := by decide +kernel
set_option maxRecDepth 100000 in
theorem ji_301_80 : mj_ins 301 80 = some (.goto 10) := by decide +kernel
set_option maxRecDepth 100000 in
theorem jcon_301_399 : mj_con 301 399 = some (.int 1000000000) := by decide +kernel
set_option maxRecDepth 100000 in
theorem ji_301_96 : mj_ins 301 96 = some (.iload_n 3) := by decide +kernel
set_option maxRecDepth 100000 in
theorem ji_301_97 : mj_ins 301 97 = some (.ireturn) := by decide +kernel
set_option maxRecDepth 100000 in
theorem jr_301 : mj_ret 301 = some .int := by decide +kernel
set_option maxRecDepth 100000 in
theorem ji_301_0 : mj_ins 301 0 = some (.aload_n 0) := by decide +kernel
set_option maxRecDepth 100000 in
theorem ji_301_1 : mj_ins 301 1 = some (.iconst (-1)) := by decide +kernel
set_option maxRecDepth 100000 in
theorem ji_301_2 : mj_ins 301 2 = some (.invokevirtual 455) := by decide +kernel
set_option maxRecDepth 100000 in
theorem ji_301_5 : mj_ins 301 5 = some (.istore_n 2) := by decide +kernel
set_option maxRecDepth 100000 in
theorem ji_301_6 : mj_ins 301 6 = some (.iload_n 1) := by decide +kernel
set_option maxRecDepth 100000 in
theorem ji_301_7 : mj_ins 301 7 = some (.ifCond .ne 5) := by decide +kernel
set_option maxRecDepth 100000 in
theorem ji_301_12 : mj_ins 301 12 = some (.iconst (-1)) := by decide +kernel
set_option maxRecDepth 100000 in
theorem ji_301_13 : mj_ins 301 13 = some (.istore_n 3) := by decide +kernel
set_option maxRecDepth 100000 in
theorem ji_301_14 : mj_ins 301 14 = some (.ldc_w 399) := by decide +kernel
set_option maxRecDepth 100000 in
theorem ji_301_17 : mj_ins 301 17 = some (.istore 4) := by decide +kernel
set_option maxRecDepth 100000 in
theorem ji_301_19 : mj_ins 301 19 = some (.iconst 0) := by decide +kernel
set_option maxRecDepth 100000 in
theorem ji_301_20 : mj_ins 301 20 = some (.istore 5) := by decide +kernel
set_option maxRecDepth 100000 in
theorem ji_301_10 : mj_ins 301 10 = some (.iload_n 2) := by decide +kernel
set_option maxRecDepth 100000 in
theorem ji_301_11 : mj_ins 301 11 = some (.ireturn) := by decide +kernel
/-! rhythms of both, exactly: the class's whereNext, the reference; laid by program (wp_rhy2.py) -/
def fd_E (h : mj_H) (N : Nat) (ps bs : List Value) : Prop := (∃ fs, h[138]? = some (11, fs) ∧ fs[0]? = some (.ref 139)) ∧ ∃ vs, h[139]? = some (1000, vs) ∧ vs.length = 6044 ∧ vs[5]? = some (wp_i (N : Int)) ∧ ∀ k, k < 8 → vs[148 + 2 * k]? = ps[k]? ∧ vs[148 + (2 * k + 1)]? = bs[k]?
section WPE
variable {d m pc : Nat} {lv : mj_L} {st : List Value} {h h0 : mj_H} {Q : Option Value → mj_H → Prop} {N : Nat} {ps bs : List Value}
theorem fe_g {x : Nat} {ty : FieldType} {w : Bool} (V : fd_E h N ps bs) (hi : mj_ins m pc = some (.getfield x)) (hf : mj_fld m x = some (11, 0, ty, w)) (hr : wp_R d m (pc + 3) lv (.ref 139 :: st) h Q) : wp_R d m pc lv (.ref 138 :: st) h Q := by
  obtain ⟨⟨fs, e1, e2⟩, -⟩ := V
  exact wp_gf hi hf e1 e2 hr
theorem fe_n (V : fd_E h N ps bs) (hi : mj_ins m pc = some .iaload) (hr : wp_R d m (pc + 1) lv (wp_i (N : Int) :: st) h Q) : wp_R d m pc lv (wp_i 5 :: .ref 139 :: st) h Q := by
  obtain ⟨-, vs, e1, e2, e3, -⟩ := V
  exact wp_ial hi e1 (by decide) (by omega) (by omega) e3 hr
theorem fe_p {k : Nat} (V : fd_E h N ps bs) (D : fd_D N ps bs) (hk : k < 8) (hi : mj_ins m pc = some .iaload) (hr : wp_R d m (pc + 1) lv (wp_i (sx_el ps k) :: st) h Q) : wp_R d m pc lv (wp_i (148 + (2 * (k : Int))) :: .ref 139 :: st) h Q := by
  obtain ⟨-, vs, e1, e2, -, e4⟩ := V
  exact wp_ial hi e1 (by omega) (by omega) (by omega) (by rw [show (148 + (2 * (k : Int))).toNat = 148 + 2 * k by omega, (e4 k hk).1]; exact (D.2.2.2.1 k hk).1) hr
theorem fe_b {k : Nat} (V : fd_E h N ps bs) (D : fd_D N ps bs) (hk : k < 8) (hi : mj_ins m pc = some .iaload) (hr : wp_R d m (pc + 1) lv (wp_i (sx_el bs k) :: st) h Q) : wp_R d m pc lv (wp_i (148 + (2 * (k : Int)) + 1) :: .ref 139 :: st) h Q := by
  obtain ⟨-, vs, e1, e2, -, e4⟩ := V
  exact wp_ial hi e1 (by omega) (by omega) (by omega) (by rw [show (148 + (2 * (k : Int)) + 1).toNat = 148 + (2 * k + 1) by omega, (e4 k hk).2]; exact (D.2.2.2.2 k hk).1) hr
end WPE
theorem bi_g {x : Bool} {g : Int} (h : bi x = g) : (g = 1 ∧ x = true) ∨ (g = 0 ∧ x = false) := by
  cases x with
  | true => exact Or.inl ⟨h.symm, rfl⟩
  | false => exact Or.inr ⟨h.symm, rfl⟩
theorem ry_tll {d : Nat} {h0 h : mj_H} {N : Nat} {ps bs : List Value} {hv : List Value} (V : fd_U h0 h N ps bs hv) (D : fd_D N ps bs) {x : Nat} (hx : x < 100) : ∀ (m k : Nat), k + m = N → wp_R d 150 4 [some (.ref 61), some (wp_i (x : Int)), some (wp_i (bi (tl_k (sx_el ps) (x : Int) k))), some (wp_i (k : Int))] [] h (fun v h1 => v = some (wp_i (bi (tl_k (sx_el ps) (x : Int) N))) ∧ h1 = h) := by
  have hN := D.1
  intro m
  induction m with
  | zero =>
    intro k hk
    have hk : k = N := by omega
    subst hk
    refine wp_s (pc' := 5) ji_150_4 rfl rfl rfl ?_
    refine wp_s (pc' := 6) ji_150_5 rfl rfl rfl ?_
    refine fu_g3 V ji_150_6 jf_150_22 ?_
    refine wp_icmp (t := 38) ji_150_9 rfl (by omega) (by omega) (fun _ => ?_) (fun (q : ¬ ((k : Int) ≤ (k : Int))) => (by exfalso; omega))
    refine wp_s (pc' := 39) ji_150_38 rfl rfl rfl ?_
    exact wp_ri ji_150_39 jr_150 (pv_nb (bi_01 _)) ⟨rfl, rfl⟩
  | succ m ih =>
    intro k hk
    have hP := (D.2.2.2.1 k (by omega)).2
    obtain ⟨g, hg0⟩ : ∃ g, bi (tl_k (sx_el ps) (x : Int) k) = g := ⟨_, rfl⟩
    have hg := bi_g hg0
    rw [hg0]
    refine wp_s (pc' := 5) ji_150_4 rfl rfl rfl ?_
    refine wp_s (pc' := 6) ji_150_5 rfl rfl rfl ?_
    refine fu_g3 V ji_150_6 jf_150_22 ?_
    refine wp_icmp (t := 38) ji_150_9 rfl (by omega) (by omega) (fun (hb1 : ((N : Int) : Int) ≤ ((k : Int))) => (by exfalso; omega)) (fun (hb1 : ¬ (((N : Int) : Int) ≤ ((k : Int)))) => ?_)
    refine wp_s (pc' := 13) ji_150_12 rfl rfl rfl ?_
    refine wp_if (t := 26) ji_150_13 rfl (by omega) (fun (hb2 : ¬ (g : Int) = 0) => ?_) (fun (hb2 : ¬ (¬ (g : Int) = 0)) => ?_)
    · refine wp_s (pc' := 27) ji_150_26 rfl rfl rfl ?_
      refine wp_goto (t := 31) ji_150_27 rfl ?_
      refine wp_s (pc' := 32) (lv' := [some (.ref 61), some (wp_i ((x : Int))), some (wp_i 1), some (wp_i ((k : Int)))]) ji_150_31 rfl rfl rfl ?_
      refine wp_iinc (x := (k : Int)) (z := ((k + 1 : Nat) : Int)) (lv' := [some (.ref 61), some (wp_i ((x : Int))), some (wp_i 1), some (wp_i (((k + 1 : Nat) : Int)))]) ji_150_32 rfl (Nat.le_of_ble_eq_true rfl) (by omega) rfl ?_
      refine wp_goto (t := 4) ji_150_35 rfl ?_
      have e : tl_k (sx_el ps) (x : Int) (k + 1) = true := tl_0 (hg.elim (fun e => e.2) (fun e => (by exfalso; omega)))
      have R := ih (k + 1) (by omega)
      rw [e] at R
      exact R
    · refine wp_s (pc' := 17) ji_150_16 rfl rfl rfl ?_
      refine fu_g0 V ji_150_17 jf_150_11 ?_
      refine wp_s (pc' := 21) ji_150_20 rfl rfl rfl ?_
      refine fu_l62 (k := k) V D (by omega) ji_150_21 ?_
      refine wp_s (pc' := 23) ji_150_22 rfl rfl rfl ?_
      refine wp_icmp (t := 30) ji_150_23 rfl (by omega) (by omega) (fun (hb3 : ¬ (sx_el ps k : Int) = ((x : Int))) => ?_) (fun (hb3 : ¬ (¬ (sx_el ps k : Int) = ((x : Int)))) => ?_)
      · refine wp_s (pc' := 31) ji_150_30 rfl rfl rfl ?_
        refine wp_s (pc' := 32) (lv' := [some (.ref 61), some (wp_i ((x : Int))), some (wp_i 0), some (wp_i ((k : Int)))]) ji_150_31 rfl rfl rfl ?_
        refine wp_iinc (x := (k : Int)) (z := ((k + 1 : Nat) : Int)) (lv' := [some (.ref 61), some (wp_i ((x : Int))), some (wp_i 0), some (wp_i (((k + 1 : Nat) : Int)))]) ji_150_32 rfl (Nat.le_of_ble_eq_true rfl) (by omega) rfl ?_
        refine wp_goto (t := 4) ji_150_35 rfl ?_
        have e : tl_k (sx_el ps) (x : Int) (k + 1) = false := tl_2 (hg.elim (fun e => (by exfalso; omega)) (fun e => e.2)) (by omega)
        have R := ih (k + 1) (by omega)
        rw [e] at R
        exact R
      · refine wp_s (pc' := 27) ji_150_26 rfl rfl rfl ?_
        refine wp_goto (t := 31) ji_150_27 rfl ?_
        refine wp_s (pc' := 32) (lv' := [some (.ref 61), some (wp_i ((x : Int))), some (wp_i 1), some (wp_i ((k : Int)))]) ji_150_31 rfl rfl rfl ?_
        refine wp_iinc (x := (k : Int)) (z := ((k + 1 : Nat) : Int)) (lv' := [some (.ref 61), some (wp_i ((x : Int))), some (wp_i 1), some (wp_i (((k + 1 : Nat) : Int)))]) ji_150_32 rfl (Nat.le_of_ble_eq_true rfl) (by omega) rfl ?_
        refine wp_goto (t := 4) ji_150_35 rfl ?_
        have e : tl_k (sx_el ps) (x : Int) (k + 1) = true := tl_1 (by omega)
        have R := ih (k + 1) (by omega)
        rw [e] at R
        exact R
theorem ry_told {d : Nat} {h0 h : mj_H} {N : Nat} {ps bs : List Value} {hv : List Value} (V : fd_U h0 h N ps bs hv) (D : fd_D N ps bs) {x : Nat} (hx : x < 100) : wp_R d 150 0 [some (.ref 61), some (wp_i (x : Int)), none, none] [] h (fun v h1 => v = some (wp_i (bi (tl_k (sx_el ps) (x : Int) N))) ∧ h1 = h) := by
  refine wp_s (pc' := 1) ji_150_0 rfl rfl rfl ?_
  refine wp_s (pc' := 2) (lv' := [some (.ref 61), some (wp_i (x : Int)), some (wp_i 0), none]) ji_150_1 rfl rfl rfl ?_
  refine wp_s (pc' := 3) ji_150_2 rfl rfl rfl ?_
  refine wp_s (pc' := 4) (lv' := [some (.ref 61), some (wp_i (x : Int)), some (wp_i 0), some (wp_i ((0 : Nat) : Int))]) ji_150_3 rfl rfl rfl ?_
  exact ry_tll V D hx N 0 (by omega)
theorem ry_wnl {d : Nat} {h0 h : mj_H} {N : Nat} {ps bs : List Value} (V : fd_U h0 h N ps bs (fd_hv (fun p => cs (wq (sx_el ps) (sx_el bs) N (p : Int)) 20))) (D : fd_D N ps bs) (hA : 2 ≤ cs (ww (sx_el ps) (sx_el bs) N) 20) : ∀ (m k : Nat) (o : Option Value), k + m = 100 → wp_R (d + 1) 146 12 [some (.ref 61), some (wp_i (cs (ww (sx_el ps) (sx_el bs) N) 20)), some (wp_i (nb (nxt (sx_el ps) (sx_el bs) N k))), some (wp_i (nl 0 (nxt (sx_el ps) (sx_el bs) N k))), some (wp_i (k : Int)), o] [] h (fun v h1 => v = some (wp_i (nb (nxt (sx_el ps) (sx_el bs) N 100))) ∧ h1 = h) := by
  have hA2 := ww_b (P := sx_el ps) (b := sx_el bs) (N := N)
  intro m
  induction m with
  | zero =>
    intro k o hk
    have hk : k = 100 := by omega
    subst hk
    refine wp_s (pc' := 14) ji_146_12 rfl rfl rfl ?_
    refine wp_bp ji_146_14 rfl ?_
    refine wp_icmp (t := 72) ji_146_16 rfl (by omega) (by omega) (fun _ => ?_) (fun (q : ¬ ((99 : Int) < ((100 : Nat) : Int))) => (by exfalso; omega))
    refine wp_s (pc' := 73) ji_146_72 rfl rfl rfl ?_
    exact wp_ri ji_146_73 jr_146 rfl ⟨rfl, rfl⟩
  | succ m ih =>
    intro k o hk
    have hH := wq_b (P := sx_el ps) (b := sx_el bs) (N := N) (x := (k : Int))
    have hz0 := of_b (P := sx_el ps) (b := sx_el bs) (N := N) (k := k)
    obtain ⟨z, hz⟩ : ∃ z, of_ (sx_el ps) (sx_el bs) N k = z := ⟨_, rfl⟩
    rw [hz] at hz0
    obtain ⟨g, hg0⟩ : ∃ g, bi (tl_k (sx_el ps) (k : Int) N) = g := ⟨_, rfl⟩
    have hg := bi_g hg0
    cases hx : nxt (sx_el ps) (sx_el bs) N k with
    | none =>
      show wp_R (d + 1) 146 12 [some (.ref 61), some (wp_i (cs (ww (sx_el ps) (sx_el bs) N) 20)), some (wp_i (-1)), some (wp_i 0), some (wp_i (k : Int)), o] [] h _
      refine wp_s (pc' := 14) ji_146_12 rfl rfl rfl ?_
      refine wp_bp ji_146_14 rfl ?_
      refine wp_icmp (t := 72) ji_146_16 rfl (by omega) (by omega) (fun (hb1 : (99 : Int) < ((k : Int))) => (by exfalso; omega)) (fun (hb1 : ¬ ((99 : Int) < ((k : Int)))) => ?_)
      refine wp_s (pc' := 20) ji_146_19 rfl rfl rfl ?_
      refine wp_s (pc' := 21) ji_146_20 rfl rfl rfl ?_
      refine wp_icmp (t := 72) ji_146_21 rfl (by omega) (by omega) (fun (hb2 : ((cs (ww (sx_el ps) (sx_el bs) N) 20) : Int) < 2) => (by exfalso; omega)) (fun (hb2 : ¬ (((cs (ww (sx_el ps) (sx_el bs) N) 20) : Int) < 2)) => ?_)
      refine wp_s (pc' := 25) ji_146_24 rfl rfl rfl ?_
      refine wp_s (pc' := 26) ji_146_25 rfl rfl rfl ?_
      refine fu_g2 V ji_146_26 jf_146_19 ?_
      refine wp_s (pc' := 31) ji_146_29 rfl rfl rfl ?_
      refine fu_l64 (k := k) V (by omega) ji_146_31 ?_
      refine wp_imul (x := 2) (y := cs (wq (sx_el ps) (sx_el bs) N (k : Int)) 20) (z := 2 * (cs (wq (sx_el ps) (sx_el bs) N (k : Int)) 20)) ji_146_32 (by omega) ?_
      refine wp_s (pc' := 34) ji_146_33 rfl rfl rfl ?_
      refine wp_isub (x := 2 * (cs (wq (sx_el ps) (sx_el bs) N (k : Int)) 20)) (y := (cs (ww (sx_el ps) (sx_el bs) N) 20)) (z := 2 * (cs (wq (sx_el ps) (sx_el bs) N (k : Int)) 20) - ((cs (ww (sx_el ps) (sx_el bs) N) 20))) ji_146_34 (by omega) ?_
      refine wp_abs (a := 2 * (cs (wq (sx_el ps) (sx_el bs) N (k : Int)) 20) - ((cs (ww (sx_el ps) (sx_el bs) N) 20))) ji_146_35 jc_146_38 (Nat.le_of_ble_eq_true rfl) (by omega) ?_
      show wp_R (d + 1) 146 38 [some (.ref 61), some (wp_i ((cs (ww (sx_el ps) (sx_el bs) N) 20))), some (wp_i (-1)), some (wp_i 0), some (wp_i ((k : Int))), o] [wp_i (of_ (sx_el ps) (sx_el bs) N k)] h _
      rw [hz]
      refine wp_s (pc' := 40) (lv' := [some (.ref 61), some (wp_i ((cs (ww (sx_el ps) (sx_el bs) N) 20))), some (wp_i (-1)), some (wp_i 0), some (wp_i ((k : Int))), some (wp_i z)]) ji_146_38 rfl rfl rfl ?_
      refine wp_s (pc' := 41) ji_146_40 rfl rfl rfl ?_
      refine wp_s (pc' := 43) ji_146_41 rfl rfl rfl ?_
      obtain ⟨⟨fs, hc, hfs⟩, hV2⟩ := V
      have V : fd_U h0 _ N ps bs _ := ⟨⟨fs, hc, hfs⟩, hV2⟩
      refine wp_vc (d := d) (as := [.ref 61, wp_i ((k : Int))]) (rest := []) ji_146_43 jc_146_44 rfl hc jk_150.symm (Nat.le_of_ble_eq_true rfl) rfl (by rw [jn_150]; rfl) (ry_told (x := k) V D (by omega)) (fun v h1 R => ?_)
      obtain ⟨rfl, e1⟩ := R
      subst e1
      rw [hg0]
      show wp_R (d + 1) 146 46 [some (.ref 61), some (wp_i ((cs (ww (sx_el ps) (sx_el bs) N) 20))), some (wp_i (-1)), some (wp_i 0), some (wp_i ((k : Int))), some (wp_i z)] [wp_i g] h1 _
      refine wp_if (t := 66) ji_146_46 rfl (by omega) (fun (hb3 : ¬ (g : Int) = 0) => ?_) (fun (hb3 : ¬ (¬ (g : Int) = 0)) => ?_)
      · refine wp_iinc (x := (k : Int)) (z := ((k + 1 : Nat) : Int)) (lv' := [some (.ref 61), some (wp_i ((cs (ww (sx_el ps) (sx_el bs) N) 20))), some (wp_i (-1)), some (wp_i 0), some (wp_i (((k + 1 : Nat) : Int))), some (wp_i z)]) ji_146_66 rfl (Nat.le_of_ble_eq_true rfl) (by omega) rfl ?_
        refine wp_goto (t := 12) ji_146_69 rfl ?_
        have e : nxt (sx_el ps) (sx_el bs) N (k + 1) = nxt (sx_el ps) (sx_el bs) N k := nx_t (hg.elim (fun e => e.2) (fun e => (by exfalso; omega)))
        rw [hx] at e
        have R := ih (k + 1) (some (wp_i z)) (by omega)
        rw [e] at R
        exact R
      · refine wp_s (pc' := 50) ji_146_49 rfl rfl rfl ?_
        refine wp_s (pc' := 51) ji_146_50 rfl rfl rfl ?_
        refine wp_icmp (t := 60) ji_146_51 rfl (by omega) (by omega) (fun (hb4 : (-1 : Int) = (-1)) => ?_) (fun (hb4 : ¬ ((-1 : Int) = (-1))) => (by exfalso; omega))
        refine wp_s (pc' := 62) ji_146_60 rfl rfl rfl ?_
        refine wp_s (pc' := 63) (lv' := [some (.ref 61), some (wp_i ((cs (ww (sx_el ps) (sx_el bs) N) 20))), some (wp_i ((k : Int))), some (wp_i 0), some (wp_i ((k : Int))), some (wp_i z)]) ji_146_62 rfl rfl rfl ?_
        refine wp_s (pc' := 65) ji_146_63 rfl rfl rfl ?_
        refine wp_s (pc' := 66) (lv' := [some (.ref 61), some (wp_i ((cs (ww (sx_el ps) (sx_el bs) N) 20))), some (wp_i ((k : Int))), some (wp_i z), some (wp_i ((k : Int))), some (wp_i z)]) ji_146_65 rfl rfl rfl ?_
        refine wp_iinc (x := (k : Int)) (z := ((k + 1 : Nat) : Int)) (lv' := [some (.ref 61), some (wp_i ((cs (ww (sx_el ps) (sx_el bs) N) 20))), some (wp_i ((k : Int))), some (wp_i z), some (wp_i (((k + 1 : Nat) : Int))), some (wp_i z)]) ji_146_66 rfl (Nat.le_of_ble_eq_true rfl) (by omega) rfl ?_
        refine wp_goto (t := 12) ji_146_69 rfl ?_
        have ht : tl_k (sx_el ps) (k : Int) N = false := hg.elim (fun e => (by exfalso; omega)) (fun e => e.2)
        have e : nxt (sx_el ps) (sx_el bs) N (k + 1) = some ((k : Int), of_ (sx_el ps) (sx_el bs) N k) := nx_n ht hx
        rw [hz] at e
        have R := ih (k + 1) (some (wp_i z)) (by omega)
        rw [e] at R
        exact R
    | some q =>
      obtain ⟨b2, l2⟩ := q
      have hb2 := nx_b (fun j => of_b) hx
      show wp_R (d + 1) 146 12 [some (.ref 61), some (wp_i (cs (ww (sx_el ps) (sx_el bs) N) 20)), some (wp_i b2), some (wp_i l2), some (wp_i (k : Int)), o] [] h _
      refine wp_s (pc' := 14) ji_146_12 rfl rfl rfl ?_
      refine wp_bp ji_146_14 rfl ?_
      refine wp_icmp (t := 72) ji_146_16 rfl (by omega) (by omega) (fun (hb1 : (99 : Int) < ((k : Int))) => (by exfalso; omega)) (fun (hb1 : ¬ ((99 : Int) < ((k : Int)))) => ?_)
      refine wp_s (pc' := 20) ji_146_19 rfl rfl rfl ?_
      refine wp_s (pc' := 21) ji_146_20 rfl rfl rfl ?_
      refine wp_icmp (t := 72) ji_146_21 rfl (by omega) (by omega) (fun (hb2 : ((cs (ww (sx_el ps) (sx_el bs) N) 20) : Int) < 2) => (by exfalso; omega)) (fun (hb2 : ¬ (((cs (ww (sx_el ps) (sx_el bs) N) 20) : Int) < 2)) => ?_)
      refine wp_s (pc' := 25) ji_146_24 rfl rfl rfl ?_
      refine wp_s (pc' := 26) ji_146_25 rfl rfl rfl ?_
      refine fu_g2 V ji_146_26 jf_146_19 ?_
      refine wp_s (pc' := 31) ji_146_29 rfl rfl rfl ?_
      refine fu_l64 (k := k) V (by omega) ji_146_31 ?_
      refine wp_imul (x := 2) (y := cs (wq (sx_el ps) (sx_el bs) N (k : Int)) 20) (z := 2 * (cs (wq (sx_el ps) (sx_el bs) N (k : Int)) 20)) ji_146_32 (by omega) ?_
      refine wp_s (pc' := 34) ji_146_33 rfl rfl rfl ?_
      refine wp_isub (x := 2 * (cs (wq (sx_el ps) (sx_el bs) N (k : Int)) 20)) (y := (cs (ww (sx_el ps) (sx_el bs) N) 20)) (z := 2 * (cs (wq (sx_el ps) (sx_el bs) N (k : Int)) 20) - ((cs (ww (sx_el ps) (sx_el bs) N) 20))) ji_146_34 (by omega) ?_
      refine wp_abs (a := 2 * (cs (wq (sx_el ps) (sx_el bs) N (k : Int)) 20) - ((cs (ww (sx_el ps) (sx_el bs) N) 20))) ji_146_35 jc_146_38 (Nat.le_of_ble_eq_true rfl) (by omega) ?_
      show wp_R (d + 1) 146 38 [some (.ref 61), some (wp_i ((cs (ww (sx_el ps) (sx_el bs) N) 20))), some (wp_i b2), some (wp_i l2), some (wp_i ((k : Int))), o] [wp_i (of_ (sx_el ps) (sx_el bs) N k)] h _
      rw [hz]
      refine wp_s (pc' := 40) (lv' := [some (.ref 61), some (wp_i ((cs (ww (sx_el ps) (sx_el bs) N) 20))), some (wp_i b2), some (wp_i l2), some (wp_i ((k : Int))), some (wp_i z)]) ji_146_38 rfl rfl rfl ?_
      refine wp_s (pc' := 41) ji_146_40 rfl rfl rfl ?_
      refine wp_s (pc' := 43) ji_146_41 rfl rfl rfl ?_
      obtain ⟨⟨fs, hc, hfs⟩, hV2⟩ := V
      have V : fd_U h0 _ N ps bs _ := ⟨⟨fs, hc, hfs⟩, hV2⟩
      refine wp_vc (d := d) (as := [.ref 61, wp_i ((k : Int))]) (rest := []) ji_146_43 jc_146_44 rfl hc jk_150.symm (Nat.le_of_ble_eq_true rfl) rfl (by rw [jn_150]; rfl) (ry_told (x := k) V D (by omega)) (fun v h1 R => ?_)
      obtain ⟨rfl, e1⟩ := R
      subst e1
      rw [hg0]
      show wp_R (d + 1) 146 46 [some (.ref 61), some (wp_i ((cs (ww (sx_el ps) (sx_el bs) N) 20))), some (wp_i b2), some (wp_i l2), some (wp_i ((k : Int))), some (wp_i z)] [wp_i g] h1 _
      refine wp_if (t := 66) ji_146_46 rfl (by omega) (fun (hb3 : ¬ (g : Int) = 0) => ?_) (fun (hb3 : ¬ (¬ (g : Int) = 0)) => ?_)
      · refine wp_iinc (x := (k : Int)) (z := ((k + 1 : Nat) : Int)) (lv' := [some (.ref 61), some (wp_i ((cs (ww (sx_el ps) (sx_el bs) N) 20))), some (wp_i b2), some (wp_i l2), some (wp_i (((k + 1 : Nat) : Int))), some (wp_i z)]) ji_146_66 rfl (Nat.le_of_ble_eq_true rfl) (by omega) rfl ?_
        refine wp_goto (t := 12) ji_146_69 rfl ?_
        have e : nxt (sx_el ps) (sx_el bs) N (k + 1) = nxt (sx_el ps) (sx_el bs) N k := nx_t (hg.elim (fun e => e.2) (fun e => (by exfalso; omega)))
        rw [hx] at e
        have R := ih (k + 1) (some (wp_i z)) (by omega)
        rw [e] at R
        exact R
      · refine wp_s (pc' := 50) ji_146_49 rfl rfl rfl ?_
        refine wp_s (pc' := 51) ji_146_50 rfl rfl rfl ?_
        refine wp_icmp (t := 60) ji_146_51 rfl (by omega) (by omega) (fun (hb4 : (b2 : Int) = (-1)) => (by exfalso; omega)) (fun (hb4 : ¬ ((b2 : Int) = (-1))) => ?_)
        refine wp_s (pc' := 56) ji_146_54 rfl rfl rfl ?_
        refine wp_s (pc' := 57) ji_146_56 rfl rfl rfl ?_
        refine wp_icmp (t := 66) ji_146_57 rfl (by omega) (by omega) (fun (hb5 : (l2 : Int) ≤ z) => ?_) (fun (hb5 : ¬ ((l2 : Int) ≤ z)) => ?_)
        · refine wp_iinc (x := (k : Int)) (z := ((k + 1 : Nat) : Int)) (lv' := [some (.ref 61), some (wp_i ((cs (ww (sx_el ps) (sx_el bs) N) 20))), some (wp_i b2), some (wp_i l2), some (wp_i (((k + 1 : Nat) : Int))), some (wp_i z)]) ji_146_66 rfl (Nat.le_of_ble_eq_true rfl) (by omega) rfl ?_
          refine wp_goto (t := 12) ji_146_69 rfl ?_
          have ht : tl_k (sx_el ps) (k : Int) N = false := hg.elim (fun e => (by exfalso; omega)) (fun e => e.2)
          have e : nxt (sx_el ps) (sx_el bs) N (k + 1) = some (b2, l2) := nx_g ht hx (by rw [hz]; omega)
          have R := ih (k + 1) (some (wp_i z)) (by omega)
          rw [e] at R
          exact R
        · refine wp_s (pc' := 62) ji_146_60 rfl rfl rfl ?_
          refine wp_s (pc' := 63) (lv' := [some (.ref 61), some (wp_i ((cs (ww (sx_el ps) (sx_el bs) N) 20))), some (wp_i ((k : Int))), some (wp_i l2), some (wp_i ((k : Int))), some (wp_i z)]) ji_146_62 rfl rfl rfl ?_
          refine wp_s (pc' := 65) ji_146_63 rfl rfl rfl ?_
          refine wp_s (pc' := 66) (lv' := [some (.ref 61), some (wp_i ((cs (ww (sx_el ps) (sx_el bs) N) 20))), some (wp_i ((k : Int))), some (wp_i z), some (wp_i ((k : Int))), some (wp_i z)]) ji_146_65 rfl rfl rfl ?_
          refine wp_iinc (x := (k : Int)) (z := ((k + 1 : Nat) : Int)) (lv' := [some (.ref 61), some (wp_i ((cs (ww (sx_el ps) (sx_el bs) N) 20))), some (wp_i ((k : Int))), some (wp_i z), some (wp_i (((k + 1 : Nat) : Int))), some (wp_i z)]) ji_146_66 rfl (Nat.le_of_ble_eq_true rfl) (by omega) rfl ?_
          refine wp_goto (t := 12) ji_146_69 rfl ?_
          have ht : tl_k (sx_el ps) (k : Int) N = false := hg.elim (fun e => (by exfalso; omega)) (fun e => e.2)
          have e : nxt (sx_el ps) (sx_el bs) N (k + 1) = some ((k : Int), of_ (sx_el ps) (sx_el bs) N k) := nx_l ht hx (by rw [hz]; omega)
          rw [hz] at e
          have R := ih (k + 1) (some (wp_i z)) (by omega)
          rw [e] at R
          exact R
theorem ry_wn {d : Nat} {h0 h : mj_H} {N : Nat} {ps bs : List Value} {hv : List Value} (V : fd_U h0 h N ps bs hv) (D : fd_D N ps bs) : wp_R (d + 2) 146 0 [some (.ref 61), none, none, none, none, none] [] h (fun v h1 => v = some (wp_i (ry (sx_el ps) (sx_el bs) N 1)) ∧ ∃ hv, fd_U h0 h1 N ps bs hv) := by
  have hA2 := ww_b (P := sx_el ps) (b := sx_el bs) (N := N)
  obtain ⟨⟨fs, hc, hfs⟩, hV2⟩ := V
  have V : fd_U h0 _ N ps bs _ := ⟨⟨fs, hc, hfs⟩, hV2⟩
  refine wp_s (pc' := 1) ji_146_0 rfl rfl rfl ?_
  refine wp_vc (d := d + 1) (as := [.ref 61]) (rest := []) ji_146_1 jc_146_34 rfl hc jk_147.symm (Nat.le_of_ble_eq_true rfl) rfl (by rw [jn_147]; rfl) (ry_cnt V D) (fun v h1 R => ?_)
  obtain ⟨rfl, V⟩ := R
  show wp_R (d + 2) 146 4 [some (.ref 61), none, none, none, none, none] [wp_i (cs (ww (sx_el ps) (sx_el bs) N) 20)] h1 _
  refine wp_s (pc' := 5) (lv' := [some (.ref 61), some (wp_i (cs (ww (sx_el ps) (sx_el bs) N) 20)), none, none, none, none]) ji_146_4 rfl rfl rfl ?_
  refine wp_s (pc' := 6) ji_146_5 rfl rfl rfl ?_
  refine wp_s (pc' := 7) (lv' := [some (.ref 61), some (wp_i (cs (ww (sx_el ps) (sx_el bs) N) 20)), some (wp_i (-1)), none, none, none]) ji_146_6 rfl rfl rfl ?_
  refine wp_s (pc' := 8) ji_146_7 rfl rfl rfl ?_
  refine wp_s (pc' := 9) (lv' := [some (.ref 61), some (wp_i (cs (ww (sx_el ps) (sx_el bs) N) 20)), some (wp_i (-1)), some (wp_i 0), none, none]) ji_146_8 rfl rfl rfl ?_
  refine wp_s (pc' := 10) ji_146_9 rfl rfl rfl ?_
  refine wp_s (pc' := 12) (lv' := [some (.ref 61), some (wp_i (cs (ww (sx_el ps) (sx_el bs) N) 20)), some (wp_i (-1)), some (wp_i 0), some (wp_i ((0 : Nat) : Int)), none]) ji_146_10 rfl rfl rfl ?_
  by_cases hA : cs (ww (sx_el ps) (sx_el bs) N) 20 < 2
  · rw [show ry (sx_el ps) (sx_el bs) N 1 = -1 from (if_neg (by decide)).trans (if_pos hA)]
    refine wp_s (pc' := 14) ji_146_12 rfl rfl rfl ?_
    refine wp_bp ji_146_14 rfl ?_
    refine wp_icmp (t := 72) ji_146_16 rfl (by omega) (by omega) (fun (q : (99 : Int) < ((0 : Nat) : Int)) => (by exfalso; omega)) (fun _ => ?_)
    refine wp_s (pc' := 20) ji_146_19 rfl rfl rfl ?_
    refine wp_s (pc' := 21) ji_146_20 rfl rfl rfl ?_
    refine wp_icmp (t := 72) (x := cs (ww (sx_el ps) (sx_el bs) N) 20) (y := 2) ji_146_21 rfl (by omega) (by omega) (fun _ => ?_) (fun (q : ¬ (cs (ww (sx_el ps) (sx_el bs) N) 20 < 2)) => (by exfalso; omega))
    refine wp_s (pc' := 73) ji_146_72 rfl rfl rfl ?_
    exact wp_ri ji_146_73 jr_146 rfl ⟨rfl, _, V⟩
  · rw [show ry (sx_el ps) (sx_el bs) N 1 = nb (nxt (sx_el ps) (sx_el bs) N 100) from (if_neg (by decide)).trans (if_neg hA)]
    refine wp_mono (ry_wnl (d := d + 1) V D (by omega) 100 0 none (by omega)) ?_
    rintro v h2 ⟨rfl, rfl⟩
    exact ⟨rfl, _, V⟩
theorem fd_51 {h : mj_H} (hH : sx_H sx_TT 20 sx_tau h) : ∃ hv, h[64]? = some (1000, hv) ∧ hv.length = 100 := by
  obtain ⟨-, hv, e1, e2, -⟩ := hH 64 51 sx_y51 rfl rfl
  exact ⟨hv, e1, e2⟩
def ry_s (s : fd_s) (x : Int) : Int := ry (sx_el s.2.1) (sx_el s.2.2) s.1.toNat x
theorem fd_XD {sl : List Value} {h : mj_H} {B : Int} {s s' : fd_s} {r r' : fd_r} (X : lw_X sl h B s s' r r') (hn : 0 ≤ s.1 ∧ s.1 ≤ 8) : fd_D s.1.toNat s.2.1 s.2.2 := by
  obtain ⟨I, P, x1, -⟩ := X
  have p := fd_49' I.1 (a := 62) rfl x1.2.1
  have b := fd_50' I.1 (a := 63) rfl x1.2.2
  exact ⟨by omega, p.1, b.1, p.2, b.2⟩
theorem lx_145 (AM : lw_AM) {sl : List Value} {h : mj_H} {B x : Int} {s s' : fd_s} {r r' : fd_r} (X : lw_X sl h B s s' r r') (hB : B ≤ 2147483647) (hx : x = 0 ∨ x = 1) (hn : 0 ≤ s.1 ∧ s.1 ≤ 8) : wp_R 1199 145 0 [some (.ref 9), some (wp_i x)] [] h (fun v h1 => v = some (wp_i (ry_s s x)) ∧ lw_X sl h1 B s s' r r') := by
  have D := fd_XD X hn
  obtain ⟨I, P, x1, x2, x3, x4⟩ := X
  obtain ⟨fs, f1, -⟩ := fd_48 I.1 (a := 61) rfl
  obtain ⟨hv, v1, v2⟩ := fd_51 I.1
  have V : fd_U h h s.1.toNat s.2.1 s.2.2 hv := ⟨⟨fs, f1, fd_at P.2.2.2.2.2.2.1 f1, fd_at P.2.2.2.2.2.2.2.1 f1, fd_at P.2.2.2.2.2.2.2.2.2.2 f1, by rw [show ((s.1.toNat : Nat) : Int) = s.1 by omega]; exact fd_at x1.1 f1⟩, x1.2.1, x1.2.2, ⟨v1, v2⟩, fun _ _ => rfl⟩
  refine wp_mono (wp_and (lw_K0 (n := 0) I P (AM 1199 145 sx_K145 rfl) (vs := [.ref 9, wp_i x]) ⟨⟨9, rfl, rfl⟩, fd_bag hx, trivial⟩ (show (3 : Int) + 0 ≤ ((1199 : Nat) : Int) by decide) (by decide) (by omega) (by rw [jn_145]; rfl) (by decide)) (Q2 := fun v h1 => v = some (wp_i (ry_s s x)) ∧ ∃ hv, fd_U h h1 s.1.toNat s.2.1 s.2.2 hv) ?_) ?_
  · obtain ⟨gs, g1, g2⟩ := P.1
    obtain ⟨ks, k1, k2⟩ := P.2.2.1
    refine wp_s (pc' := 1) ji_145_0 rfl rfl rfl ?_
    refine wp_if (t := 17) ji_145_1 rfl (by omega) (fun (e : x = 0) => ?_) (fun (e : ¬ x = 0) => ?_)
    · subst e
      refine wp_s (pc' := 18) ji_145_17 rfl rfl rfl ?_
      refine wp_gf ji_145_18 jf_145_19 g1 g2 ?_
      refine wp_gf ji_145_21 jf_145_287 k1 k2 ?_
      refine wp_vc (d := 1198) (as := [.ref 61]) (rest := []) ji_145_24 jc_145_301 rfl f1 jk_147.symm (Nat.le_of_ble_eq_true rfl) rfl (by rw [jn_147]; rfl) (ry_cnt (d := 1197) V D) (fun v h1 R => ?_)
      obtain ⟨rfl, V⟩ := R
      exact wp_ri (x := cs (ww (sx_el s.2.1) (sx_el s.2.2) s.1.toNat) 20) ji_145_27 jr_145 rfl ⟨rfl, _, V⟩
    · have e1 : x = 1 := by omega
      subst e1
      refine wp_s (pc' := 5) ji_145_4 rfl rfl rfl ?_
      refine wp_gf ji_145_5 jf_145_19 g1 g2 ?_
      refine wp_gf ji_145_8 jf_145_287 k1 k2 ?_
      refine wp_vc (d := 1198) (as := [.ref 61]) (rest := []) ji_145_11 jc_145_297 rfl f1 jk_146.symm (Nat.le_of_ble_eq_true rfl) rfl (by rw [jn_146]; rfl) (ry_wn (d := 1196) V D) (fun v h1 R => ?_)
      obtain ⟨rfl, V⟩ := R
      refine wp_goto (t := 27) ji_145_14 rfl ?_
      exact wp_ri (x := ry (sx_el s.2.1) (sx_el s.2.2) s.1.toNat 1) ji_145_27 jr_145 rfl ⟨rfl, V⟩
  · rintro v h1 ⟨⟨-, k2, k3, -⟩, rfl, hv, -, -, -, -, f⟩
    exact ⟨rfl, lw_le k2 (by omega), k3, fd_S_fr (f 61 (by decide)) (f 62 (by decide)) (f 63 (by decide)) x1, fd_S_fr (f 83 (by decide)) (f 84 (by decide)) (f 85 (by decide)) x2, fd_G_fr (f 139 (by decide)) x3, fd_G_fr (f 140 (by decide)) x4⟩
theorem ry_on {d : Nat} {h : mj_H} {x : Int} {s f : Nat} (hx : 0 ≤ x ∧ x ≤ 99) (hs : 1 ≤ s ∧ s ≤ 20) (hf : f < s) : wp_R d 304 0 [some (wp_i x), some (wp_i (s : Int)), some (wp_i (f : Int))] [] h (fun v h1 => v = some (wp_i (bi (decide (x % (s : Int) = (f : Int))))) ∧ h1 = h) := by
  refine wp_s (pc' := 1) ji_304_0 rfl rfl rfl ?_
  refine wp_s (pc' := 2) ji_304_1 rfl rfl rfl ?_
  refine wp_icmp (t := 17) ji_304_2 rfl (by omega) (by omega) (fun (hb1 : (x : Int) < ((f : Int))) => ?_) (fun (hb1 : ¬ ((x : Int) < ((f : Int)))) => ?_)
  · refine wp_s (pc' := 18) ji_304_17 rfl rfl rfl ?_
    have io := m_io (x := x) (s := (s : Int)) (f := (f : Int)) (by omega) (by omega) (by omega)
    rw [show decide (x % (s : Int) = (f : Int)) = false from decide_eq_false (fun e => by have := (io.mpr e).1; omega)]
    exact wp_ri ji_304_18 jr_304 rfl ⟨rfl, rfl⟩
  · refine wp_s (pc' := 6) ji_304_5 rfl rfl rfl ?_
    refine wp_s (pc' := 7) ji_304_6 rfl rfl rfl ?_
    refine wp_isub (x := x) (y := (f : Int)) (z := x - ((f : Int))) ji_304_7 (by omega) ?_
    refine wp_s (pc' := 9) ji_304_8 rfl rfl rfl ?_
    refine wp_irem (x := x - (f : Int)) (y := (s : Int)) ji_304_9 (by omega) (by omega) ?_
    obtain ⟨q, hq⟩ : ∃ q, (x - (f : Int)) % (s : Int) = q := ⟨_, rfl⟩
    have hq1 : 0 ≤ q := by rw [← hq]; exact Int.emod_nonneg _ (by omega)
    have hq2 : q < (s : Int) := by rw [← hq]; exact Int.emod_lt_of_pos _ (by omega)
    rw [hq]
    refine wp_if (t := 17) ji_304_10 rfl (by omega) (fun (hb2 : ¬ (q : Int) = 0) => ?_) (fun (hb2 : ¬ (¬ (q : Int) = 0)) => ?_)
    · refine wp_s (pc' := 18) ji_304_17 rfl rfl rfl ?_
      have io := m_io (x := x) (s := (s : Int)) (f := (f : Int)) (by omega) (by omega) (by omega)
      rw [show decide (x % (s : Int) = (f : Int)) = false from decide_eq_false (fun e => by have := (io.mpr e).2; omega)]
      exact wp_ri ji_304_18 jr_304 rfl ⟨rfl, rfl⟩
    · refine wp_s (pc' := 14) ji_304_13 rfl rfl rfl ?_
      refine wp_goto (t := 18) ji_304_14 rfl ?_
      have io := m_io (x := x) (s := (s : Int)) (f := (f : Int)) (by omega) (by omega) (by omega)
      rw [show decide (x % (s : Int) = (f : Int)) = true from decide_eq_true (io.mp ⟨by omega, by rw [hq]; omega⟩)]
      exact wp_ri ji_304_18 jr_304 rfl ⟨rfl, rfl⟩
theorem ry_rhl {d : Nat} {h : mj_H} {N : Nat} {ps bs : List Value} (V : fd_E h N ps bs) (D : fd_D N ps bs) {s f : Nat} (hs : 1 ≤ s ∧ s ≤ 20) (hf : f < s) : ∀ (m k : Nat), k + m = N → rh_k (sx_el ps) (sx_el bs) (s : Int) (f : Int) k = true → wp_R (d + 1) 303 2 [some (.ref 138), some (wp_i (s : Int)), some (wp_i (f : Int)), some (wp_i (k : Int))] [] h (fun v h1 => v = some (wp_i (bi (rh_k (sx_el ps) (sx_el bs) (s : Int) (f : Int) N))) ∧ h1 = h) := by
  have hN := D.1
  intro m
  induction m with
  | zero =>
    intro k hk hr
    have hk : k = N := by omega
    subst hk
    rw [hr]
    refine wp_s (pc' := 3) ji_303_2 rfl rfl rfl ?_
    refine wp_s (pc' := 4) ji_303_3 rfl rfl rfl ?_
    refine fe_g V ji_303_4 jf_303_7 ?_
    refine wp_s (pc' := 8) ji_303_7 rfl rfl rfl ?_
    refine fe_n V ji_303_8 ?_
    refine wp_icmp (t := 63) ji_303_9 rfl (by omega) (by omega) (fun _ => ?_) (fun (q : ¬ ((k : Int) ≤ (k : Int))) => (by exfalso; omega))
    refine wp_s (pc' := 64) ji_303_63 rfl rfl rfl ?_
    exact wp_ri ji_303_64 jr_303 rfl ⟨rfl, rfl⟩
  | succ m ih =>
    intro k hk hr
    have hP := (D.2.2.2.1 k (by omega)).2
    have hb := (D.2.2.2.2 k (by omega)).2
    obtain ⟨g, hg0⟩ : ∃ g, bi (decide (sx_el ps k % (s : Int) = (f : Int))) = g := ⟨_, rfl⟩
    have hg := bi_g hg0
    refine wp_s (pc' := 3) ji_303_2 rfl rfl rfl ?_
    refine wp_s (pc' := 4) ji_303_3 rfl rfl rfl ?_
    refine fe_g V ji_303_4 jf_303_7 ?_
    refine wp_s (pc' := 8) ji_303_7 rfl rfl rfl ?_
    refine fe_n V ji_303_8 ?_
    refine wp_icmp (t := 63) ji_303_9 rfl (by omega) (by omega) (fun (hb1 : ((N : Int) : Int) ≤ ((k : Int))) => (by exfalso; omega)) (fun (hb1 : ¬ (((N : Int) : Int) ≤ ((k : Int)))) => ?_)
    refine wp_s (pc' := 13) ji_303_12 rfl rfl rfl ?_
    refine fe_g V ji_303_13 jf_303_7 ?_
    refine wp_sp ji_303_16 rfl ?_
    refine wp_s (pc' := 20) ji_303_19 rfl rfl rfl ?_
    refine wp_s (pc' := 21) ji_303_20 rfl rfl rfl ?_
    refine wp_imul (x := 2) (y := (k : Int)) (z := 2 * ((k : Int))) ji_303_21 (by omega) ?_
    refine wp_iadd (x := 148) (y := 2 * ((k : Int))) (z := 148 + (2 * ((k : Int)))) ji_303_22 (by omega) ?_
    refine fe_p (k := k) V D (by omega) ji_303_23 ?_
    refine wp_s (pc' := 25) ji_303_24 rfl rfl rfl ?_
    refine wp_s (pc' := 26) ji_303_25 rfl rfl rfl ?_
    refine wp_sc (d := d) (as := [wp_i (sx_el ps k), wp_i ((s : Int)), wp_i ((f : Int))]) (rest := []) ji_303_26 jc_303_449 (Nat.le_of_ble_eq_true rfl) rfl (Nat.le_of_ble_eq_true rfl) rfl (by rw [jn_304]; rfl) (ry_on (x := sx_el ps k) (s := s) (f := f) (by omega) (by omega) (by omega)) (fun v h1 R => ?_)
    obtain ⟨rfl, e1⟩ := R
    subst e1
    rw [hg0]
    show wp_R (d + 1) 303 29 [some (.ref 138), some (wp_i ((s : Int))), some (wp_i ((f : Int))), some (wp_i ((k : Int)))] [wp_i g] h1 _
    refine wp_s (pc' := 30) ji_303_29 rfl rfl rfl ?_
    refine fe_g V ji_303_30 jf_303_7 ?_
    refine wp_sp ji_303_33 rfl ?_
    refine wp_s (pc' := 37) ji_303_36 rfl rfl rfl ?_
    refine wp_s (pc' := 38) ji_303_37 rfl rfl rfl ?_
    refine wp_imul (x := 2) (y := (k : Int)) (z := 2 * ((k : Int))) ji_303_38 (by omega) ?_
    refine wp_iadd (x := 148) (y := 2 * ((k : Int))) (z := 148 + (2 * ((k : Int)))) ji_303_39 (by omega) ?_
    refine wp_s (pc' := 41) ji_303_40 rfl rfl rfl ?_
    refine wp_iadd (x := 148 + (2 * ((k : Int)))) (y := 1) (z := 148 + (2 * ((k : Int))) + 1) ji_303_41 (by omega) ?_
    refine fe_b (k := k) V D (by omega) ji_303_42 ?_
    refine wp_s (pc' := 44) ji_303_43 rfl rfl rfl ?_
    refine wp_icmp (t := 51) ji_303_44 rfl (by omega) (by omega) (fun (hb2 : ¬ (sx_el bs k : Int) = 1) => ?_) (fun (hb2 : ¬ (¬ (sx_el bs k : Int) = 1)) => ?_)
    · refine wp_s (pc' := 52) ji_303_51 rfl rfl rfl ?_
      refine wp_icmp (t := 57) ji_303_52 rfl (by omega) (by omega) (fun (hb3 : (g : Int) = 0) => ?_) (fun (hb3 : ¬ ((g : Int) = 0)) => ?_)
      · refine wp_iinc (x := (k : Int)) (z := ((k + 1 : Nat) : Int)) (lv' := [some (.ref 138), some (wp_i ((s : Int))), some (wp_i ((f : Int))), some (wp_i (((k + 1 : Nat) : Int)))]) ji_303_57 rfl (Nat.le_of_ble_eq_true rfl) (by omega) rfl ?_
        refine wp_goto (t := 2) ji_303_60 rfl ?_
        exact ih (k + 1) (by omega) (rh_1 hr (hg.elim (fun e => ⟨fun _ => by omega, fun _ => of_decide_eq_true e.2⟩) (fun e => ⟨fun q => absurd q (of_decide_eq_false e.2), fun q => (by exfalso; omega)⟩)))
      · refine wp_s (pc' := 56) ji_303_55 rfl rfl rfl ?_
        rw [rh_le (rh_2 (k := k) (fun e => hg.elim (fun q => absurd (e.mp (of_decide_eq_true q.2)) (by omega)) (fun q => absurd (e.mpr (by omega)) (of_decide_eq_false q.2)))) (show k + 1 ≤ N by omega)]
        exact wp_ri ji_303_56 jr_303 rfl ⟨rfl, rfl⟩
    · refine wp_s (pc' := 48) ji_303_47 rfl rfl rfl ?_
      refine wp_goto (t := 52) ji_303_48 rfl ?_
      refine wp_icmp (t := 57) ji_303_52 rfl (by omega) (by omega) (fun (hb4 : (g : Int) = 1) => ?_) (fun (hb4 : ¬ ((g : Int) = 1)) => ?_)
      · refine wp_iinc (x := (k : Int)) (z := ((k + 1 : Nat) : Int)) (lv' := [some (.ref 138), some (wp_i ((s : Int))), some (wp_i ((f : Int))), some (wp_i (((k + 1 : Nat) : Int)))]) ji_303_57 rfl (Nat.le_of_ble_eq_true rfl) (by omega) rfl ?_
        refine wp_goto (t := 2) ji_303_60 rfl ?_
        exact ih (k + 1) (by omega) (rh_1 hr (hg.elim (fun e => ⟨fun _ => by omega, fun _ => of_decide_eq_true e.2⟩) (fun e => ⟨fun q => absurd q (of_decide_eq_false e.2), fun q => (by exfalso; omega)⟩)))
      · refine wp_s (pc' := 56) ji_303_55 rfl rfl rfl ?_
        rw [rh_le (rh_2 (k := k) (fun e => hg.elim (fun q => absurd (e.mp (of_decide_eq_true q.2)) (by omega)) (fun q => absurd (e.mpr (by omega)) (of_decide_eq_false q.2)))) (show k + 1 ≤ N by omega)]
        exact wp_ri ji_303_56 jr_303 rfl ⟨rfl, rfl⟩
theorem ry_rh {d : Nat} {h : mj_H} {N : Nat} {ps bs : List Value} (V : fd_E h N ps bs) (D : fd_D N ps bs) {s f : Nat} (hs : 1 ≤ s ∧ s ≤ 20) (hf : f < s) : wp_R (d + 1) 303 0 [some (.ref 138), some (wp_i (s : Int)), some (wp_i (f : Int)), none] [] h (fun v h1 => v = some (wp_i (bi (rh_k (sx_el ps) (sx_el bs) (s : Int) (f : Int) N))) ∧ h1 = h) := by
  refine wp_s (pc' := 1) ji_303_0 rfl rfl rfl ?_
  refine wp_s (pc' := 2) (lv' := [some (.ref 138), some (wp_i (s : Int)), some (wp_i (f : Int)), some (wp_i ((0 : Nat) : Int))]) ji_303_1 rfl rfl rfl ?_
  exact ry_rhl V D hs hf N 0 (by omega) rfl
theorem ry_fol {d : Nat} {h : mj_H} {N : Nat} {ps bs : List Value} (V : fd_E h N ps bs) (D : fd_D N ps bs) {x : Nat} (hx : x < 100) : ∀ (m k : Nat), k + m = N → tl_k (sx_el ps) (x : Int) k = false → wp_R d 305 2 [some (.ref 138), some (wp_i (x : Int)), some (wp_i (k : Int))] [] h (fun v h1 => v = some (wp_i (bi (tl_k (sx_el ps) (x : Int) N))) ∧ h1 = h) := by
  have hN := D.1
  intro m
  induction m with
  | zero =>
    intro k hk hr
    have hk : k = N := by omega
    subst hk
    rw [hr]
    refine wp_s (pc' := 3) ji_305_2 rfl rfl rfl ?_
    refine wp_s (pc' := 4) ji_305_3 rfl rfl rfl ?_
    refine fe_g V ji_305_4 jf_305_7 ?_
    refine wp_s (pc' := 8) ji_305_7 rfl rfl rfl ?_
    refine fe_n V ji_305_8 ?_
    refine wp_icmp (t := 36) ji_305_9 rfl (by omega) (by omega) (fun _ => ?_) (fun (q : ¬ ((k : Int) ≤ (k : Int))) => (by exfalso; omega))
    refine wp_s (pc' := 37) ji_305_36 rfl rfl rfl ?_
    exact wp_ri ji_305_37 jr_305 rfl ⟨rfl, rfl⟩
  | succ m ih =>
    intro k hk hr
    have hP := (D.2.2.2.1 k (by omega)).2
    refine wp_s (pc' := 3) ji_305_2 rfl rfl rfl ?_
    refine wp_s (pc' := 4) ji_305_3 rfl rfl rfl ?_
    refine fe_g V ji_305_4 jf_305_7 ?_
    refine wp_s (pc' := 8) ji_305_7 rfl rfl rfl ?_
    refine fe_n V ji_305_8 ?_
    refine wp_icmp (t := 36) ji_305_9 rfl (by omega) (by omega) (fun (hb1 : ((N : Int) : Int) ≤ ((k : Int))) => (by exfalso; omega)) (fun (hb1 : ¬ (((N : Int) : Int) ≤ ((k : Int)))) => ?_)
    refine wp_s (pc' := 13) ji_305_12 rfl rfl rfl ?_
    refine fe_g V ji_305_13 jf_305_7 ?_
    refine wp_sp ji_305_16 rfl ?_
    refine wp_s (pc' := 20) ji_305_19 rfl rfl rfl ?_
    refine wp_s (pc' := 21) ji_305_20 rfl rfl rfl ?_
    refine wp_imul (x := 2) (y := (k : Int)) (z := 2 * ((k : Int))) ji_305_21 (by omega) ?_
    refine wp_iadd (x := 148) (y := 2 * ((k : Int))) (z := 148 + (2 * ((k : Int)))) ji_305_22 (by omega) ?_
    refine fe_p (k := k) V D (by omega) ji_305_23 ?_
    refine wp_s (pc' := 25) ji_305_24 rfl rfl rfl ?_
    refine wp_icmp (t := 30) ji_305_25 rfl (by omega) (by omega) (fun (hb2 : ¬ (sx_el ps k : Int) = ((x : Int))) => ?_) (fun (hb2 : ¬ (¬ (sx_el ps k : Int) = ((x : Int)))) => ?_)
    · refine wp_iinc (x := (k : Int)) (z := ((k + 1 : Nat) : Int)) (lv' := [some (.ref 138), some (wp_i ((x : Int))), some (wp_i (((k + 1 : Nat) : Int)))]) ji_305_30 rfl (Nat.le_of_ble_eq_true rfl) (by omega) rfl ?_
      refine wp_goto (t := 2) ji_305_33 rfl ?_
      exact ih (k + 1) (by omega) (tl_2 hr (by omega))
    · refine wp_s (pc' := 29) ji_305_28 rfl rfl rfl ?_
      rw [tl_le (tl_1 (P := sx_el ps) (k := k) (x := (x : Int)) (by omega)) (show k + 1 ≤ N by omega)]
      exact wp_ri ji_305_29 jr_305 rfl ⟨rfl, rfl⟩
theorem ry_fo {d : Nat} {h : mj_H} {N : Nat} {ps bs : List Value} (V : fd_E h N ps bs) (D : fd_D N ps bs) {x : Nat} (hx : x < 100) : wp_R d 305 0 [some (.ref 138), some (wp_i (x : Int)), none] [] h (fun v h1 => v = some (wp_i (bi (tl_k (sx_el ps) (x : Int) N))) ∧ h1 = h) := by
  refine wp_s (pc' := 1) ji_305_0 rfl rfl rfl ?_
  refine wp_s (pc' := 2) (lv' := [some (.ref 138), some (wp_i (x : Int)), some (wp_i ((0 : Nat) : Int))]) ji_305_1 rfl rfl rfl ?_
  exact ry_fol V D hx N 0 (by omega) rfl
theorem ry_ra_in {d : Nat} {h : mj_H} {N : Nat} {ps bs : List Value} (V : fd_E h N ps bs) (D : fd_D N ps bs) {t : Nat} (ht : t < 20) {Q : Option Value → mj_H → Prop} (hQ : wp_R (d + 2) 302 58 [some (.ref 138), some (wp_i (-1)), some (wp_i (cs (ww (sx_el ps) (sx_el bs) N) (t + 1))), some (wp_i ((t + 1 : Nat) : Int)), some (wp_i ((t + 1 : Nat) : Int))] [] h Q) : ∀ (m k : Nat), k + m = t + 1 → wp_R (d + 2) 302 13 [some (.ref 138), some (wp_i (-1)), some (wp_i (cs (ww (sx_el ps) (sx_el bs) N) t + cf (ww (sx_el ps) (sx_el bs) N) (t + 1) k)), some (wp_i ((t + 1 : Nat) : Int)), some (wp_i (k : Int))] [] h Q := by
  intro m
  induction m with
  | zero =>
    intro k hk
    have hk : k = t + 1 := by omega
    subst hk
    refine wp_s (pc' := 15) ji_302_13 rfl rfl rfl ?_
    refine wp_s (pc' := 16) ji_302_15 rfl rfl rfl ?_
    refine wp_icmp (t := 58) ji_302_16 rfl (by omega) (by omega) (fun _ => ?_) (fun (e : ¬ (((t + 1 : Nat) : Int) ≤ ((t + 1 : Nat) : Int))) => (by exfalso; omega))
    exact hQ
  | succ m ih =>
    intro k hk
    obtain ⟨g, hg0⟩ : ∃ g, bi (rh_k (sx_el ps) (sx_el bs) ((t + 1 : Nat) : Int) (k : Int) N) = g := ⟨_, rfl⟩
    have hg := bi_g hg0
    refine wp_s (pc' := 15) ji_302_13 rfl rfl rfl ?_
    refine wp_s (pc' := 16) ji_302_15 rfl rfl rfl ?_
    refine wp_icmp (t := 58) ji_302_16 rfl (by omega) (by omega) (fun (hb1 : (((t + 1 : Nat) : Int) : Int) ≤ ((k : Int))) => (by exfalso; omega)) (fun (hb1 : ¬ ((((t + 1 : Nat) : Int) : Int) ≤ ((k : Int)))) => ?_)
    refine wp_s (pc' := 20) ji_302_19 rfl rfl rfl ?_
    refine wp_s (pc' := 21) ji_302_20 rfl rfl rfl ?_
    refine wp_s (pc' := 22) ji_302_21 rfl rfl rfl ?_
    refine wp_s (pc' := 24) ji_302_22 rfl rfl rfl ?_
    obtain ⟨⟨fs, hc, hfs⟩, hV2⟩ := V
    have V : fd_E _ N ps bs := ⟨⟨fs, hc, hfs⟩, hV2⟩
    refine wp_vc (d := d + 1) (as := [.ref 138, wp_i (((t + 1 : Nat) : Int)), wp_i ((k : Int))]) (rest := [wp_i (cs (ww (sx_el ps) (sx_el bs) N) t + cf (ww (sx_el ps) (sx_el bs) N) (t + 1) k)]) ji_302_24 jc_302_452 rfl hc jk_303.symm (Nat.le_of_ble_eq_true rfl) rfl (by rw [jn_303]; rfl) (ry_rh (s := t + 1) (f := k) V D (by omega) (by omega)) (fun v h1 R => ?_)
    obtain ⟨rfl, e1⟩ := R
    subst e1
    rw [hg0]
    show wp_R (d + 2) 302 27 [some (.ref 138), some (wp_i (-1)), some (wp_i (cs (ww (sx_el ps) (sx_el bs) N) t + cf (ww (sx_el ps) (sx_el bs) N) (t + 1) k)), some (wp_i (((t + 1 : Nat) : Int))), some (wp_i ((k : Int)))] [wp_i g, wp_i (cs (ww (sx_el ps) (sx_el bs) N) t + cf (ww (sx_el ps) (sx_el bs) N) (t + 1) k)] h1 _
    refine wp_if (t := 49) ji_302_27 rfl (by omega) (fun (hb2 : (g : Int) = 0) => ?_) (fun (hb2 : ¬ ((g : Int) = 0)) => ?_)
    · refine wp_s (pc' := 50) ji_302_49 rfl rfl rfl ?_
      refine wp_iadd (x := cs (ww (sx_el ps) (sx_el bs) N) t + cf (ww (sx_el ps) (sx_el bs) N) (t + 1) k) (y := 0) (z := cs (ww (sx_el ps) (sx_el bs) N) t + cf (ww (sx_el ps) (sx_el bs) N) (t + 1) k) ji_302_50 (by omega) ?_
      refine wp_s (pc' := 52) (lv' := [some (.ref 138), some (wp_i (-1)), some (wp_i (cs (ww (sx_el ps) (sx_el bs) N) t + cf (ww (sx_el ps) (sx_el bs) N) (t + 1) k)), some (wp_i (((t + 1 : Nat) : Int))), some (wp_i ((k : Int)))]) ji_302_51 rfl rfl rfl ?_
      refine wp_iinc (x := (k : Int)) (z := ((k + 1 : Nat) : Int)) (lv' := [some (.ref 138), some (wp_i (-1)), some (wp_i (cs (ww (sx_el ps) (sx_el bs) N) t + cf (ww (sx_el ps) (sx_el bs) N) (t + 1) k)), some (wp_i (((t + 1 : Nat) : Int))), some (wp_i (((k + 1 : Nat) : Int)))]) ji_302_52 rfl (Nat.le_of_ble_eq_true rfl) (by omega) rfl ?_
      refine wp_goto (t := 13) ji_302_55 rfl ?_
      have e1 : cs (ww (sx_el ps) (sx_el bs) N) t + cf (ww (sx_el ps) (sx_el bs) N) (t + 1) k = cs (ww (sx_el ps) (sx_el bs) N) t + cf (ww (sx_el ps) (sx_el bs) N) (t + 1) (k + 1) := by
        show _ = cs (ww (sx_el ps) (sx_el bs) N) t + (cf (ww (sx_el ps) (sx_el bs) N) (t + 1) k + bi (rh_k (sx_el ps) (sx_el bs) ((t + 1 : Nat) : Int) (k : Int) N))
        rw [show rh_k (sx_el ps) (sx_el bs) ((t + 1 : Nat) : Int) (k : Int) N = false from hg.elim (fun e => (by exfalso; omega)) (fun e => e.2)]
        show _ = cs (ww (sx_el ps) (sx_el bs) N) t + (cf (ww (sx_el ps) (sx_el bs) N) (t + 1) k + 0)
        omega
      rw [e1]
      exact ih (k + 1) (by omega)
    · refine wp_s (pc' := 31) ji_302_30 rfl rfl rfl ?_
      refine wp_s (pc' := 32) ji_302_31 rfl rfl rfl ?_
      refine wp_icmp (t := 45) ji_302_32 rfl (by omega) (by omega) (fun (hb3 : (-1 : Int) = (-1)) => ?_) (fun (hb3 : ¬ ((-1 : Int) = (-1))) => (by exfalso; omega))
      refine wp_s (pc' := 46) ji_302_45 rfl rfl rfl ?_
      refine wp_goto (t := 50) ji_302_46 rfl ?_
      refine wp_iadd (x := cs (ww (sx_el ps) (sx_el bs) N) t + cf (ww (sx_el ps) (sx_el bs) N) (t + 1) k) (y := 1) (z := cs (ww (sx_el ps) (sx_el bs) N) t + cf (ww (sx_el ps) (sx_el bs) N) (t + 1) k + 1) ji_302_50 (by omega) ?_
      refine wp_s (pc' := 52) (lv' := [some (.ref 138), some (wp_i (-1)), some (wp_i (cs (ww (sx_el ps) (sx_el bs) N) t + cf (ww (sx_el ps) (sx_el bs) N) (t + 1) k + 1)), some (wp_i (((t + 1 : Nat) : Int))), some (wp_i ((k : Int)))]) ji_302_51 rfl rfl rfl ?_
      refine wp_iinc (x := (k : Int)) (z := ((k + 1 : Nat) : Int)) (lv' := [some (.ref 138), some (wp_i (-1)), some (wp_i (cs (ww (sx_el ps) (sx_el bs) N) t + cf (ww (sx_el ps) (sx_el bs) N) (t + 1) k + 1)), some (wp_i (((t + 1 : Nat) : Int))), some (wp_i (((k + 1 : Nat) : Int)))]) ji_302_52 rfl (Nat.le_of_ble_eq_true rfl) (by omega) rfl ?_
      refine wp_goto (t := 13) ji_302_55 rfl ?_
      have e1 : cs (ww (sx_el ps) (sx_el bs) N) t + cf (ww (sx_el ps) (sx_el bs) N) (t + 1) k + 1 = cs (ww (sx_el ps) (sx_el bs) N) t + cf (ww (sx_el ps) (sx_el bs) N) (t + 1) (k + 1) := by
        show _ = cs (ww (sx_el ps) (sx_el bs) N) t + (cf (ww (sx_el ps) (sx_el bs) N) (t + 1) k + bi (rh_k (sx_el ps) (sx_el bs) ((t + 1 : Nat) : Int) (k : Int) N))
        rw [show rh_k (sx_el ps) (sx_el bs) ((t + 1 : Nat) : Int) (k : Int) N = true from hg.elim (fun e => e.2) (fun e => (by exfalso; omega))]
        show _ = cs (ww (sx_el ps) (sx_el bs) N) t + (cf (ww (sx_el ps) (sx_el bs) N) (t + 1) k + 1)
        omega
      rw [e1]
      exact ih (k + 1) (by omega)
theorem ry_ra_out {d : Nat} {h : mj_H} {N : Nat} {ps bs : List Value} (V : fd_E h N ps bs) (D : fd_D N ps bs) : ∀ (m t : Nat) (o : Option Value), t + m = 20 → wp_R (d + 2) 302 4 [some (.ref 138), some (wp_i (-1)), some (wp_i (cs (ww (sx_el ps) (sx_el bs) N) t)), some (wp_i ((t + 1 : Nat) : Int)), o] [] h (fun v h1 => v = some (wp_i (cs (ww (sx_el ps) (sx_el bs) N) 20)) ∧ h1 = h) := by
  intro m
  induction m with
  | zero =>
    intro t o ht
    have ht : t = 20 := by omega
    subst ht
    refine wp_s (pc' := 5) ji_302_4 rfl rfl rfl ?_
    refine wp_bp ji_302_5 rfl ?_
    refine wp_icmp (t := 64) ji_302_7 rfl (by omega) (by omega) (fun _ => ?_) (fun (e : ¬ ((20 : Int) < ((20 + 1 : Nat) : Int))) => (by exfalso; omega))
    refine wp_s (pc' := 65) ji_302_64 rfl rfl rfl ?_
    exact wp_ri ji_302_65 jr_302 rfl ⟨rfl, rfl⟩
  | succ m ih =>
    intro t o ht
    refine wp_s (pc' := 5) ji_302_4 rfl rfl rfl ?_
    refine wp_bp ji_302_5 rfl ?_
    refine wp_icmp (t := 64) ji_302_7 rfl (by omega) (by omega) (fun (e : (20 : Int) < ((t + 1 : Nat) : Int)) => (by exfalso; omega)) (fun _ => ?_)
    refine wp_s (pc' := 11) ji_302_10 rfl rfl rfl ?_
    refine wp_s (pc' := 13) (lv' := [some (.ref 138), some (wp_i (-1)), some (wp_i (cs (ww (sx_el ps) (sx_el bs) N) t)), some (wp_i ((t + 1 : Nat) : Int)), some (wp_i ((0 : Nat) : Int))]) ji_302_11 rfl rfl rfl ?_
    have R := ry_ra_in V D (t := t) (by omega) (d := d) (Q := fun v h1 => v = some (wp_i (cs (ww (sx_el ps) (sx_el bs) N) 20)) ∧ h1 = h) ?_ (t + 1) 0 (by omega)
    · rw [show cs (ww (sx_el ps) (sx_el bs) N) t + cf (ww (sx_el ps) (sx_el bs) N) (t + 1) 0 = cs (ww (sx_el ps) (sx_el bs) N) t from Int.add_zero _] at R
      exact R
    · refine wp_iinc (x := ((t + 1 : Nat) : Int)) (z := ((t + 1 + 1 : Nat) : Int)) (lv' := [some (.ref 138), some (wp_i (-1)), some (wp_i (cs (ww (sx_el ps) (sx_el bs) N) (t + 1))), some (wp_i ((t + 1 + 1 : Nat) : Int)), some (wp_i ((t + 1 : Nat) : Int))]) ji_302_58 rfl (Nat.le_of_ble_eq_true rfl) (by omega) rfl ?_
      refine wp_goto (t := 4) ji_302_61 rfl ?_
      exact ih (t + 1) _ (by omega)
theorem ry_ra {d : Nat} {h : mj_H} {N : Nat} {ps bs : List Value} (V : fd_E h N ps bs) (D : fd_D N ps bs) : wp_R (d + 2) 302 0 [some (.ref 138), some (wp_i (-1)), none, none, none] [] h (fun v h1 => v = some (wp_i (cs (ww (sx_el ps) (sx_el bs) N) 20)) ∧ h1 = h) := by
  refine wp_s (pc' := 1) ji_302_0 rfl rfl rfl ?_
  refine wp_s (pc' := 2) (lv' := [some (.ref 138), some (wp_i (-1)), some (wp_i 0), none, none]) ji_302_1 rfl rfl rfl ?_
  refine wp_s (pc' := 3) ji_302_2 rfl rfl rfl ?_
  refine wp_s (pc' := 4) (lv' := [some (.ref 138), some (wp_i (-1)), some (wp_i 0), some (wp_i ((0 + 1 : Nat) : Int)), none]) ji_302_3 rfl rfl rfl ?_
  exact ry_ra_out V D 20 0 none (by omega)
theorem ry_rb_in {d : Nat} {h : mj_H} {N : Nat} {ps bs : List Value} (V : fd_E h N ps bs) (D : fd_D N ps bs) {x : Nat} (hx : x < 100) {t : Nat} (ht : t < 20) {Q : Option Value → mj_H → Prop} (hQ : wp_R (d + 2) 302 58 [some (.ref 138), some (wp_i ((x : Int))), some (wp_i (cs (wq (sx_el ps) (sx_el bs) N (x : Int)) (t + 1))), some (wp_i ((t + 1 : Nat) : Int)), some (wp_i ((t + 1 : Nat) : Int))] [] h Q) : ∀ (m k : Nat), k + m = t + 1 → wp_R (d + 2) 302 13 [some (.ref 138), some (wp_i ((x : Int))), some (wp_i (cs (wq (sx_el ps) (sx_el bs) N (x : Int)) t + cf (wq (sx_el ps) (sx_el bs) N (x : Int)) (t + 1) k)), some (wp_i ((t + 1 : Nat) : Int)), some (wp_i (k : Int))] [] h Q := by
  intro m
  induction m with
  | zero =>
    intro k hk
    have hk : k = t + 1 := by omega
    subst hk
    refine wp_s (pc' := 15) ji_302_13 rfl rfl rfl ?_
    refine wp_s (pc' := 16) ji_302_15 rfl rfl rfl ?_
    refine wp_icmp (t := 58) ji_302_16 rfl (by omega) (by omega) (fun _ => ?_) (fun (e : ¬ (((t + 1 : Nat) : Int) ≤ ((t + 1 : Nat) : Int))) => (by exfalso; omega))
    exact hQ
  | succ m ih =>
    intro k hk
    obtain ⟨g, hg0⟩ : ∃ g, bi (rh_k (sx_el ps) (sx_el bs) ((t + 1 : Nat) : Int) (k : Int) N) = g := ⟨_, rfl⟩
    have hg := bi_g hg0
    obtain ⟨u, hu0⟩ : ∃ u, bi (decide ((x : Int) % ((t + 1 : Nat) : Int) = (k : Int))) = u := ⟨_, rfl⟩
    have hu := bi_g hu0
    refine wp_s (pc' := 15) ji_302_13 rfl rfl rfl ?_
    refine wp_s (pc' := 16) ji_302_15 rfl rfl rfl ?_
    refine wp_icmp (t := 58) ji_302_16 rfl (by omega) (by omega) (fun (hb1 : (((t + 1 : Nat) : Int) : Int) ≤ ((k : Int))) => (by exfalso; omega)) (fun (hb1 : ¬ ((((t + 1 : Nat) : Int) : Int) ≤ ((k : Int)))) => ?_)
    refine wp_s (pc' := 20) ji_302_19 rfl rfl rfl ?_
    refine wp_s (pc' := 21) ji_302_20 rfl rfl rfl ?_
    refine wp_s (pc' := 22) ji_302_21 rfl rfl rfl ?_
    refine wp_s (pc' := 24) ji_302_22 rfl rfl rfl ?_
    obtain ⟨⟨fs, hc, hfs⟩, hV2⟩ := V
    have V : fd_E _ N ps bs := ⟨⟨fs, hc, hfs⟩, hV2⟩
    refine wp_vc (d := d + 1) (as := [.ref 138, wp_i (((t + 1 : Nat) : Int)), wp_i ((k : Int))]) (rest := [wp_i (cs (wq (sx_el ps) (sx_el bs) N (x : Int)) t + cf (wq (sx_el ps) (sx_el bs) N (x : Int)) (t + 1) k)]) ji_302_24 jc_302_452 rfl hc jk_303.symm (Nat.le_of_ble_eq_true rfl) rfl (by rw [jn_303]; rfl) (ry_rh (s := t + 1) (f := k) V D (by omega) (by omega)) (fun v h1 R => ?_)
    obtain ⟨rfl, e1⟩ := R
    subst e1
    rw [hg0]
    show wp_R (d + 2) 302 27 [some (.ref 138), some (wp_i ((x : Int))), some (wp_i (cs (wq (sx_el ps) (sx_el bs) N (x : Int)) t + cf (wq (sx_el ps) (sx_el bs) N (x : Int)) (t + 1) k)), some (wp_i (((t + 1 : Nat) : Int))), some (wp_i ((k : Int)))] [wp_i g, wp_i (cs (wq (sx_el ps) (sx_el bs) N (x : Int)) t + cf (wq (sx_el ps) (sx_el bs) N (x : Int)) (t + 1) k)] h1 _
    refine wp_if (t := 49) ji_302_27 rfl (by omega) (fun (hb2 : (g : Int) = 0) => ?_) (fun (hb2 : ¬ ((g : Int) = 0)) => ?_)
    · refine wp_s (pc' := 50) ji_302_49 rfl rfl rfl ?_
      refine wp_iadd (x := cs (wq (sx_el ps) (sx_el bs) N (x : Int)) t + cf (wq (sx_el ps) (sx_el bs) N (x : Int)) (t + 1) k) (y := 0) (z := cs (wq (sx_el ps) (sx_el bs) N (x : Int)) t + cf (wq (sx_el ps) (sx_el bs) N (x : Int)) (t + 1) k) ji_302_50 (by omega) ?_
      refine wp_s (pc' := 52) (lv' := [some (.ref 138), some (wp_i ((x : Int))), some (wp_i (cs (wq (sx_el ps) (sx_el bs) N (x : Int)) t + cf (wq (sx_el ps) (sx_el bs) N (x : Int)) (t + 1) k)), some (wp_i (((t + 1 : Nat) : Int))), some (wp_i ((k : Int)))]) ji_302_51 rfl rfl rfl ?_
      refine wp_iinc (x := (k : Int)) (z := ((k + 1 : Nat) : Int)) (lv' := [some (.ref 138), some (wp_i ((x : Int))), some (wp_i (cs (wq (sx_el ps) (sx_el bs) N (x : Int)) t + cf (wq (sx_el ps) (sx_el bs) N (x : Int)) (t + 1) k)), some (wp_i (((t + 1 : Nat) : Int))), some (wp_i (((k + 1 : Nat) : Int)))]) ji_302_52 rfl (Nat.le_of_ble_eq_true rfl) (by omega) rfl ?_
      refine wp_goto (t := 13) ji_302_55 rfl ?_
      have e1 : cs (wq (sx_el ps) (sx_el bs) N (x : Int)) t + cf (wq (sx_el ps) (sx_el bs) N (x : Int)) (t + 1) k = cs (wq (sx_el ps) (sx_el bs) N (x : Int)) t + cf (wq (sx_el ps) (sx_el bs) N (x : Int)) (t + 1) (k + 1) := by
        show _ = cs (wq (sx_el ps) (sx_el bs) N (x : Int)) t + (cf (wq (sx_el ps) (sx_el bs) N (x : Int)) (t + 1) k + bi (rh_k (sx_el ps) (sx_el bs) ((t + 1 : Nat) : Int) (k : Int) N && decide ((x : Int) % ((t + 1 : Nat) : Int) = (k : Int))))
        rw [show rh_k (sx_el ps) (sx_el bs) ((t + 1 : Nat) : Int) (k : Int) N = false from hg.elim (fun e => (by exfalso; omega)) (fun e => e.2), Bool.false_and]
        show _ = cs (wq (sx_el ps) (sx_el bs) N (x : Int)) t + (cf (wq (sx_el ps) (sx_el bs) N (x : Int)) (t + 1) k + 0)
        omega
      rw [e1]
      exact ih (k + 1) (by omega)
    · refine wp_s (pc' := 31) ji_302_30 rfl rfl rfl ?_
      refine wp_s (pc' := 32) ji_302_31 rfl rfl rfl ?_
      refine wp_icmp (t := 45) ji_302_32 rfl (by omega) (by omega) (fun (hb3 : ((x : Int) : Int) = (-1)) => (by exfalso; omega)) (fun (hb3 : ¬ (((x : Int) : Int) = (-1))) => ?_)
      refine wp_s (pc' := 36) ji_302_35 rfl rfl rfl ?_
      refine wp_s (pc' := 37) ji_302_36 rfl rfl rfl ?_
      refine wp_s (pc' := 39) ji_302_37 rfl rfl rfl ?_
      refine wp_sc (d := d + 1) (as := [wp_i ((x : Int)), wp_i (((t + 1 : Nat) : Int)), wp_i ((k : Int))]) (rest := [wp_i (cs (wq (sx_el ps) (sx_el bs) N (x : Int)) t + cf (wq (sx_el ps) (sx_el bs) N (x : Int)) (t + 1) k)]) ji_302_39 jc_302_449 (Nat.le_of_ble_eq_true rfl) rfl (Nat.le_of_ble_eq_true rfl) rfl (by rw [jn_304]; rfl) (ry_on (x := (x : Int)) (s := t + 1) (f := k) (by omega) (by omega) (by omega)) (fun v h2 R => ?_)
      obtain ⟨rfl, e1⟩ := R
      subst e1
      rw [hu0]
      show wp_R (d + 2) 302 42 [some (.ref 138), some (wp_i ((x : Int))), some (wp_i (cs (wq (sx_el ps) (sx_el bs) N (x : Int)) t + cf (wq (sx_el ps) (sx_el bs) N (x : Int)) (t + 1) k)), some (wp_i (((t + 1 : Nat) : Int))), some (wp_i ((k : Int)))] [wp_i u, wp_i (cs (wq (sx_el ps) (sx_el bs) N (x : Int)) t + cf (wq (sx_el ps) (sx_el bs) N (x : Int)) (t + 1) k)] _ _
      refine wp_if (t := 49) ji_302_42 rfl (by omega) (fun (hb4 : (u : Int) = 0) => ?_) (fun (hb4 : ¬ ((u : Int) = 0)) => ?_)
      · refine wp_s (pc' := 50) ji_302_49 rfl rfl rfl ?_
        refine wp_iadd (x := cs (wq (sx_el ps) (sx_el bs) N (x : Int)) t + cf (wq (sx_el ps) (sx_el bs) N (x : Int)) (t + 1) k) (y := 0) (z := cs (wq (sx_el ps) (sx_el bs) N (x : Int)) t + cf (wq (sx_el ps) (sx_el bs) N (x : Int)) (t + 1) k) ji_302_50 (by omega) ?_
        refine wp_s (pc' := 52) (lv' := [some (.ref 138), some (wp_i ((x : Int))), some (wp_i (cs (wq (sx_el ps) (sx_el bs) N (x : Int)) t + cf (wq (sx_el ps) (sx_el bs) N (x : Int)) (t + 1) k)), some (wp_i (((t + 1 : Nat) : Int))), some (wp_i ((k : Int)))]) ji_302_51 rfl rfl rfl ?_
        refine wp_iinc (x := (k : Int)) (z := ((k + 1 : Nat) : Int)) (lv' := [some (.ref 138), some (wp_i ((x : Int))), some (wp_i (cs (wq (sx_el ps) (sx_el bs) N (x : Int)) t + cf (wq (sx_el ps) (sx_el bs) N (x : Int)) (t + 1) k)), some (wp_i (((t + 1 : Nat) : Int))), some (wp_i (((k + 1 : Nat) : Int)))]) ji_302_52 rfl (Nat.le_of_ble_eq_true rfl) (by omega) rfl ?_
        refine wp_goto (t := 13) ji_302_55 rfl ?_
        have e1 : cs (wq (sx_el ps) (sx_el bs) N (x : Int)) t + cf (wq (sx_el ps) (sx_el bs) N (x : Int)) (t + 1) k = cs (wq (sx_el ps) (sx_el bs) N (x : Int)) t + cf (wq (sx_el ps) (sx_el bs) N (x : Int)) (t + 1) (k + 1) := by
          show _ = cs (wq (sx_el ps) (sx_el bs) N (x : Int)) t + (cf (wq (sx_el ps) (sx_el bs) N (x : Int)) (t + 1) k + bi (rh_k (sx_el ps) (sx_el bs) ((t + 1 : Nat) : Int) (k : Int) N && decide ((x : Int) % ((t + 1 : Nat) : Int) = (k : Int))))
          rw [show decide ((x : Int) % ((t + 1 : Nat) : Int) = (k : Int)) = false from hu.elim (fun e => (by exfalso; omega)) (fun e => e.2), Bool.and_false]
          show _ = cs (wq (sx_el ps) (sx_el bs) N (x : Int)) t + (cf (wq (sx_el ps) (sx_el bs) N (x : Int)) (t + 1) k + 0)
          omega
        rw [e1]
        exact ih (k + 1) (by omega)
      · refine wp_s (pc' := 46) ji_302_45 rfl rfl rfl ?_
        refine wp_goto (t := 50) ji_302_46 rfl ?_
        refine wp_iadd (x := cs (wq (sx_el ps) (sx_el bs) N (x : Int)) t + cf (wq (sx_el ps) (sx_el bs) N (x : Int)) (t + 1) k) (y := 1) (z := cs (wq (sx_el ps) (sx_el bs) N (x : Int)) t + cf (wq (sx_el ps) (sx_el bs) N (x : Int)) (t + 1) k + 1) ji_302_50 (by omega) ?_
        refine wp_s (pc' := 52) (lv' := [some (.ref 138), some (wp_i ((x : Int))), some (wp_i (cs (wq (sx_el ps) (sx_el bs) N (x : Int)) t + cf (wq (sx_el ps) (sx_el bs) N (x : Int)) (t + 1) k + 1)), some (wp_i (((t + 1 : Nat) : Int))), some (wp_i ((k : Int)))]) ji_302_51 rfl rfl rfl ?_
        refine wp_iinc (x := (k : Int)) (z := ((k + 1 : Nat) : Int)) (lv' := [some (.ref 138), some (wp_i ((x : Int))), some (wp_i (cs (wq (sx_el ps) (sx_el bs) N (x : Int)) t + cf (wq (sx_el ps) (sx_el bs) N (x : Int)) (t + 1) k + 1)), some (wp_i (((t + 1 : Nat) : Int))), some (wp_i (((k + 1 : Nat) : Int)))]) ji_302_52 rfl (Nat.le_of_ble_eq_true rfl) (by omega) rfl ?_
        refine wp_goto (t := 13) ji_302_55 rfl ?_
        have e1 : cs (wq (sx_el ps) (sx_el bs) N (x : Int)) t + cf (wq (sx_el ps) (sx_el bs) N (x : Int)) (t + 1) k + 1 = cs (wq (sx_el ps) (sx_el bs) N (x : Int)) t + cf (wq (sx_el ps) (sx_el bs) N (x : Int)) (t + 1) (k + 1) := by
          show _ = cs (wq (sx_el ps) (sx_el bs) N (x : Int)) t + (cf (wq (sx_el ps) (sx_el bs) N (x : Int)) (t + 1) k + bi (rh_k (sx_el ps) (sx_el bs) ((t + 1 : Nat) : Int) (k : Int) N && decide ((x : Int) % ((t + 1 : Nat) : Int) = (k : Int))))
          rw [show rh_k (sx_el ps) (sx_el bs) ((t + 1 : Nat) : Int) (k : Int) N = true from hg.elim (fun e => e.2) (fun e => (by exfalso; omega)), show decide ((x : Int) % ((t + 1 : Nat) : Int) = (k : Int)) = true from hu.elim (fun e => e.2) (fun e => (by exfalso; omega))]
          show _ = cs (wq (sx_el ps) (sx_el bs) N (x : Int)) t + (cf (wq (sx_el ps) (sx_el bs) N (x : Int)) (t + 1) k + 1)
          omega
        rw [e1]
        exact ih (k + 1) (by omega)
theorem ry_rb_out {d : Nat} {h : mj_H} {N : Nat} {ps bs : List Value} (V : fd_E h N ps bs) (D : fd_D N ps bs) {x : Nat} (hx : x < 100) : ∀ (m t : Nat) (o : Option Value), t + m = 20 → wp_R (d + 2) 302 4 [some (.ref 138), some (wp_i ((x : Int))), some (wp_i (cs (wq (sx_el ps) (sx_el bs) N (x : Int)) t)), some (wp_i ((t + 1 : Nat) : Int)), o] [] h (fun v h1 => v = some (wp_i (cs (wq (sx_el ps) (sx_el bs) N (x : Int)) 20)) ∧ h1 = h) := by
  intro m
  induction m with
  | zero =>
    intro t o ht
    have ht : t = 20 := by omega
    subst ht
    refine wp_s (pc' := 5) ji_302_4 rfl rfl rfl ?_
    refine wp_bp ji_302_5 rfl ?_
    refine wp_icmp (t := 64) ji_302_7 rfl (by omega) (by omega) (fun _ => ?_) (fun (e : ¬ ((20 : Int) < ((20 + 1 : Nat) : Int))) => (by exfalso; omega))
    refine wp_s (pc' := 65) ji_302_64 rfl rfl rfl ?_
    exact wp_ri ji_302_65 jr_302 rfl ⟨rfl, rfl⟩
  | succ m ih =>
    intro t o ht
    refine wp_s (pc' := 5) ji_302_4 rfl rfl rfl ?_
    refine wp_bp ji_302_5 rfl ?_
    refine wp_icmp (t := 64) ji_302_7 rfl (by omega) (by omega) (fun (e : (20 : Int) < ((t + 1 : Nat) : Int)) => (by exfalso; omega)) (fun _ => ?_)
    refine wp_s (pc' := 11) ji_302_10 rfl rfl rfl ?_
    refine wp_s (pc' := 13) (lv' := [some (.ref 138), some (wp_i ((x : Int))), some (wp_i (cs (wq (sx_el ps) (sx_el bs) N (x : Int)) t)), some (wp_i ((t + 1 : Nat) : Int)), some (wp_i ((0 : Nat) : Int))]) ji_302_11 rfl rfl rfl ?_
    have R := ry_rb_in V D hx (t := t) (by omega) (d := d) (Q := fun v h1 => v = some (wp_i (cs (wq (sx_el ps) (sx_el bs) N (x : Int)) 20)) ∧ h1 = h) ?_ (t + 1) 0 (by omega)
    · rw [show cs (wq (sx_el ps) (sx_el bs) N (x : Int)) t + cf (wq (sx_el ps) (sx_el bs) N (x : Int)) (t + 1) 0 = cs (wq (sx_el ps) (sx_el bs) N (x : Int)) t from Int.add_zero _] at R
      exact R
    · refine wp_iinc (x := ((t + 1 : Nat) : Int)) (z := ((t + 1 + 1 : Nat) : Int)) (lv' := [some (.ref 138), some (wp_i ((x : Int))), some (wp_i (cs (wq (sx_el ps) (sx_el bs) N (x : Int)) (t + 1))), some (wp_i ((t + 1 + 1 : Nat) : Int)), some (wp_i ((t + 1 : Nat) : Int))]) ji_302_58 rfl (Nat.le_of_ble_eq_true rfl) (by omega) rfl ?_
      refine wp_goto (t := 4) ji_302_61 rfl ?_
      exact ih (t + 1) _ (by omega)
theorem ry_rb {d : Nat} {h : mj_H} {N : Nat} {ps bs : List Value} (V : fd_E h N ps bs) (D : fd_D N ps bs) {x : Nat} (hx : x < 100) : wp_R (d + 2) 302 0 [some (.ref 138), some (wp_i ((x : Int))), none, none, none] [] h (fun v h1 => v = some (wp_i (cs (wq (sx_el ps) (sx_el bs) N (x : Int)) 20)) ∧ h1 = h) := by
  refine wp_s (pc' := 1) ji_302_0 rfl rfl rfl ?_
  refine wp_s (pc' := 2) (lv' := [some (.ref 138), some (wp_i ((x : Int))), some (wp_i 0), none, none]) ji_302_1 rfl rfl rfl ?_
  refine wp_s (pc' := 3) ji_302_2 rfl rfl rfl ?_
  refine wp_s (pc' := 4) (lv' := [some (.ref 138), some (wp_i ((x : Int))), some (wp_i 0), some (wp_i ((0 + 1 : Nat) : Int)), none]) ji_302_3 rfl rfl rfl ?_
  exact ry_rb_out V D hx 20 0 none (by omega)
theorem ry_rl {d : Nat} {h : mj_H} {N : Nat} {ps bs : List Value} {nn : Int} (V : fd_E h N ps bs) (D : fd_D N ps bs) (hA : 2 ≤ cs (ww (sx_el ps) (sx_el bs) N) 20) : ∀ (m k : Nat) (o : Option Value), k + m = 100 → wp_R (d + 3) 301 22 [some (.ref 138), some (wp_i nn), some (wp_i (cs (ww (sx_el ps) (sx_el bs) N) 20)), some (wp_i (nb (nxt (sx_el ps) (sx_el bs) N k))), some (wp_i (nl 1000000000 (nxt (sx_el ps) (sx_el bs) N k))), some (wp_i (k : Int)), o] [] h (fun v h1 => v = some (wp_i (nb (nxt (sx_el ps) (sx_el bs) N 100))) ∧ h1 = h) := by
  have hA2 := ww_b (P := sx_el ps) (b := sx_el bs) (N := N)
  intro m
  induction m with
  | zero =>
    intro k o hk
    have hk : k = 100 := by omega
    subst hk
    refine wp_s (pc' := 24) ji_301_22 rfl rfl rfl ?_
    refine wp_bp ji_301_24 rfl ?_
    refine wp_icmp (t := 96) ji_301_26 rfl (by omega) (by omega) (fun _ => ?_) (fun (q : ¬ ((100 : Int) ≤ ((100 : Nat) : Int))) => (by exfalso; omega))
    refine wp_s (pc' := 97) ji_301_96 rfl rfl rfl ?_
    exact wp_ri ji_301_97 jr_301 rfl ⟨rfl, rfl⟩
  | succ m ih =>
    intro k o hk
    obtain ⟨H, hH0⟩ : ∃ H, cs (wq (sx_el ps) (sx_el bs) N (k : Int)) 20 = H := ⟨_, rfl⟩
    have hH := wq_b (P := sx_el ps) (b := sx_el bs) (N := N) (x := (k : Int))
    rw [hH0] at hH
    obtain ⟨z0, hz0⟩ : ∃ z0, 2 * H - cs (ww (sx_el ps) (sx_el bs) N) 20 = z0 := ⟨_, rfl⟩
    obtain ⟨g, hg0⟩ : ∃ g, bi (tl_k (sx_el ps) (k : Int) N) = g := ⟨_, rfl⟩
    have hg := bi_g hg0
    cases hx : nxt (sx_el ps) (sx_el bs) N k with
    | none =>
      show wp_R (d + 3) 301 22 [some (.ref 138), some (wp_i nn), some (wp_i (cs (ww (sx_el ps) (sx_el bs) N) 20)), some (wp_i (-1)), some (wp_i 1000000000), some (wp_i (k : Int)), o] [] h _
      refine wp_s (pc' := 24) ji_301_22 rfl rfl rfl ?_
      refine wp_bp ji_301_24 rfl ?_
      refine wp_icmp (t := 96) ji_301_26 rfl (by omega) (by omega) (fun (hb1 : (100 : Int) ≤ ((k : Int))) => (by exfalso; omega)) (fun (hb1 : ¬ ((100 : Int) ≤ ((k : Int)))) => ?_)
      refine wp_s (pc' := 30) ji_301_29 rfl rfl rfl ?_
      refine wp_s (pc' := 31) ji_301_30 rfl rfl rfl ?_
      refine wp_icmp (t := 96) ji_301_31 rfl (by omega) (by omega) (fun (hb2 : ((cs (ww (sx_el ps) (sx_el bs) N) 20) : Int) ≤ 1) => (by exfalso; omega)) (fun (hb2 : ¬ (((cs (ww (sx_el ps) (sx_el bs) N) 20) : Int) ≤ 1)) => ?_)
      refine wp_s (pc' := 35) ji_301_34 rfl rfl rfl ?_
      refine wp_s (pc' := 37) ji_301_35 rfl rfl rfl ?_
      obtain ⟨⟨fs, hc, hfs⟩, hV2⟩ := V
      have V : fd_E _ N ps bs := ⟨⟨fs, hc, hfs⟩, hV2⟩
      refine wp_vc (d := d + 2) (as := [.ref 138, wp_i ((k : Int))]) (rest := []) ji_301_37 jc_301_458 rfl hc jk_305.symm (Nat.le_of_ble_eq_true rfl) rfl (by rw [jn_305]; rfl) (ry_fo (d := d + 2) (x := k) V D (by omega)) (fun v h1 R => ?_)
      obtain ⟨rfl, e1⟩ := R
      subst e1
      rw [hg0]
      show wp_R (d + 3) 301 40 [some (.ref 138), some (wp_i nn), some (wp_i ((cs (ww (sx_el ps) (sx_el bs) N) 20))), some (wp_i (-1)), some (wp_i 1000000000), some (wp_i ((k : Int))), o] [wp_i g] h1 _
      refine wp_if (t := 46) ji_301_40 rfl (by omega) (fun (hb3 : (g : Int) = 0) => ?_) (fun (hb3 : ¬ ((g : Int) = 0)) => ?_)
      · refine wp_s (pc' := 47) ji_301_46 rfl rfl rfl ?_
        refine wp_s (pc' := 48) ji_301_47 rfl rfl rfl ?_
        refine wp_s (pc' := 50) ji_301_48 rfl rfl rfl ?_
        obtain ⟨⟨fs, hc, hfs⟩, hV2⟩ := V
        have V : fd_E _ N ps bs := ⟨⟨fs, hc, hfs⟩, hV2⟩
        refine wp_vc (d := d + 2) (as := [.ref 138, wp_i ((k : Int))]) (rest := [wp_i 2]) ji_301_50 jc_301_455 rfl hc jk_302.symm (Nat.le_of_ble_eq_true rfl) rfl (by rw [jn_302]; rfl) (ry_rb (d := d) (x := k) V D (by omega)) (fun v h2 R => ?_)
        obtain ⟨rfl, e1⟩ := R
        subst e1
        rw [hH0]
        show wp_R (d + 3) 301 53 [some (.ref 138), some (wp_i nn), some (wp_i ((cs (ww (sx_el ps) (sx_el bs) N) 20))), some (wp_i (-1)), some (wp_i 1000000000), some (wp_i ((k : Int))), o] [wp_i H, wp_i 2] h2 _
        refine wp_imul (x := 2) (y := H) (z := 2 * H) ji_301_53 (by omega) ?_
        refine wp_s (pc' := 55) ji_301_54 rfl rfl rfl ?_
        refine wp_isub (x := 2 * H) (y := (cs (ww (sx_el ps) (sx_el bs) N) 20)) (z := z0) ji_301_55 (by omega) ?_
        refine wp_s (pc' := 58) (lv' := [some (.ref 138), some (wp_i nn), some (wp_i ((cs (ww (sx_el ps) (sx_el bs) N) 20))), some (wp_i (-1)), some (wp_i 1000000000), some (wp_i ((k : Int))), some (wp_i z0)]) ji_301_56 rfl rfl rfl ?_
        refine wp_s (pc' := 60) ji_301_58 rfl rfl rfl ?_
        refine wp_if (t := 69) ji_301_60 rfl (by omega) (fun (hb4 : (0 : Int) ≤ z0) => ?_) (fun (hb4 : ¬ ((0 : Int) ≤ z0)) => ?_)
        · refine wp_s (pc' := 71) ji_301_69 rfl rfl rfl ?_
          refine wp_s (pc' := 73) (lv' := [some (.ref 138), some (wp_i nn), some (wp_i ((cs (ww (sx_el ps) (sx_el bs) N) 20))), some (wp_i (-1)), some (wp_i 1000000000), some (wp_i ((k : Int))), some (wp_i z0)]) ji_301_71 rfl rfl rfl ?_
          refine wp_s (pc' := 75) ji_301_73 rfl rfl rfl ?_
          refine wp_s (pc' := 77) ji_301_75 rfl rfl rfl ?_
          refine wp_icmp (t := 83) ji_301_77 rfl (by omega) (by omega) (fun (hb5 : (z0 : Int) < 1000000000) => ?_) (fun (hb5 : ¬ ((z0 : Int) < 1000000000)) => (by exfalso; omega))
          refine wp_s (pc' := 85) ji_301_83 rfl rfl rfl ?_
          refine wp_s (pc' := 87) (lv' := [some (.ref 138), some (wp_i nn), some (wp_i ((cs (ww (sx_el ps) (sx_el bs) N) 20))), some (wp_i (-1)), some (wp_i z0), some (wp_i ((k : Int))), some (wp_i z0)]) ji_301_85 rfl rfl rfl ?_
          refine wp_s (pc' := 89) ji_301_87 rfl rfl rfl ?_
          refine wp_s (pc' := 90) (lv' := [some (.ref 138), some (wp_i nn), some (wp_i ((cs (ww (sx_el ps) (sx_el bs) N) 20))), some (wp_i ((k : Int))), some (wp_i z0), some (wp_i ((k : Int))), some (wp_i z0)]) ji_301_89 rfl rfl rfl ?_
          refine wp_iinc (x := (k : Int)) (z := ((k + 1 : Nat) : Int)) (lv' := [some (.ref 138), some (wp_i nn), some (wp_i ((cs (ww (sx_el ps) (sx_el bs) N) 20))), some (wp_i ((k : Int))), some (wp_i z0), some (wp_i (((k + 1 : Nat) : Int))), some (wp_i z0)]) ji_301_90 rfl (Nat.le_of_ble_eq_true rfl) (by omega) rfl ?_
          refine wp_goto (t := 22) ji_301_93 rfl ?_
          have ht : tl_k (sx_el ps) (k : Int) N = false := hg.elim (fun e => (by exfalso; omega)) (fun e => e.2)
          have hz : of_ (sx_el ps) (sx_el bs) N k = z0 := by
            show ab (2 * cs (wq (sx_el ps) (sx_el bs) N (k : Int)) 20 - cs (ww (sx_el ps) (sx_el bs) N) 20) = _
            rw [hH0, hz0]
            exact if_pos (by omega)
          have e : nxt (sx_el ps) (sx_el bs) N (k + 1) = some ((k : Int), of_ (sx_el ps) (sx_el bs) N k) := nx_n ht hx
          rw [hz] at e
          have R := ih (k + 1) (some (wp_i z0)) (by omega)
          rw [e] at R
          exact R
        · refine wp_s (pc' := 65) ji_301_63 rfl rfl rfl ?_
          refine wp_ineg (x := z0) (z := -z0) ji_301_65 rfl ?_
          refine wp_goto (t := 71) ji_301_66 rfl ?_
          refine wp_s (pc' := 73) (lv' := [some (.ref 138), some (wp_i nn), some (wp_i ((cs (ww (sx_el ps) (sx_el bs) N) 20))), some (wp_i (-1)), some (wp_i 1000000000), some (wp_i ((k : Int))), some (wp_i (-z0))]) ji_301_71 rfl rfl rfl ?_
          refine wp_s (pc' := 75) ji_301_73 rfl rfl rfl ?_
          refine wp_s (pc' := 77) ji_301_75 rfl rfl rfl ?_
          refine wp_icmp (t := 83) ji_301_77 rfl (by omega) (by omega) (fun (hb6 : ((-z0) : Int) < 1000000000) => ?_) (fun (hb6 : ¬ (((-z0) : Int) < 1000000000)) => (by exfalso; omega))
          refine wp_s (pc' := 85) ji_301_83 rfl rfl rfl ?_
          refine wp_s (pc' := 87) (lv' := [some (.ref 138), some (wp_i nn), some (wp_i ((cs (ww (sx_el ps) (sx_el bs) N) 20))), some (wp_i (-1)), some (wp_i (-z0)), some (wp_i ((k : Int))), some (wp_i (-z0))]) ji_301_85 rfl rfl rfl ?_
          refine wp_s (pc' := 89) ji_301_87 rfl rfl rfl ?_
          refine wp_s (pc' := 90) (lv' := [some (.ref 138), some (wp_i nn), some (wp_i ((cs (ww (sx_el ps) (sx_el bs) N) 20))), some (wp_i ((k : Int))), some (wp_i (-z0)), some (wp_i ((k : Int))), some (wp_i (-z0))]) ji_301_89 rfl rfl rfl ?_
          refine wp_iinc (x := (k : Int)) (z := ((k + 1 : Nat) : Int)) (lv' := [some (.ref 138), some (wp_i nn), some (wp_i ((cs (ww (sx_el ps) (sx_el bs) N) 20))), some (wp_i ((k : Int))), some (wp_i (-z0)), some (wp_i (((k + 1 : Nat) : Int))), some (wp_i (-z0))]) ji_301_90 rfl (Nat.le_of_ble_eq_true rfl) (by omega) rfl ?_
          refine wp_goto (t := 22) ji_301_93 rfl ?_
          have ht : tl_k (sx_el ps) (k : Int) N = false := hg.elim (fun e => (by exfalso; omega)) (fun e => e.2)
          have hz : of_ (sx_el ps) (sx_el bs) N k = -z0 := by
            show ab (2 * cs (wq (sx_el ps) (sx_el bs) N (k : Int)) 20 - cs (ww (sx_el ps) (sx_el bs) N) 20) = _
            rw [hH0, hz0]
            exact if_neg (by omega)
          have e : nxt (sx_el ps) (sx_el bs) N (k + 1) = some ((k : Int), of_ (sx_el ps) (sx_el bs) N k) := nx_n ht hx
          rw [hz] at e
          have R := ih (k + 1) (some (wp_i (-z0))) (by omega)
          rw [e] at R
          exact R
      · refine wp_goto (t := 90) ji_301_43 rfl ?_
        refine wp_iinc (x := (k : Int)) (z := ((k + 1 : Nat) : Int)) (lv' := [some (.ref 138), some (wp_i nn), some (wp_i ((cs (ww (sx_el ps) (sx_el bs) N) 20))), some (wp_i (-1)), some (wp_i 1000000000), some (wp_i (((k + 1 : Nat) : Int))), o]) ji_301_90 rfl (Nat.le_of_ble_eq_true rfl) (by omega) rfl ?_
        refine wp_goto (t := 22) ji_301_93 rfl ?_
        have e : nxt (sx_el ps) (sx_el bs) N (k + 1) = nxt (sx_el ps) (sx_el bs) N k := nx_t (hg.elim (fun e => e.2) (fun e => (by exfalso; omega)))
        rw [hx] at e
        have R := ih (k + 1) (o) (by omega)
        rw [e] at R
        exact R
    | some q =>
      obtain ⟨b2, l2⟩ := q
      have hb2 := nx_b (fun j => of_b) hx
      show wp_R (d + 3) 301 22 [some (.ref 138), some (wp_i nn), some (wp_i (cs (ww (sx_el ps) (sx_el bs) N) 20)), some (wp_i b2), some (wp_i l2), some (wp_i (k : Int)), o] [] h _
      refine wp_s (pc' := 24) ji_301_22 rfl rfl rfl ?_
      refine wp_bp ji_301_24 rfl ?_
      refine wp_icmp (t := 96) ji_301_26 rfl (by omega) (by omega) (fun (hb1 : (100 : Int) ≤ ((k : Int))) => (by exfalso; omega)) (fun (hb1 : ¬ ((100 : Int) ≤ ((k : Int)))) => ?_)
      refine wp_s (pc' := 30) ji_301_29 rfl rfl rfl ?_
      refine wp_s (pc' := 31) ji_301_30 rfl rfl rfl ?_
      refine wp_icmp (t := 96) ji_301_31 rfl (by omega) (by omega) (fun (hb2 : ((cs (ww (sx_el ps) (sx_el bs) N) 20) : Int) ≤ 1) => (by exfalso; omega)) (fun (hb2 : ¬ (((cs (ww (sx_el ps) (sx_el bs) N) 20) : Int) ≤ 1)) => ?_)
      refine wp_s (pc' := 35) ji_301_34 rfl rfl rfl ?_
      refine wp_s (pc' := 37) ji_301_35 rfl rfl rfl ?_
      obtain ⟨⟨fs, hc, hfs⟩, hV2⟩ := V
      have V : fd_E _ N ps bs := ⟨⟨fs, hc, hfs⟩, hV2⟩
      refine wp_vc (d := d + 2) (as := [.ref 138, wp_i ((k : Int))]) (rest := []) ji_301_37 jc_301_458 rfl hc jk_305.symm (Nat.le_of_ble_eq_true rfl) rfl (by rw [jn_305]; rfl) (ry_fo (d := d + 2) (x := k) V D (by omega)) (fun v h1 R => ?_)
      obtain ⟨rfl, e1⟩ := R
      subst e1
      rw [hg0]
      show wp_R (d + 3) 301 40 [some (.ref 138), some (wp_i nn), some (wp_i ((cs (ww (sx_el ps) (sx_el bs) N) 20))), some (wp_i b2), some (wp_i l2), some (wp_i ((k : Int))), o] [wp_i g] h1 _
      refine wp_if (t := 46) ji_301_40 rfl (by omega) (fun (hb3 : (g : Int) = 0) => ?_) (fun (hb3 : ¬ ((g : Int) = 0)) => ?_)
      · refine wp_s (pc' := 47) ji_301_46 rfl rfl rfl ?_
        refine wp_s (pc' := 48) ji_301_47 rfl rfl rfl ?_
        refine wp_s (pc' := 50) ji_301_48 rfl rfl rfl ?_
        obtain ⟨⟨fs, hc, hfs⟩, hV2⟩ := V
        have V : fd_E _ N ps bs := ⟨⟨fs, hc, hfs⟩, hV2⟩
        refine wp_vc (d := d + 2) (as := [.ref 138, wp_i ((k : Int))]) (rest := [wp_i 2]) ji_301_50 jc_301_455 rfl hc jk_302.symm (Nat.le_of_ble_eq_true rfl) rfl (by rw [jn_302]; rfl) (ry_rb (d := d) (x := k) V D (by omega)) (fun v h2 R => ?_)
        obtain ⟨rfl, e1⟩ := R
        subst e1
        rw [hH0]
        show wp_R (d + 3) 301 53 [some (.ref 138), some (wp_i nn), some (wp_i ((cs (ww (sx_el ps) (sx_el bs) N) 20))), some (wp_i b2), some (wp_i l2), some (wp_i ((k : Int))), o] [wp_i H, wp_i 2] h2 _
        refine wp_imul (x := 2) (y := H) (z := 2 * H) ji_301_53 (by omega) ?_
        refine wp_s (pc' := 55) ji_301_54 rfl rfl rfl ?_
        refine wp_isub (x := 2 * H) (y := (cs (ww (sx_el ps) (sx_el bs) N) 20)) (z := z0) ji_301_55 (by omega) ?_
        refine wp_s (pc' := 58) (lv' := [some (.ref 138), some (wp_i nn), some (wp_i ((cs (ww (sx_el ps) (sx_el bs) N) 20))), some (wp_i b2), some (wp_i l2), some (wp_i ((k : Int))), some (wp_i z0)]) ji_301_56 rfl rfl rfl ?_
        refine wp_s (pc' := 60) ji_301_58 rfl rfl rfl ?_
        refine wp_if (t := 69) ji_301_60 rfl (by omega) (fun (hb4 : (0 : Int) ≤ z0) => ?_) (fun (hb4 : ¬ ((0 : Int) ≤ z0)) => ?_)
        · refine wp_s (pc' := 71) ji_301_69 rfl rfl rfl ?_
          refine wp_s (pc' := 73) (lv' := [some (.ref 138), some (wp_i nn), some (wp_i ((cs (ww (sx_el ps) (sx_el bs) N) 20))), some (wp_i b2), some (wp_i l2), some (wp_i ((k : Int))), some (wp_i z0)]) ji_301_71 rfl rfl rfl ?_
          refine wp_s (pc' := 75) ji_301_73 rfl rfl rfl ?_
          refine wp_s (pc' := 77) ji_301_75 rfl rfl rfl ?_
          refine wp_icmp (t := 83) ji_301_77 rfl (by omega) (by omega) (fun (hb5 : (z0 : Int) < l2) => ?_) (fun (hb5 : ¬ ((z0 : Int) < l2)) => ?_)
          · refine wp_s (pc' := 85) ji_301_83 rfl rfl rfl ?_
            refine wp_s (pc' := 87) (lv' := [some (.ref 138), some (wp_i nn), some (wp_i ((cs (ww (sx_el ps) (sx_el bs) N) 20))), some (wp_i b2), some (wp_i z0), some (wp_i ((k : Int))), some (wp_i z0)]) ji_301_85 rfl rfl rfl ?_
            refine wp_s (pc' := 89) ji_301_87 rfl rfl rfl ?_
            refine wp_s (pc' := 90) (lv' := [some (.ref 138), some (wp_i nn), some (wp_i ((cs (ww (sx_el ps) (sx_el bs) N) 20))), some (wp_i ((k : Int))), some (wp_i z0), some (wp_i ((k : Int))), some (wp_i z0)]) ji_301_89 rfl rfl rfl ?_
            refine wp_iinc (x := (k : Int)) (z := ((k + 1 : Nat) : Int)) (lv' := [some (.ref 138), some (wp_i nn), some (wp_i ((cs (ww (sx_el ps) (sx_el bs) N) 20))), some (wp_i ((k : Int))), some (wp_i z0), some (wp_i (((k + 1 : Nat) : Int))), some (wp_i z0)]) ji_301_90 rfl (Nat.le_of_ble_eq_true rfl) (by omega) rfl ?_
            refine wp_goto (t := 22) ji_301_93 rfl ?_
            have ht : tl_k (sx_el ps) (k : Int) N = false := hg.elim (fun e => (by exfalso; omega)) (fun e => e.2)
            have hz : of_ (sx_el ps) (sx_el bs) N k = z0 := by
              show ab (2 * cs (wq (sx_el ps) (sx_el bs) N (k : Int)) 20 - cs (ww (sx_el ps) (sx_el bs) N) 20) = _
              rw [hH0, hz0]
              exact if_pos (by omega)
            have e : nxt (sx_el ps) (sx_el bs) N (k + 1) = some ((k : Int), of_ (sx_el ps) (sx_el bs) N k) := nx_l ht hx (by rw [hz]; omega)
            rw [hz] at e
            have R := ih (k + 1) (some (wp_i z0)) (by omega)
            rw [e] at R
            exact R
          · refine wp_goto (t := 90) ji_301_80 rfl ?_
            refine wp_iinc (x := (k : Int)) (z := ((k + 1 : Nat) : Int)) (lv' := [some (.ref 138), some (wp_i nn), some (wp_i ((cs (ww (sx_el ps) (sx_el bs) N) 20))), some (wp_i b2), some (wp_i l2), some (wp_i (((k + 1 : Nat) : Int))), some (wp_i z0)]) ji_301_90 rfl (Nat.le_of_ble_eq_true rfl) (by omega) rfl ?_
            refine wp_goto (t := 22) ji_301_93 rfl ?_
            have ht : tl_k (sx_el ps) (k : Int) N = false := hg.elim (fun e => (by exfalso; omega)) (fun e => e.2)
            have hz : of_ (sx_el ps) (sx_el bs) N k = z0 := by
              show ab (2 * cs (wq (sx_el ps) (sx_el bs) N (k : Int)) 20 - cs (ww (sx_el ps) (sx_el bs) N) 20) = _
              rw [hH0, hz0]
              exact if_pos (by omega)
            have e : nxt (sx_el ps) (sx_el bs) N (k + 1) = some (b2, l2) := nx_g ht hx (by rw [hz]; omega)
            have R := ih (k + 1) (some (wp_i z0)) (by omega)
            rw [e] at R
            exact R
        · refine wp_s (pc' := 65) ji_301_63 rfl rfl rfl ?_
          refine wp_ineg (x := z0) (z := -z0) ji_301_65 rfl ?_
          refine wp_goto (t := 71) ji_301_66 rfl ?_
          refine wp_s (pc' := 73) (lv' := [some (.ref 138), some (wp_i nn), some (wp_i ((cs (ww (sx_el ps) (sx_el bs) N) 20))), some (wp_i b2), some (wp_i l2), some (wp_i ((k : Int))), some (wp_i (-z0))]) ji_301_71 rfl rfl rfl ?_
          refine wp_s (pc' := 75) ji_301_73 rfl rfl rfl ?_
          refine wp_s (pc' := 77) ji_301_75 rfl rfl rfl ?_
          refine wp_icmp (t := 83) ji_301_77 rfl (by omega) (by omega) (fun (hb6 : ((-z0) : Int) < l2) => ?_) (fun (hb6 : ¬ (((-z0) : Int) < l2)) => ?_)
          · refine wp_s (pc' := 85) ji_301_83 rfl rfl rfl ?_
            refine wp_s (pc' := 87) (lv' := [some (.ref 138), some (wp_i nn), some (wp_i ((cs (ww (sx_el ps) (sx_el bs) N) 20))), some (wp_i b2), some (wp_i (-z0)), some (wp_i ((k : Int))), some (wp_i (-z0))]) ji_301_85 rfl rfl rfl ?_
            refine wp_s (pc' := 89) ji_301_87 rfl rfl rfl ?_
            refine wp_s (pc' := 90) (lv' := [some (.ref 138), some (wp_i nn), some (wp_i ((cs (ww (sx_el ps) (sx_el bs) N) 20))), some (wp_i ((k : Int))), some (wp_i (-z0)), some (wp_i ((k : Int))), some (wp_i (-z0))]) ji_301_89 rfl rfl rfl ?_
            refine wp_iinc (x := (k : Int)) (z := ((k + 1 : Nat) : Int)) (lv' := [some (.ref 138), some (wp_i nn), some (wp_i ((cs (ww (sx_el ps) (sx_el bs) N) 20))), some (wp_i ((k : Int))), some (wp_i (-z0)), some (wp_i (((k + 1 : Nat) : Int))), some (wp_i (-z0))]) ji_301_90 rfl (Nat.le_of_ble_eq_true rfl) (by omega) rfl ?_
            refine wp_goto (t := 22) ji_301_93 rfl ?_
            have ht : tl_k (sx_el ps) (k : Int) N = false := hg.elim (fun e => (by exfalso; omega)) (fun e => e.2)
            have hz : of_ (sx_el ps) (sx_el bs) N k = -z0 := by
              show ab (2 * cs (wq (sx_el ps) (sx_el bs) N (k : Int)) 20 - cs (ww (sx_el ps) (sx_el bs) N) 20) = _
              rw [hH0, hz0]
              exact if_neg (by omega)
            have e : nxt (sx_el ps) (sx_el bs) N (k + 1) = some ((k : Int), of_ (sx_el ps) (sx_el bs) N k) := nx_l ht hx (by rw [hz]; omega)
            rw [hz] at e
            have R := ih (k + 1) (some (wp_i (-z0))) (by omega)
            rw [e] at R
            exact R
          · refine wp_goto (t := 90) ji_301_80 rfl ?_
            refine wp_iinc (x := (k : Int)) (z := ((k + 1 : Nat) : Int)) (lv' := [some (.ref 138), some (wp_i nn), some (wp_i ((cs (ww (sx_el ps) (sx_el bs) N) 20))), some (wp_i b2), some (wp_i l2), some (wp_i (((k + 1 : Nat) : Int))), some (wp_i (-z0))]) ji_301_90 rfl (Nat.le_of_ble_eq_true rfl) (by omega) rfl ?_
            refine wp_goto (t := 22) ji_301_93 rfl ?_
            have ht : tl_k (sx_el ps) (k : Int) N = false := hg.elim (fun e => (by exfalso; omega)) (fun e => e.2)
            have hz : of_ (sx_el ps) (sx_el bs) N k = -z0 := by
              show ab (2 * cs (wq (sx_el ps) (sx_el bs) N (k : Int)) 20 - cs (ww (sx_el ps) (sx_el bs) N) 20) = _
              rw [hH0, hz0]
              exact if_neg (by omega)
            have e : nxt (sx_el ps) (sx_el bs) N (k + 1) = some (b2, l2) := nx_g ht hx (by rw [hz]; omega)
            have R := ih (k + 1) (some (wp_i (-z0))) (by omega)
            rw [e] at R
            exact R
      · refine wp_goto (t := 90) ji_301_43 rfl ?_
        refine wp_iinc (x := (k : Int)) (z := ((k + 1 : Nat) : Int)) (lv' := [some (.ref 138), some (wp_i nn), some (wp_i ((cs (ww (sx_el ps) (sx_el bs) N) 20))), some (wp_i b2), some (wp_i l2), some (wp_i (((k + 1 : Nat) : Int))), o]) ji_301_90 rfl (Nat.le_of_ble_eq_true rfl) (by omega) rfl ?_
        refine wp_goto (t := 22) ji_301_93 rfl ?_
        have e : nxt (sx_el ps) (sx_el bs) N (k + 1) = nxt (sx_el ps) (sx_el bs) N k := nx_t (hg.elim (fun e => e.2) (fun e => (by exfalso; omega)))
        rw [hx] at e
        have R := ih (k + 1) (o) (by omega)
        rw [e] at R
        exact R
theorem ry_ref {d : Nat} {h : mj_H} {N : Nat} {ps bs : List Value} {x : Int} (V : fd_E h N ps bs) (D : fd_D N ps bs) (hx : x = 0 ∨ x = 1) : wp_R (d + 3) 301 0 [some (.ref 138), some (wp_i x), none, none, none, none, none] [] h (fun v h1 => v = some (wp_i (ry (sx_el ps) (sx_el bs) N x)) ∧ h1 = h) := by
  have hA2 := ww_b (P := sx_el ps) (b := sx_el bs) (N := N)
  obtain ⟨⟨fs, hc, hfs⟩, hV2⟩ := V
  have V : fd_E _ N ps bs := ⟨⟨fs, hc, hfs⟩, hV2⟩
  refine wp_s (pc' := 1) ji_301_0 rfl rfl rfl ?_
  refine wp_s (pc' := 2) ji_301_1 rfl rfl rfl ?_
  refine wp_vc (d := d + 2) (as := [.ref 138, wp_i (-1)]) (rest := []) ji_301_2 jc_301_455 rfl hc jk_302.symm (Nat.le_of_ble_eq_true rfl) rfl (by rw [jn_302]; rfl) (ry_ra (d := d) V D) (fun v h1 R => ?_)
  obtain ⟨rfl, e1⟩ := R
  subst e1
  show wp_R (d + 3) 301 5 [some (.ref 138), some (wp_i x), none, none, none, none, none] [wp_i (cs (ww (sx_el ps) (sx_el bs) N) 20)] h1 _
  refine wp_s (pc' := 6) (lv' := [some (.ref 138), some (wp_i x), some (wp_i (cs (ww (sx_el ps) (sx_el bs) N) 20)), none, none, none, none]) ji_301_5 rfl rfl rfl ?_
  refine wp_s (pc' := 7) ji_301_6 rfl rfl rfl ?_
  refine wp_if (t := 12) ji_301_7 rfl (by omega) (fun (e : ¬ x = 0) => ?_) (fun (e : ¬ ¬ x = 0) => ?_)
  · have e1 : x = 1 := by omega
    subst e1
    refine wp_s (pc' := 13) ji_301_12 rfl rfl rfl ?_
    refine wp_s (pc' := 14) (lv' := [some (.ref 138), some (wp_i 1), some (wp_i (cs (ww (sx_el ps) (sx_el bs) N) 20)), some (wp_i (-1)), none, none, none]) ji_301_13 rfl rfl rfl ?_
    refine wp_ldw (n := 1000000000) ji_301_14 jcon_301_399 (by decide) ?_
    refine wp_s (pc' := 19) (lv' := [some (.ref 138), some (wp_i 1), some (wp_i (cs (ww (sx_el ps) (sx_el bs) N) 20)), some (wp_i (-1)), some (wp_i 1000000000), none, none]) ji_301_17 rfl rfl rfl ?_
    refine wp_s (pc' := 20) ji_301_19 rfl rfl rfl ?_
    refine wp_s (pc' := 22) (lv' := [some (.ref 138), some (wp_i 1), some (wp_i (cs (ww (sx_el ps) (sx_el bs) N) 20)), some (wp_i (-1)), some (wp_i 1000000000), some (wp_i ((0 : Nat) : Int)), none]) ji_301_20 rfl rfl rfl ?_
    by_cases hA : cs (ww (sx_el ps) (sx_el bs) N) 20 < 2
    · rw [show ry (sx_el ps) (sx_el bs) N 1 = -1 from (if_neg (by decide)).trans (if_pos hA)]
      refine wp_s (pc' := 24) ji_301_22 rfl rfl rfl ?_
      refine wp_bp ji_301_24 rfl ?_
      refine wp_icmp (t := 96) ji_301_26 rfl (by omega) (by omega) (fun (q : (100 : Int) ≤ ((0 : Nat) : Int)) => (by exfalso; omega)) (fun _ => ?_)
      refine wp_s (pc' := 30) ji_301_29 rfl rfl rfl ?_
      refine wp_s (pc' := 31) ji_301_30 rfl rfl rfl ?_
      refine wp_icmp (t := 96) (x := cs (ww (sx_el ps) (sx_el bs) N) 20) (y := 1) ji_301_31 rfl (by omega) (by omega) (fun _ => ?_) (fun (q : ¬ (cs (ww (sx_el ps) (sx_el bs) N) 20 ≤ 1)) => (by exfalso; omega))
      refine wp_s (pc' := 97) ji_301_96 rfl rfl rfl ?_
      exact wp_ri ji_301_97 jr_301 rfl ⟨rfl, rfl⟩
    · rw [show ry (sx_el ps) (sx_el bs) N 1 = nb (nxt (sx_el ps) (sx_el bs) N 100) from (if_neg (by decide)).trans (if_neg hA)]
      exact ry_rl V D (by omega) 100 0 none (by omega)
  · have e1 : x = 0 := by omega
    subst e1
    rw [show ry (sx_el ps) (sx_el bs) N 0 = cs (ww (sx_el ps) (sx_el bs) N) 20 from if_pos rfl]
    refine wp_s (pc' := 11) ji_301_10 rfl rfl rfl ?_
    exact wp_ri ji_301_11 jr_301 rfl ⟨rfl, rfl⟩
theorem lx_301 {sl : List Value} {h : mj_H} {B x : Int} {s s' : fd_s} {r r' : fd_r} (X : lw_X sl h B s s' r r') (R : fd_rel s r) (hx : x = 0 ∨ x = 1) : wp_R 1199 301 0 [some (.ref 138), some (wp_i x), none, none, none, none, none] [] h (fun v h1 => v = some (wp_i (ry_s s x)) ∧ lw_X sl h1 B s s' r r') := by
  obtain ⟨hn, hc, -, hj⟩ := R
  have D := fd_XD X hn
  obtain ⟨vs, v1, v3, v4⟩ := X.2.2.2.2.1
  obtain ⟨vs', v1', v2, -⟩ := fd_21 X.1.1 (a := 139) rfl
  rw [v1] at v1'
  cases v1'
  have V : fd_E h s.1.toNat s.2.1 s.2.2 := ⟨X.2.1.2.2.2.2.1, vs, v1, v2, by rw [show ((s.1.toNat : Nat) : Int) = s.1 by omega, ← hc]; exact v3, fun k hk => ⟨(v4 (2 * k) (by omega)).trans (hj k hk).1, (v4 (2 * k + 1) (by omega)).trans (hj k hk).2⟩⟩
  refine wp_mono (ry_ref (d := 1196) V D hx) ?_
  rintro v h1 ⟨rfl, rfl⟩
  exact ⟨rfl, X⟩
