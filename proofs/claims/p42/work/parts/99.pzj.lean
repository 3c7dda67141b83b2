/-! -/
set_option maxRecDepth 100000 in
theorem jc_16_66 : mj_cal 16 66 = some (2, 17, 1) := by decide +kernel
set_option maxRecDepth 100000 in
theorem jc_173_81 : mj_cal 173 81 = some (2, 174, 1) := by decide +kernel
set_option maxRecDepth 100000 in
theorem jc_175_66 : mj_cal 175 66 = some (1, 171, 3) := by decide +kernel
set_option maxRecDepth 100000 in
theorem jc_215_66 : mj_cal 215 66 = some (1, 171, 3) := by decide +kernel
set_option maxRecDepth 100000 in
theorem jc_55_91 : mj_cal 55 91 = some (2, 56, 1) := by decide +kernel
set_option maxRecDepth 100000 in
theorem jf_16_29 : mj_fld 16 29 = some (0, 2, (.object "ForestOfPoles$Tape"), false) := by decide +kernel
set_option maxRecDepth 100000 in
theorem jf_16_62 : mj_fld 16 62 = some (8, 1, .int, true) := by decide +kernel
set_option maxRecDepth 100000 in
theorem jf_173_78 : mj_fld 173 78 = some (11, 4, .int, true) := by decide +kernel
set_option maxRecDepth 100000 in
theorem jf_174_19 : mj_fld 174 19 = some (11, 3, (.array .int), false) := by decide +kernel
set_option maxRecDepth 100000 in
theorem jf_174_78 : mj_fld 174 78 = some (11, 4, .int, true) := by decide +kernel
set_option maxRecDepth 100000 in
theorem jf_175_78 : mj_fld 175 78 = some (11, 4, .int, true) := by decide +kernel
set_option maxRecDepth 100000 in
theorem jf_17_11 : mj_fld 17 11 = some (8, 0, (.array .int), false) := by decide +kernel
set_option maxRecDepth 100000 in
theorem jf_17_15 : mj_fld 17 15 = some (8, 1, .int, true) := by decide +kernel
set_option maxRecDepth 100000 in
theorem jf_18_29 : mj_fld 18 29 = some (0, 2, (.object "ForestOfPoles$Tape"), false) := by decide +kernel
set_option maxRecDepth 100000 in
theorem jf_18_62 : mj_fld 18 62 = some (8, 1, .int, true) := by decide +kernel
set_option maxRecDepth 100000 in
theorem jf_214_22 : mj_fld 214 22 = some (11, 5, .int, true) := by decide +kernel
set_option maxRecDepth 100000 in
theorem jf_214_26 : mj_fld 214 26 = some (11, 6, .int, true) := by decide +kernel
set_option maxRecDepth 100000 in
theorem jf_215_7 : mj_fld 215 7 = some (11, 0, (.array .int), false) := by decide +kernel
set_option maxRecDepth 100000 in
theorem jf_54_38 : mj_fld 54 38 = some (0, 3, (.object "ForestOfPoles$Reader"), false) := by decide +kernel
set_option maxRecDepth 100000 in
theorem jf_54_81 : mj_fld 54 81 = some (9, 3, .int, true) := by decide +kernel
set_option maxRecDepth 100000 in
theorem jf_54_84 : mj_fld 54 84 = some (9, 2, .boolean, true) := by decide +kernel
set_option maxRecDepth 100000 in
theorem jf_54_88 : mj_fld 54 88 = some (9, 4, .int, true) := by decide +kernel
set_option maxRecDepth 100000 in
theorem jf_55_19 : mj_fld 55 19 = some (0, 0, (.object "ForestOfPoles$State"), false) := by decide +kernel
set_option maxRecDepth 100000 in
theorem jf_55_95 : mj_fld 55 95 = some (2, 7, .int, true) := by decide +kernel
set_option maxRecDepth 100000 in
theorem jf_56_46 : mj_fld 56 46 = some (2, 6, .int, true) := by decide +kernel
set_option maxRecDepth 100000 in
theorem ji_16_0 : mj_ins 16 0 = some (.aload_n 0) := by decide +kernel
set_option maxRecDepth 100000 in
theorem ji_16_1 : mj_ins 16 1 = some (.getfield 29) := by decide +kernel
set_option maxRecDepth 100000 in
theorem ji_16_10 : mj_ins 16 10 = some (.sipush 300) := by decide +kernel
set_option maxRecDepth 100000 in
theorem ji_16_13 : mj_ins 16 13 = some (.if_icmp .le 5) := by decide +kernel
set_option maxRecDepth 100000 in
theorem ji_16_16 : mj_ins 16 16 = some (.iconst (-1)) := by decide +kernel
set_option maxRecDepth 100000 in
theorem ji_16_17 : mj_ins 16 17 = some (.ireturn) := by decide +kernel
set_option maxRecDepth 100000 in
theorem ji_16_18 : mj_ins 16 18 = some (.aload_n 0) := by decide +kernel
set_option maxRecDepth 100000 in
theorem ji_16_19 : mj_ins 16 19 = some (.getfield 29) := by decide +kernel
set_option maxRecDepth 100000 in
theorem ji_16_22 : mj_ins 16 22 = some (.iload_n 1) := by decide +kernel
set_option maxRecDepth 100000 in
theorem ji_16_23 : mj_ins 16 23 = some (.invokevirtual 66) := by decide +kernel
set_option maxRecDepth 100000 in
theorem ji_16_26 : mj_ins 16 26 = some (.aload_n 0) := by decide +kernel
set_option maxRecDepth 100000 in
theorem ji_16_27 : mj_ins 16 27 = some (.getfield 29) := by decide +kernel
set_option maxRecDepth 100000 in
theorem ji_16_30 : mj_ins 16 30 = some (.iload_n 2) := by decide +kernel
set_option maxRecDepth 100000 in
theorem ji_16_31 : mj_ins 16 31 = some (.invokevirtual 66) := by decide +kernel
set_option maxRecDepth 100000 in
theorem ji_16_34 : mj_ins 16 34 = some (.aload_n 0) := by decide +kernel
set_option maxRecDepth 100000 in
theorem ji_16_35 : mj_ins 16 35 = some (.getfield 29) := by decide +kernel
set_option maxRecDepth 100000 in
theorem ji_16_38 : mj_ins 16 38 = some (.iload_n 3) := by decide +kernel
set_option maxRecDepth 100000 in
theorem ji_16_39 : mj_ins 16 39 = some (.invokevirtual 66) := by decide +kernel
set_option maxRecDepth 100000 in
theorem ji_16_4 : mj_ins 16 4 = some (.getfield 62) := by decide +kernel
set_option maxRecDepth 100000 in
theorem ji_16_42 : mj_ins 16 42 = some (.aload_n 0) := by decide +kernel
set_option maxRecDepth 100000 in
theorem ji_16_43 : mj_ins 16 43 = some (.getfield 29) := by decide +kernel
set_option maxRecDepth 100000 in
theorem ji_16_46 : mj_ins 16 46 = some (.iload 4) := by decide +kernel
set_option maxRecDepth 100000 in
theorem ji_16_48 : mj_ins 16 48 = some (.invokevirtual 66) := by decide +kernel
set_option maxRecDepth 100000 in
theorem ji_16_51 : mj_ins 16 51 = some (.aload_n 0) := by decide +kernel
set_option maxRecDepth 100000 in
theorem ji_16_52 : mj_ins 16 52 = some (.getfield 29) := by decide +kernel
set_option maxRecDepth 100000 in
theorem ji_16_55 : mj_ins 16 55 = some (.iload 5) := by decide +kernel
set_option maxRecDepth 100000 in
theorem ji_16_57 : mj_ins 16 57 = some (.invokevirtual 66) := by decide +kernel
set_option maxRecDepth 100000 in
theorem ji_16_60 : mj_ins 16 60 = some (.aload_n 0) := by decide +kernel
set_option maxRecDepth 100000 in
theorem ji_16_61 : mj_ins 16 61 = some (.getfield 29) := by decide +kernel
set_option maxRecDepth 100000 in
theorem ji_16_64 : mj_ins 16 64 = some (.getfield 62) := by decide +kernel
set_option maxRecDepth 100000 in
theorem ji_16_67 : mj_ins 16 67 = some (.ireturn) := by decide +kernel
set_option maxRecDepth 100000 in
theorem ji_16_7 : mj_ins 16 7 = some (.bipush 20) := by decide +kernel
set_option maxRecDepth 100000 in
theorem ji_16_9 : mj_ins 16 9 = some (.iadd) := by decide +kernel
set_option maxRecDepth 100000 in
theorem ji_173_0 : mj_ins 173 0 = some (.aload_n 0) := by decide +kernel
set_option maxRecDepth 100000 in
theorem ji_173_1 : mj_ins 173 1 = some (.getfield 78) := by decide +kernel
set_option maxRecDepth 100000 in
theorem ji_173_10 : mj_ins 173 10 = some (.if_icmp .le 5) := by decide +kernel
set_option maxRecDepth 100000 in
theorem ji_173_13 : mj_ins 173 13 = some (.iconst (-1)) := by decide +kernel
set_option maxRecDepth 100000 in
theorem ji_173_14 : mj_ins 173 14 = some (.ireturn) := by decide +kernel
set_option maxRecDepth 100000 in
theorem ji_173_15 : mj_ins 173 15 = some (.aload_n 0) := by decide +kernel
set_option maxRecDepth 100000 in
theorem ji_173_16 : mj_ins 173 16 = some (.iload_n 1) := by decide +kernel
set_option maxRecDepth 100000 in
theorem ji_173_17 : mj_ins 173 17 = some (.invokevirtual 81) := by decide +kernel
set_option maxRecDepth 100000 in
theorem ji_173_20 : mj_ins 173 20 = some (.aload_n 0) := by decide +kernel
set_option maxRecDepth 100000 in
theorem ji_173_21 : mj_ins 173 21 = some (.iload_n 2) := by decide +kernel
set_option maxRecDepth 100000 in
theorem ji_173_22 : mj_ins 173 22 = some (.invokevirtual 81) := by decide +kernel
set_option maxRecDepth 100000 in
theorem ji_173_25 : mj_ins 173 25 = some (.aload_n 0) := by decide +kernel
set_option maxRecDepth 100000 in
theorem ji_173_26 : mj_ins 173 26 = some (.iload_n 3) := by decide +kernel
set_option maxRecDepth 100000 in
theorem ji_173_27 : mj_ins 173 27 = some (.invokevirtual 81) := by decide +kernel
set_option maxRecDepth 100000 in
theorem ji_173_30 : mj_ins 173 30 = some (.aload_n 0) := by decide +kernel
set_option maxRecDepth 100000 in
theorem ji_173_31 : mj_ins 173 31 = some (.iload 4) := by decide +kernel
set_option maxRecDepth 100000 in
theorem ji_173_33 : mj_ins 173 33 = some (.invokevirtual 81) := by decide +kernel
set_option maxRecDepth 100000 in
theorem ji_173_36 : mj_ins 173 36 = some (.aload_n 0) := by decide +kernel
set_option maxRecDepth 100000 in
theorem ji_173_37 : mj_ins 173 37 = some (.iload 5) := by decide +kernel
set_option maxRecDepth 100000 in
theorem ji_173_39 : mj_ins 173 39 = some (.invokevirtual 81) := by decide +kernel
set_option maxRecDepth 100000 in
theorem ji_173_4 : mj_ins 173 4 = some (.bipush 20) := by decide +kernel
set_option maxRecDepth 100000 in
theorem ji_173_42 : mj_ins 173 42 = some (.aload_n 0) := by decide +kernel
set_option maxRecDepth 100000 in
theorem ji_173_43 : mj_ins 173 43 = some (.getfield 78) := by decide +kernel
set_option maxRecDepth 100000 in
theorem ji_173_46 : mj_ins 173 46 = some (.ireturn) := by decide +kernel
set_option maxRecDepth 100000 in
theorem ji_173_6 : mj_ins 173 6 = some (.iadd) := by decide +kernel
set_option maxRecDepth 100000 in
theorem ji_173_7 : mj_ins 173 7 = some (.sipush 300) := by decide +kernel
set_option maxRecDepth 100000 in
theorem ji_174_0 : mj_ins 174 0 = some (.bipush 24) := by decide +kernel
set_option maxRecDepth 100000 in
theorem ji_174_11 : mj_ins 174 11 = some (.aload_n 0) := by decide +kernel
set_option maxRecDepth 100000 in
theorem ji_174_12 : mj_ins 174 12 = some (.getfield 78) := by decide +kernel
set_option maxRecDepth 100000 in
theorem ji_174_15 : mj_ins 174 15 = some (.iload_n 1) := by decide +kernel
set_option maxRecDepth 100000 in
theorem ji_174_16 : mj_ins 174 16 = some (.iload_n 2) := by decide +kernel
set_option maxRecDepth 100000 in
theorem ji_174_17 : mj_ins 174 17 = some (.ishr) := by decide +kernel
set_option maxRecDepth 100000 in
theorem ji_174_18 : mj_ins 174 18 = some (.sipush 255) := by decide +kernel
set_option maxRecDepth 100000 in
theorem ji_174_2 : mj_ins 174 2 = some (.istore_n 2) := by decide +kernel
set_option maxRecDepth 100000 in
theorem ji_174_21 : mj_ins 174 21 = some (.iand) := by decide +kernel
set_option maxRecDepth 100000 in
theorem ji_174_22 : mj_ins 174 22 = some (.iastore) := by decide +kernel
set_option maxRecDepth 100000 in
theorem ji_174_23 : mj_ins 174 23 = some (.aload_n 0) := by decide +kernel
set_option maxRecDepth 100000 in
theorem ji_174_24 : mj_ins 174 24 = some (.dup) := by decide +kernel
set_option maxRecDepth 100000 in
theorem ji_174_25 : mj_ins 174 25 = some (.getfield 78) := by decide +kernel
set_option maxRecDepth 100000 in
theorem ji_174_28 : mj_ins 174 28 = some (.iconst 1) := by decide +kernel
set_option maxRecDepth 100000 in
theorem ji_174_29 : mj_ins 174 29 = some (.iadd) := by decide +kernel
set_option maxRecDepth 100000 in
theorem ji_174_3 : mj_ins 174 3 = some (.iload_n 2) := by decide +kernel
set_option maxRecDepth 100000 in
theorem ji_174_30 : mj_ins 174 30 = some (.putfield 78) := by decide +kernel
set_option maxRecDepth 100000 in
theorem ji_174_33 : mj_ins 174 33 = some (.iinc 2 (-8)) := by decide +kernel
set_option maxRecDepth 100000 in
theorem ji_174_36 : mj_ins 174 36 = some (.goto (-33)) := by decide +kernel
set_option maxRecDepth 100000 in
theorem ji_174_39 : mj_ins 174 39 = some (.return_) := by decide +kernel
set_option maxRecDepth 100000 in
theorem ji_174_4 : mj_ins 174 4 = some (.ifCond .lt 35) := by decide +kernel
set_option maxRecDepth 100000 in
theorem ji_174_7 : mj_ins 174 7 = some (.aload_n 0) := by decide +kernel
set_option maxRecDepth 100000 in
theorem ji_174_8 : mj_ins 174 8 = some (.getfield 19) := by decide +kernel
set_option maxRecDepth 100000 in
theorem ji_175_0 : mj_ins 175 0 = some (.iload_n 1) := by decide +kernel
set_option maxRecDepth 100000 in
theorem ji_175_1 : mj_ins 175 1 = some (.iconst 0) := by decide +kernel
set_option maxRecDepth 100000 in
theorem ji_175_12 : mj_ins 175 12 = some (.iconst (-1)) := by decide +kernel
set_option maxRecDepth 100000 in
theorem ji_175_13 : mj_ins 175 13 = some (.ireturn) := by decide +kernel
set_option maxRecDepth 100000 in
theorem ji_175_14 : mj_ins 175 14 = some (.aload_n 0) := by decide +kernel
set_option maxRecDepth 100000 in
theorem ji_175_15 : mj_ins 175 15 = some (.iload_n 1) := by decide +kernel
set_option maxRecDepth 100000 in
theorem ji_175_16 : mj_ins 175 16 = some (.putfield 78) := by decide +kernel
set_option maxRecDepth 100000 in
theorem ji_175_19 : mj_ins 175 19 = some (.iload_n 1) := by decide +kernel
set_option maxRecDepth 100000 in
theorem ji_175_2 : mj_ins 175 2 = some (.aload_n 0) := by decide +kernel
set_option maxRecDepth 100000 in
theorem ji_175_20 : mj_ins 175 20 = some (.ireturn) := by decide +kernel
set_option maxRecDepth 100000 in
theorem ji_175_3 : mj_ins 175 3 = some (.getfield 78) := by decide +kernel
set_option maxRecDepth 100000 in
theorem ji_175_6 : mj_ins 175 6 = some (.invokestatic 66) := by decide +kernel
set_option maxRecDepth 100000 in
theorem ji_175_9 : mj_ins 175 9 = some (.ifCond .ne 5) := by decide +kernel
set_option maxRecDepth 100000 in
theorem ji_17_0 : mj_ins 17 0 = some (.bipush 24) := by decide +kernel
set_option maxRecDepth 100000 in
theorem ji_17_11 : mj_ins 17 11 = some (.sipush 300) := by decide +kernel
set_option maxRecDepth 100000 in
theorem ji_17_14 : mj_ins 17 14 = some (.if_icmp .ge 35) := by decide +kernel
set_option maxRecDepth 100000 in
theorem ji_17_17 : mj_ins 17 17 = some (.aload_n 0) := by decide +kernel
set_option maxRecDepth 100000 in
theorem ji_17_18 : mj_ins 17 18 = some (.getfield 11) := by decide +kernel
set_option maxRecDepth 100000 in
theorem ji_17_2 : mj_ins 17 2 = some (.istore_n 2) := by decide +kernel
set_option maxRecDepth 100000 in
theorem ji_17_21 : mj_ins 17 21 = some (.aload_n 0) := by decide +kernel
set_option maxRecDepth 100000 in
theorem ji_17_22 : mj_ins 17 22 = some (.getfield 15) := by decide +kernel
set_option maxRecDepth 100000 in
theorem ji_17_25 : mj_ins 17 25 = some (.iload_n 1) := by decide +kernel
set_option maxRecDepth 100000 in
theorem ji_17_26 : mj_ins 17 26 = some (.iload_n 2) := by decide +kernel
set_option maxRecDepth 100000 in
theorem ji_17_27 : mj_ins 17 27 = some (.ishr) := by decide +kernel
set_option maxRecDepth 100000 in
theorem ji_17_28 : mj_ins 17 28 = some (.sipush 255) := by decide +kernel
set_option maxRecDepth 100000 in
theorem ji_17_3 : mj_ins 17 3 = some (.iload_n 2) := by decide +kernel
set_option maxRecDepth 100000 in
theorem ji_17_31 : mj_ins 17 31 = some (.iand) := by decide +kernel
set_option maxRecDepth 100000 in
theorem ji_17_32 : mj_ins 17 32 = some (.iastore) := by decide +kernel
set_option maxRecDepth 100000 in
theorem ji_17_33 : mj_ins 17 33 = some (.aload_n 0) := by decide +kernel
set_option maxRecDepth 100000 in
theorem ji_17_34 : mj_ins 17 34 = some (.dup) := by decide +kernel
set_option maxRecDepth 100000 in
theorem ji_17_35 : mj_ins 17 35 = some (.getfield 15) := by decide +kernel
set_option maxRecDepth 100000 in
theorem ji_17_38 : mj_ins 17 38 = some (.iconst 1) := by decide +kernel
set_option maxRecDepth 100000 in
theorem ji_17_39 : mj_ins 17 39 = some (.iadd) := by decide +kernel
set_option maxRecDepth 100000 in
theorem ji_17_4 : mj_ins 17 4 = some (.ifCond .lt 45) := by decide +kernel
set_option maxRecDepth 100000 in
theorem ji_17_40 : mj_ins 17 40 = some (.putfield 15) := by decide +kernel
set_option maxRecDepth 100000 in
theorem ji_17_43 : mj_ins 17 43 = some (.iinc 2 (-8)) := by decide +kernel
set_option maxRecDepth 100000 in
theorem ji_17_46 : mj_ins 17 46 = some (.goto (-43)) := by decide +kernel
set_option maxRecDepth 100000 in
theorem ji_17_49 : mj_ins 17 49 = some (.return_) := by decide +kernel
set_option maxRecDepth 100000 in
theorem ji_17_7 : mj_ins 17 7 = some (.aload_n 0) := by decide +kernel
set_option maxRecDepth 100000 in
theorem ji_17_8 : mj_ins 17 8 = some (.getfield 15) := by decide +kernel
set_option maxRecDepth 100000 in
theorem ji_18_0 : mj_ins 18 0 = some (.iload_n 1) := by decide +kernel
set_option maxRecDepth 100000 in
theorem ji_18_1 : mj_ins 18 1 = some (.ifCond .lt 14) := by decide +kernel
set_option maxRecDepth 100000 in
theorem ji_18_12 : mj_ins 18 12 = some (.if_icmp .le 5) := by decide +kernel
set_option maxRecDepth 100000 in
theorem ji_18_15 : mj_ins 18 15 = some (.iconst (-1)) := by decide +kernel
set_option maxRecDepth 100000 in
theorem ji_18_16 : mj_ins 18 16 = some (.ireturn) := by decide +kernel
set_option maxRecDepth 100000 in
theorem ji_18_17 : mj_ins 18 17 = some (.aload_n 0) := by decide +kernel
set_option maxRecDepth 100000 in
theorem ji_18_18 : mj_ins 18 18 = some (.getfield 29) := by decide +kernel
set_option maxRecDepth 100000 in
theorem ji_18_21 : mj_ins 18 21 = some (.iload_n 1) := by decide +kernel
set_option maxRecDepth 100000 in
theorem ji_18_22 : mj_ins 18 22 = some (.putfield 62) := by decide +kernel
set_option maxRecDepth 100000 in
theorem ji_18_25 : mj_ins 18 25 = some (.iload_n 1) := by decide +kernel
set_option maxRecDepth 100000 in
theorem ji_18_26 : mj_ins 18 26 = some (.ireturn) := by decide +kernel
set_option maxRecDepth 100000 in
theorem ji_18_4 : mj_ins 18 4 = some (.iload_n 1) := by decide +kernel
set_option maxRecDepth 100000 in
theorem ji_18_5 : mj_ins 18 5 = some (.aload_n 0) := by decide +kernel
set_option maxRecDepth 100000 in
theorem ji_18_6 : mj_ins 18 6 = some (.getfield 29) := by decide +kernel
set_option maxRecDepth 100000 in
theorem ji_18_9 : mj_ins 18 9 = some (.getfield 62) := by decide +kernel
set_option maxRecDepth 100000 in
theorem ji_214_0 : mj_ins 214 0 = some (.iload_n 1) := by decide +kernel
set_option maxRecDepth 100000 in
theorem ji_214_1 : mj_ins 214 1 = some (.ifCond .ne 10) := by decide +kernel
set_option maxRecDepth 100000 in
theorem ji_214_11 : mj_ins 214 11 = some (.iload_n 1) := by decide +kernel
set_option maxRecDepth 100000 in
theorem ji_214_12 : mj_ins 214 12 = some (.iconst 1) := by decide +kernel
set_option maxRecDepth 100000 in
theorem ji_214_13 : mj_ins 214 13 = some (.if_icmp .ne 10) := by decide +kernel
set_option maxRecDepth 100000 in
theorem ji_214_16 : mj_ins 214 16 = some (.aload_n 0) := by decide +kernel
set_option maxRecDepth 100000 in
theorem ji_214_17 : mj_ins 214 17 = some (.getfield 26) := by decide +kernel
set_option maxRecDepth 100000 in
theorem ji_214_20 : mj_ins 214 20 = some (.goto 4) := by decide +kernel
set_option maxRecDepth 100000 in
theorem ji_214_23 : mj_ins 214 23 = some (.iconst (-1)) := by decide +kernel
set_option maxRecDepth 100000 in
theorem ji_214_24 : mj_ins 214 24 = some (.ireturn) := by decide +kernel
set_option maxRecDepth 100000 in
theorem ji_214_4 : mj_ins 214 4 = some (.aload_n 0) := by decide +kernel
set_option maxRecDepth 100000 in
theorem ji_214_5 : mj_ins 214 5 = some (.getfield 22) := by decide +kernel
set_option maxRecDepth 100000 in
theorem ji_214_8 : mj_ins 214 8 = some (.goto 16) := by decide +kernel
set_option maxRecDepth 100000 in
theorem ji_215_0 : mj_ins 215 0 = some (.iload_n 1) := by decide +kernel
set_option maxRecDepth 100000 in
theorem ji_215_1 : mj_ins 215 1 = some (.iconst (-1)) := by decide +kernel
set_option maxRecDepth 100000 in
theorem ji_215_10 : mj_ins 215 10 = some (.invokestatic 66) := by decide +kernel
set_option maxRecDepth 100000 in
theorem ji_215_13 : mj_ins 215 13 = some (.ifCond .ne 5) := by decide +kernel
set_option maxRecDepth 100000 in
theorem ji_215_16 : mj_ins 215 16 = some (.iconst 0) := by decide +kernel
set_option maxRecDepth 100000 in
theorem ji_215_17 : mj_ins 215 17 = some (.ireturn) := by decide +kernel
set_option maxRecDepth 100000 in
theorem ji_215_18 : mj_ins 215 18 = some (.aload_n 0) := by decide +kernel
set_option maxRecDepth 100000 in
theorem ji_215_19 : mj_ins 215 19 = some (.getfield 7) := by decide +kernel
set_option maxRecDepth 100000 in
theorem ji_215_2 : mj_ins 215 2 = some (.aload_n 0) := by decide +kernel
set_option maxRecDepth 100000 in
theorem ji_215_22 : mj_ins 215 22 = some (.iconst 3) := by decide +kernel
set_option maxRecDepth 100000 in
theorem ji_215_23 : mj_ins 215 23 = some (.iload_n 1) := by decide +kernel
set_option maxRecDepth 100000 in
theorem ji_215_24 : mj_ins 215 24 = some (.iastore) := by decide +kernel
set_option maxRecDepth 100000 in
theorem ji_215_25 : mj_ins 215 25 = some (.iconst 1) := by decide +kernel
set_option maxRecDepth 100000 in
theorem ji_215_26 : mj_ins 215 26 = some (.ireturn) := by decide +kernel
set_option maxRecDepth 100000 in
theorem ji_215_3 : mj_ins 215 3 = some (.getfield 7) := by decide +kernel
set_option maxRecDepth 100000 in
theorem ji_215_6 : mj_ins 215 6 = some (.iconst 2) := by decide +kernel
set_option maxRecDepth 100000 in
theorem ji_215_7 : mj_ins 215 7 = some (.iaload) := by decide +kernel
set_option maxRecDepth 100000 in
theorem ji_215_8 : mj_ins 215 8 = some (.iconst 1) := by decide +kernel
set_option maxRecDepth 100000 in
theorem ji_215_9 : mj_ins 215 9 = some (.isub) := by decide +kernel
set_option maxRecDepth 100000 in
theorem ji_54_0 : mj_ins 54 0 = some (.aload_n 0) := by decide +kernel
set_option maxRecDepth 100000 in
theorem ji_54_1 : mj_ins 54 1 = some (.getfield 38) := by decide +kernel
set_option maxRecDepth 100000 in
theorem ji_54_10 : mj_ins 54 10 = some (.iconst (-1)) := by decide +kernel
set_option maxRecDepth 100000 in
theorem ji_54_11 : mj_ins 54 11 = some (.ireturn) := by decide +kernel
set_option maxRecDepth 100000 in
theorem ji_54_12 : mj_ins 54 12 = some (.iload_n 1) := by decide +kernel
set_option maxRecDepth 100000 in
theorem ji_54_13 : mj_ins 54 13 = some (.lookupswitch 43 #[(0, 27), (1, 35)]) := by decide +kernel
set_option maxRecDepth 100000 in
theorem ji_54_4 : mj_ins 54 4 = some (.getfield 84) := by decide +kernel
set_option maxRecDepth 100000 in
theorem ji_54_40 : mj_ins 54 40 = some (.aload_n 0) := by decide +kernel
set_option maxRecDepth 100000 in
theorem ji_54_41 : mj_ins 54 41 = some (.getfield 38) := by decide +kernel
set_option maxRecDepth 100000 in
theorem ji_54_44 : mj_ins 54 44 = some (.getfield 81) := by decide +kernel
set_option maxRecDepth 100000 in
theorem ji_54_47 : mj_ins 54 47 = some (.ireturn) := by decide +kernel
set_option maxRecDepth 100000 in
theorem ji_54_48 : mj_ins 54 48 = some (.aload_n 0) := by decide +kernel
set_option maxRecDepth 100000 in
theorem ji_54_49 : mj_ins 54 49 = some (.getfield 38) := by decide +kernel
set_option maxRecDepth 100000 in
theorem ji_54_52 : mj_ins 54 52 = some (.getfield 88) := by decide +kernel
set_option maxRecDepth 100000 in
theorem ji_54_55 : mj_ins 54 55 = some (.ireturn) := by decide +kernel
set_option maxRecDepth 100000 in
theorem ji_54_56 : mj_ins 54 56 = some (.iconst (-1)) := by decide +kernel
set_option maxRecDepth 100000 in
theorem ji_54_57 : mj_ins 54 57 = some (.ireturn) := by decide +kernel
set_option maxRecDepth 100000 in
theorem ji_54_7 : mj_ins 54 7 = some (.ifCond .ne 5) := by decide +kernel
set_option maxRecDepth 100000 in
theorem ji_55_0 : mj_ins 55 0 = some (.iload_n 1) := by decide +kernel
set_option maxRecDepth 100000 in
theorem ji_55_1 : mj_ins 55 1 = some (.iconst (-1)) := by decide +kernel
set_option maxRecDepth 100000 in
theorem ji_55_10 : mj_ins 55 10 = some (.invokevirtual 91) := by decide +kernel
set_option maxRecDepth 100000 in
theorem ji_55_13 : mj_ins 55 13 = some (.ifCond .ne 5) := by decide +kernel
set_option maxRecDepth 100000 in
theorem ji_55_16 : mj_ins 55 16 = some (.iconst 0) := by decide +kernel
set_option maxRecDepth 100000 in
theorem ji_55_17 : mj_ins 55 17 = some (.ireturn) := by decide +kernel
set_option maxRecDepth 100000 in
theorem ji_55_18 : mj_ins 55 18 = some (.aload_n 0) := by decide +kernel
set_option maxRecDepth 100000 in
theorem ji_55_19 : mj_ins 55 19 = some (.getfield 19) := by decide +kernel
set_option maxRecDepth 100000 in
theorem ji_55_2 : mj_ins 55 2 = some (.if_icmp .eq 16) := by decide +kernel
set_option maxRecDepth 100000 in
theorem ji_55_22 : mj_ins 55 22 = some (.iload_n 1) := by decide +kernel
set_option maxRecDepth 100000 in
theorem ji_55_23 : mj_ins 55 23 = some (.putfield 95) := by decide +kernel
set_option maxRecDepth 100000 in
theorem ji_55_26 : mj_ins 55 26 = some (.iconst 1) := by decide +kernel
set_option maxRecDepth 100000 in
theorem ji_55_27 : mj_ins 55 27 = some (.ireturn) := by decide +kernel
set_option maxRecDepth 100000 in
theorem ji_55_5 : mj_ins 55 5 = some (.aload_n 0) := by decide +kernel
set_option maxRecDepth 100000 in
theorem ji_55_6 : mj_ins 55 6 = some (.getfield 19) := by decide +kernel
set_option maxRecDepth 100000 in
theorem ji_55_9 : mj_ins 55 9 = some (.iload_n 1) := by decide +kernel
set_option maxRecDepth 100000 in
theorem ji_56_0 : mj_ins 56 0 = some (.iload_n 1) := by decide +kernel
set_option maxRecDepth 100000 in
theorem ji_56_1 : mj_ins 56 1 = some (.ifCond .lt 15) := by decide +kernel
set_option maxRecDepth 100000 in
theorem ji_56_12 : mj_ins 56 12 = some (.iconst 1) := by decide +kernel
set_option maxRecDepth 100000 in
theorem ji_56_13 : mj_ins 56 13 = some (.goto 4) := by decide +kernel
set_option maxRecDepth 100000 in
theorem ji_56_16 : mj_ins 56 16 = some (.iconst 0) := by decide +kernel
set_option maxRecDepth 100000 in
theorem ji_56_17 : mj_ins 56 17 = some (.ireturn) := by decide +kernel
set_option maxRecDepth 100000 in
theorem ji_56_4 : mj_ins 56 4 = some (.iload_n 1) := by decide +kernel
set_option maxRecDepth 100000 in
theorem ji_56_5 : mj_ins 56 5 = some (.aload_n 0) := by decide +kernel
set_option maxRecDepth 100000 in
theorem ji_56_6 : mj_ins 56 6 = some (.getfield 46) := by decide +kernel
set_option maxRecDepth 100000 in
theorem ji_56_9 : mj_ins 56 9 = some (.if_icmp .ge 7) := by decide +kernel
set_option maxRecDepth 100000 in
theorem jk_17 : mj_cls 17 = 8 := by decide +kernel
set_option maxRecDepth 100000 in
theorem jk_174 : mj_cls 174 = 11 := by decide +kernel
set_option maxRecDepth 100000 in
theorem jk_56 : mj_cls 56 = 2 := by decide +kernel
set_option maxRecDepth 100000 in
theorem jn_17 : mj_nl 17 = 3 := by decide +kernel
set_option maxRecDepth 100000 in
theorem jn_174 : mj_nl 174 = 3 := by decide +kernel
set_option maxRecDepth 100000 in
theorem jn_56 : mj_nl 56 = 2 := by decide +kernel
set_option maxRecDepth 100000 in
theorem jr_16 : mj_ret 16 = some .int := by decide +kernel
set_option maxRecDepth 100000 in
theorem jr_17 : mj_ret 17 = none := by decide +kernel
set_option maxRecDepth 100000 in
theorem jr_173 : mj_ret 173 = some .int := by decide +kernel
set_option maxRecDepth 100000 in
theorem jr_174 : mj_ret 174 = none := by decide +kernel
set_option maxRecDepth 100000 in
theorem jr_175 : mj_ret 175 = some .int := by decide +kernel
set_option maxRecDepth 100000 in
theorem jr_18 : mj_ret 18 = some .int := by decide +kernel
set_option maxRecDepth 100000 in
theorem jr_214 : mj_ret 214 = some .int := by decide +kernel
set_option maxRecDepth 100000 in
theorem jr_215 : mj_ret 215 = some .boolean := by decide +kernel
set_option maxRecDepth 100000 in
theorem jr_54 : mj_ret 54 = some .int := by decide +kernel
set_option maxRecDepth 100000 in
theorem jr_55 : mj_ret 55 = some .boolean := by decide +kernel
set_option maxRecDepth 100000 in
theorem jr_56 : mj_ret 56 = some .boolean := by decide +kernel
/-! feed, end, fault, by of both -/
def byt (z s : Int) : Int := ((Int32.ofInt z >>> (Int32.ofInt s &&& 31)) &&& Int32.ofInt 255).toInt
theorem byt_r (z s : Int) : 0 ≤ byt z s ∧ byt z s ≤ 255 := by
  have h255 : (Int32.ofInt 255).toInt = 255 := by decide
  have := sx_iand2 (x := Int32.ofInt z >>> (Int32.ofInt s &&& 31)) (y := Int32.ofInt 255) (by rw [h255]; decide)
  rw [h255] at this
  exact this
theorem tB_set {bl : List Value} (D : tB bl) {j : Nat} {y : Int} (hy : 0 ≤ y ∧ y ≤ 255) : tB (bl.set j (wp_i y)) := by
  refine ⟨by rw [List.length_set]; exact D.1, fun i hi => ?_⟩
  by_cases e : j = i
  · subst e
    have h1 : (bl.set j (wp_i y))[j]? = some (wp_i y) := List.getElem?_set_self (by have := D.1; omega)
    have h2 : sx_el (bl.set j (wp_i y)) j = y := by
      unfold sx_el
      rw [h1]
      exact wp_ti (by omega)
    rw [h2]
    exact ⟨h1, hy⟩
  · have h1 : (bl.set j (wp_i y))[i]? = bl[i]? := List.getElem?_set_ne e
    have h2 : sx_el (bl.set j (wp_i y)) i = sx_el bl i := by
      unfold sx_el
      rw [h1]
    rw [h1, h2]
    exact D.2 i hi
/-- four bytes behind the tape -/
def ap1 (bl : List Value) (L z s : Int) : List Value := bl.set L.toNat (wp_i (byt z s))
def ap4 (bl : List Value) (L z : Int) : List Value := ap1 (ap1 (ap1 (ap1 bl L z 24) (L + 1) z 16) (L + 2) z 8) (L + 3) z 0
theorem tB_4 {bl : List Value} (D : tB bl) (L z : Int) : tB (ap4 bl L z) := tB_set (tB_set (tB_set (tB_set D (byt_r _ _)) (byt_r _ _)) (byt_r _ _)) (byt_r _ _)
section FEED
variable {nn d : Nat} {h : mj_H} {Q : Option Value → mj_H → Prop} {bl : List Value} {L z s : Int}
/-- the class's tape -/
def fC (h : mj_H) (bl : List Value) (L k v s p : Int) : Prop := h[91]? = some (8, [.ref 92, wp_i L, wp_i k, wp_i v, wp_i s, wp_i p]) ∧ h[92]? = some (1000, bl)
theorem wc_ap1 {k v s0 p : Int} (E : fC h bl L k v s0 p) (hl : bl.length = 300) (hL : 0 ≤ L ∧ L < 300) (hs : 0 ≤ s ∧ s ≤ 24) (hr : ∀ h1, fC h1 (ap1 bl L z s) (L + 1) k v s0 p → (∀ a, a ≠ 91 → a ≠ 92 → h1[a]? = h[a]?) → wl_R nn d 17 3 [some (.ref 91), some (wp_i z), some (wp_i (s - 8))] [] h1 Q) : wl_R nn d 17 3 [some (.ref 91), some (wp_i z), some (wp_i s)] [] h Q := by
  obtain ⟨e1, e2⟩ := E
  refine wl_s (pc' := 4) ji_17_3 rfl rfl rfl ?_
  refine wl_if (t := 49) ji_17_4 rfl (x := s) (by omega) (fun (c : s < 0) => (by exfalso; omega)) (fun _ => ?_)
  refine wl_s (pc' := 8) ji_17_7 rfl rfl rfl ?_
  refine wl_gf ji_17_8 jf_17_15 e1 rfl ?_
  refine wl_sp ji_17_11 rfl ?_
  refine wl_icmp (t := 49) ji_17_14 rfl (x := L) (y := 300) (by omega) (by omega) (fun (c : (300 : Int) ≤ L) => (by exfalso; omega)) (fun _ => ?_)
  refine wl_s (pc' := 18) ji_17_17 rfl rfl rfl ?_
  refine wl_gf ji_17_18 jf_17_11 e1 rfl ?_
  refine wl_s (pc' := 22) ji_17_21 rfl rfl rfl ?_
  refine wl_gf ji_17_22 jf_17_15 e1 rfl ?_
  refine wl_s (pc' := 26) ji_17_25 rfl rfl rfl ?_
  refine wl_s (pc' := 27) ji_17_26 rfl rfl rfl ?_
  refine wl_s (pc' := 28) (st' := [.int (Int32.ofInt z >>> (Int32.ofInt s &&& 31)), wp_i L, .ref 92]) ji_17_27 rfl rfl rfl ?_
  refine wl_sp ji_17_28 rfl ?_
  refine wl_s (pc' := 32) (lv' := [some (.ref 91), some (wp_i z), some (wp_i s)]) (st' := [wp_i (byt z s), wp_i L, .ref 92]) (h' := h) ji_17_31 rfl rfl (by rw [byt, ← wp_iz]; rfl) ?_
  refine wl_as2 (x := L) (y := byt z s) ji_17_32 e2 (by omega) (fun h1 x1 x2 g2 k2 => ?_)
  have g1 := (k2 91 (by decide)).trans e1
  refine wl_s (pc' := 34) ji_17_33 rfl rfl rfl ?_
  refine wl_s (pc' := 35) ji_17_34 rfl rfl rfl ?_
  refine wl_gf ji_17_35 jf_17_15 g1 rfl ?_
  refine wl_s (pc' := 39) ji_17_38 rfl rfl rfl ?_
  refine wl_iadd (x := L) (y := 1) (z := L + 1) ji_17_39 rfl ?_
  refine wl_pf2 ji_17_40 jf_17_15 g1 (by decide) (Nat.le_of_ble_eq_true rfl) rfl rfl (fun h3 g3 k3 => ?_)
  refine wl_iinc (x := s) (z := s - 8) (lv' := [some (.ref 91), some (wp_i z), some (wp_i (s - 8))]) ji_17_43 rfl (Nat.le_of_ble_eq_true rfl) (by omega) rfl ?_
  refine wl_goto (t := 3) ji_17_46 rfl ?_
  exact hr h3 ⟨g3, (k3 92 (by decide)).trans g2⟩ (fun a a1 a2 => (k3 a a1).trans (k2 a a2))
theorem wc_ap {k v s0 p : Int} (E : fC h bl L k v s0 p) (hl : bl.length = 300) (hL : 0 ≤ L ∧ L + 4 ≤ 300) : wl_R nn d 17 0 [some (.ref 91), some (wp_i z), none] [] h (fun w h1 => w = none ∧ fC h1 (ap4 bl L z) (L + 4) k v s0 p ∧ ∀ a, a ≠ 91 → a ≠ 92 → h1[a]? = h[a]?) := by
  refine wl_bp ji_17_0 rfl ?_
  refine wl_s (pc' := 3) (lv' := [some (.ref 91), some (wp_i z), some (wp_i 24)]) ji_17_2 rfl rfl rfl ?_
  refine wc_ap1 E hl (by omega) (by decide) (fun h1 E1 k1 => ?_)
  refine wc_ap1 E1 (by rw [ap1, List.length_set]; exact hl) (by omega) (by decide) (fun h2 E2 k2 => ?_)
  refine wc_ap1 E2 (by simp only [ap1, List.length_set]; exact hl) (by omega) (by decide) (fun h3 E3 k3 => ?_)
  refine wc_ap1 E3 (by simp only [ap1, List.length_set]; exact hl) (by omega) (by decide) (fun h4 E4 k4 => ?_)
  refine wl_s (pc' := 4) ji_17_3 rfl rfl rfl ?_
  refine wl_if (t := 49) ji_17_4 rfl (x := 24 - 8 - 8 - 8 - 8) (by omega) (fun _ => ?_) (fun c => absurd (show (24 - 8 - 8 - 8 - 8 : Int) < 0 by decide) c)
  refine wl_rv ji_17_49 jr_17 ⟨rfl, ?_, fun a a1 a2 => (k4 a a1 a2).trans ((k3 a a1 a2).trans ((k2 a a1 a2).trans (k1 a a1 a2)))⟩
  rw [show L + 1 + 1 + 1 + 1 = L + 4 by omega, show L + 1 + 1 + 1 = L + 3 by omega, show L + 1 + 1 = L + 2 by omega] at E4
  exact E4
/-- the reference's tape -/
def fR (h : mj_H) (fs bl : List Value) (L : Int) : Prop := h[138]? = some (11, fs) ∧ fs.length = 31 ∧ fs[3]? = some (.ref 142) ∧ fs[4]? = some (wp_i L) ∧ h[142]? = some (1000, bl)
theorem wr_ap1 {fs : List Value} (E : fR h fs bl L) (hl : bl.length = 300) (hL : 0 ≤ L ∧ L < 300) (hs : 0 ≤ s ∧ s ≤ 24) (hr : ∀ h1, fR h1 (fs.set 4 (wp_i (L + 1))) (ap1 bl L z s) (L + 1) → (∀ a, a ≠ 138 → a ≠ 142 → h1[a]? = h[a]?) → wl_R nn d 174 3 [some (.ref 138), some (wp_i z), some (wp_i (s - 8))] [] h1 Q) : wl_R nn d 174 3 [some (.ref 138), some (wp_i z), some (wp_i s)] [] h Q := by
  obtain ⟨e1, el, p3, p4, e2⟩ := E
  refine wl_s (pc' := 4) ji_174_3 rfl rfl rfl ?_
  refine wl_if (t := 39) ji_174_4 rfl (x := s) (by omega) (fun (c : s < 0) => (by exfalso; omega)) (fun _ => ?_)
  refine wl_s (pc' := 8) ji_174_7 rfl rfl rfl ?_
  refine wl_gf ji_174_8 jf_174_19 e1 p3 ?_
  refine wl_s (pc' := 12) ji_174_11 rfl rfl rfl ?_
  refine wl_gf ji_174_12 jf_174_78 e1 p4 ?_
  refine wl_s (pc' := 16) ji_174_15 rfl rfl rfl ?_
  refine wl_s (pc' := 17) ji_174_16 rfl rfl rfl ?_
  refine wl_s (pc' := 18) (st' := [.int (Int32.ofInt z >>> (Int32.ofInt s &&& 31)), wp_i L, .ref 142]) ji_174_17 rfl rfl rfl ?_
  refine wl_sp ji_174_18 rfl ?_
  refine wl_s (pc' := 22) (lv' := [some (.ref 138), some (wp_i z), some (wp_i s)]) (st' := [wp_i (byt z s), wp_i L, .ref 142]) (h' := h) ji_174_21 rfl rfl (by rw [byt, ← wp_iz]; rfl) ?_
  refine wl_as2 (x := L) (y := byt z s) ji_174_22 e2 (by omega) (fun h1 x1 x2 g2 k2 => ?_)
  have g1 := (k2 138 (by decide)).trans e1
  refine wl_s (pc' := 24) ji_174_23 rfl rfl rfl ?_
  refine wl_s (pc' := 25) ji_174_24 rfl rfl rfl ?_
  refine wl_gf ji_174_25 jf_174_78 g1 p4 ?_
  refine wl_s (pc' := 29) ji_174_28 rfl rfl rfl ?_
  refine wl_iadd (x := L) (y := 1) (z := L + 1) ji_174_29 rfl ?_
  refine wl_pf2 ji_174_30 jf_174_78 g1 (by decide) (by omega) rfl rfl (fun h3 g3 k3 => ?_)
  refine wl_iinc (x := s) (z := s - 8) (lv' := [some (.ref 138), some (wp_i z), some (wp_i (s - 8))]) ji_174_33 rfl (Nat.le_of_ble_eq_true rfl) (by omega) rfl ?_
  refine wl_goto (t := 3) ji_174_36 rfl ?_
  exact hr h3 ⟨g3, by rw [List.length_set]; exact el, by rw [List.getElem?_set_ne (by decide)]; exact p3, List.getElem?_set_self (by omega), (k3 142 (by decide)).trans g2⟩ (fun a a1 a2 => (k3 a a1).trans (k2 a a2))
theorem wr_ap {fs : List Value} (E : fR h fs bl L) (hl : bl.length = 300) (hL : 0 ≤ L ∧ L + 4 ≤ 300) : wl_R nn d 174 0 [some (.ref 138), some (wp_i z), none] [] h (fun w h1 => w = none ∧ fR h1 (fs.set 4 (wp_i (L + 4))) (ap4 bl L z) (L + 4) ∧ ∀ a, a ≠ 138 → a ≠ 142 → h1[a]? = h[a]?) := by
  refine wl_bp ji_174_0 rfl ?_
  refine wl_s (pc' := 3) (lv' := [some (.ref 138), some (wp_i z), some (wp_i 24)]) ji_174_2 rfl rfl rfl ?_
  refine wr_ap1 E hl (by omega) (by decide) (fun h1 E1 k1 => ?_)
  refine wr_ap1 E1 (by rw [ap1, List.length_set]; exact hl) (by omega) (by decide) (fun h2 E2 k2 => ?_)
  refine wr_ap1 E2 (by simp only [ap1, List.length_set]; exact hl) (by omega) (by decide) (fun h3 E3 k3 => ?_)
  refine wr_ap1 E3 (by simp only [ap1, List.length_set]; exact hl) (by omega) (by decide) (fun h4 E4 k4 => ?_)
  refine wl_s (pc' := 4) ji_174_3 rfl rfl rfl ?_
  refine wl_if (t := 39) ji_174_4 rfl (x := 24 - 8 - 8 - 8 - 8) (by omega) (fun _ => ?_) (fun c => absurd (show (24 - 8 - 8 - 8 - 8 : Int) < 0 by decide) c)
  refine wl_rv ji_174_39 jr_174 ⟨rfl, ?_, fun a a1 a2 => (k4 a a1 a2).trans ((k3 a a1 a2).trans ((k2 a a1 a2).trans (k1 a a1 a2)))⟩
  simp only [List.set_set] at E4
  rw [show L + 1 + 1 + 1 + 1 = L + 4 by omega, show L + 1 + 1 + 1 = L + 3 by omega, show L + 1 + 1 = L + 2 by omega] at E4
  exact E4
end FEED
/-- twenty bytes -/
def ap20 (bl : List Value) (L a b c d e : Int) : List Value := ap4 (ap4 (ap4 (ap4 (ap4 bl L a) (L + 4) b) (L + 8) c) (L + 12) d) (L + 16) e
theorem ap4_len (bl : List Value) (L z : Int) : (ap4 bl L z).length = bl.length := by
  simp only [ap4, ap1, List.length_set]
theorem tB_20 {bl : List Value} (D : tB bl) (L a b c d e : Int) : tB (ap20 bl L a b c d e) := tB_4 (tB_4 (tB_4 (tB_4 (tB_4 D _ _) _ _) _ _) _ _) _ _
section FEED2
variable {nn d : Nat} {h : mj_H} {bl : List Value} {L a b c e f : Int}
theorem wc_fd {g9 : List Value} {k v s p : Int} (E9 : h[9]? = some (0, g9) ∧ g9[2]? = some (.ref 91)) (E : fC h bl L k v s p) (D : tB bl) (hL : 0 ≤ L ∧ L ≤ 300) : wl_R nn (d + 1) 16 0 [some (.ref 9), some (wp_i a), some (wp_i b), some (wp_i c), some (wp_i e), some (wp_i f)] [] h (fun w h1 => (L + 20 ≤ 300 ∧ w = some (wp_i (L + 20)) ∧ fC h1 (ap20 bl L a b c e f) (L + 20) k v s p ∧ ∀ a, a ≠ 91 → a ≠ 92 → h1[a]? = h[a]?) ∨ (¬ L + 20 ≤ 300 ∧ w = some (wp_i (-1)) ∧ h1 = h)) := by
  obtain ⟨e9, p2⟩ := E9
  have hl := D.1
  refine wl_s (pc' := 1) ji_16_0 rfl rfl rfl ?_
  refine wl_gf ji_16_1 jf_16_29 e9 p2 ?_
  refine wl_gf ji_16_4 jf_16_62 E.1 rfl ?_
  refine wl_bp ji_16_7 rfl ?_
  refine wl_iadd (x := L) (y := 20) (z := L + 20) ji_16_9 rfl ?_
  refine wl_sp ji_16_10 rfl ?_
  refine wl_icmp (t := 18) ji_16_13 rfl (x := L + 20) (y := 300) (by omega) (by omega) (fun (q : L + 20 ≤ 300) => ?_) (fun (q : ¬ L + 20 ≤ 300) => ?_)
  · refine wl_s (pc' := 19) ji_16_18 rfl rfl rfl ?_
    refine wl_gf ji_16_19 jf_16_29 e9 p2 ?_
    refine wl_s (pc' := 23) ji_16_22 rfl rfl rfl ?_
    refine wl_vc (d := d) (as := [.ref 91, wp_i a]) (rest := []) ji_16_23 jc_16_66 rfl E.1 jk_17.symm (Nat.le_of_ble_eq_true rfl) rfl (by rw [jn_17]; rfl) (wc_ap (z := a) E (by first | exact hl | (simp only [ap4_len]; exact hl)) (by omega)) (fun v1 h1 R => ?_)
    obtain ⟨rfl, E1, g1⟩ := R
    rw [show L + 4 = L + 4 by omega] at E1
    have k1 : ∀ a, a ≠ 91 → a ≠ 92 → h1[a]? = h[a]? := g1
    refine wl_s (pc' := 27) ji_16_26 rfl rfl rfl ?_
    refine wl_gf ji_16_27 jf_16_29 ((k1 9 (by decide) (by decide)).trans e9) p2 ?_
    refine wl_s (pc' := 31) ji_16_30 rfl rfl rfl ?_
    refine wl_vc (d := d) (as := [.ref 91, wp_i b]) (rest := []) ji_16_31 jc_16_66 rfl E1.1 jk_17.symm (Nat.le_of_ble_eq_true rfl) rfl (by rw [jn_17]; rfl) (wc_ap (z := b) E1 (by first | exact hl | (simp only [ap4_len]; exact hl)) (by omega)) (fun v2 h2 R => ?_)
    obtain ⟨rfl, E2, g2⟩ := R
    rw [show L + 4 + 4 = L + 8 by omega] at E2
    have k2 : ∀ a, a ≠ 91 → a ≠ 92 → h2[a]? = h[a]? := fun a x1 x2 => (g2 a x1 x2).trans (k1 a x1 x2)
    refine wl_s (pc' := 35) ji_16_34 rfl rfl rfl ?_
    refine wl_gf ji_16_35 jf_16_29 ((k2 9 (by decide) (by decide)).trans e9) p2 ?_
    refine wl_s (pc' := 39) ji_16_38 rfl rfl rfl ?_
    refine wl_vc (d := d) (as := [.ref 91, wp_i c]) (rest := []) ji_16_39 jc_16_66 rfl E2.1 jk_17.symm (Nat.le_of_ble_eq_true rfl) rfl (by rw [jn_17]; rfl) (wc_ap (z := c) E2 (by first | exact hl | (simp only [ap4_len]; exact hl)) (by omega)) (fun v3 h3 R => ?_)
    obtain ⟨rfl, E3, g3⟩ := R
    rw [show L + 8 + 4 = L + 12 by omega] at E3
    have k3 : ∀ a, a ≠ 91 → a ≠ 92 → h3[a]? = h[a]? := fun a x1 x2 => (g3 a x1 x2).trans (k2 a x1 x2)
    refine wl_s (pc' := 43) ji_16_42 rfl rfl rfl ?_
    refine wl_gf ji_16_43 jf_16_29 ((k3 9 (by decide) (by decide)).trans e9) p2 ?_
    refine wl_s (pc' := 48) ji_16_46 rfl rfl rfl ?_
    refine wl_vc (d := d) (as := [.ref 91, wp_i e]) (rest := []) ji_16_48 jc_16_66 rfl E3.1 jk_17.symm (Nat.le_of_ble_eq_true rfl) rfl (by rw [jn_17]; rfl) (wc_ap (z := e) E3 (by first | exact hl | (simp only [ap4_len]; exact hl)) (by omega)) (fun v4 h4 R => ?_)
    obtain ⟨rfl, E4, g4⟩ := R
    rw [show L + 12 + 4 = L + 16 by omega] at E4
    have k4 : ∀ a, a ≠ 91 → a ≠ 92 → h4[a]? = h[a]? := fun a x1 x2 => (g4 a x1 x2).trans (k3 a x1 x2)
    refine wl_s (pc' := 52) ji_16_51 rfl rfl rfl ?_
    refine wl_gf ji_16_52 jf_16_29 ((k4 9 (by decide) (by decide)).trans e9) p2 ?_
    refine wl_s (pc' := 57) ji_16_55 rfl rfl rfl ?_
    refine wl_vc (d := d) (as := [.ref 91, wp_i f]) (rest := []) ji_16_57 jc_16_66 rfl E4.1 jk_17.symm (Nat.le_of_ble_eq_true rfl) rfl (by rw [jn_17]; rfl) (wc_ap (z := f) E4 (by first | exact hl | (simp only [ap4_len]; exact hl)) (by omega)) (fun v5 h5 R => ?_)
    obtain ⟨rfl, E5, g5⟩ := R
    rw [show L + 16 + 4 = L + 20 by omega] at E5
    have k5 : ∀ a, a ≠ 91 → a ≠ 92 → h5[a]? = h[a]? := fun a x1 x2 => (g5 a x1 x2).trans (k4 a x1 x2)
    refine wl_s (pc' := 61) ji_16_60 rfl rfl rfl ?_
    refine wl_gf ji_16_61 jf_16_29 ((k5 9 (by decide) (by decide)).trans e9) p2 ?_
    refine wl_gf ji_16_64 jf_16_62 E5.1 rfl ?_
    exact wl_ri ji_16_67 jr_16 rfl (Or.inl ⟨q, rfl, E5, k5⟩)
  · refine wl_s (pc' := 17) ji_16_16 rfl rfl rfl ?_
    exact wl_ri ji_16_17 jr_16 rfl (Or.inr ⟨q, rfl, rfl⟩)
theorem wr_fd {fs : List Value} (E : fR h fs bl L) (D : tB bl) (hL : 0 ≤ L ∧ L ≤ 300) : wl_R nn (d + 1) 173 0 [some (.ref 138), some (wp_i a), some (wp_i b), some (wp_i c), some (wp_i e), some (wp_i f)] [] h (fun w h1 => (L + 20 ≤ 300 ∧ w = some (wp_i (L + 20)) ∧ fR h1 (fs.set 4 (wp_i (L + 20))) (ap20 bl L a b c e f) (L + 20) ∧ ∀ a, a ≠ 138 → a ≠ 142 → h1[a]? = h[a]?) ∨ (¬ L + 20 ≤ 300 ∧ w = some (wp_i (-1)) ∧ h1 = h)) := by
  have hl := D.1
  refine wl_s (pc' := 1) ji_173_0 rfl rfl rfl ?_
  refine wl_gf ji_173_1 jf_173_78 E.1 E.2.2.2.1 ?_
  refine wl_bp ji_173_4 rfl ?_
  refine wl_iadd (x := L) (y := 20) (z := L + 20) ji_173_6 rfl ?_
  refine wl_sp ji_173_7 rfl ?_
  refine wl_icmp (t := 15) ji_173_10 rfl (x := L + 20) (y := 300) (by omega) (by omega) (fun (q : L + 20 ≤ 300) => ?_) (fun (q : ¬ L + 20 ≤ 300) => ?_)
  · refine wl_s (pc' := 16) ji_173_15 rfl rfl rfl ?_
    refine wl_s (pc' := 17) ji_173_16 rfl rfl rfl ?_
    refine wl_vc (d := d) (as := [.ref 138, wp_i a]) (rest := []) ji_173_17 jc_173_81 rfl E.1 jk_174.symm (Nat.le_of_ble_eq_true rfl) rfl (by rw [jn_174]; rfl) (wr_ap (z := a) E (by first | exact hl | (simp only [ap4_len]; exact hl)) (by omega)) (fun v1 h1 R => ?_)
    obtain ⟨rfl, E1, g1⟩ := R
    rw [show L + 4 = L + 4 by omega] at E1
    have k1 : ∀ a, a ≠ 138 → a ≠ 142 → h1[a]? = h[a]? := g1
    refine wl_s (pc' := 21) ji_173_20 rfl rfl rfl ?_
    refine wl_s (pc' := 22) ji_173_21 rfl rfl rfl ?_
    refine wl_vc (d := d) (as := [.ref 138, wp_i b]) (rest := []) ji_173_22 jc_173_81 rfl E1.1 jk_174.symm (Nat.le_of_ble_eq_true rfl) rfl (by rw [jn_174]; rfl) (wr_ap (z := b) E1 (by first | exact hl | (simp only [ap4_len]; exact hl)) (by omega)) (fun v2 h2 R => ?_)
    obtain ⟨rfl, E2, g2⟩ := R
    rw [List.set_set] at E2
    rw [show L + 4 + 4 = L + 8 by omega] at E2
    have k2 : ∀ a, a ≠ 138 → a ≠ 142 → h2[a]? = h[a]? := fun a x1 x2 => (g2 a x1 x2).trans (k1 a x1 x2)
    refine wl_s (pc' := 26) ji_173_25 rfl rfl rfl ?_
    refine wl_s (pc' := 27) ji_173_26 rfl rfl rfl ?_
    refine wl_vc (d := d) (as := [.ref 138, wp_i c]) (rest := []) ji_173_27 jc_173_81 rfl E2.1 jk_174.symm (Nat.le_of_ble_eq_true rfl) rfl (by rw [jn_174]; rfl) (wr_ap (z := c) E2 (by first | exact hl | (simp only [ap4_len]; exact hl)) (by omega)) (fun v3 h3 R => ?_)
    obtain ⟨rfl, E3, g3⟩ := R
    rw [List.set_set] at E3
    rw [show L + 8 + 4 = L + 12 by omega] at E3
    have k3 : ∀ a, a ≠ 138 → a ≠ 142 → h3[a]? = h[a]? := fun a x1 x2 => (g3 a x1 x2).trans (k2 a x1 x2)
    refine wl_s (pc' := 31) ji_173_30 rfl rfl rfl ?_
    refine wl_s (pc' := 33) ji_173_31 rfl rfl rfl ?_
    refine wl_vc (d := d) (as := [.ref 138, wp_i e]) (rest := []) ji_173_33 jc_173_81 rfl E3.1 jk_174.symm (Nat.le_of_ble_eq_true rfl) rfl (by rw [jn_174]; rfl) (wr_ap (z := e) E3 (by first | exact hl | (simp only [ap4_len]; exact hl)) (by omega)) (fun v4 h4 R => ?_)
    obtain ⟨rfl, E4, g4⟩ := R
    rw [List.set_set] at E4
    rw [show L + 12 + 4 = L + 16 by omega] at E4
    have k4 : ∀ a, a ≠ 138 → a ≠ 142 → h4[a]? = h[a]? := fun a x1 x2 => (g4 a x1 x2).trans (k3 a x1 x2)
    refine wl_s (pc' := 37) ji_173_36 rfl rfl rfl ?_
    refine wl_s (pc' := 39) ji_173_37 rfl rfl rfl ?_
    refine wl_vc (d := d) (as := [.ref 138, wp_i f]) (rest := []) ji_173_39 jc_173_81 rfl E4.1 jk_174.symm (Nat.le_of_ble_eq_true rfl) rfl (by rw [jn_174]; rfl) (wr_ap (z := f) E4 (by first | exact hl | (simp only [ap4_len]; exact hl)) (by omega)) (fun v5 h5 R => ?_)
    obtain ⟨rfl, E5, g5⟩ := R
    rw [List.set_set] at E5
    rw [show L + 16 + 4 = L + 20 by omega] at E5
    have k5 : ∀ a, a ≠ 138 → a ≠ 142 → h5[a]? = h[a]? := fun a x1 x2 => (g5 a x1 x2).trans (k4 a x1 x2)
    refine wl_s (pc' := 43) ji_173_42 rfl rfl rfl ?_
    refine wl_gf ji_173_43 jf_173_78 E5.1 E5.2.2.2.1 ?_
    exact wl_ri ji_173_46 jr_173 rfl (Or.inl ⟨q, rfl, E5, k5⟩)
  · refine wl_s (pc' := 14) ji_173_13 rfl rfl rfl ?_
    exact wl_ri ji_173_14 jr_173 rfl (Or.inr ⟨q, rfl, rfl⟩)
/-- end of both -/
theorem wc_en {g9 : List Value} {x k v s p : Int} (hx : wp_r x) (E9 : h[9]? = some (0, g9) ∧ g9[2]? = some (.ref 91)) (E : h[91]? = some (8, [.ref 92, wp_i L, wp_i k, wp_i v, wp_i s, wp_i p])) (hL : 0 ≤ L ∧ L ≤ 300) : wl_R nn d 18 0 [some (.ref 9), some (wp_i x)] [] h (fun w h1 => ((0 ≤ x ∧ x ≤ L) ∧ w = some (wp_i x) ∧ h1[91]? = some (8, [.ref 92, wp_i x, wp_i k, wp_i v, wp_i s, wp_i p]) ∧ ∀ a, a ≠ 91 → h1[a]? = h[a]?) ∨ (¬ (0 ≤ x ∧ x ≤ L) ∧ w = some (wp_i (-1)) ∧ h1 = h)) := by
  obtain ⟨e9, p2⟩ := E9
  have bad : ¬ (0 ≤ x ∧ x ≤ L) → wl_R nn d 18 15 [some (.ref 9), some (wp_i x)] [] h (fun w h1 => ((0 ≤ x ∧ x ≤ L) ∧ w = some (wp_i x) ∧ h1[91]? = some (8, [.ref 92, wp_i x, wp_i k, wp_i v, wp_i s, wp_i p]) ∧ ∀ a, a ≠ 91 → h1[a]? = h[a]?) ∨ (¬ (0 ≤ x ∧ x ≤ L) ∧ w = some (wp_i (-1)) ∧ h1 = h)) := by
    intro q
    refine wl_s (pc' := 16) ji_18_15 rfl rfl rfl ?_
    exact wl_ri ji_18_16 jr_18 rfl (Or.inr ⟨q, rfl, rfl⟩)
  refine wl_s (pc' := 1) ji_18_0 rfl rfl rfl ?_
  refine wl_if (t := 15) ji_18_1 rfl (x := x) hx (fun (q : x < 0) => bad (by omega)) (fun (q : ¬ x < 0) => ?_)
  refine wl_s (pc' := 5) ji_18_4 rfl rfl rfl ?_
  refine wl_s (pc' := 6) ji_18_5 rfl rfl rfl ?_
  refine wl_gf ji_18_6 jf_18_29 e9 p2 ?_
  refine wl_gf ji_18_9 jf_18_62 E rfl ?_
  refine wl_icmp (t := 17) ji_18_12 rfl (x := x) (y := L) hx (by omega) (fun (q2 : x ≤ L) => ?_) (fun (q2 : ¬ x ≤ L) => bad (by omega))
  refine wl_s (pc' := 18) ji_18_17 rfl rfl rfl ?_
  refine wl_gf ji_18_18 jf_18_29 e9 p2 ?_
  refine wl_s (pc' := 22) ji_18_21 rfl rfl rfl ?_
  refine wl_pf2 ji_18_22 jf_18_62 E (by decide) (Nat.le_of_ble_eq_true rfl) rfl rfl (fun h1 g1 k1 => ?_)
  refine wl_s (pc' := 26) ji_18_25 rfl rfl rfl ?_
  exact wl_ri ji_18_26 jr_18 rfl (Or.inl ⟨by omega, rfl, g1, k1⟩)
theorem wr_en {fs : List Value} {x : Int} (hx : wp_r x) (e1 : h[138]? = some (11, fs)) (el : fs.length = 31) (p4 : fs[4]? = some (wp_i L)) (hL : 0 ≤ L ∧ L ≤ 300) : wl_R nn (d + 1) 175 0 [some (.ref 138), some (wp_i x)] [] h (fun w h1 => ((0 ≤ x ∧ x ≤ L) ∧ w = some (wp_i x) ∧ h1[138]? = some (11, fs.set 4 (wp_i x)) ∧ ∀ a, a ≠ 138 → h1[a]? = h[a]?) ∨ (¬ (0 ≤ x ∧ x ≤ L) ∧ w = some (wp_i (-1)) ∧ h1 = h)) := by
  refine wl_s (pc' := 1) ji_175_0 rfl rfl rfl ?_
  refine wl_s (pc' := 2) ji_175_1 rfl rfl rfl ?_
  refine wl_s (pc' := 3) ji_175_2 rfl rfl rfl ?_
  refine wl_gf ji_175_3 jf_175_78 e1 p4 ?_
  refine wl_sc (d := d) (as := [wp_i x, wp_i 0, wp_i L]) (rest := []) ji_175_6 jc_175_66 (Nat.le_of_ble_eq_true rfl) rfl (Nat.le_of_ble_eq_true rfl) rfl (by rw [jn_171]; rfl) (wp_wl (ws_isIn (x := x) (lo := 0) (hi := L) hx (by omega) (by omega))) (fun v1 h2 R => ?_)
  obtain ⟨ee, rfl⟩ := R
  subst ee
  by_cases q : 0 ≤ x ∧ x ≤ L
  · rw [if_pos q]
    refine wl_if (t := 14) ji_175_9 rfl (x := 1) (by omega) (fun _ => ?_) (fun (q2 : ¬ ¬ (1 : Int) = 0) => absurd (by decide) q2)
    refine wl_s (pc' := 15) ji_175_14 rfl rfl rfl ?_
    refine wl_s (pc' := 16) ji_175_15 rfl rfl rfl ?_
    refine wl_pf2 ji_175_16 jf_175_78 e1 (by decide) (by omega) rfl rfl (fun h1 g1 k1 => ?_)
    refine wl_s (pc' := 20) ji_175_19 rfl rfl rfl ?_
    exact wl_ri ji_175_20 jr_175 rfl (Or.inl ⟨q, rfl, g1, k1⟩)
  · rw [if_neg q]
    refine wl_if (t := 14) ji_175_9 rfl (x := 0) (by omega) (fun (q2 : ¬ (0 : Int) = 0) => absurd rfl q2) (fun _ => ?_)
    refine wl_s (pc' := 13) ji_175_12 rfl rfl rfl ?_
    exact wl_ri ji_175_13 jr_175 rfl (Or.inr ⟨q, rfl, rfl⟩)
/-- fault of both -/
def fA (x hr f q : Int) : Int := if hr = 0 then -1 else if x = 0 then f else if x = 1 then q else -1
theorem wc_fa {g9 : List Value} {x hr f q law st wn op br ls as_ : Int} {t0 : Nat} (hx : wp_r x) (hh : hr = 0 ∨ hr = 1) (E9 : h[9]? = some (0, g9) ∧ g9[3]? = some (.ref 93)) (E : h[93]? = some (9, [.ref 91, .ref t0, wp_i hr, wp_i f, wp_i q, wp_i law, wp_i st, .ref 94, wp_i wn, wp_i op, wp_i br, wp_i ls, wp_i as_])) : wl_R nn d 54 0 [some (.ref 9), some (wp_i x)] [] h (fun w h1 => h1 = h ∧ w = some (wp_i (fA x hr f q))) := by
  obtain ⟨e9, p3⟩ := E9
  refine wl_s (pc' := 1) ji_54_0 rfl rfl rfl ?_
  refine wl_gf ji_54_1 jf_54_38 e9 p3 ?_
  refine wl_gf ji_54_4 jf_54_84 E rfl ?_
  refine wl_if (t := 12) ji_54_7 rfl (x := hr) (by omega) (fun (q1 : ¬ hr = 0) => ?_) (fun (q1 : ¬ ¬ hr = 0) => ?_)
  · refine wl_s (pc' := 13) ji_54_12 rfl rfl rfl ?_
    by_cases x0 : x = 0
    · subst x0
      rw [show fA 0 hr f q = f from (if_neg q1).trans (if_pos rfl)]
      refine wl_s (pc' := 40) (lv' := [some (.ref 9), some (wp_i 0)]) (st' := []) (h' := h) ji_54_13 rfl rfl rfl ?_
      refine wl_s (pc' := 41) ji_54_40 rfl rfl rfl ?_
      refine wl_gf ji_54_41 jf_54_38 e9 p3 ?_
      refine wl_gf ji_54_44 jf_54_81 E rfl ?_
      exact wl_ri ji_54_47 jr_54 rfl ⟨rfl, rfl⟩
    · by_cases x1 : x = 1
      · subst x1
        rw [show fA 1 hr f q = q from (if_neg q1).trans ((if_neg (by decide)).trans (if_pos rfl))]
        refine wl_s (pc' := 48) (lv' := [some (.ref 9), some (wp_i 1)]) (st' := []) (h' := h) ji_54_13 rfl rfl rfl ?_
        refine wl_s (pc' := 49) ji_54_48 rfl rfl rfl ?_
        refine wl_gf ji_54_49 jf_54_38 e9 p3 ?_
        refine wl_gf ji_54_52 jf_54_88 E rfl ?_
        exact wl_ri ji_54_55 jr_54 rfl ⟨rfl, rfl⟩
      · rw [show fA x hr f q = -1 from (if_neg q1).trans ((if_neg x0).trans (if_neg x1))]
        refine wl_s (pc' := 56) (lv' := [some (.ref 9), some (wp_i x)]) (st' := []) (h' := h) ji_54_13 rfl rfl ?_ ?_
        · have e : Op.lookupswitch.offset [(0, 27), (1, 35)] 43 x = 43 := by
            rw [Op.lookupswitch.offset_cons, if_neg (Ne.symm x0), Op.lookupswitch.offset_cons, if_neg (Ne.symm x1)]
            rfl
          have e2 : (#[(0, 27), (1, 35)] : Array (Int × Int)).toList = [(0, 27), (1, 35)] := rfl
          simp only [mj_st, wp_ti hx, e2]
          rw [e]
          rfl
        · refine wl_s (pc' := 57) ji_54_56 rfl rfl rfl ?_
          exact wl_ri ji_54_57 jr_54 rfl ⟨rfl, rfl⟩
  · rw [show fA x hr f q = -1 from if_pos (by omega)]
    refine wl_s (pc' := 11) ji_54_10 rfl rfl rfl ?_
    exact wl_ri ji_54_11 jr_54 rfl ⟨rfl, rfl⟩
theorem wr_fa {fs : List Value} {x f q : Int} (hx : wp_r x) (e1 : h[138]? = some (11, fs)) (p5 : fs[5]? = some (wp_i f)) (p6 : fs[6]? = some (wp_i q)) : wl_R nn d 214 0 [some (.ref 138), some (wp_i x)] [] h (fun w h1 => h1 = h ∧ w = some (wp_i (fA x 1 f q))) := by
  have fin : ∀ {y : Int}, y = fA x 1 f q → wl_R nn d 214 24 [some (.ref 138), some (wp_i x)] [wp_i y] h (fun w h1 => h1 = h ∧ w = some (wp_i (fA x 1 f q))) := fun e => wl_ri ji_214_24 jr_214 rfl ⟨rfl, by rw [e]⟩
  refine wl_s (pc' := 1) ji_214_0 rfl rfl rfl ?_
  refine wl_if (t := 11) ji_214_1 rfl (x := x) hx (fun (q1 : ¬ x = 0) => ?_) (fun (q1 : ¬ ¬ x = 0) => ?_)
  · refine wl_s (pc' := 12) ji_214_11 rfl rfl rfl ?_
    refine wl_s (pc' := 13) ji_214_12 rfl rfl rfl ?_
    refine wl_icmp (t := 23) ji_214_13 rfl (x := x) (y := 1) hx (by omega) (fun (q2 : ¬ x = 1) => ?_) (fun (q2 : ¬ ¬ x = 1) => ?_)
    · refine wl_s (pc' := 24) ji_214_23 rfl rfl rfl ?_
      exact fin ((if_neg (by decide)).trans ((if_neg q1).trans (if_neg q2))).symm
    · refine wl_s (pc' := 17) ji_214_16 rfl rfl rfl ?_
      refine wl_gf ji_214_17 jf_214_26 e1 p6 ?_
      refine wl_goto (t := 24) ji_214_20 rfl ?_
      exact fin ((if_neg (by decide)).trans ((if_neg q1).trans (if_pos (by omega)))).symm
  · refine wl_s (pc' := 5) ji_214_4 rfl rfl rfl ?_
    refine wl_gf ji_214_5 jf_214_22 e1 p5 ?_
    refine wl_goto (t := 24) ji_214_8 rfl ?_
    exact fin ((if_neg (by decide)).trans (if_pos (by omega))).symm
/-- by of both -/
theorem wc_by {g9 s47 : List Value} {x c : Int} (hx : wp_r x) (hc : 0 ≤ c ∧ c ≤ 4) (E9 : h[9]? = some (0, g9) ∧ g9[0]? = some (.ref 47)) (E : h[47]? = some (2, s47) ∧ s47.length = 8 ∧ s47[6]? = some (wp_i c)) : wl_R nn (d + 1) 55 0 [some (.ref 9), some (wp_i x)] [] h (fun w h1 => ((-1 ≤ x ∧ x < c) ∧ w = some (wp_i 1) ∧ h1[47]? = some (2, s47.set 7 (wp_i x)) ∧ ∀ a, a ≠ 47 → h1[a]? = h[a]?) ∨ (¬ (-1 ≤ x ∧ x < c) ∧ w = some (wp_i 0) ∧ h1 = h)) := by
  obtain ⟨e9, p0⟩ := E9
  obtain ⟨e47, l47, p6⟩ := E
  have it : wl_R nn d 56 0 [some (.ref 47), some (wp_i x)] [] h (fun w h1 => h1 = h ∧ ∃ y : Int, w = some (wp_i y) ∧ (y = 0 ∨ y = 1) ∧ (y = 1 ↔ 0 ≤ x ∧ x < c)) := by
    have no : ¬ (0 ≤ x ∧ x < c) → wl_R nn d 56 16 [some (.ref 47), some (wp_i x)] [] h (fun w h1 => h1 = h ∧ ∃ y : Int, w = some (wp_i y) ∧ (y = 0 ∨ y = 1) ∧ (y = 1 ↔ 0 ≤ x ∧ x < c)) := by
      intro q
      refine wl_s (pc' := 17) ji_56_16 rfl rfl rfl ?_
      exact wl_ri ji_56_17 jr_56 rfl ⟨rfl, 0, rfl, Or.inl rfl, by omega⟩
    refine wl_s (pc' := 1) ji_56_0 rfl rfl rfl ?_
    refine wl_if (t := 16) ji_56_1 rfl (x := x) hx (fun (q : x < 0) => no (by omega)) (fun (q : ¬ x < 0) => ?_)
    refine wl_s (pc' := 5) ji_56_4 rfl rfl rfl ?_
    refine wl_s (pc' := 6) ji_56_5 rfl rfl rfl ?_
    refine wl_gf ji_56_6 jf_56_46 e47 p6 ?_
    refine wl_icmp (t := 16) ji_56_9 rfl (x := x) (y := c) hx (by omega) (fun (q2 : c ≤ x) => no (by omega)) (fun (q2 : ¬ c ≤ x) => ?_)
    refine wl_s (pc' := 13) ji_56_12 rfl rfl rfl ?_
    refine wl_goto (t := 17) ji_56_13 rfl ?_
    exact wl_ri ji_56_17 jr_56 rfl ⟨rfl, 1, rfl, Or.inr rfl, by omega⟩
  have yes : (-1 ≤ x ∧ x < c) → wl_R nn (d + 1) 55 18 [some (.ref 9), some (wp_i x)] [] h (fun w h1 => ((-1 ≤ x ∧ x < c) ∧ w = some (wp_i 1) ∧ h1[47]? = some (2, s47.set 7 (wp_i x)) ∧ ∀ a, a ≠ 47 → h1[a]? = h[a]?) ∨ (¬ (-1 ≤ x ∧ x < c) ∧ w = some (wp_i 0) ∧ h1 = h)) := by
    intro q
    refine wl_s (pc' := 19) ji_55_18 rfl rfl rfl ?_
    refine wl_gf ji_55_19 jf_55_19 e9 p0 ?_
    refine wl_s (pc' := 23) ji_55_22 rfl rfl rfl ?_
    refine wl_pf2 ji_55_23 jf_55_95 e47 (by decide) (by omega) rfl rfl (fun h1 g1 k1 => ?_)
    refine wl_s (pc' := 27) ji_55_26 rfl rfl rfl ?_
    exact wl_ri ji_55_27 jr_55 rfl (Or.inl ⟨q, rfl, g1, k1⟩)
  refine wl_s (pc' := 1) ji_55_0 rfl rfl rfl ?_
  refine wl_s (pc' := 2) ji_55_1 rfl rfl rfl ?_
  refine wl_icmp (t := 18) ji_55_2 rfl (x := x) (y := -1) hx (by omega) (fun (q : x = -1) => yes (by omega)) (fun (q : ¬ x = -1) => ?_)
  refine wl_s (pc' := 6) ji_55_5 rfl rfl rfl ?_
  refine wl_gf ji_55_6 jf_55_19 e9 p0 ?_
  refine wl_s (pc' := 10) ji_55_9 rfl rfl rfl ?_
  refine wl_vc (d := d) (as := [.ref 47, wp_i x]) (rest := []) ji_55_10 jc_55_91 rfl e47 jk_56.symm (Nat.le_of_ble_eq_true rfl) rfl (by rw [jn_56]; rfl) it (fun v1 h1 R => ?_)
  obtain ⟨ee, y, rfl, hy1, hy2⟩ := R
  subst ee
  refine wl_if (t := 18) ji_55_13 rfl (x := y) (by omega) (fun (q2 : ¬ y = 0) => yes (by omega)) (fun (q2 : ¬ ¬ y = 0) => ?_)
  refine wl_s (pc' := 17) ji_55_16 rfl rfl rfl ?_
  exact wl_ri ji_55_17 jr_55 rfl (Or.inr ⟨by omega, rfl, rfl⟩)
theorem wr_by {fs as : List Value} {x c : Int} (hx : wp_r x) (hc : 0 ≤ c ∧ c ≤ 4) (e1 : h[138]? = some (11, fs)) (p0 : fs[0]? = some (.ref 139)) (a0 : h[139]? = some (1000, as)) (a2 : as[2]? = some (wp_i c)) : wl_R nn (d + 1) 215 0 [some (.ref 138), some (wp_i x)] [] h (fun w h1 => ((-1 ≤ x ∧ x < c) ∧ w = some (wp_i 1) ∧ h1[139]? = some (1000, as.set 3 (wp_i x)) ∧ ∀ a, a ≠ 139 → h1[a]? = h[a]?) ∨ (¬ (-1 ≤ x ∧ x < c) ∧ w = some (wp_i 0) ∧ h1 = h)) := by
  refine wl_s (pc' := 1) ji_215_0 rfl rfl rfl ?_
  refine wl_s (pc' := 2) ji_215_1 rfl rfl rfl ?_
  refine wl_s (pc' := 3) ji_215_2 rfl rfl rfl ?_
  refine wl_gf ji_215_3 jf_215_7 e1 p0 ?_
  refine wl_s (pc' := 7) ji_215_6 rfl rfl rfl ?_
  refine wl_al (x := 2) ji_215_7 a0 (by omega) (fun y y1 y2 y3 => ?_)
  have y3 : as[2]? = some y := y3
  rw [a2] at y3
  cases y3
  refine wl_s (pc' := 9) ji_215_8 rfl rfl rfl ?_
  refine wl_isub (x := c) (y := 1) (z := c - 1) ji_215_9 rfl ?_
  refine wl_sc (d := d) (as := [wp_i x, wp_i (-1), wp_i (c - 1)]) (rest := []) ji_215_10 jc_215_66 (Nat.le_of_ble_eq_true rfl) rfl (Nat.le_of_ble_eq_true rfl) rfl (by rw [jn_171]; rfl) (wp_wl (ws_isIn (x := x) (lo := -1) (hi := c - 1) hx (by omega) (by omega))) (fun v1 h2 R => ?_)
  obtain ⟨ee, rfl⟩ := R
  subst ee
  by_cases q : -1 ≤ x ∧ x ≤ c - 1
  · rw [if_pos q]
    refine wl_if (t := 18) ji_215_13 rfl (x := 1) (by omega) (fun _ => ?_) (fun (q2 : ¬ ¬ (1 : Int) = 0) => absurd (by decide) q2)
    refine wl_s (pc' := 19) ji_215_18 rfl rfl rfl ?_
    refine wl_gf ji_215_19 jf_215_7 e1 p0 ?_
    refine wl_s (pc' := 23) ji_215_22 rfl rfl rfl ?_
    refine wl_s (pc' := 24) ji_215_23 rfl rfl rfl ?_
    refine wl_as2 (x := 3) (y := x) ji_215_24 a0 (by omega) (fun h1 x1 x2 g1 k1 => ?_)
    refine wl_s (pc' := 26) ji_215_25 rfl rfl rfl ?_
    exact wl_ri ji_215_26 jr_215 rfl (Or.inl ⟨by omega, rfl, g1, k1⟩)
  · rw [if_neg q]
    refine wl_if (t := 18) ji_215_13 rfl (x := 0) (by omega) (fun (q2 : ¬ (0 : Int) = 0) => absurd rfl q2) (fun _ => ?_)
    refine wl_s (pc' := 17) ji_215_16 rfl rfl rfl ?_
    exact wl_ri ji_215_17 jr_215 rfl (Or.inr ⟨by omega, rfl, rfl⟩)
end FEED2
