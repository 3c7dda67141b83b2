/-! -/
set_option maxRecDepth 100000 in
theorem ji_296_9 : mj_ins 296 9 = some (.iload_n 1) := by decide +kernel
set_option maxRecDepth 100000 in
theorem ji_296_10 : mj_ins 296 10 = some (.ifCond .lt 26) := by decide +kernel
set_option maxRecDepth 100000 in
theorem ji_296_13 : mj_ins 296 13 = some (.aload_n 0) := by decide +kernel
set_option maxRecDepth 100000 in
theorem ji_296_14 : mj_ins 296 14 = some (.getfield 50) := by decide +kernel
set_option maxRecDepth 100000 in
theorem jf_296_50 : mj_fld 296 50 = some (11, 27, (.array .int), false) := by decide +kernel
set_option maxRecDepth 100000 in
theorem ji_296_17 : mj_ins 296 17 = some (.iload_n 1) := by decide +kernel
set_option maxRecDepth 100000 in
theorem ji_296_18 : mj_ins 296 18 = some (.iaload) := by decide +kernel
set_option maxRecDepth 100000 in
theorem ji_296_19 : mj_ins 296 19 = some (.aload_n 0) := by decide +kernel
set_option maxRecDepth 100000 in
theorem ji_296_20 : mj_ins 296 20 = some (.getfield 50) := by decide +kernel
set_option maxRecDepth 100000 in
theorem ji_296_23 : mj_ins 296 23 = some (.iload_n 1) := by decide +kernel
set_option maxRecDepth 100000 in
theorem ji_296_24 : mj_ins 296 24 = some (.iconst 1) := by decide +kernel
set_option maxRecDepth 100000 in
theorem ji_296_25 : mj_ins 296 25 = some (.iadd) := by decide +kernel
set_option maxRecDepth 100000 in
theorem ji_296_26 : mj_ins 296 26 = some (.iaload) := by decide +kernel
set_option maxRecDepth 100000 in
theorem ji_296_27 : mj_ins 296 27 = some (.if_icmp .le 9) := by decide +kernel
set_option maxRecDepth 100000 in
theorem ji_296_30 : mj_ins 296 30 = some (.iinc 1 (-1)) := by decide +kernel
set_option maxRecDepth 100000 in
theorem ji_296_33 : mj_ins 296 33 = some (.goto (-24)) := by decide +kernel
set_option maxRecDepth 100000 in
theorem ji_296_51 : mj_ins 296 51 = some (.aload_n 0) := by decide +kernel
set_option maxRecDepth 100000 in
theorem ji_296_52 : mj_ins 296 52 = some (.getfield 50) := by decide +kernel
set_option maxRecDepth 100000 in
theorem ji_296_55 : mj_ins 296 55 = some (.iload_n 2) := by decide +kernel
set_option maxRecDepth 100000 in
theorem ji_296_56 : mj_ins 296 56 = some (.iaload) := by decide +kernel
set_option maxRecDepth 100000 in
theorem ji_296_57 : mj_ins 296 57 = some (.aload_n 0) := by decide +kernel
set_option maxRecDepth 100000 in
theorem ji_296_58 : mj_ins 296 58 = some (.getfield 50) := by decide +kernel
set_option maxRecDepth 100000 in
theorem ji_296_61 : mj_ins 296 61 = some (.iload_n 1) := by decide +kernel
set_option maxRecDepth 100000 in
theorem ji_296_62 : mj_ins 296 62 = some (.iaload) := by decide +kernel
set_option maxRecDepth 100000 in
theorem ji_296_63 : mj_ins 296 63 = some (.if_icmp .ge 9) := by decide +kernel
set_option maxRecDepth 100000 in
theorem ji_296_66 : mj_ins 296 66 = some (.iinc 2 (-1)) := by decide +kernel
set_option maxRecDepth 100000 in
theorem ji_296_69 : mj_ins 296 69 = some (.goto (-18)) := by decide +kernel
set_option maxRecDepth 100000 in
theorem ji_296_113 : mj_ins 296 113 = some (.iload 4) := by decide +kernel
set_option maxRecDepth 100000 in
theorem ji_296_115 : mj_ins 296 115 = some (.iload 5) := by decide +kernel
set_option maxRecDepth 100000 in
theorem ji_296_117 : mj_ins 296 117 = some (.if_icmp .ge 42) := by decide +kernel
set_option maxRecDepth 100000 in
theorem ji_296_159 : mj_ins 296 159 = some (.iconst 1) := by decide +kernel
set_option maxRecDepth 100000 in
theorem ji_296_160 : mj_ins 296 160 = some (.ireturn) := by decide +kernel
set_option maxRecDepth 100000 in
theorem jr_296 : mj_ret 296 = some .boolean := by decide +kernel
set_option maxRecDepth 100000 in
theorem ji_296_120 : mj_ins 296 120 = some (.aload_n 0) := by decide +kernel
set_option maxRecDepth 100000 in
theorem ji_296_121 : mj_ins 296 121 = some (.getfield 50) := by decide +kernel
set_option maxRecDepth 100000 in
theorem ji_296_124 : mj_ins 296 124 = some (.iload 4) := by decide +kernel
set_option maxRecDepth 100000 in
theorem ji_296_126 : mj_ins 296 126 = some (.iaload) := by decide +kernel
set_option maxRecDepth 100000 in
theorem ji_296_127 : mj_ins 296 127 = some (.istore_n 3) := by decide +kernel
set_option maxRecDepth 100000 in
theorem ji_296_128 : mj_ins 296 128 = some (.aload_n 0) := by decide +kernel
set_option maxRecDepth 100000 in
theorem ji_296_129 : mj_ins 296 129 = some (.getfield 50) := by decide +kernel
set_option maxRecDepth 100000 in
theorem ji_296_132 : mj_ins 296 132 = some (.iload 4) := by decide +kernel
set_option maxRecDepth 100000 in
theorem ji_296_134 : mj_ins 296 134 = some (.aload_n 0) := by decide +kernel
set_option maxRecDepth 100000 in
theorem ji_296_135 : mj_ins 296 135 = some (.getfield 50) := by decide +kernel
set_option maxRecDepth 100000 in
theorem ji_296_138 : mj_ins 296 138 = some (.iload 5) := by decide +kernel
set_option maxRecDepth 100000 in
theorem ji_296_140 : mj_ins 296 140 = some (.iaload) := by decide +kernel
set_option maxRecDepth 100000 in
theorem ji_296_141 : mj_ins 296 141 = some (.iastore) := by decide +kernel
set_option maxRecDepth 100000 in
theorem ji_296_142 : mj_ins 296 142 = some (.aload_n 0) := by decide +kernel
set_option maxRecDepth 100000 in
theorem ji_296_143 : mj_ins 296 143 = some (.getfield 50) := by decide +kernel
set_option maxRecDepth 100000 in
theorem ji_296_146 : mj_ins 296 146 = some (.iload 5) := by decide +kernel
set_option maxRecDepth 100000 in
theorem ji_296_148 : mj_ins 296 148 = some (.iload_n 3) := by decide +kernel
set_option maxRecDepth 100000 in
theorem ji_296_149 : mj_ins 296 149 = some (.iastore) := by decide +kernel
set_option maxRecDepth 100000 in
theorem ji_296_150 : mj_ins 296 150 = some (.iinc 4 1) := by decide +kernel
set_option maxRecDepth 100000 in
theorem ji_296_153 : mj_ins 296 153 = some (.iinc 5 (-1)) := by decide +kernel
set_option maxRecDepth 100000 in
theorem ji_296_156 : mj_ins 296 156 = some (.goto (-43)) := by decide +kernel
set_option maxRecDepth 100000 in
theorem ji_296_0 : mj_ins 296 0 = some (.aload_n 0) := by decide +kernel
set_option maxRecDepth 100000 in
theorem ji_296_1 : mj_ins 296 1 = some (.getfield 7) := by decide +kernel
set_option maxRecDepth 100000 in
theorem jf_296_7 : mj_fld 296 7 = some (11, 0, (.array .int), false) := by decide +kernel
set_option maxRecDepth 100000 in
theorem ji_296_4 : mj_ins 296 4 = some (.iconst 1) := by decide +kernel
set_option maxRecDepth 100000 in
theorem ji_296_5 : mj_ins 296 5 = some (.iaload) := by decide +kernel
set_option maxRecDepth 100000 in
theorem ji_296_6 : mj_ins 296 6 = some (.iconst 2) := by decide +kernel
set_option maxRecDepth 100000 in
theorem ji_296_7 : mj_ins 296 7 = some (.isub) := by decide +kernel
set_option maxRecDepth 100000 in
theorem ji_296_8 : mj_ins 296 8 = some (.istore_n 1) := by decide +kernel
set_option maxRecDepth 100000 in
theorem ji_296_36 : mj_ins 296 36 = some (.iload_n 1) := by decide +kernel
set_option maxRecDepth 100000 in
theorem ji_296_37 : mj_ins 296 37 = some (.ifCond .ge 5) := by decide +kernel
set_option maxRecDepth 100000 in
theorem ji_296_40 : mj_ins 296 40 = some (.iconst 0) := by decide +kernel
set_option maxRecDepth 100000 in
theorem ji_296_41 : mj_ins 296 41 = some (.ireturn) := by decide +kernel
set_option maxRecDepth 100000 in
theorem ji_296_72 : mj_ins 296 72 = some (.aload_n 0) := by decide +kernel
set_option maxRecDepth 100000 in
theorem ji_296_73 : mj_ins 296 73 = some (.getfield 50) := by decide +kernel
set_option maxRecDepth 100000 in
theorem ji_296_76 : mj_ins 296 76 = some (.iload_n 1) := by decide +kernel
set_option maxRecDepth 100000 in
theorem ji_296_77 : mj_ins 296 77 = some (.iaload) := by decide +kernel
set_option maxRecDepth 100000 in
theorem ji_296_78 : mj_ins 296 78 = some (.istore_n 3) := by decide +kernel
set_option maxRecDepth 100000 in
theorem ji_296_79 : mj_ins 296 79 = some (.aload_n 0) := by decide +kernel
set_option maxRecDepth 100000 in
theorem ji_296_80 : mj_ins 296 80 = some (.getfield 50) := by decide +kernel
set_option maxRecDepth 100000 in
theorem ji_296_83 : mj_ins 296 83 = some (.iload_n 1) := by decide +kernel
set_option maxRecDepth 100000 in
theorem ji_296_84 : mj_ins 296 84 = some (.aload_n 0) := by decide +kernel
set_option maxRecDepth 100000 in
theorem ji_296_85 : mj_ins 296 85 = some (.getfield 50) := by decide +kernel
set_option maxRecDepth 100000 in
theorem ji_296_88 : mj_ins 296 88 = some (.iload_n 2) := by decide +kernel
set_option maxRecDepth 100000 in
theorem ji_296_89 : mj_ins 296 89 = some (.iaload) := by decide +kernel
set_option maxRecDepth 100000 in
theorem ji_296_90 : mj_ins 296 90 = some (.iastore) := by decide +kernel
set_option maxRecDepth 100000 in
theorem ji_296_91 : mj_ins 296 91 = some (.aload_n 0) := by decide +kernel
set_option maxRecDepth 100000 in
theorem ji_296_92 : mj_ins 296 92 = some (.getfield 50) := by decide +kernel
set_option maxRecDepth 100000 in
theorem ji_296_95 : mj_ins 296 95 = some (.iload_n 2) := by decide +kernel
set_option maxRecDepth 100000 in
theorem ji_296_96 : mj_ins 296 96 = some (.iload_n 3) := by decide +kernel
set_option maxRecDepth 100000 in
theorem ji_296_97 : mj_ins 296 97 = some (.iastore) := by decide +kernel
set_option maxRecDepth 100000 in
theorem ji_296_98 : mj_ins 296 98 = some (.iload_n 1) := by decide +kernel
set_option maxRecDepth 100000 in
theorem ji_296_99 : mj_ins 296 99 = some (.iconst 1) := by decide +kernel
set_option maxRecDepth 100000 in
theorem ji_296_100 : mj_ins 296 100 = some (.iadd) := by decide +kernel
set_option maxRecDepth 100000 in
theorem ji_296_101 : mj_ins 296 101 = some (.istore 4) := by decide +kernel
set_option maxRecDepth 100000 in
theorem ji_296_103 : mj_ins 296 103 = some (.aload_n 0) := by decide +kernel
set_option maxRecDepth 100000 in
theorem ji_296_104 : mj_ins 296 104 = some (.getfield 7) := by decide +kernel
set_option maxRecDepth 100000 in
theorem ji_296_107 : mj_ins 296 107 = some (.iconst 1) := by decide +kernel
set_option maxRecDepth 100000 in
theorem ji_296_108 : mj_ins 296 108 = some (.iaload) := by decide +kernel
set_option maxRecDepth 100000 in
theorem ji_296_109 : mj_ins 296 109 = some (.iconst 1) := by decide +kernel
set_option maxRecDepth 100000 in
theorem ji_296_110 : mj_ins 296 110 = some (.isub) := by decide +kernel
set_option maxRecDepth 100000 in
theorem ji_296_111 : mj_ins 296 111 = some (.istore 5) := by decide +kernel
set_option maxRecDepth 100000 in
theorem ji_296_42 : mj_ins 296 42 = some (.aload_n 0) := by decide +kernel
set_option maxRecDepth 100000 in
theorem ji_296_43 : mj_ins 296 43 = some (.getfield 7) := by decide +kernel
set_option maxRecDepth 100000 in
theorem ji_296_46 : mj_ins 296 46 = some (.iconst 1) := by decide +kernel
set_option maxRecDepth 100000 in
theorem ji_296_47 : mj_ins 296 47 = some (.iaload) := by decide +kernel
set_option maxRecDepth 100000 in
theorem ji_296_48 : mj_ins 296 48 = some (.iconst 1) := by decide +kernel
set_option maxRecDepth 100000 in
theorem ji_296_49 : mj_ins 296 49 = some (.isub) := by decide +kernel
set_option maxRecDepth 100000 in
theorem ji_296_50 : mj_ins 296 50 = some (.istore_n 2) := by decide +kernel
set_option maxRecDepth 100000 in
theorem ji_295_0 : mj_ins 295 0 = some (.iconst 0) := by decide +kernel
set_option maxRecDepth 100000 in
theorem ji_295_1 : mj_ins 295 1 = some (.istore_n 1) := by decide +kernel
set_option maxRecDepth 100000 in
theorem ji_295_2 : mj_ins 295 2 = some (.iload_n 1) := by decide +kernel
set_option maxRecDepth 100000 in
theorem ji_295_3 : mj_ins 295 3 = some (.bipush 6) := by decide +kernel
set_option maxRecDepth 100000 in
theorem ji_295_5 : mj_ins 295 5 = some (.if_icmp .ge 16) := by decide +kernel
set_option maxRecDepth 100000 in
theorem ji_295_8 : mj_ins 295 8 = some (.aload_n 0) := by decide +kernel
set_option maxRecDepth 100000 in
theorem ji_295_9 : mj_ins 295 9 = some (.getfield 50) := by decide +kernel
set_option maxRecDepth 100000 in
theorem jf_295_50 : mj_fld 295 50 = some (11, 27, (.array .int), false) := by decide +kernel
set_option maxRecDepth 100000 in
theorem ji_295_12 : mj_ins 295 12 = some (.iload_n 1) := by decide +kernel
set_option maxRecDepth 100000 in
theorem ji_295_13 : mj_ins 295 13 = some (.iload_n 1) := by decide +kernel
set_option maxRecDepth 100000 in
theorem ji_295_14 : mj_ins 295 14 = some (.iastore) := by decide +kernel
set_option maxRecDepth 100000 in
theorem ji_295_15 : mj_ins 295 15 = some (.iinc 1 1) := by decide +kernel
set_option maxRecDepth 100000 in
theorem ji_295_18 : mj_ins 295 18 = some (.goto (-16)) := by decide +kernel
set_option maxRecDepth 100000 in
theorem ji_295_21 : mj_ins 295 21 = some (.return_) := by decide +kernel
set_option maxRecDepth 100000 in
theorem jr_295 : mj_ret 295 = none := by decide +kernel
set_option maxRecDepth 100000 in
theorem ji_227_0 : mj_ins 227 0 = some (.aload_n 0) := by decide +kernel
set_option maxRecDepth 100000 in
theorem ji_227_1 : mj_ins 227 1 = some (.getfield 7) := by decide +kernel
set_option maxRecDepth 100000 in
theorem jf_227_7 : mj_fld 227 7 = some (11, 0, (.array .int), false) := by decide +kernel
set_option maxRecDepth 100000 in
theorem ji_227_4 : mj_ins 227 4 = some (.bipush 40) := by decide +kernel
set_option maxRecDepth 100000 in
theorem ji_227_6 : mj_ins 227 6 = some (.iconst 2) := by decide +kernel
set_option maxRecDepth 100000 in
theorem ji_227_7 : mj_ins 227 7 = some (.iload_n 1) := by decide +kernel
set_option maxRecDepth 100000 in
theorem ji_227_8 : mj_ins 227 8 = some (.imul) := by decide +kernel
set_option maxRecDepth 100000 in
theorem ji_227_9 : mj_ins 227 9 = some (.iadd) := by decide +kernel
set_option maxRecDepth 100000 in
theorem ji_227_10 : mj_ins 227 10 = some (.iaload) := by decide +kernel
set_option maxRecDepth 100000 in
theorem ji_227_11 : mj_ins 227 11 = some (.ireturn) := by decide +kernel
set_option maxRecDepth 100000 in
theorem jr_227 : mj_ret 227 = some .int := by decide +kernel
set_option maxRecDepth 100000 in
theorem ji_310_2 : mj_ins 310 2 = some (.aload_n 0) := by decide +kernel
set_option maxRecDepth 100000 in
theorem ji_310_3 : mj_ins 310 3 = some (.getfield 50) := by decide +kernel
set_option maxRecDepth 100000 in
theorem jf_310_50 : mj_fld 310 50 = some (11, 27, (.array .int), false) := by decide +kernel
set_option maxRecDepth 100000 in
theorem ji_310_6 : mj_ins 310 6 = some (.iload_n 2) := by decide +kernel
set_option maxRecDepth 100000 in
theorem ji_310_7 : mj_ins 310 7 = some (.iaload) := by decide +kernel
set_option maxRecDepth 100000 in
theorem ji_310_8 : mj_ins 310 8 = some (.iload_n 1) := by decide +kernel
set_option maxRecDepth 100000 in
theorem ji_310_9 : mj_ins 310 9 = some (.if_icmp .eq 9) := by decide +kernel
set_option maxRecDepth 100000 in
theorem ji_310_18 : mj_ins 310 18 = some (.iload_n 2) := by decide +kernel
set_option maxRecDepth 100000 in
theorem ji_310_19 : mj_ins 310 19 = some (.ireturn) := by decide +kernel
set_option maxRecDepth 100000 in
theorem jr_310 : mj_ret 310 = some .int := by decide +kernel
set_option maxRecDepth 100000 in
theorem ji_310_12 : mj_ins 310 12 = some (.iinc 2 1) := by decide +kernel
set_option maxRecDepth 100000 in
theorem ji_310_15 : mj_ins 310 15 = some (.goto (-13)) := by decide +kernel
set_option maxRecDepth 100000 in
theorem ji_310_0 : mj_ins 310 0 = some (.iconst 0) := by decide +kernel
set_option maxRecDepth 100000 in
theorem ji_310_1 : mj_ins 310 1 = some (.istore_n 2) := by decide +kernel
set_option maxRecDepth 100000 in
theorem ji_309_2 : mj_ins 309 2 = some (.iload_n 1) := by decide +kernel
set_option maxRecDepth 100000 in
theorem ji_309_3 : mj_ins 309 3 = some (.aload_n 0) := by decide +kernel
set_option maxRecDepth 100000 in
theorem ji_309_4 : mj_ins 309 4 = some (.getfield 7) := by decide +kernel
set_option maxRecDepth 100000 in
theorem jf_309_7 : mj_fld 309 7 = some (11, 0, (.array .int), false) := by decide +kernel
set_option maxRecDepth 100000 in
theorem ji_309_7 : mj_ins 309 7 = some (.bipush 6) := by decide +kernel
set_option maxRecDepth 100000 in
theorem ji_309_9 : mj_ins 309 9 = some (.iaload) := by decide +kernel
set_option maxRecDepth 100000 in
theorem ji_309_10 : mj_ins 309 10 = some (.if_icmp .ge 48) := by decide +kernel
set_option maxRecDepth 100000 in
theorem ji_309_58 : mj_ins 309 58 = some (.iconst 1) := by decide +kernel
set_option maxRecDepth 100000 in
theorem ji_309_59 : mj_ins 309 59 = some (.ireturn) := by decide +kernel
set_option maxRecDepth 100000 in
theorem jr_309 : mj_ret 309 = some .boolean := by decide +kernel
set_option maxRecDepth 100000 in
theorem ji_309_13 : mj_ins 309 13 = some (.aload_n 0) := by decide +kernel
set_option maxRecDepth 100000 in
theorem ji_309_14 : mj_ins 309 14 = some (.aload_n 0) := by decide +kernel
set_option maxRecDepth 100000 in
theorem ji_309_15 : mj_ins 309 15 = some (.getfield 7) := by decide +kernel
set_option maxRecDepth 100000 in
theorem ji_309_18 : mj_ins 309 18 = some (.sipush 164) := by decide +kernel
set_option maxRecDepth 100000 in
theorem ji_309_21 : mj_ins 309 21 = some (.iconst 2) := by decide +kernel
set_option maxRecDepth 100000 in
theorem ji_309_22 : mj_ins 309 22 = some (.iload_n 1) := by decide +kernel
set_option maxRecDepth 100000 in
theorem ji_309_23 : mj_ins 309 23 = some (.imul) := by decide +kernel
set_option maxRecDepth 100000 in
theorem ji_309_24 : mj_ins 309 24 = some (.iadd) := by decide +kernel
set_option maxRecDepth 100000 in
theorem ji_309_25 : mj_ins 309 25 = some (.iaload) := by decide +kernel
set_option maxRecDepth 100000 in
theorem ji_309_26 : mj_ins 309 26 = some (.invokevirtual 461) := by decide +kernel
set_option maxRecDepth 100000 in
theorem jc_309_461 : mj_cal 309 461 = some (2, 310, 1) := by decide +kernel
set_option maxRecDepth 100000 in
theorem jk_310 : mj_cls 310 = 11 := by decide +kernel
set_option maxRecDepth 100000 in
theorem jn_310 : mj_nl 310 = 3 := by decide +kernel
set_option maxRecDepth 100000 in
theorem ji_309_29 : mj_ins 309 29 = some (.aload_n 0) := by decide +kernel
set_option maxRecDepth 100000 in
theorem ji_309_30 : mj_ins 309 30 = some (.aload_n 0) := by decide +kernel
set_option maxRecDepth 100000 in
theorem ji_309_31 : mj_ins 309 31 = some (.getfield 7) := by decide +kernel
set_option maxRecDepth 100000 in
theorem ji_309_34 : mj_ins 309 34 = some (.sipush 164) := by decide +kernel
set_option maxRecDepth 100000 in
theorem ji_309_37 : mj_ins 309 37 = some (.iconst 2) := by decide +kernel
set_option maxRecDepth 100000 in
theorem ji_309_38 : mj_ins 309 38 = some (.iload_n 1) := by decide +kernel
set_option maxRecDepth 100000 in
theorem ji_309_39 : mj_ins 309 39 = some (.imul) := by decide +kernel
set_option maxRecDepth 100000 in
theorem ji_309_40 : mj_ins 309 40 = some (.iadd) := by decide +kernel
set_option maxRecDepth 100000 in
theorem ji_309_41 : mj_ins 309 41 = some (.iconst 1) := by decide +kernel
set_option maxRecDepth 100000 in
theorem ji_309_42 : mj_ins 309 42 = some (.iadd) := by decide +kernel
set_option maxRecDepth 100000 in
theorem ji_309_43 : mj_ins 309 43 = some (.iaload) := by decide +kernel
set_option maxRecDepth 100000 in
theorem ji_309_44 : mj_ins 309 44 = some (.invokevirtual 461) := by decide +kernel
set_option maxRecDepth 100000 in
theorem ji_309_47 : mj_ins 309 47 = some (.if_icmp .le 5) := by decide +kernel
set_option maxRecDepth 100000 in
theorem ji_309_52 : mj_ins 309 52 = some (.iinc 1 1) := by decide +kernel
set_option maxRecDepth 100000 in
theorem ji_309_55 : mj_ins 309 55 = some (.goto (-53)) := by decide +kernel
set_option maxRecDepth 100000 in
theorem ji_309_50 : mj_ins 309 50 = some (.iconst 0) := by decide +kernel
set_option maxRecDepth 100000 in
theorem ji_309_51 : mj_ins 309 51 = some (.ireturn) := by decide +kernel
set_option maxRecDepth 100000 in
theorem ji_309_0 : mj_ins 309 0 = some (.iconst 0) := by decide +kernel
set_option maxRecDepth 100000 in
theorem ji_309_1 : mj_ins 309 1 = some (.istore_n 1) := by decide +kernel
/-! the reference's rows; laid by program (wp_row.py) -/
def rr (rl : List Value) (q : List Int) : Prop := q.length = 6 ∧ ∀ j, j < 6 → sx_el rl j = q.getD j 0
theorem gd_set {q : List Int} {i j : Nat} {y : Int} (hi : i < q.length) : (q.set i y).getD j 0 = if j = i then y else q.getD j 0 := by
  rw [List.getD_eq_getElem?_getD, List.getD_eq_getElem?_getD]
  by_cases e : j = i
  · subst e
    rw [List.getElem?_set_self hi, if_pos rfl]
    rfl
  · rw [List.getElem?_set_ne (Ne.symm e), if_neg e]
theorem rr_set {rl : List Value} {q : List Int} (hr : rr rl q) (hl : rl.length = 6) {j : Nat} {y : Int} (hj : j < 6) (hy : wp_r y) : rr (rl.set j (wp_i y)) (q.set j y) := by
  refine ⟨by rw [List.length_set]; exact hr.1, fun k hk => ?_⟩
  rw [pv_el_set (by omega) hy, gd_set (by rw [hr.1]; exact hj), hr.2 k hk]
theorem rv_qb {M : List Nat} {h0 h : mj_H} {a R X A : Nat} {P : Int} {rl tl : List Value} {q : List Int} (V : rv M h0 h a R X A P rl tl) (hr : rr rl q) {j : Nat} (hj : j < 6) : 0 ≤ q.getD j 0 ∧ q.getD j 0 ≤ 5 := by
  obtain ⟨hH, -, -, -, tR, -, -, -, fs, as, -, -, -, -, f5, -⟩ := V
  have := (rv_el hH tR (n := 6) (lo := 0) (hi := 5) rfl f5).2 j hj
  rw [← hr.2 j hj]
  exact this.2
theorem nr_i_sp {q : List Int} {i : Nat} : ∀ {k : Nat}, nr_i q k = (i : Int) → i < k ∧ q.getD i 0 ≤ q.getD (i + 1) 0
  | 0, h => by
    unfold nr_i at h
    omega
  | k + 1, h => by
    unfold nr_i at h
    split at h
    · rename_i hc
      have e : i = k := by omega
      subst e
      exact ⟨by omega, hc⟩
    · have := nr_i_sp h
      omega
theorem nr_i_b {q : List Int} : ∀ {k : Nat}, -1 ≤ nr_i q k ∧ nr_i q k < (k : Int) ∨ nr_i q k = -1
  | 0 => Or.inr rfl
  | k + 1 => by
    unfold nr_i
    split
    · omega
    · have := nr_i_b (q := q) (k := k)
      omega
theorem nr_k_b {q : List Int} {v : Int} : ∀ {k : Nat}, 0 < k → nr_k q v k < k
  | k + 1, _ => by
    unfold nr_k
    split
    · omega
    · cases k with
      | zero => exact Nat.zero_lt_one
      | succ k =>
        have := nr_k_b (q := q) (v := v) (k := k + 1) (by omega)
        omega
theorem nx9 {d : Nat} {M : List Nat} {h0 h : mj_H} {a R X A PN : Nat} {rl tl : List Value} {q : List Int} {x2 x3 x4 x5 : Option Value} {Q : Option Value → mj_H → Prop} (V : rv M h0 h a R X A (PN : Int) rl tl) (hr : rr rl q) : ∀ {k : Nat} {i : Int}, k ≤ 5 → i = (k : Int) - 1 → wp_R d 296 36 [some (.ref a), some (wp_i (nr_i q k)), x2, x3, x4, x5] [] h Q → wp_R d 296 9 [some (.ref a), some (wp_i i), x2, x3, x4, x5] [] h Q := by
  intro k
  induction k with
  | zero =>
    intro i _ hi hQ
    have hi : i = -1 := by omega
    subst hi
    refine wp_s (pc' := 10) ji_296_9 rfl rfl rfl ?_
    refine wp_if (t := 36) ji_296_10 rfl (by omega) (fun (hb1 : ((-1) : Int) < 0) => ?_) (fun (hb1 : ¬ (((-1) : Int) < 0)) => (by exfalso; omega))
    exact hQ
  | succ k ih =>
    intro i hk hi hQ
    have hi : i = (k : Int) := by omega
    subst hi
    refine wp_s (pc' := 10) ji_296_9 rfl rfl rfl ?_
    refine wp_if (t := 36) ji_296_10 rfl (by omega) (fun (hb1 : ((k : Int) : Int) < 0) => (by exfalso; omega)) (fun (hb1 : ¬ (((k : Int) : Int) < 0)) => ?_)
    refine wp_s (pc' := 14) ji_296_13 rfl rfl rfl ?_
    refine rv_gR V ji_296_14 jf_296_50 ?_
    refine wp_s (pc' := 18) ji_296_17 rfl rfl rfl ?_
    refine rv_lr V (x := (k : Int)) (y := q.getD k 0) ji_296_18 (by omega) (by omega) (hr.2 k (by omega)) (fun l2 u3 => ?_)
    refine wp_s (pc' := 20) ji_296_19 rfl rfl rfl ?_
    refine rv_gR V ji_296_20 jf_296_50 ?_
    refine wp_s (pc' := 24) ji_296_23 rfl rfl rfl ?_
    refine wp_s (pc' := 25) ji_296_24 rfl rfl rfl ?_
    refine wp_iadd (x := (k : Int)) (y := 1) (z := (k : Int) + 1) ji_296_25 (by omega) ?_
    refine rv_lr V (x := (k : Int) + 1) (y := q.getD (k + 1) 0) ji_296_26 (by omega) (by omega) (hr.2 (k + 1) (by omega)) (fun l4 u5 => ?_)
    refine wp_icmp (t := 36) ji_296_27 rfl (by omega) (by omega) (fun (hb6 : (q.getD k 0 : Int) ≤ (q.getD (k + 1) 0)) => ?_) (fun (hb6 : ¬ ((q.getD k 0 : Int) ≤ (q.getD (k + 1) 0))) => ?_)
    · rw [nr_i, if_pos (by omega)] at hQ
      exact hQ
    · refine wp_iinc (x := (k : Int)) (z := (k : Int) - 1) (lv' := [some (.ref a), some (wp_i ((k : Int) - 1)), x2, x3, x4, x5]) ji_296_30 rfl (Nat.le_of_ble_eq_true rfl) (by omega) rfl ?_
      refine wp_goto (t := 9) ji_296_33 rfl ?_
      rw [nr_i, if_neg (by omega)] at hQ
      exact ih (by omega) (by omega) hQ
theorem nx51 {d : Nat} {M : List Nat} {h0 h : mj_H} {a R X A PN : Nat} {rl tl : List Value} {q : List Int} {x3 x4 x5 : Option Value} {i : Nat} (hi : i < 6) {Q : Option Value → mj_H → Prop} (V : rv M h0 h a R X A (PN : Int) rl tl) (hr : rr rl q) : ∀ {kk : Nat} {c : Int}, kk ≤ 6 → c = (kk : Int) - 1 → (∃ j, j < kk ∧ q.getD i 0 ≤ q.getD j 0) → wp_R d 296 72 [some (.ref a), some (wp_i (i : Int)), some (wp_i (nr_k q (q.getD i 0) kk : Int)), x3, x4, x5] [] h Q → wp_R d 296 51 [some (.ref a), some (wp_i (i : Int)), some (wp_i c), x3, x4, x5] [] h Q := by
  intro kk
  induction kk with
  | zero =>
    intro c _ _ hj
    obtain ⟨j, j1, -⟩ := hj
    omega
  | succ k ih =>
    intro c hk hc hj hQ
    obtain ⟨j, j1, j2⟩ := hj
    have hc : c = (k : Int) := by omega
    subst hc
    have qb := rv_qb V hr hi
    refine wp_s (pc' := 52) ji_296_51 rfl rfl rfl ?_
    refine rv_gR V ji_296_52 jf_296_50 ?_
    refine wp_s (pc' := 56) ji_296_55 rfl rfl rfl ?_
    refine rv_lr V (x := (k : Int)) (y := q.getD k 0) ji_296_56 (by omega) (by omega) (hr.2 k (by omega)) (fun l1 u2 => ?_)
    refine wp_s (pc' := 58) ji_296_57 rfl rfl rfl ?_
    refine rv_gR V ji_296_58 jf_296_50 ?_
    refine wp_s (pc' := 62) ji_296_61 rfl rfl rfl ?_
    refine rv_lr V (x := (i : Int)) (y := q.getD i 0) ji_296_62 (by omega) (by omega) (hr.2 i (by omega)) (fun l3 u4 => ?_)
    refine wp_icmp (t := 72) ji_296_63 rfl (by omega) (by omega) (fun (hb5 : (q.getD i 0 : Int) ≤ (q.getD k 0)) => ?_) (fun (hb5 : ¬ ((q.getD i 0 : Int) ≤ (q.getD k 0))) => ?_)
    · rw [nr_k, if_pos (by omega)] at hQ
      exact hQ
    · refine wp_iinc (x := (k : Int)) (z := (k : Int) - 1) (lv' := [some (.ref a), some (wp_i ((i : Int))), some (wp_i ((k : Int) - 1)), x3, x4, x5]) ji_296_66 rfl (Nat.le_of_ble_eq_true rfl) (by omega) rfl ?_
      refine wp_goto (t := 51) ji_296_69 rfl ?_
      rw [nr_k, if_neg (by omega)] at hQ
      have jk : j ≠ k := fun e => by rw [e] at j2; omega
      exact ih (by omega) (by omega) ⟨j, by omega, j2⟩ hQ
theorem nx113 {d : Nat} {M : List Nat} (hM : 10069 ∈ M) {h0 : mj_H} {a R X A PN : Nat} {tl : List Value} : ∀ (n : Nat) (h : mj_H) (q : List Int) (rl : List Value) {x1 x3 : Option Value} {k2 : Int} {x y : Nat}, rr rl q → rv M h0 h a R X A (PN : Int) rl tl → x ≤ 6 → y ≤ 5 → y < x + 2 * n → wp_R d 296 113 [some (.ref a), x1, some (wp_i k2), x3, some (wp_i (x : Int)), some (wp_i (y : Int))] [] h (fun v h1 => v = some (wp_i 1) ∧ ∃ rl', rv M h0 h1 a R X A (PN : Int) rl' tl ∧ rr rl' (nr_r n q x y)) := by
  intro n
  induction n with
  | zero =>
    intro h q rl x1 x3 k2 x y hr V hx hy hn
    refine wp_s (pc' := 115) ji_296_113 rfl rfl rfl ?_
    refine wp_s (pc' := 117) ji_296_115 rfl rfl rfl ?_
    refine wp_icmp (t := 159) ji_296_117 rfl (by omega) (by omega) (fun (hb1 : ((y : Int) : Int) ≤ ((x : Int))) => ?_) (fun (hb1 : ¬ (((y : Int) : Int) ≤ ((x : Int)))) => (by exfalso; omega))
    refine wp_s (pc' := 160) ji_296_159 rfl rfl rfl ?_
    exact wp_ri ji_296_160 jr_296 rfl ⟨rfl, rl, V, hr⟩
  | succ n ih =>
    intro h q rl x1 x3 k2 x y hr V hx hy hn
    have hlen := (rv_len V).1
    have qx := rv_qb V hr (j := y) (by omega)
    refine wp_s (pc' := 115) ji_296_113 rfl rfl rfl ?_
    refine wp_s (pc' := 117) ji_296_115 rfl rfl rfl ?_
    refine wp_icmp (t := 159) ji_296_117 rfl (by omega) (by omega) (fun (hb1 : ((y : Int) : Int) ≤ ((x : Int))) => ?_) (fun (hb1 : ¬ (((y : Int) : Int) ≤ ((x : Int)))) => ?_)
    · refine wp_s (pc' := 160) ji_296_159 rfl rfl rfl ?_
      exact wp_ri ji_296_160 jr_296 rfl ⟨rfl, rl, V, by rw [nr_r, if_neg (by omega)]; exact hr⟩
    · refine wp_s (pc' := 121) ji_296_120 rfl rfl rfl ?_
      refine rv_gR V ji_296_121 jf_296_50 ?_
      refine wp_s (pc' := 126) ji_296_124 rfl rfl rfl ?_
      refine rv_lr V (x := (x : Int)) (y := q.getD x 0) ji_296_126 (by omega) (by omega) (hr.2 x (by omega)) (fun l2 u3 => ?_)
      refine wp_s (pc' := 128) (lv' := [some (.ref a), x1, some (wp_i k2), some (wp_i (q.getD x 0)), some (wp_i ((x : Int))), some (wp_i ((y : Int)))]) ji_296_127 rfl rfl rfl ?_
      refine wp_s (pc' := 129) ji_296_128 rfl rfl rfl ?_
      refine rv_gR V ji_296_129 jf_296_50 ?_
      refine wp_s (pc' := 134) ji_296_132 rfl rfl rfl ?_
      refine wp_s (pc' := 135) ji_296_134 rfl rfl rfl ?_
      refine rv_gR V ji_296_135 jf_296_50 ?_
      refine wp_s (pc' := 140) ji_296_138 rfl rfl rfl ?_
      refine rv_lr V (x := (y : Int)) (y := q.getD y 0) ji_296_140 (by omega) (by omega) (hr.2 y (by omega)) (fun l4 u5 => ?_)
      refine rv_sr hM V (x := (x : Int)) (y := q.getD y 0) ji_296_141 (by omega) (by omega) (by omega) (fun h V => ?_)
      have V : rv M h0 h a R X A (PN : Int) (rl.set x (wp_i (q.getD y 0))) tl := V
      refine wp_s (pc' := 143) ji_296_142 rfl rfl rfl ?_
      refine rv_gR V ji_296_143 jf_296_50 ?_
      refine wp_s (pc' := 148) ji_296_146 rfl rfl rfl ?_
      refine wp_s (pc' := 149) ji_296_148 rfl rfl rfl ?_
      refine rv_sr hM V (x := (y : Int)) (y := q.getD x 0) ji_296_149 (by omega) (by omega) (by omega) (fun h V => ?_)
      have V : rv M h0 h a R X A (PN : Int) ((rl.set x (wp_i (q.getD y 0))).set y (wp_i (q.getD x 0))) tl := V
      refine wp_iinc (x := (x : Int)) (z := ((x + 1 : Nat) : Int)) (lv' := [some (.ref a), x1, some (wp_i k2), some (wp_i (q.getD x 0)), some (wp_i (((x + 1 : Nat) : Int))), some (wp_i ((y : Int)))]) ji_296_150 rfl (Nat.le_of_ble_eq_true rfl) (by omega) rfl ?_
      refine wp_iinc (x := (y : Int)) (z := ((y - 1 : Nat) : Int)) (lv' := [some (.ref a), x1, some (wp_i k2), some (wp_i (q.getD x 0)), some (wp_i (((x + 1 : Nat) : Int))), some (wp_i (((y - 1 : Nat) : Int)))]) ji_296_153 rfl (Nat.le_of_ble_eq_true rfl) (by omega) rfl ?_
      refine wp_goto (t := 113) ji_296_156 rfl ?_
      refine wp_mono (ih h (nr_s q x y) _ (rr_set (rr_set hr hlen (by omega) (by omega)) (by rw [List.length_set]; exact hlen) (by omega) (by omega)) V (by omega) (by omega) (by omega)) ?_
      rintro v h1 ⟨e1, rl1, e2, e3⟩
      refine ⟨e1, rl1, e2, ?_⟩
      rw [nr_r, if_pos (by omega)]
      exact e3
theorem ws_nextRow {d : Nat} {M : List Nat} {h0 h : mj_H} {a R X A PN : Nat} {rl tl : List Value} {q : List Int} (hM : 10069 ∈ M) (V : rv M h0 h a R X A (PN : Int) rl tl) (hr : rr rl q) : wp_R d 296 0 [some (.ref a), none, none, none, none, none] [] h (fun v h1 => (nr PN q = none ∧ v = some (wp_i 0) ∧ h1 = h) ∨ ∃ q', nr PN q = some q' ∧ v = some (wp_i 1) ∧ ∃ rl', rv M h0 h1 a R X A (PN : Int) rl' tl ∧ rr rl' q') := by
  have hP : (0 : Int) ≤ (PN : Int) ∧ (PN : Int) ≤ 6 := V.2.2.2.2.2.2.2.1
  have hlen := (rv_len V).1
  have hnb := nr_i_b (q := q) (k := PN - 1)
  have hrest : wp_R d 296 36 [some (.ref a), some (wp_i (nr_i q (PN - 1))), none, none, none, none] [] h (fun v h1 => (nr PN q = none ∧ v = some (wp_i 0) ∧ h1 = h) ∨ ∃ q', nr PN q = some q' ∧ v = some (wp_i 1) ∧ ∃ rl', rv M h0 h1 a R X A (PN : Int) rl' tl ∧ rr rl' q') := by
    by_cases hneg : nr_i q (PN - 1) < 0
    · refine wp_s (pc' := 37) ji_296_36 rfl rfl rfl ?_
      refine wp_if (t := 42) ji_296_37 rfl (by omega) (fun (hb1 : (0 : Int) ≤ (nr_i q (PN - 1))) => (by exfalso; omega)) (fun (hb1 : ¬ ((0 : Int) ≤ (nr_i q (PN - 1)))) => ?_)
      refine wp_s (pc' := 41) ji_296_40 rfl rfl rfl ?_
      exact wp_ri ji_296_41 jr_296 rfl (Or.inl ⟨by rw [nr, if_pos hneg], rfl, rfl⟩)
    · obtain ⟨i, hni⟩ : ∃ i : Nat, nr_i q (PN - 1) = (i : Int) := ⟨(nr_i q (PN - 1)).toNat, by omega⟩
      have hnp := nr_i_sp hni
      rw [hni]
      refine wp_s (pc' := 37) ji_296_36 rfl rfl rfl ?_
      refine wp_if (t := 42) ji_296_37 rfl (by omega) (fun (hb1 : (0 : Int) ≤ ((i : Int))) => ?_) (fun (hb1 : ¬ ((0 : Int) ≤ ((i : Int)))) => (by exfalso; omega))
      refine wp_s (pc' := 43) ji_296_42 rfl rfl rfl ?_
      refine rv_gA V ji_296_43 jf_296_7 ?_
      refine wp_s (pc' := 47) ji_296_46 rfl rfl rfl ?_
      refine rv_P V ji_296_47 ?_
      refine wp_s (pc' := 49) ji_296_48 rfl rfl rfl ?_
      refine wp_isub (x := (PN : Int)) (y := 1) (z := ((PN - 1 : Nat) : Int)) ji_296_49 (by omega) ?_
      refine wp_s (pc' := 51) (lv' := [some (.ref a), some (wp_i ((i : Int))), some (wp_i (((PN - 1 : Nat) : Int))), none, none, none]) ji_296_50 rfl rfl rfl ?_
      refine nx51 (by omega) V hr (kk := PN) (by omega) (by omega) ⟨i + 1, by omega, hnp.2⟩ ?_
      obtain ⟨kk, hkk⟩ : ∃ kk, nr_k q (q.getD i 0) PN = kk := ⟨_, rfl⟩
      have hkb := nr_k_b (q := q) (v := q.getD i 0) (k := PN) (by omega)
      rw [hkk] at hkb ⊢
      have qi := rv_qb V hr (j := i) (by omega)
      have qk := rv_qb V hr (j := kk) (by omega)
      refine wp_s (pc' := 73) ji_296_72 rfl rfl rfl ?_
      refine rv_gR V ji_296_73 jf_296_50 ?_
      refine wp_s (pc' := 77) ji_296_76 rfl rfl rfl ?_
      refine rv_lr V (x := (i : Int)) (y := q.getD i 0) ji_296_77 (by omega) (by omega) (hr.2 i (by omega)) (fun l1 u2 => ?_)
      refine wp_s (pc' := 79) (lv' := [some (.ref a), some (wp_i ((i : Int))), some (wp_i ((kk : Int))), some (wp_i (q.getD i 0)), none, none]) ji_296_78 rfl rfl rfl ?_
      refine wp_s (pc' := 80) ji_296_79 rfl rfl rfl ?_
      refine rv_gR V ji_296_80 jf_296_50 ?_
      refine wp_s (pc' := 84) ji_296_83 rfl rfl rfl ?_
      refine wp_s (pc' := 85) ji_296_84 rfl rfl rfl ?_
      refine rv_gR V ji_296_85 jf_296_50 ?_
      refine wp_s (pc' := 89) ji_296_88 rfl rfl rfl ?_
      refine rv_lr V (x := (kk : Int)) (y := q.getD kk 0) ji_296_89 (by omega) (by omega) (hr.2 kk (by omega)) (fun l3 u4 => ?_)
      refine rv_sr hM V (x := (i : Int)) (y := q.getD kk 0) ji_296_90 (by omega) (by omega) (by omega) (fun h V => ?_)
      have V : rv M h0 h a R X A (PN : Int) (rl.set i (wp_i (q.getD kk 0))) tl := V
      refine wp_s (pc' := 92) ji_296_91 rfl rfl rfl ?_
      refine rv_gR V ji_296_92 jf_296_50 ?_
      refine wp_s (pc' := 96) ji_296_95 rfl rfl rfl ?_
      refine wp_s (pc' := 97) ji_296_96 rfl rfl rfl ?_
      refine rv_sr hM V (x := (kk : Int)) (y := q.getD i 0) ji_296_97 (by omega) (by omega) (by omega) (fun h V => ?_)
      have V : rv M h0 h a R X A (PN : Int) ((rl.set i (wp_i (q.getD kk 0))).set kk (wp_i (q.getD i 0))) tl := V
      refine wp_s (pc' := 99) ji_296_98 rfl rfl rfl ?_
      refine wp_s (pc' := 100) ji_296_99 rfl rfl rfl ?_
      refine wp_iadd (x := (i : Int)) (y := 1) (z := ((i + 1 : Nat) : Int)) ji_296_100 (by omega) ?_
      refine wp_s (pc' := 103) (lv' := [some (.ref a), some (wp_i ((i : Int))), some (wp_i ((kk : Int))), some (wp_i (q.getD i 0)), some (wp_i (((i + 1 : Nat) : Int))), none]) ji_296_101 rfl rfl rfl ?_
      refine wp_s (pc' := 104) ji_296_103 rfl rfl rfl ?_
      refine rv_gA V ji_296_104 jf_296_7 ?_
      refine wp_s (pc' := 108) ji_296_107 rfl rfl rfl ?_
      refine rv_P V ji_296_108 ?_
      refine wp_s (pc' := 110) ji_296_109 rfl rfl rfl ?_
      refine wp_isub (x := (PN : Int)) (y := 1) (z := ((PN - 1 : Nat) : Int)) ji_296_110 (by omega) ?_
      refine wp_s (pc' := 113) (lv' := [some (.ref a), some (wp_i ((i : Int))), some (wp_i ((kk : Int))), some (wp_i (q.getD i 0)), some (wp_i (((i + 1 : Nat) : Int))), some (wp_i (((PN - 1 : Nat) : Int)))]) ji_296_111 rfl rfl rfl ?_
      refine wp_mono (nx113 hM 3 h (nr_s q i kk) _ (rr_set (rr_set hr hlen (by omega) (by omega)) (by rw [List.length_set]; exact hlen) (by omega) (by omega)) V (by omega) (by omega) (by omega)) ?_
      rintro v h1 ⟨e1, rl1, e2, e3⟩
      refine Or.inr ⟨_, ?_, e1, rl1, e2, e3⟩
      rw [nr, if_neg (by omega), hni]
      show some (nr_r 3 (nr_s q i (nr_k q (q.getD i 0) PN)) (i + 1) (PN - 1)) = _
      rw [hkk]
  by_cases hP0 : PN = 0
  · have hi2 : (PN : Int) - 2 < 0 := by omega
    refine wp_s (pc' := 1) ji_296_0 rfl rfl rfl ?_
    refine rv_gA V ji_296_1 jf_296_7 ?_
    refine wp_s (pc' := 5) ji_296_4 rfl rfl rfl ?_
    refine rv_P V ji_296_5 ?_
    refine wp_s (pc' := 7) ji_296_6 rfl rfl rfl ?_
    refine wp_isub (x := (PN : Int)) (y := 2) (z := (PN : Int) - 2) ji_296_7 (by omega) ?_
    refine wp_s (pc' := 9) (lv' := [some (.ref a), some (wp_i ((PN : Int) - 2)), none, none, none, none]) ji_296_8 rfl rfl rfl ?_
    refine wp_s (pc' := 10) ji_296_9 rfl rfl rfl ?_
    refine wp_if (t := 36) ji_296_10 rfl (by omega) (fun (hb3 : ((PN : Int) - 2 : Int) < 0) => ?_) (fun (hb3 : ¬ (((PN : Int) - 2 : Int) < 0)) => (by exfalso; omega))
    refine wp_s (pc' := 37) ji_296_36 rfl rfl rfl ?_
    refine wp_if (t := 42) ji_296_37 rfl (by omega) (fun (hb4 : (0 : Int) ≤ ((PN : Int) - 2)) => (by exfalso; omega)) (fun (hb4 : ¬ ((0 : Int) ≤ ((PN : Int) - 2))) => ?_)
    refine wp_s (pc' := 41) ji_296_40 rfl rfl rfl ?_
    exact wp_ri ji_296_41 jr_296 rfl (Or.inl ⟨by rw [nr, if_pos (by rw [hP0]; exact (by decide : (-1 : Int) < 0))], rfl, rfl⟩)
  · refine wp_s (pc' := 1) ji_296_0 rfl rfl rfl ?_
    refine rv_gA V ji_296_1 jf_296_7 ?_
    refine wp_s (pc' := 5) ji_296_4 rfl rfl rfl ?_
    refine rv_P V ji_296_5 ?_
    refine wp_s (pc' := 7) ji_296_6 rfl rfl rfl ?_
    refine wp_isub (x := (PN : Int)) (y := 2) (z := (PN : Int) - 2) ji_296_7 (by omega) ?_
    refine wp_s (pc' := 9) (lv' := [some (.ref a), some (wp_i ((PN : Int) - 2)), none, none, none, none]) ji_296_8 rfl rfl rfl ?_
    refine nx9 V hr (k := PN - 1) (by omega) (by omega) ?_
    exact hrest
theorem ws_firstRow {d : Nat} {M : List Nat} {h0 h : mj_H} {a R X A PN : Nat} {rl tl : List Value} (hM : 10069 ∈ M) (V : rv M h0 h a R X A (PN : Int) rl tl) : wp_R d 295 0 [some (.ref a), none] [] h (fun v h1 => v = none ∧ ∃ rl', rv M h0 h1 a R X A (PN : Int) rl' tl ∧ rr rl' [0, 1, 2, 3, 4, 5]) := by
  have hlen := (rv_len V).1
  refine wp_s (pc' := 1) ji_295_0 rfl rfl rfl ?_
  refine wp_s (pc' := 2) (lv' := [some (.ref a), some (wp_i 0)]) ji_295_1 rfl rfl rfl ?_
  refine wp_s (pc' := 3) ji_295_2 rfl rfl rfl ?_
  refine wp_bp ji_295_3 rfl ?_
  refine wp_icmp (t := 21) ji_295_5 rfl (by omega) (by omega) (fun (hb1 : (6 : Int) ≤ 0) => (by exfalso; omega)) (fun (hb1 : ¬ ((6 : Int) ≤ 0)) => ?_)
  refine wp_s (pc' := 9) ji_295_8 rfl rfl rfl ?_
  refine rv_gR V ji_295_9 jf_295_50 ?_
  refine wp_s (pc' := 13) ji_295_12 rfl rfl rfl ?_
  refine wp_s (pc' := 14) ji_295_13 rfl rfl rfl ?_
  refine rv_sr hM V (x := 0) (y := 0) ji_295_14 (by omega) (by omega) (by omega) (fun h V => ?_)
  have V : rv M h0 h a R X A (PN : Int) (rl.set 0 (wp_i 0)) tl := V
  refine wp_iinc (x := 0) (z := 1) (lv' := [some (.ref a), some (wp_i 1)]) ji_295_15 rfl (Nat.le_of_ble_eq_true rfl) (by omega) rfl ?_
  refine wp_goto (t := 2) ji_295_18 rfl ?_
  refine wp_s (pc' := 3) ji_295_2 rfl rfl rfl ?_
  refine wp_bp ji_295_3 rfl ?_
  refine wp_icmp (t := 21) ji_295_5 rfl (by omega) (by omega) (fun (hb2 : (6 : Int) ≤ 1) => (by exfalso; omega)) (fun (hb2 : ¬ ((6 : Int) ≤ 1)) => ?_)
  refine wp_s (pc' := 9) ji_295_8 rfl rfl rfl ?_
  refine rv_gR V ji_295_9 jf_295_50 ?_
  refine wp_s (pc' := 13) ji_295_12 rfl rfl rfl ?_
  refine wp_s (pc' := 14) ji_295_13 rfl rfl rfl ?_
  refine rv_sr hM V (x := 1) (y := 1) ji_295_14 (by omega) (by omega) (by omega) (fun h V => ?_)
  have V : rv M h0 h a R X A (PN : Int) ((rl.set 0 (wp_i 0)).set 1 (wp_i 1)) tl := V
  refine wp_iinc (x := 1) (z := 2) (lv' := [some (.ref a), some (wp_i 2)]) ji_295_15 rfl (Nat.le_of_ble_eq_true rfl) (by omega) rfl ?_
  refine wp_goto (t := 2) ji_295_18 rfl ?_
  refine wp_s (pc' := 3) ji_295_2 rfl rfl rfl ?_
  refine wp_bp ji_295_3 rfl ?_
  refine wp_icmp (t := 21) ji_295_5 rfl (by omega) (by omega) (fun (hb3 : (6 : Int) ≤ 2) => (by exfalso; omega)) (fun (hb3 : ¬ ((6 : Int) ≤ 2)) => ?_)
  refine wp_s (pc' := 9) ji_295_8 rfl rfl rfl ?_
  refine rv_gR V ji_295_9 jf_295_50 ?_
  refine wp_s (pc' := 13) ji_295_12 rfl rfl rfl ?_
  refine wp_s (pc' := 14) ji_295_13 rfl rfl rfl ?_
  refine rv_sr hM V (x := 2) (y := 2) ji_295_14 (by omega) (by omega) (by omega) (fun h V => ?_)
  have V : rv M h0 h a R X A (PN : Int) (((rl.set 0 (wp_i 0)).set 1 (wp_i 1)).set 2 (wp_i 2)) tl := V
  refine wp_iinc (x := 2) (z := 3) (lv' := [some (.ref a), some (wp_i 3)]) ji_295_15 rfl (Nat.le_of_ble_eq_true rfl) (by omega) rfl ?_
  refine wp_goto (t := 2) ji_295_18 rfl ?_
  refine wp_s (pc' := 3) ji_295_2 rfl rfl rfl ?_
  refine wp_bp ji_295_3 rfl ?_
  refine wp_icmp (t := 21) ji_295_5 rfl (by omega) (by omega) (fun (hb4 : (6 : Int) ≤ 3) => (by exfalso; omega)) (fun (hb4 : ¬ ((6 : Int) ≤ 3)) => ?_)
  refine wp_s (pc' := 9) ji_295_8 rfl rfl rfl ?_
  refine rv_gR V ji_295_9 jf_295_50 ?_
  refine wp_s (pc' := 13) ji_295_12 rfl rfl rfl ?_
  refine wp_s (pc' := 14) ji_295_13 rfl rfl rfl ?_
  refine rv_sr hM V (x := 3) (y := 3) ji_295_14 (by omega) (by omega) (by omega) (fun h V => ?_)
  have V : rv M h0 h a R X A (PN : Int) ((((rl.set 0 (wp_i 0)).set 1 (wp_i 1)).set 2 (wp_i 2)).set 3 (wp_i 3)) tl := V
  refine wp_iinc (x := 3) (z := 4) (lv' := [some (.ref a), some (wp_i 4)]) ji_295_15 rfl (Nat.le_of_ble_eq_true rfl) (by omega) rfl ?_
  refine wp_goto (t := 2) ji_295_18 rfl ?_
  refine wp_s (pc' := 3) ji_295_2 rfl rfl rfl ?_
  refine wp_bp ji_295_3 rfl ?_
  refine wp_icmp (t := 21) ji_295_5 rfl (by omega) (by omega) (fun (hb5 : (6 : Int) ≤ 4) => (by exfalso; omega)) (fun (hb5 : ¬ ((6 : Int) ≤ 4)) => ?_)
  refine wp_s (pc' := 9) ji_295_8 rfl rfl rfl ?_
  refine rv_gR V ji_295_9 jf_295_50 ?_
  refine wp_s (pc' := 13) ji_295_12 rfl rfl rfl ?_
  refine wp_s (pc' := 14) ji_295_13 rfl rfl rfl ?_
  refine rv_sr hM V (x := 4) (y := 4) ji_295_14 (by omega) (by omega) (by omega) (fun h V => ?_)
  have V : rv M h0 h a R X A (PN : Int) (((((rl.set 0 (wp_i 0)).set 1 (wp_i 1)).set 2 (wp_i 2)).set 3 (wp_i 3)).set 4 (wp_i 4)) tl := V
  refine wp_iinc (x := 4) (z := 5) (lv' := [some (.ref a), some (wp_i 5)]) ji_295_15 rfl (Nat.le_of_ble_eq_true rfl) (by omega) rfl ?_
  refine wp_goto (t := 2) ji_295_18 rfl ?_
  refine wp_s (pc' := 3) ji_295_2 rfl rfl rfl ?_
  refine wp_bp ji_295_3 rfl ?_
  refine wp_icmp (t := 21) ji_295_5 rfl (by omega) (by omega) (fun (hb6 : (6 : Int) ≤ 5) => (by exfalso; omega)) (fun (hb6 : ¬ ((6 : Int) ≤ 5)) => ?_)
  refine wp_s (pc' := 9) ji_295_8 rfl rfl rfl ?_
  refine rv_gR V ji_295_9 jf_295_50 ?_
  refine wp_s (pc' := 13) ji_295_12 rfl rfl rfl ?_
  refine wp_s (pc' := 14) ji_295_13 rfl rfl rfl ?_
  refine rv_sr hM V (x := 5) (y := 5) ji_295_14 (by omega) (by omega) (by omega) (fun h V => ?_)
  have V : rv M h0 h a R X A (PN : Int) ((((((rl.set 0 (wp_i 0)).set 1 (wp_i 1)).set 2 (wp_i 2)).set 3 (wp_i 3)).set 4 (wp_i 4)).set 5 (wp_i 5)) tl := V
  refine wp_iinc (x := 5) (z := 6) (lv' := [some (.ref a), some (wp_i 6)]) ji_295_15 rfl (Nat.le_of_ble_eq_true rfl) (by omega) rfl ?_
  refine wp_goto (t := 2) ji_295_18 rfl ?_
  refine wp_s (pc' := 3) ji_295_2 rfl rfl rfl ?_
  refine wp_bp ji_295_3 rfl ?_
  refine wp_icmp (t := 21) ji_295_5 rfl (by omega) (by omega) (fun (hb7 : (6 : Int) ≤ 6) => ?_) (fun (hb7 : ¬ ((6 : Int) ≤ 6)) => (by exfalso; omega))
  refine wp_rv ji_295_21 jr_295 ⟨rfl, _, V, rfl, fun j hj => ?_⟩
  have hl := hlen
  have hc : j = 0 ∨ j = 1 ∨ j = 2 ∨ j = 3 ∨ j = 4 ∨ j = 5 := by omega
  rw [pv_el_set (by simp only [List.length_set]; omega) (by omega), pv_el_set (by simp only [List.length_set]; omega) (by omega), pv_el_set (by simp only [List.length_set]; omega) (by omega), pv_el_set (by simp only [List.length_set]; omega) (by omega), pv_el_set (by simp only [List.length_set]; omega) (by omega), pv_el_set (by omega) (by omega)]
  rcases hc with e | e | e | e | e | e <;> (subst e; rfl)
set_option maxRecDepth 100000 in
theorem y21_k2 : ((List.range 6).all fun i => decide (sx_fd sx_y21.2.2 (40 + 2 * i) = some (0, 0, 9))) = true ∧ ((List.range 20).all fun i => decide (sx_fd sx_y21.2.2 (164 + i) = some (0, 0, 5))) = true := by decide +kernel
theorem y21_h {x w : Int} (h1 : 0 ≤ w) (h2 : w ≤ 5) (hx : x = 40 + 2 * w) : sx_fd sx_y21.2.2 x.toNat = some (0, 0, 9) := by
  have h := List.all_eq_true.mp y21_k2.1 w.toNat (List.mem_range.mpr (by omega))
  rw [decide_eq_true_eq, show 40 + 2 * w.toNat = x.toNat by omega] at h
  exact h
theorem y21_t {x : Int} (h1 : 164 ≤ x) (h2 : x < 184) : sx_fd sx_y21.2.2 x.toNat = some (0, 0, 5) := by
  have h := List.all_eq_true.mp y21_k2.2 (x.toNat - 164) (List.mem_range.mpr (by omega))
  rw [decide_eq_true_eq, show 164 + (x.toNat - 164) = x.toNat by omega] at h
  exact h
theorem ws_hands {d : Nat} {M : List Nat} {h0 h : mj_H} {a R X A PN : Nat} {rl tl : List Value} (V : rv M h0 h a R X A (PN : Int) rl tl) {w : Int} (hw : 0 ≤ w ∧ w ≤ 5) : wp_R d 227 0 [some (.ref a), some (wp_i w)] [] h (fun v h1 => h1 = h ∧ ∃ y : Int, v = some (wp_i y) ∧ 0 ≤ y ∧ y ≤ 9) := by
  refine wp_s (pc' := 1) ji_227_0 rfl rfl rfl ?_
  refine rv_gA V ji_227_1 jf_227_7 ?_
  refine wp_bp ji_227_4 rfl ?_
  refine wp_s (pc' := 7) ji_227_6 rfl rfl rfl ?_
  refine wp_s (pc' := 8) ji_227_7 rfl rfl rfl ?_
  refine wp_imul (x := 2) (y := w) (z := 2 * w) ji_227_8 (by omega) ?_
  refine wp_iadd (x := 40) (y := 2 * w) (z := 40 + (2 * w)) ji_227_9 (by omega) ?_
  refine rv_la V (x := 40 + (2 * w)) ji_227_10 (by omega) (by omega) (y21_h hw.1 hw.2 rfl) (fun y3 l1 u2 => ?_)
  exact wp_ri ji_227_11 jr_227 rfl ⟨rfl, _, rfl, by omega, by omega⟩
theorem nr_g_w {q : List Int} (hg : nr_g q = true) {w : Int} (hw : 0 ≤ w ∧ w ≤ 5) : ∃ j, j < 6 ∧ q.getD j 0 = w := by
  unfold nr_g at hg
  rw [Bool.and_eq_true] at hg
  have hl : q.length = 6 := of_decide_eq_true hg.1
  have hm : w ∈ q := by
    have hc : w = 0 ∨ w = 1 ∨ w = 2 ∨ w = 3 ∨ w = 4 ∨ w = 5 := by omega
    have := List.all_eq_true.mp hg.2 w (by rcases hc with e | e | e | e | e | e <;> (subst e; decide))
    exact List.contains_iff_mem.mp this
  obtain ⟨j, hj, e⟩ := List.mem_iff_getElem.mp hm
  refine ⟨j, by omega, ?_⟩
  rw [List.getD_eq_getElem?_getD, List.getElem?_eq_getElem hj, e]
  rfl
theorem ws_where {d : Nat} {M : List Nat} {h0 h : mj_H} {a R X A PN : Nat} {rl tl : List Value} {q : List Int} (V : rv M h0 h a R X A (PN : Int) rl tl) (hr : rr rl q) (hg : nr_g q = true) {w : Int} (hw : 0 ≤ w ∧ w ≤ 5) : wp_R d 310 0 [some (.ref a), some (wp_i w), none] [] h (fun v h1 => h1 = h ∧ ∃ y : Int, v = some (wp_i y) ∧ 0 ≤ y ∧ y ≤ 5) := by
  obtain ⟨j, j1, j2⟩ := nr_g_w hg hw
  have key : ∀ (n k : Nat), k + n = j + 1 → k ≤ j → wp_R d 310 2 [some (.ref a), some (wp_i w), some (wp_i (k : Int))] [] h (fun v h1 => h1 = h ∧ ∃ y : Int, v = some (wp_i y) ∧ 0 ≤ y ∧ y ≤ 5) := by
    intro n
    induction n with
    | zero => intro k h1 h2; omega
    | succ n ih =>
      intro k hn hk
      have qb := rv_qb V hr (j := k) (by omega)
      refine wp_s (pc' := 3) ji_310_2 rfl rfl rfl ?_
      refine rv_gR V ji_310_3 jf_310_50 ?_
      refine wp_s (pc' := 7) ji_310_6 rfl rfl rfl ?_
      refine rv_lr V (x := (k : Int)) (y := q.getD k 0) ji_310_7 (by omega) (by omega) (hr.2 k (by omega)) (fun l1 u2 => ?_)
      refine wp_s (pc' := 9) ji_310_8 rfl rfl rfl ?_
      refine wp_icmp (t := 18) ji_310_9 rfl (by omega) (by omega) (fun (hb3 : (q.getD k 0 : Int) = w) => ?_) (fun (hb3 : ¬ ((q.getD k 0 : Int) = w)) => ?_)
      · refine wp_s (pc' := 19) ji_310_18 rfl rfl rfl ?_
        exact wp_ri ji_310_19 jr_310 rfl ⟨rfl, _, rfl, by omega, by omega⟩
      · refine wp_iinc (x := (k : Int)) (z := ((k + 1 : Nat) : Int)) (lv' := [some (.ref a), some (wp_i w), some (wp_i (((k + 1 : Nat) : Int)))]) ji_310_12 rfl (Nat.le_of_ble_eq_true rfl) (by omega) rfl ?_
        refine wp_goto (t := 2) ji_310_15 rfl ?_
        have kj : k ≠ j := fun e => by rw [← e] at j2; omega
        exact ih (k + 1) (by omega) (by omega)
  refine wp_s (pc' := 1) ji_310_0 rfl rfl rfl ?_
  refine wp_s (pc' := 2) (lv' := [some (.ref a), some (wp_i w), some (wp_i 0)]) ji_310_1 rfl rfl rfl ?_
  exact key (j + 1) 0 (by omega) (by omega)
theorem y21_6 : sx_fd sx_y21.2.2 (6 : Int).toNat = some (0, 0, 10) := by decide
theorem ws_told {d : Nat} {M : List Nat} {h0 h : mj_H} {a R X A PN : Nat} {rl tl : List Value} {q : List Int} (V : rv M h0 h a R X A (PN : Int) rl tl) (hr : rr rl q) (hg : nr_g q = true) : wp_R (d + 1) 309 0 [some (.ref a), none] [] h (fun v h1 => h1 = h ∧ ∃ y : Int, v = some (wp_i y) ∧ (y = 0 ∨ y = 1)) := by
  have key : ∀ (n k : Nat), k + n = 11 → k ≤ 10 → wp_R (d + 1) 309 2 [some (.ref a), some (wp_i (k : Int))] [] h (fun v h1 => h1 = h ∧ ∃ y : Int, v = some (wp_i y) ∧ (y = 0 ∨ y = 1)) := by
    intro n
    induction n with
    | zero => intro k h1 h2; omega
    | succ n ih =>
      intro k hn hk
      refine wp_s (pc' := 3) ji_309_2 rfl rfl rfl ?_
      refine wp_s (pc' := 4) ji_309_3 rfl rfl rfl ?_
      refine rv_gA V ji_309_4 jf_309_7 ?_
      refine wp_bp ji_309_7 rfl ?_
      refine rv_la V (x := 6) ji_309_9 (by omega) (by omega) (y21_6) (fun y3 l1 u2 => ?_)
      refine wp_icmp (t := 58) ji_309_10 rfl (by omega) (by omega) (fun (hb4 : (y3 : Int) ≤ ((k : Int))) => ?_) (fun (hb4 : ¬ ((y3 : Int) ≤ ((k : Int)))) => ?_)
      · refine wp_s (pc' := 59) ji_309_58 rfl rfl rfl ?_
        exact wp_ri ji_309_59 jr_309 rfl ⟨rfl, _, rfl, by omega⟩
      · refine wp_s (pc' := 14) ji_309_13 rfl rfl rfl ?_
        refine wp_s (pc' := 15) ji_309_14 rfl rfl rfl ?_
        refine rv_gA V ji_309_15 jf_309_7 ?_
        refine wp_sp ji_309_18 rfl ?_
        refine wp_s (pc' := 22) ji_309_21 rfl rfl rfl ?_
        refine wp_s (pc' := 23) ji_309_22 rfl rfl rfl ?_
        refine wp_imul (x := 2) (y := (k : Int)) (z := 2 * ((k : Int))) ji_309_23 (by omega) ?_
        refine wp_iadd (x := 164) (y := 2 * ((k : Int))) (z := 164 + (2 * ((k : Int)))) ji_309_24 (by omega) ?_
        refine rv_la V (x := 164 + (2 * ((k : Int)))) ji_309_25 (by omega) (by omega) (y21_t (by omega) (by omega)) (fun y7 l5 u6 => ?_)
        refine rv_vc V ji_309_26 jc_309_461 jk_310 (rest := []) rfl (Nat.le_of_ble_eq_true rfl) rfl (by rw [jn_310]; rfl) (ws_where V hr hg (by omega)) (fun v h R => ?_)
        obtain ⟨rfl, y8, rfl, q9, q10⟩ := R
        show wp_R (d + 1) 309 29 [some (.ref a), some (wp_i ((k : Int)))] [wp_i y8] h _
        refine wp_s (pc' := 30) ji_309_29 rfl rfl rfl ?_
        refine wp_s (pc' := 31) ji_309_30 rfl rfl rfl ?_
        refine rv_gA V ji_309_31 jf_309_7 ?_
        refine wp_sp ji_309_34 rfl ?_
        refine wp_s (pc' := 38) ji_309_37 rfl rfl rfl ?_
        refine wp_s (pc' := 39) ji_309_38 rfl rfl rfl ?_
        refine wp_imul (x := 2) (y := (k : Int)) (z := 2 * ((k : Int))) ji_309_39 (by omega) ?_
        refine wp_iadd (x := 164) (y := 2 * ((k : Int))) (z := 164 + (2 * ((k : Int)))) ji_309_40 (by omega) ?_
        refine wp_s (pc' := 42) ji_309_41 rfl rfl rfl ?_
        refine wp_iadd (x := 164 + (2 * ((k : Int)))) (y := 1) (z := 164 + (2 * ((k : Int))) + 1) ji_309_42 (by omega) ?_
        refine rv_la V (x := 164 + (2 * ((k : Int))) + 1) ji_309_43 (by omega) (by omega) (y21_t (by omega) (by omega)) (fun y13 l11 u12 => ?_)
        refine rv_vc V ji_309_44 jc_309_461 jk_310 (rest := [wp_i y8]) rfl (Nat.le_of_ble_eq_true rfl) rfl (by rw [jn_310]; rfl) (ws_where V hr hg (by omega)) (fun v h R => ?_)
        obtain ⟨rfl, y14, rfl, q15, q16⟩ := R
        show wp_R (d + 1) 309 47 [some (.ref a), some (wp_i ((k : Int)))] [wp_i y14, wp_i y8] h _
        refine wp_icmp (t := 52) ji_309_47 rfl (by omega) (by omega) (fun (hb17 : (y8 : Int) ≤ y14) => ?_) (fun (hb17 : ¬ ((y8 : Int) ≤ y14)) => ?_)
        · refine wp_iinc (x := (k : Int)) (z := ((k + 1 : Nat) : Int)) (lv' := [some (.ref a), some (wp_i (((k + 1 : Nat) : Int)))]) ji_309_52 rfl (Nat.le_of_ble_eq_true rfl) (by omega) rfl ?_
          refine wp_goto (t := 2) ji_309_55 rfl ?_
          exact ih (k + 1) (by omega) (by omega)
        · refine wp_s (pc' := 51) ji_309_50 rfl rfl rfl ?_
          exact wp_ri ji_309_51 jr_309 rfl ⟨rfl, _, rfl, by omega⟩
  refine wp_s (pc' := 1) ji_309_0 rfl rfl rfl ?_
  refine wp_s (pc' := 2) (lv' := [some (.ref a), some (wp_i 0)]) ji_309_1 rfl rfl rfl ?_
  exact key 11 0 rfl (by omega)
