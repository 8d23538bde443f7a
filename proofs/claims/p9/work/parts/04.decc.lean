theorem dX8_init_0 : decode cX8_init 0 = .ok (.aload_n 0, 1) := by decide +kernel
theorem dX8_init_1 : decode cX8_init 1 = .ok (.invokespecial 1, 3) := by decide +kernel
theorem dX8_init_4 : decode cX8_init 4 = .ok (.aload_n 0, 1) := by decide +kernel
theorem dX8_init_5 : decode cX8_init 5 = .ok (.sipush 700, 3) := by decide +kernel
theorem dX8_init_8 : decode cX8_init 8 = .ok (.newarray .int, 2) := by decide +kernel
theorem dX8_init_10 : decode cX8_init 10 = .ok (.putfield 7, 3) := by decide +kernel
theorem dX8_init_13 : decode cX8_init 13 = .ok (.aload_n 0, 1) := by decide +kernel
theorem dX8_init_14 : decode cX8_init 14 = .ok (.sipush 700, 3) := by decide +kernel
theorem dX8_init_17 : decode cX8_init 17 = .ok (.newarray .int, 2) := by decide +kernel
theorem dX8_init_19 : decode cX8_init 19 = .ok (.putfield 13, 3) := by decide +kernel
theorem dX8_init_22 : decode cX8_init 22 = .ok (.aload_n 0, 1) := by decide +kernel
theorem dX8_init_23 : decode cX8_init 23 = .ok (.sipush 700, 3) := by decide +kernel
theorem dX8_init_26 : decode cX8_init 26 = .ok (.newarray .int, 2) := by decide +kernel
theorem dX8_init_28 : decode cX8_init 28 = .ok (.putfield 16, 3) := by decide +kernel
theorem dX8_init_31 : decode cX8_init 31 = .ok (.aload_n 0, 1) := by decide +kernel
theorem dX8_init_32 : decode cX8_init 32 = .ok (.bipush 96, 2) := by decide +kernel
theorem dX8_init_34 : decode cX8_init 34 = .ok (.newarray .int, 2) := by decide +kernel
theorem dX8_init_36 : decode cX8_init 36 = .ok (.putfield 19, 3) := by decide +kernel
theorem dX8_init_39 : decode cX8_init 39 = .ok (.aload_n 0, 1) := by decide +kernel
theorem dX8_init_40 : decode cX8_init 40 = .ok (.iconst 2, 1) := by decide +kernel
theorem dX8_init_41 : decode cX8_init 41 = .ok (.newarray .int, 2) := by decide +kernel
theorem dX8_init_43 : decode cX8_init 43 = .ok (.dup, 1) := by decide +kernel
theorem dX8_init_44 : decode cX8_init 44 = .ok (.iconst 0, 1) := by decide +kernel
theorem dX8_init_45 : decode cX8_init 45 = .ok (.iconst 2, 1) := by decide +kernel
theorem dX8_init_46 : decode cX8_init 46 = .ok (.iastore, 1) := by decide +kernel
theorem dX8_init_47 : decode cX8_init 47 = .ok (.dup, 1) := by decide +kernel
theorem dX8_init_48 : decode cX8_init 48 = .ok (.iconst 1, 1) := by decide +kernel
theorem dX8_init_49 : decode cX8_init 49 = .ok (.iconst 2, 1) := by decide +kernel
theorem dX8_init_50 : decode cX8_init 50 = .ok (.iastore, 1) := by decide +kernel
theorem dX8_init_51 : decode cX8_init 51 = .ok (.putfield 22, 3) := by decide +kernel
theorem dX8_init_54 : decode cX8_init 54 = .ok (.aload_n 0, 1) := by decide +kernel
theorem dX8_init_55 : decode cX8_init 55 = .ok (.iconst 2, 1) := by decide +kernel
theorem dX8_init_56 : decode cX8_init 56 = .ok (.newarray .int, 2) := by decide +kernel
theorem dX8_init_58 : decode cX8_init 58 = .ok (.putfield 25, 3) := by decide +kernel
theorem dX8_init_61 : decode cX8_init 61 = .ok (.aload_n 0, 1) := by decide +kernel
theorem dX8_init_62 : decode cX8_init 62 = .ok (.iconst 2, 1) := by decide +kernel
theorem dX8_init_63 : decode cX8_init 63 = .ok (.newarray .boolean, 2) := by decide +kernel
theorem dX8_init_65 : decode cX8_init 65 = .ok (.putfield 28, 3) := by decide +kernel
theorem dX8_init_68 : decode cX8_init 68 = .ok (.aload_n 0, 1) := by decide +kernel
theorem dX8_init_69 : decode cX8_init 69 = .ok (.iconst 2, 1) := by decide +kernel
theorem dX8_init_70 : decode cX8_init 70 = .ok (.newarray .int, 2) := by decide +kernel
theorem dX8_init_72 : decode cX8_init 72 = .ok (.dup, 1) := by decide +kernel
theorem dX8_init_73 : decode cX8_init 73 = .ok (.iconst 0, 1) := by decide +kernel
theorem dX8_init_74 : decode cX8_init 74 = .ok (.iconst (-1), 1) := by decide +kernel
theorem dX8_init_75 : decode cX8_init 75 = .ok (.iastore, 1) := by decide +kernel
theorem dX8_init_76 : decode cX8_init 76 = .ok (.dup, 1) := by decide +kernel
theorem dX8_init_77 : decode cX8_init 77 = .ok (.iconst 1, 1) := by decide +kernel
theorem dX8_init_78 : decode cX8_init 78 = .ok (.iconst (-1), 1) := by decide +kernel
theorem dX8_init_79 : decode cX8_init 79 = .ok (.iastore, 1) := by decide +kernel
theorem dX8_init_80 : decode cX8_init 80 = .ok (.putfield 32, 3) := by decide +kernel
theorem dX8_init_83 : decode cX8_init 83 = .ok (.aload_n 0, 1) := by decide +kernel
theorem dX8_init_84 : decode cX8_init 84 = .ok (.iconst 4, 1) := by decide +kernel
theorem dX8_init_85 : decode cX8_init 85 = .ok (.newarray .boolean, 2) := by decide +kernel
theorem dX8_init_87 : decode cX8_init 87 = .ok (.putfield 35, 3) := by decide +kernel
theorem dX8_init_90 : decode cX8_init 90 = .ok (.aload_n 0, 1) := by decide +kernel
theorem dX8_init_91 : decode cX8_init 91 = .ok (.iconst 1, 1) := by decide +kernel
theorem dX8_init_92 : decode cX8_init 92 = .ok (.putfield 38, 3) := by decide +kernel
theorem dX8_init_95 : decode cX8_init 95 = .ok (.aload_n 0, 1) := by decide +kernel
theorem dX8_init_96 : decode cX8_init 96 = .ok (.bipush 24, 2) := by decide +kernel
theorem dX8_init_98 : decode cX8_init 98 = .ok (.newarray .int, 2) := by decide +kernel
theorem dX8_init_100 : decode cX8_init 100 = .ok (.putfield 42, 3) := by decide +kernel
theorem dX8_init_103 : decode cX8_init 103 = .ok (.aload_n 0, 1) := by decide +kernel
theorem dX8_init_104 : decode cX8_init 104 = .ok (.bipush 24, 2) := by decide +kernel
theorem dX8_init_106 : decode cX8_init 106 = .ok (.newarray .int, 2) := by decide +kernel
theorem dX8_init_108 : decode cX8_init 108 = .ok (.putfield 45, 3) := by decide +kernel
theorem dX8_init_111 : decode cX8_init 111 = .ok (.aload_n 0, 1) := by decide +kernel
theorem dX8_init_112 : decode cX8_init 112 = .ok (.bipush 24, 2) := by decide +kernel
theorem dX8_init_114 : decode cX8_init 114 = .ok (.newarray .boolean, 2) := by decide +kernel
theorem dX8_init_116 : decode cX8_init 116 = .ok (.putfield 48, 3) := by decide +kernel
theorem dX8_init_119 : decode cX8_init 119 = .ok (.aload_n 0, 1) := by decide +kernel
theorem dX8_init_120 : decode cX8_init 120 = .ok (.bipush 8, 2) := by decide +kernel
theorem dX8_init_122 : decode cX8_init 122 = .ok (.newarray .int, 2) := by decide +kernel
theorem dX8_init_124 : decode cX8_init 124 = .ok (.putfield 51, 3) := by decide +kernel
theorem dX8_init_127 : decode cX8_init 127 = .ok (.aload_n 0, 1) := by decide +kernel
theorem dX8_init_128 : decode cX8_init 128 = .ok (.bipush 8, 2) := by decide +kernel
theorem dX8_init_130 : decode cX8_init 130 = .ok (.newarray .int, 2) := by decide +kernel
theorem dX8_init_132 : decode cX8_init 132 = .ok (.putfield 54, 3) := by decide +kernel
theorem dX8_init_135 : decode cX8_init 135 = .ok (.aload_n 0, 1) := by decide +kernel
theorem dX8_init_136 : decode cX8_init 136 = .ok (.iconst 4, 1) := by decide +kernel
theorem dX8_init_137 : decode cX8_init 137 = .ok (.newarray .int, 2) := by decide +kernel
theorem dX8_init_139 : decode cX8_init 139 = .ok (.putfield 57, 3) := by decide +kernel
theorem dX8_init_142 : decode cX8_init 142 = .ok (.aload_n 0, 1) := by decide +kernel
theorem dX8_init_143 : decode cX8_init 143 = .ok (.iconst 4, 1) := by decide +kernel
theorem dX8_init_144 : decode cX8_init 144 = .ok (.newarray .boolean, 2) := by decide +kernel
theorem dX8_init_146 : decode cX8_init 146 = .ok (.putfield 60, 3) := by decide +kernel
theorem dX8_init_149 : decode cX8_init 149 = .ok (.return_, 1) := by decide +kernel
theorem dX8_thrown_0 : decode cX8_thrown 0 = .ok (.aload_n 0, 1) := by decide +kernel
theorem dX8_thrown_1 : decode cX8_thrown 1 = .ok (.getfield 63, 3) := by decide +kernel
theorem dX8_thrown_4 : decode cX8_thrown 4 = .ok (.ireturn, 1) := by decide +kernel
theorem dX8_in_0 : decode cX8_in 0 = .ok (.iload_n 0, 1) := by decide +kernel
theorem dX8_in_1 : decode cX8_in 1 = .ok (.iload_n 1, 1) := by decide +kernel
theorem dX8_in_2 : decode cX8_in 2 = .ok (.if_icmp .lt 12, 3) := by decide +kernel
theorem dX8_in_5 : decode cX8_in 5 = .ok (.iload_n 0, 1) := by decide +kernel
theorem dX8_in_6 : decode cX8_in 6 = .ok (.iload_n 2, 1) := by decide +kernel
theorem dX8_in_7 : decode cX8_in 7 = .ok (.if_icmp .gt 7, 3) := by decide +kernel
theorem dX8_in_10 : decode cX8_in 10 = .ok (.iconst 1, 1) := by decide +kernel
theorem dX8_in_11 : decode cX8_in 11 = .ok (.goto 4, 3) := by decide +kernel
theorem dX8_in_14 : decode cX8_in 14 = .ok (.iconst 0, 1) := by decide +kernel
theorem dX8_in_15 : decode cX8_in 15 = .ok (.ireturn, 1) := by decide +kernel
theorem dX8_says_0 : decode cX8_says 0 = .ok (.aload_n 0, 1) := by decide +kernel
theorem dX8_says_1 : decode cX8_says 1 = .ok (.iload_n 1, 1) := by decide +kernel
theorem dX8_says_2 : decode cX8_says 2 = .ok (.ifCond .eq 7, 3) := by decide +kernel
theorem dX8_says_5 : decode cX8_says 5 = .ok (.iconst 0, 1) := by decide +kernel
theorem dX8_says_6 : decode cX8_says 6 = .ok (.goto 4, 3) := by decide +kernel
theorem dX8_says_9 : decode cX8_says 9 = .ok (.iconst 1, 1) := by decide +kernel
theorem dX8_says_10 : decode cX8_says 10 = .ok (.putfield 63, 3) := by decide +kernel
theorem dX8_says_13 : decode cX8_says 13 = .ok (.iload_n 1, 1) := by decide +kernel
theorem dX8_says_14 : decode cX8_says 14 = .ok (.ireturn, 1) := by decide +kernel
theorem dX8_level_0 : decode cX8_level 0 = .ok (.iload_n 0, 1) := by decide +kernel
theorem dX8_level_1 : decode cX8_level 1 = .ok (.bipush 24, 2) := by decide +kernel
theorem dX8_level_3 : decode cX8_level 3 = .ok (.idiv, 1) := by decide +kernel
theorem dX8_level_4 : decode cX8_level 4 = .ok (.ireturn, 1) := by decide +kernel
theorem dX8_depth_0 : decode cX8_depth 0 = .ok (.iload_n 0, 1) := by decide +kernel
theorem dX8_depth_1 : decode cX8_depth 1 = .ok (.iconst 2, 1) := by decide +kernel
theorem dX8_depth_2 : decode cX8_depth 2 = .ok (.irem, 1) := by decide +kernel
theorem dX8_depth_3 : decode cX8_depth 3 = .ok (.ireturn, 1) := by decide +kernel
set_option maxRecDepth 20000 in
theorem ggX8_reach_X8_depth : GoodIn wsX8_reach wsX8_depth := goodIn_r _ [4] (by decide +kernel) (by decide +kernel)
set_option maxRecDepth 20000 in
theorem gX8_reach_X8_depth : GoodIn wsX8_reach (va_wsS RX8 67 yX8_depth wsX8_depth) := goodIn_app (goodIn_of _ (by decide +kernel)) ggX8_reach_X8_depth
theorem dX8_reach_0 : decode cX8_reach 0 = .ok (.iconst 2, 1) := by decide +kernel
theorem dX8_reach_1 : decode cX8_reach 1 = .ok (.iload_n 0, 1) := by decide +kernel
theorem dX8_reach_2 : decode cX8_reach 2 = .ok (.bipush 12, 2) := by decide +kernel
theorem dX8_reach_4 : decode cX8_reach 4 = .ok (.irem, 1) := by decide +kernel
theorem dX8_reach_5 : decode cX8_reach 5 = .ok (.iconst 2, 1) := by decide +kernel
theorem dX8_reach_6 : decode cX8_reach 6 = .ok (.idiv, 1) := by decide +kernel
theorem dX8_reach_7 : decode cX8_reach 7 = .ok (.iconst 1, 1) := by decide +kernel
theorem dX8_reach_8 : decode cX8_reach 8 = .ok (.iadd, 1) := by decide +kernel
theorem dX8_reach_9 : decode cX8_reach 9 = .ok (.imul, 1) := by decide +kernel
theorem dX8_reach_10 : decode cX8_reach 10 = .ok (.iconst 2, 1) := by decide +kernel
theorem dX8_reach_11 : decode cX8_reach 11 = .ok (.iadd, 1) := by decide +kernel
theorem dX8_reach_12 : decode cX8_reach 12 = .ok (.iload_n 0, 1) := by decide +kernel
theorem dX8_reach_13 : decode cX8_reach 13 = .ok (.invokestatic 67, 3) := by decide +kernel
theorem dX8_reach_16 : decode cX8_reach 16 = .ok (.iadd, 1) := by decide +kernel
theorem dX8_reach_17 : decode cX8_reach 17 = .ok (.ireturn, 1) := by decide +kernel
set_option maxRecDepth 20000 in
theorem ggX8_isReached_X8_depth : GoodIn wsX8_isReached wsX8_depth := goodIn_r _ [5] (by decide +kernel) (by decide +kernel)
set_option maxRecDepth 20000 in
theorem gX8_isReached_X8_depth : GoodIn wsX8_isReached (va_wsS RX8 67 yX8_depth wsX8_depth) := goodIn_app (goodIn_of _ (by decide +kernel)) ggX8_isReached_X8_depth
theorem dX8_isReached_0 : decode cX8_isReached 0 = .ok (.iload_n 1, 1) := by decide +kernel
theorem dX8_isReached_1 : decode cX8_isReached 1 = .ok (.invokestatic 67, 3) := by decide +kernel
theorem dX8_isReached_4 : decode cX8_isReached 4 = .ok (.ifCond .eq 14, 3) := by decide +kernel
theorem dX8_isReached_7 : decode cX8_isReached 7 = .ok (.aload_n 0, 1) := by decide +kernel
theorem dX8_isReached_8 : decode cX8_isReached 8 = .ok (.getfield 19, 3) := by decide +kernel
theorem dX8_isReached_11 : decode cX8_isReached 11 = .ok (.iload_n 1, 1) := by decide +kernel
theorem dX8_isReached_12 : decode cX8_isReached 12 = .ok (.iconst 1, 1) := by decide +kernel
theorem dX8_isReached_13 : decode cX8_isReached 13 = .ok (.isub, 1) := by decide +kernel
theorem dX8_isReached_14 : decode cX8_isReached 14 = .ok (.iaload, 1) := by decide +kernel
theorem dX8_isReached_15 : decode cX8_isReached 15 = .ok (.ifCond .gt 7, 3) := by decide +kernel
theorem dX8_isReached_18 : decode cX8_isReached 18 = .ok (.iconst 1, 1) := by decide +kernel
theorem dX8_isReached_19 : decode cX8_isReached 19 = .ok (.goto 4, 3) := by decide +kernel
theorem dX8_isReached_22 : decode cX8_isReached 22 = .ok (.iconst 0, 1) := by decide +kernel
theorem dX8_isReached_23 : decode cX8_isReached 23 = .ok (.ireturn, 1) := by decide +kernel
theorem dX8_fits_0 : decode cX8_fits 0 = .ok (.iload_n 1, 1) := by decide +kernel
theorem dX8_fits_1 : decode cX8_fits 1 = .ok (.sipush 520, 3) := by decide +kernel
theorem dX8_fits_4 : decode cX8_fits 4 = .ok (.if_icmp .gt 44, 3) := by decide +kernel
theorem dX8_fits_7 : decode cX8_fits 7 = .ok (.iload_n 2, 1) := by decide +kernel
theorem dX8_fits_8 : decode cX8_fits 8 = .ok (.iload_n 0, 1) := by decide +kernel
theorem dX8_fits_9 : decode cX8_fits 9 = .ok (.iconst 2, 1) := by decide +kernel
theorem dX8_fits_10 : decode cX8_fits 10 = .ok (.if_icmp .ge 9, 3) := by decide +kernel
theorem dX8_fits_13 : decode cX8_fits 13 = .ok (.sipush 160, 3) := by decide +kernel
theorem dX8_fits_16 : decode cX8_fits 16 = .ok (.goto 6, 3) := by decide +kernel
theorem dX8_fits_19 : decode cX8_fits 19 = .ok (.sipush 210, 3) := by decide +kernel
theorem dX8_fits_22 : decode cX8_fits 22 = .ok (.if_icmp .gt 26, 3) := by decide +kernel
theorem dX8_fits_25 : decode cX8_fits 25 = .ok (.iload_n 3, 1) := by decide +kernel
theorem dX8_fits_26 : decode cX8_fits 26 = .ok (.iload_n 0, 1) := by decide +kernel
theorem dX8_fits_27 : decode cX8_fits 27 = .ok (.iconst 2, 1) := by decide +kernel
theorem dX8_fits_28 : decode cX8_fits 28 = .ok (.irem, 1) := by decide +kernel
theorem dX8_fits_29 : decode cX8_fits 29 = .ok (.ifCond .ne 9, 3) := by decide +kernel
theorem dX8_fits_32 : decode cX8_fits 32 = .ok (.sipush 2000, 3) := by decide +kernel
theorem dX8_fits_35 : decode cX8_fits 35 = .ok (.goto 6, 3) := by decide +kernel
theorem dX8_fits_38 : decode cX8_fits 38 = .ok (.sipush 3000, 3) := by decide +kernel
theorem dX8_fits_41 : decode cX8_fits 41 = .ok (.if_icmp .gt 7, 3) := by decide +kernel
theorem dX8_fits_44 : decode cX8_fits 44 = .ok (.iconst 1, 1) := by decide +kernel
theorem dX8_fits_45 : decode cX8_fits 45 = .ok (.goto 4, 3) := by decide +kernel
theorem dX8_fits_48 : decode cX8_fits 48 = .ok (.iconst 0, 1) := by decide +kernel
theorem dX8_fits_49 : decode cX8_fits 49 = .ok (.ireturn, 1) := by decide +kernel
theorem dX8_freeOn_0 : decode cX8_freeOn 0 = .ok (.iconst 0, 1) := by decide +kernel
theorem dX8_freeOn_1 : decode cX8_freeOn 1 = .ok (.istore_n 2, 1) := by decide +kernel
theorem dX8_freeOn_2 : decode cX8_freeOn 2 = .ok (.bipush 24, 2) := by decide +kernel
theorem dX8_freeOn_4 : decode cX8_freeOn 4 = .ok (.iload_n 1, 1) := by decide +kernel
theorem dX8_freeOn_5 : decode cX8_freeOn 5 = .ok (.imul, 1) := by decide +kernel
theorem dX8_freeOn_6 : decode cX8_freeOn 6 = .ok (.istore_n 3, 1) := by decide +kernel
theorem dX8_freeOn_7 : decode cX8_freeOn 7 = .ok (.iload_n 3, 1) := by decide +kernel
theorem dX8_freeOn_8 : decode cX8_freeOn 8 = .ok (.bipush 24, 2) := by decide +kernel
theorem dX8_freeOn_10 : decode cX8_freeOn 10 = .ok (.iload_n 1, 1) := by decide +kernel
theorem dX8_freeOn_11 : decode cX8_freeOn 11 = .ok (.imul, 1) := by decide +kernel
theorem dX8_freeOn_12 : decode cX8_freeOn 12 = .ok (.bipush 24, 2) := by decide +kernel
theorem dX8_freeOn_14 : decode cX8_freeOn 14 = .ok (.iadd, 1) := by decide +kernel
theorem dX8_freeOn_15 : decode cX8_freeOn 15 = .ok (.if_icmp .ge 26, 3) := by decide +kernel
theorem dX8_freeOn_18 : decode cX8_freeOn 18 = .ok (.aload_n 0, 1) := by decide +kernel
theorem dX8_freeOn_19 : decode cX8_freeOn 19 = .ok (.getfield 19, 3) := by decide +kernel
theorem dX8_freeOn_22 : decode cX8_freeOn 22 = .ok (.iload_n 3, 1) := by decide +kernel
theorem dX8_freeOn_23 : decode cX8_freeOn 23 = .ok (.iaload, 1) := by decide +kernel
theorem dX8_freeOn_24 : decode cX8_freeOn 24 = .ok (.ifCond .ne 9, 3) := by decide +kernel
theorem dX8_freeOn_27 : decode cX8_freeOn 27 = .ok (.iload_n 2, 1) := by decide +kernel
theorem dX8_freeOn_28 : decode cX8_freeOn 28 = .ok (.iconst 1, 1) := by decide +kernel
theorem dX8_freeOn_29 : decode cX8_freeOn 29 = .ok (.iadd, 1) := by decide +kernel
theorem dX8_freeOn_30 : decode cX8_freeOn 30 = .ok (.goto 4, 3) := by decide +kernel
theorem dX8_freeOn_33 : decode cX8_freeOn 33 = .ok (.iload_n 2, 1) := by decide +kernel
theorem dX8_freeOn_34 : decode cX8_freeOn 34 = .ok (.istore_n 2, 1) := by decide +kernel
theorem dX8_freeOn_35 : decode cX8_freeOn 35 = .ok (.iinc 3 1, 3) := by decide +kernel
theorem dX8_freeOn_38 : decode cX8_freeOn 38 = .ok (.goto (-31), 3) := by decide +kernel
theorem dX8_freeOn_41 : decode cX8_freeOn 41 = .ok (.iload_n 2, 1) := by decide +kernel
theorem dX8_freeOn_42 : decode cX8_freeOn 42 = .ok (.ireturn, 1) := by decide +kernel
set_option maxRecDepth 20000 in
theorem ggX8_find_X8_level : GoodIn wsX8_find wsX8_level := goodIn_r _ [10] (by decide +kernel) (by decide +kernel)
set_option maxRecDepth 20000 in
theorem gX8_find_X8_level : GoodIn wsX8_find (va_wsS RX8 80 yX8_level wsX8_level) := goodIn_app (goodIn_of _ (by decide +kernel)) ggX8_find_X8_level
set_option maxRecDepth 20000 in
theorem ggX8_find_X8_fits : GoodIn wsX8_find wsX8_fits := goodIn_r _ [13] (by decide +kernel) (by decide +kernel)
set_option maxRecDepth 20000 in
theorem gX8_find_X8_fits : GoodIn wsX8_find (va_wsS RX8 83 yX8_fits wsX8_fits) := goodIn_app (goodIn_of _ (by decide +kernel)) ggX8_find_X8_fits
set_option maxRecDepth 20000 in
theorem ggX8_find_X8_freeOn : GoodIn wsX8_find wsX8_freeOn := goodIn_r _ [17, 6, 21, 22, 23, 24, 25, 26, 27, 28, 29, 30, 31, 32, 33, 34, 35, 36, 37, 38, 39, 40, 41, 42, 43, 44, 45, 46, 47, 48, 49, 50, 51, 52] (by decide +kernel) (by decide +kernel)
set_option maxRecDepth 20000 in
theorem gX8_find_X8_freeOn : GoodIn wsX8_find (wsV RX8 87 RX8 yX8_freeOn wsX8_freeOn) := goodIn_app (goodIn_of _ (by decide +kernel)) ggX8_find_X8_freeOn
set_option maxRecDepth 20000 in
theorem ggX8_find_X8_depth : GoodIn wsX8_find wsX8_depth := goodIn_r _ [20] (by decide +kernel) (by decide +kernel)
set_option maxRecDepth 20000 in
theorem gX8_find_X8_depth : GoodIn wsX8_find (va_wsS RX8 67 yX8_depth wsX8_depth) := goodIn_app (goodIn_of _ (by decide +kernel)) ggX8_find_X8_depth
theorem dX8_find_0 : decode cX8_find 0 = .ok (.iconst 0, 1) := by decide +kernel
theorem dX8_find_1 : decode cX8_find 1 = .ok (.istore 4, 2) := by decide +kernel
theorem dX8_find_3 : decode cX8_find 3 = .ok (.iload 4, 2) := by decide +kernel
theorem dX8_find_5 : decode cX8_find 5 = .ok (.iconst 4, 1) := by decide +kernel
theorem dX8_find_6 : decode cX8_find 6 = .ok (.if_icmp .ge 194, 3) := by decide +kernel
theorem dX8_find_9 : decode cX8_find 9 = .ok (.aload_n 0, 1) := by decide +kernel
theorem dX8_find_10 : decode cX8_find 10 = .ok (.getfield 71, 3) := by decide +kernel
theorem dX8_find_13 : decode cX8_find 13 = .ok (.ifCond .eq 31, 3) := by decide +kernel
theorem dX8_find_16 : decode cX8_find 16 = .ok (.aload_n 0, 1) := by decide +kernel
theorem dX8_find_17 : decode cX8_find 17 = .ok (.getfield 74, 3) := by decide +kernel
theorem dX8_find_20 : decode cX8_find 20 = .ok (.ifCond .eq 24, 3) := by decide +kernel
theorem dX8_find_23 : decode cX8_find 23 = .ok (.aload_n 0, 1) := by decide +kernel
theorem dX8_find_24 : decode cX8_find 24 = .ok (.getfield 16, 3) := by decide +kernel
theorem dX8_find_27 : decode cX8_find 27 = .ok (.aload_n 0, 1) := by decide +kernel
theorem dX8_find_28 : decode cX8_find 28 = .ok (.getfield 77, 3) := by decide +kernel
theorem dX8_find_31 : decode cX8_find 31 = .ok (.iaload, 1) := by decide +kernel
theorem dX8_find_32 : decode cX8_find 32 = .ok (.invokestatic 80, 3) := by decide +kernel
theorem dX8_find_35 : decode cX8_find 35 = .ok (.iload 4, 2) := by decide +kernel
theorem dX8_find_37 : decode cX8_find 37 = .ok (.if_icmp .ne 7, 3) := by decide +kernel
theorem dX8_find_40 : decode cX8_find 40 = .ok (.iconst 1, 1) := by decide +kernel
theorem dX8_find_41 : decode cX8_find 41 = .ok (.goto 4, 3) := by decide +kernel
theorem dX8_find_44 : decode cX8_find 44 = .ok (.iconst 0, 1) := by decide +kernel
theorem dX8_find_45 : decode cX8_find 45 = .ok (.istore 5, 2) := by decide +kernel
theorem dX8_find_47 : decode cX8_find 47 = .ok (.iload 4, 2) := by decide +kernel
theorem dX8_find_49 : decode cX8_find 49 = .ok (.iload_n 1, 1) := by decide +kernel
theorem dX8_find_50 : decode cX8_find 50 = .ok (.iload_n 2, 1) := by decide +kernel
theorem dX8_find_51 : decode cX8_find 51 = .ok (.iload_n 3, 1) := by decide +kernel
theorem dX8_find_52 : decode cX8_find 52 = .ok (.invokestatic 83, 3) := by decide +kernel
theorem dX8_find_55 : decode cX8_find 55 = .ok (.ifCond .eq 139, 3) := by decide +kernel
theorem dX8_find_58 : decode cX8_find 58 = .ok (.aload_n 0, 1) := by decide +kernel
theorem dX8_find_59 : decode cX8_find 59 = .ok (.getfield 35, 3) := by decide +kernel
theorem dX8_find_62 : decode cX8_find 62 = .ok (.iload 4, 2) := by decide +kernel
theorem dX8_find_64 : decode cX8_find 64 = .ok (.baload, 1) := by decide +kernel
theorem dX8_find_65 : decode cX8_find 65 = .ok (.ifCond .ne 129, 3) := by decide +kernel
theorem dX8_find_68 : decode cX8_find 68 = .ok (.iload 5, 2) := by decide +kernel
theorem dX8_find_70 : decode cX8_find 70 = .ok (.ifCond .ne 124, 3) := by decide +kernel
theorem dX8_find_73 : decode cX8_find 73 = .ok (.aload_n 0, 1) := by decide +kernel
theorem dX8_find_74 : decode cX8_find 74 = .ok (.iload 4, 2) := by decide +kernel
theorem dX8_find_76 : decode cX8_find 76 = .ok (.invokevirtual 87, 3) := by decide +kernel
theorem dX8_find_79 : decode cX8_find 79 = .ok (.iconst 2, 1) := by decide +kernel
theorem dX8_find_80 : decode cX8_find 80 = .ok (.if_icmp .ge 6, 3) := by decide +kernel
theorem dX8_find_83 : decode cX8_find 83 = .ok (.goto 111, 3) := by decide +kernel
theorem dX8_find_86 : decode cX8_find 86 = .ok (.iconst 0, 1) := by decide +kernel
theorem dX8_find_87 : decode cX8_find 87 = .ok (.istore 6, 2) := by decide +kernel
theorem dX8_find_89 : decode cX8_find 89 = .ok (.iload 6, 2) := by decide +kernel
theorem dX8_find_91 : decode cX8_find 91 = .ok (.bipush 24, 2) := by decide +kernel
theorem dX8_find_93 : decode cX8_find 93 = .ok (.if_icmp .ge 101, 3) := by decide +kernel
theorem dX8_find_96 : decode cX8_find 96 = .ok (.bipush 24, 2) := by decide +kernel
theorem dX8_find_98 : decode cX8_find 98 = .ok (.iload 4, 2) := by decide +kernel
theorem dX8_find_100 : decode cX8_find 100 = .ok (.imul, 1) := by decide +kernel
theorem dX8_find_101 : decode cX8_find 101 = .ok (.bipush 12, 2) := by decide +kernel
theorem dX8_find_103 : decode cX8_find 103 = .ok (.iload 6, 2) := by decide +kernel
theorem dX8_find_105 : decode cX8_find 105 = .ok (.iconst 2, 1) := by decide +kernel
theorem dX8_find_106 : decode cX8_find 106 = .ok (.idiv, 1) := by decide +kernel
theorem dX8_find_107 : decode cX8_find 107 = .ok (.iconst 2, 1) := by decide +kernel
theorem dX8_find_108 : decode cX8_find 108 = .ok (.irem, 1) := by decide +kernel
theorem dX8_find_109 : decode cX8_find 109 = .ok (.imul, 1) := by decide +kernel
theorem dX8_find_110 : decode cX8_find 110 = .ok (.iadd, 1) := by decide +kernel
theorem dX8_find_111 : decode cX8_find 111 = .ok (.iconst 2, 1) := by decide +kernel
theorem dX8_find_112 : decode cX8_find 112 = .ok (.iload 6, 2) := by decide +kernel
theorem dX8_find_114 : decode cX8_find 114 = .ok (.iconst 4, 1) := by decide +kernel
theorem dX8_find_115 : decode cX8_find 115 = .ok (.idiv, 1) := by decide +kernel
theorem dX8_find_116 : decode cX8_find 116 = .ok (.imul, 1) := by decide +kernel
theorem dX8_find_117 : decode cX8_find 117 = .ok (.iadd, 1) := by decide +kernel
theorem dX8_find_118 : decode cX8_find 118 = .ok (.iconst 1, 1) := by decide +kernel
theorem dX8_find_119 : decode cX8_find 119 = .ok (.iadd, 1) := by decide +kernel
theorem dX8_find_120 : decode cX8_find 120 = .ok (.iload 6, 2) := by decide +kernel
theorem dX8_find_122 : decode cX8_find 122 = .ok (.iconst 2, 1) := by decide +kernel
theorem dX8_find_123 : decode cX8_find 123 = .ok (.irem, 1) := by decide +kernel
theorem dX8_find_124 : decode cX8_find 124 = .ok (.isub, 1) := by decide +kernel
theorem dX8_find_125 : decode cX8_find 125 = .ok (.istore 7, 2) := by decide +kernel
theorem dX8_find_127 : decode cX8_find 127 = .ok (.aload_n 0, 1) := by decide +kernel
theorem dX8_find_128 : decode cX8_find 128 = .ok (.getfield 19, 3) := by decide +kernel
theorem dX8_find_131 : decode cX8_find 131 = .ok (.iload 7, 2) := by decide +kernel
theorem dX8_find_133 : decode cX8_find 133 = .ok (.iaload, 1) := by decide +kernel
theorem dX8_find_134 : decode cX8_find 134 = .ok (.ifCond .ne 43, 3) := by decide +kernel
theorem dX8_find_137 : decode cX8_find 137 = .ok (.iload 7, 2) := by decide +kernel
theorem dX8_find_139 : decode cX8_find 139 = .ok (.invokestatic 67, 3) := by decide +kernel
theorem dX8_find_142 : decode cX8_find 142 = .ok (.iconst 1, 1) := by decide +kernel
theorem dX8_find_143 : decode cX8_find 143 = .ok (.if_icmp .ne 18, 3) := by decide +kernel
theorem dX8_find_146 : decode cX8_find 146 = .ok (.aload_n 0, 1) := by decide +kernel
theorem dX8_find_147 : decode cX8_find 147 = .ok (.getfield 19, 3) := by decide +kernel
theorem dX8_find_150 : decode cX8_find 150 = .ok (.iload 7, 2) := by decide +kernel
theorem dX8_find_152 : decode cX8_find 152 = .ok (.iconst 1, 1) := by decide +kernel
theorem dX8_find_153 : decode cX8_find 153 = .ok (.isub, 1) := by decide +kernel
theorem dX8_find_154 : decode cX8_find 154 = .ok (.iaload, 1) := by decide +kernel
theorem dX8_find_155 : decode cX8_find 155 = .ok (.ifCond .ne 22, 3) := by decide +kernel
theorem dX8_find_158 : decode cX8_find 158 = .ok (.goto 15, 3) := by decide +kernel
theorem dX8_find_161 : decode cX8_find 161 = .ok (.aload_n 0, 1) := by decide +kernel
theorem dX8_find_162 : decode cX8_find 162 = .ok (.getfield 19, 3) := by decide +kernel
theorem dX8_find_165 : decode cX8_find 165 = .ok (.iload 7, 2) := by decide +kernel
theorem dX8_find_167 : decode cX8_find 167 = .ok (.iconst 1, 1) := by decide +kernel
theorem dX8_find_168 : decode cX8_find 168 = .ok (.iadd, 1) := by decide +kernel
theorem dX8_find_169 : decode cX8_find 169 = .ok (.iaload, 1) := by decide +kernel
theorem dX8_find_170 : decode cX8_find 170 = .ok (.ifCond .le 7, 3) := by decide +kernel
theorem dX8_find_173 : decode cX8_find 173 = .ok (.iconst 1, 1) := by decide +kernel
theorem dX8_find_174 : decode cX8_find 174 = .ok (.goto 4, 3) := by decide +kernel
theorem dX8_find_177 : decode cX8_find 177 = .ok (.iconst 0, 1) := by decide +kernel
theorem dX8_find_178 : decode cX8_find 178 = .ok (.istore 8, 2) := by decide +kernel
theorem dX8_find_180 : decode cX8_find 180 = .ok (.iload 8, 2) := by decide +kernel
theorem dX8_find_182 : decode cX8_find 182 = .ok (.ifCond .eq 6, 3) := by decide +kernel
theorem dX8_find_185 : decode cX8_find 185 = .ok (.iload 7, 2) := by decide +kernel
theorem dX8_find_187 : decode cX8_find 187 = .ok (.ireturn, 1) := by decide +kernel
theorem dX8_find_188 : decode cX8_find 188 = .ok (.iinc 6 1, 3) := by decide +kernel
theorem dX8_find_191 : decode cX8_find 191 = .ok (.goto (-102), 3) := by decide +kernel
theorem dX8_find_194 : decode cX8_find 194 = .ok (.iinc 4 1, 3) := by decide +kernel
theorem dX8_find_197 : decode cX8_find 197 = .ok (.goto (-194), 3) := by decide +kernel
theorem dX8_find_200 : decode cX8_find 200 = .ok (.iconst (-1), 1) := by decide +kernel
theorem dX8_find_201 : decode cX8_find 201 = .ok (.ireturn, 1) := by decide +kernel
theorem dX8_digit_0 : decode cX8_digit 0 = .ok (.iconst 5, 1) := by decide +kernel
theorem dX8_digit_1 : decode cX8_digit 1 = .ok (.iload_n 0, 1) := by decide +kernel
theorem dX8_digit_2 : decode cX8_digit 2 = .ok (.sipush 1000, 3) := by decide +kernel
theorem dX8_digit_5 : decode cX8_digit 5 = .ok (.idiv, 1) := by decide +kernel
theorem dX8_digit_6 : decode cX8_digit 6 = .ok (.imul, 1) := by decide +kernel
theorem dX8_digit_7 : decode cX8_digit 7 = .ok (.iconst 4, 1) := by decide +kernel
theorem dX8_digit_8 : decode cX8_digit 8 = .ok (.iload_n 0, 1) := by decide +kernel
theorem dX8_digit_9 : decode cX8_digit 9 = .ok (.bipush 100, 2) := by decide +kernel
theorem dX8_digit_11 : decode cX8_digit 11 = .ok (.idiv, 1) := by decide +kernel
theorem dX8_digit_12 : decode cX8_digit 12 = .ok (.bipush 10, 2) := by decide +kernel
theorem dX8_digit_14 : decode cX8_digit 14 = .ok (.irem, 1) := by decide +kernel
theorem dX8_digit_15 : decode cX8_digit 15 = .ok (.imul, 1) := by decide +kernel
theorem dX8_digit_16 : decode cX8_digit 16 = .ok (.iadd, 1) := by decide +kernel
theorem dX8_digit_17 : decode cX8_digit 17 = .ok (.iconst 3, 1) := by decide +kernel
theorem dX8_digit_18 : decode cX8_digit 18 = .ok (.iload_n 0, 1) := by decide +kernel
theorem dX8_digit_19 : decode cX8_digit 19 = .ok (.bipush 10, 2) := by decide +kernel
theorem dX8_digit_21 : decode cX8_digit 21 = .ok (.idiv, 1) := by decide +kernel
theorem dX8_digit_22 : decode cX8_digit 22 = .ok (.bipush 10, 2) := by decide +kernel
theorem dX8_digit_24 : decode cX8_digit 24 = .ok (.irem, 1) := by decide +kernel
theorem dX8_digit_25 : decode cX8_digit 25 = .ok (.imul, 1) := by decide +kernel
theorem dX8_digit_26 : decode cX8_digit 26 = .ok (.iadd, 1) := by decide +kernel
theorem dX8_digit_27 : decode cX8_digit 27 = .ok (.iconst 2, 1) := by decide +kernel
theorem dX8_digit_28 : decode cX8_digit 28 = .ok (.iload_n 0, 1) := by decide +kernel
theorem dX8_digit_29 : decode cX8_digit 29 = .ok (.bipush 10, 2) := by decide +kernel
theorem dX8_digit_31 : decode cX8_digit 31 = .ok (.irem, 1) := by decide +kernel
theorem dX8_digit_32 : decode cX8_digit 32 = .ok (.imul, 1) := by decide +kernel
theorem dX8_digit_33 : decode cX8_digit 33 = .ok (.iadd, 1) := by decide +kernel
theorem dX8_digit_34 : decode cX8_digit 34 = .ok (.istore_n 1, 1) := by decide +kernel
theorem dX8_digit_35 : decode cX8_digit 35 = .ok (.bipush 11, 2) := by decide +kernel
theorem dX8_digit_37 : decode cX8_digit 37 = .ok (.iload_n 1, 1) := by decide +kernel
theorem dX8_digit_38 : decode cX8_digit 38 = .ok (.bipush 11, 2) := by decide +kernel
theorem dX8_digit_40 : decode cX8_digit 40 = .ok (.irem, 1) := by decide +kernel
theorem dX8_digit_41 : decode cX8_digit 41 = .ok (.isub, 1) := by decide +kernel
theorem dX8_digit_42 : decode cX8_digit 42 = .ok (.bipush 11, 2) := by decide +kernel
theorem dX8_digit_44 : decode cX8_digit 44 = .ok (.irem, 1) := by decide +kernel
theorem dX8_digit_45 : decode cX8_digit 45 = .ok (.ireturn, 1) := by decide +kernel
theorem dX8_carOf_0 : decode cX8_carOf 0 = .ok (.iconst 0, 1) := by decide +kernel
theorem dX8_carOf_1 : decode cX8_carOf 1 = .ok (.istore_n 2, 1) := by decide +kernel
theorem dX8_carOf_2 : decode cX8_carOf 2 = .ok (.iload_n 2, 1) := by decide +kernel
theorem dX8_carOf_3 : decode cX8_carOf 3 = .ok (.aload_n 0, 1) := by decide +kernel
theorem dX8_carOf_4 : decode cX8_carOf 4 = .ok (.getfield 90, 3) := by decide +kernel
theorem dX8_carOf_7 : decode cX8_carOf 7 = .ok (.if_icmp .ge 21, 3) := by decide +kernel
theorem dX8_carOf_10 : decode cX8_carOf 10 = .ok (.aload_n 0, 1) := by decide +kernel
theorem dX8_carOf_11 : decode cX8_carOf 11 = .ok (.getfield 7, 3) := by decide +kernel
theorem dX8_carOf_14 : decode cX8_carOf 14 = .ok (.iload_n 2, 1) := by decide +kernel
theorem dX8_carOf_15 : decode cX8_carOf 15 = .ok (.iaload, 1) := by decide +kernel
theorem dX8_carOf_16 : decode cX8_carOf 16 = .ok (.iload_n 1, 1) := by decide +kernel
theorem dX8_carOf_17 : decode cX8_carOf 17 = .ok (.if_icmp .ne 5, 3) := by decide +kernel
theorem dX8_carOf_20 : decode cX8_carOf 20 = .ok (.iload_n 2, 1) := by decide +kernel
theorem dX8_carOf_21 : decode cX8_carOf 21 = .ok (.ireturn, 1) := by decide +kernel
theorem dX8_carOf_22 : decode cX8_carOf 22 = .ok (.iinc 2 1, 3) := by decide +kernel
theorem dX8_carOf_25 : decode cX8_carOf 25 = .ok (.goto (-23), 3) := by decide +kernel
theorem dX8_carOf_28 : decode cX8_carOf 28 = .ok (.iconst (-1), 1) := by decide +kernel
theorem dX8_carOf_29 : decode cX8_carOf 29 = .ok (.ireturn, 1) := by decide +kernel
theorem dX8_counted_0 : decode cX8_counted 0 = .ok (.aload_n 0, 1) := by decide +kernel
theorem dX8_counted_1 : decode cX8_counted 1 = .ok (.getfield 93, 3) := by decide +kernel
theorem dX8_counted_4 : decode cX8_counted 4 = .ok (.aload_n 0, 1) := by decide +kernel
theorem dX8_counted_5 : decode cX8_counted 5 = .ok (.getfield 71, 3) := by decide +kernel
theorem dX8_counted_8 : decode cX8_counted 8 = .ok (.ifCond .eq 7, 3) := by decide +kernel
theorem dX8_counted_11 : decode cX8_counted 11 = .ok (.iconst 1, 1) := by decide +kernel
theorem dX8_counted_12 : decode cX8_counted 12 = .ok (.goto 4, 3) := by decide +kernel
theorem dX8_counted_15 : decode cX8_counted 15 = .ok (.iconst 0, 1) := by decide +kernel
theorem dX8_counted_16 : decode cX8_counted 16 = .ok (.iadd, 1) := by decide +kernel
theorem dX8_counted_17 : decode cX8_counted 17 = .ok (.istore_n 1, 1) := by decide +kernel
theorem dX8_counted_18 : decode cX8_counted 18 = .ok (.iconst 0, 1) := by decide +kernel
theorem dX8_counted_19 : decode cX8_counted 19 = .ok (.istore_n 2, 1) := by decide +kernel
theorem dX8_counted_20 : decode cX8_counted 20 = .ok (.iload_n 2, 1) := by decide +kernel
theorem dX8_counted_21 : decode cX8_counted 21 = .ok (.iconst 2, 1) := by decide +kernel
theorem dX8_counted_22 : decode cX8_counted 22 = .ok (.if_icmp .ge 115, 3) := by decide +kernel
theorem dX8_counted_25 : decode cX8_counted 25 = .ok (.aload_n 0, 1) := by decide +kernel
theorem dX8_counted_26 : decode cX8_counted 26 = .ok (.getfield 32, 3) := by decide +kernel
theorem dX8_counted_29 : decode cX8_counted 29 = .ok (.iload_n 2, 1) := by decide +kernel
theorem dX8_counted_30 : decode cX8_counted 30 = .ok (.iaload, 1) := by decide +kernel
theorem dX8_counted_31 : decode cX8_counted 31 = .ok (.ifCond .lt 22, 3) := by decide +kernel
theorem dX8_counted_34 : decode cX8_counted 34 = .ok (.aload_n 0, 1) := by decide +kernel
theorem dX8_counted_35 : decode cX8_counted 35 = .ok (.getfield 13, 3) := by decide +kernel
theorem dX8_counted_38 : decode cX8_counted 38 = .ok (.aload_n 0, 1) := by decide +kernel
theorem dX8_counted_39 : decode cX8_counted 39 = .ok (.getfield 32, 3) := by decide +kernel
theorem dX8_counted_42 : decode cX8_counted 42 = .ok (.iload_n 2, 1) := by decide +kernel
theorem dX8_counted_43 : decode cX8_counted 43 = .ok (.iaload, 1) := by decide +kernel
theorem dX8_counted_44 : decode cX8_counted 44 = .ok (.iaload, 1) := by decide +kernel
theorem dX8_counted_45 : decode cX8_counted 45 = .ok (.iconst 1, 1) := by decide +kernel
theorem dX8_counted_46 : decode cX8_counted 46 = .ok (.if_icmp .ne 7, 3) := by decide +kernel
theorem dX8_counted_49 : decode cX8_counted 49 = .ok (.iconst 1, 1) := by decide +kernel
theorem dX8_counted_50 : decode cX8_counted 50 = .ok (.goto 4, 3) := by decide +kernel
theorem dX8_counted_53 : decode cX8_counted 53 = .ok (.iconst 0, 1) := by decide +kernel
theorem dX8_counted_54 : decode cX8_counted 54 = .ok (.istore_n 3, 1) := by decide +kernel
theorem dX8_counted_55 : decode cX8_counted 55 = .ok (.iconst 0, 1) := by decide +kernel
theorem dX8_counted_56 : decode cX8_counted 56 = .ok (.istore 4, 2) := by decide +kernel
theorem dX8_counted_58 : decode cX8_counted 58 = .ok (.iload 4, 2) := by decide +kernel
theorem dX8_counted_60 : decode cX8_counted 60 = .ok (.aload_n 0, 1) := by decide +kernel
theorem dX8_counted_61 : decode cX8_counted 61 = .ok (.getfield 93, 3) := by decide +kernel
theorem dX8_counted_64 : decode cX8_counted 64 = .ok (.if_icmp .ge 35, 3) := by decide +kernel
theorem dX8_counted_67 : decode cX8_counted 67 = .ok (.iload_n 3, 1) := by decide +kernel
theorem dX8_counted_68 : decode cX8_counted 68 = .ok (.ifCond .eq 23, 3) := by decide +kernel
theorem dX8_counted_71 : decode cX8_counted 71 = .ok (.aload_n 0, 1) := by decide +kernel
theorem dX8_counted_72 : decode cX8_counted 72 = .ok (.getfield 42, 3) := by decide +kernel
theorem dX8_counted_75 : decode cX8_counted 75 = .ok (.iload 4, 2) := by decide +kernel
theorem dX8_counted_77 : decode cX8_counted 77 = .ok (.iaload, 1) := by decide +kernel
theorem dX8_counted_78 : decode cX8_counted 78 = .ok (.aload_n 0, 1) := by decide +kernel
theorem dX8_counted_79 : decode cX8_counted 79 = .ok (.getfield 32, 3) := by decide +kernel
theorem dX8_counted_82 : decode cX8_counted 82 = .ok (.iload_n 2, 1) := by decide +kernel
theorem dX8_counted_83 : decode cX8_counted 83 = .ok (.iaload, 1) := by decide +kernel
theorem dX8_counted_84 : decode cX8_counted 84 = .ok (.if_icmp .eq 7, 3) := by decide +kernel
theorem dX8_counted_87 : decode cX8_counted 87 = .ok (.iconst 1, 1) := by decide +kernel
theorem dX8_counted_88 : decode cX8_counted 88 = .ok (.goto 4, 3) := by decide +kernel
theorem dX8_counted_91 : decode cX8_counted 91 = .ok (.iconst 0, 1) := by decide +kernel
theorem dX8_counted_92 : decode cX8_counted 92 = .ok (.istore_n 3, 1) := by decide +kernel
theorem dX8_counted_93 : decode cX8_counted 93 = .ok (.iinc 4 1, 3) := by decide +kernel
theorem dX8_counted_96 : decode cX8_counted 96 = .ok (.goto (-38), 3) := by decide +kernel
theorem dX8_counted_99 : decode cX8_counted 99 = .ok (.iload_n 3, 1) := by decide +kernel
theorem dX8_counted_100 : decode cX8_counted 100 = .ok (.ifCond .eq 29, 3) := by decide +kernel
theorem dX8_counted_103 : decode cX8_counted 103 = .ok (.aload_n 0, 1) := by decide +kernel
theorem dX8_counted_104 : decode cX8_counted 104 = .ok (.getfield 71, 3) := by decide +kernel
theorem dX8_counted_107 : decode cX8_counted 107 = .ok (.ifCond .eq 16, 3) := by decide +kernel
theorem dX8_counted_110 : decode cX8_counted 110 = .ok (.aload_n 0, 1) := by decide +kernel
theorem dX8_counted_111 : decode cX8_counted 111 = .ok (.getfield 77, 3) := by decide +kernel
theorem dX8_counted_114 : decode cX8_counted 114 = .ok (.aload_n 0, 1) := by decide +kernel
theorem dX8_counted_115 : decode cX8_counted 115 = .ok (.getfield 32, 3) := by decide +kernel
theorem dX8_counted_118 : decode cX8_counted 118 = .ok (.iload_n 2, 1) := by decide +kernel
theorem dX8_counted_119 : decode cX8_counted 119 = .ok (.iaload, 1) := by decide +kernel
theorem dX8_counted_120 : decode cX8_counted 120 = .ok (.if_icmp .eq 9, 3) := by decide +kernel
theorem dX8_counted_123 : decode cX8_counted 123 = .ok (.iload_n 1, 1) := by decide +kernel
theorem dX8_counted_124 : decode cX8_counted 124 = .ok (.iconst 1, 1) := by decide +kernel
theorem dX8_counted_125 : decode cX8_counted 125 = .ok (.iadd, 1) := by decide +kernel
theorem dX8_counted_126 : decode cX8_counted 126 = .ok (.goto 4, 3) := by decide +kernel
theorem dX8_counted_129 : decode cX8_counted 129 = .ok (.iload_n 1, 1) := by decide +kernel
theorem dX8_counted_130 : decode cX8_counted 130 = .ok (.istore_n 1, 1) := by decide +kernel
theorem dX8_counted_131 : decode cX8_counted 131 = .ok (.iinc 2 1, 3) := by decide +kernel
theorem dX8_counted_134 : decode cX8_counted 134 = .ok (.goto (-114), 3) := by decide +kernel
theorem dX8_counted_137 : decode cX8_counted 137 = .ok (.iload_n 1, 1) := by decide +kernel
theorem dX8_counted_138 : decode cX8_counted 138 = .ok (.ireturn, 1) := by decide +kernel
set_option maxRecDepth 20000 in
theorem ggX8_arrive_X8_in : GoodIn wsX8_arrive wsX8_in := goodIn_r _ [13] (by decide +kernel) (by decide +kernel)
set_option maxRecDepth 20000 in
theorem gX8_arrive_X8_in : GoodIn wsX8_arrive (va_wsS RX8 96 yX8_in wsX8_in) := goodIn_app (goodIn_of _ (by decide +kernel)) ggX8_arrive_X8_in
set_option maxRecDepth 20000 in
theorem ggX8_arrive_X8_says : GoodIn wsX8_arrive wsX8_says := goodIn_r _ [17, 18, 49, 50, 51, 52, 53, 54, 55, 56, 57, 58, 59, 60, 61, 62, 63, 64, 65, 66, 67, 68, 69, 70, 71, 72, 73, 74, 75, 76, 77, 78, 79, 80] (by decide +kernel) (by decide +kernel)
set_option maxRecDepth 20000 in
theorem gX8_arrive_X8_says : GoodIn wsX8_arrive (wsV RX8 100 RX8 yX8_says wsX8_says) := goodIn_app (goodIn_of _ (by decide +kernel)) ggX8_arrive_X8_says
set_option maxRecDepth 20000 in
theorem ggX8_arrive_X8_fits : GoodIn wsX8_arrive wsX8_fits := goodIn_r _ [21] (by decide +kernel) (by decide +kernel)
set_option maxRecDepth 20000 in
theorem gX8_arrive_X8_fits : GoodIn wsX8_arrive (va_wsS RX8 83 yX8_fits wsX8_fits) := goodIn_app (goodIn_of _ (by decide +kernel)) ggX8_arrive_X8_fits
set_option maxRecDepth 20000 in
theorem ggX8_arrive_X8_find : GoodIn wsX8_arrive wsX8_find := goodIn_r _ [25, 26, 27, 8, 28, 29, 9, 30, 31, 12, 32, 19, 20, 21, 33, 34, 35, 36, 37, 38, 39, 49, 50, 51, 52, 53, 54, 55, 56, 57, 58, 59, 60, 61, 62, 63, 64, 65, 66, 67, 68, 69, 70, 71, 72, 73, 74, 75, 76, 77, 78, 79, 80] (by decide +kernel) (by decide +kernel)
set_option maxRecDepth 20000 in
theorem gX8_arrive_X8_find : GoodIn wsX8_arrive (wsV RX8 104 RX8 yX8_find wsX8_find) := goodIn_app (goodIn_of _ (by decide +kernel)) ggX8_arrive_X8_find
set_option maxRecDepth 20000 in
theorem ggX8_arrive_X8_digit : GoodIn wsX8_arrive wsX8_digit := goodIn_r _ [42] (by decide +kernel) (by decide +kernel)
set_option maxRecDepth 20000 in
theorem gX8_arrive_X8_digit : GoodIn wsX8_arrive (va_wsS RX8 111 yX8_digit wsX8_digit) := goodIn_app (goodIn_of _ (by decide +kernel)) ggX8_arrive_X8_digit
set_option maxRecDepth 20000 in
theorem ggX8_arrive_X8_counted : GoodIn wsX8_arrive wsX8_counted := goodIn_r _ [46, 47, 26, 1, 7, 48, 28, 49, 50, 51, 52, 53, 54, 55, 56, 57, 58, 59, 60, 61, 62, 63, 64, 65, 66, 67, 68, 69, 70, 71, 72, 73, 74, 75, 76, 77, 78, 79, 80] (by decide +kernel) (by decide +kernel)
set_option maxRecDepth 20000 in
theorem gX8_arrive_X8_counted : GoodIn wsX8_arrive (wsV RX8 114 RX8 yX8_counted wsX8_counted) := goodIn_app (goodIn_of _ (by decide +kernel)) ggX8_arrive_X8_counted
set_option maxRecDepth 20000 in
theorem ggX8_arrive_X8_depth : GoodIn wsX8_arrive wsX8_depth := goodIn_r _ [39] (by decide +kernel) (by decide +kernel)
set_option maxRecDepth 20000 in
theorem gX8_arrive_X8_depth : GoodIn wsX8_arrive (va_wsS RX8 67 yX8_depth wsX8_depth) := goodIn_app (goodIn_of _ (by decide +kernel)) ggX8_arrive_X8_depth
theorem dX8_arrive_0 : decode cX8_arrive 0 = .ok (.aload_n 0, 1) := by decide +kernel
theorem dX8_arrive_1 : decode cX8_arrive 1 = .ok (.iload_n 1, 1) := by decide +kernel
theorem dX8_arrive_2 : decode cX8_arrive 2 = .ok (.iconst 0, 1) := by decide +kernel
theorem dX8_arrive_3 : decode cX8_arrive 3 = .ok (.iconst 1, 1) := by decide +kernel
theorem dX8_arrive_4 : decode cX8_arrive 4 = .ok (.invokestatic 96, 3) := by decide +kernel
theorem dX8_arrive_7 : decode cX8_arrive 7 = .ok (.ifCond .eq 20, 3) := by decide +kernel
theorem dX8_arrive_10 : decode cX8_arrive 10 = .ok (.iload_n 2, 1) := by decide +kernel
theorem dX8_arrive_11 : decode cX8_arrive 11 = .ok (.ifCond .le 16, 3) := by decide +kernel
theorem dX8_arrive_14 : decode cX8_arrive 14 = .ok (.iload_n 3, 1) := by decide +kernel
theorem dX8_arrive_15 : decode cX8_arrive 15 = .ok (.ifCond .le 12, 3) := by decide +kernel
theorem dX8_arrive_18 : decode cX8_arrive 18 = .ok (.iload 4, 2) := by decide +kernel
theorem dX8_arrive_20 : decode cX8_arrive 20 = .ok (.ifCond .le 7, 3) := by decide +kernel
theorem dX8_arrive_23 : decode cX8_arrive 23 = .ok (.iconst 1, 1) := by decide +kernel
theorem dX8_arrive_24 : decode cX8_arrive 24 = .ok (.goto 4, 3) := by decide +kernel
theorem dX8_arrive_27 : decode cX8_arrive 27 = .ok (.iconst 0, 1) := by decide +kernel
theorem dX8_arrive_28 : decode cX8_arrive 28 = .ok (.invokevirtual 100, 3) := by decide +kernel
theorem dX8_arrive_31 : decode cX8_arrive 31 = .ok (.ifCond .ne 5, 3) := by decide +kernel
theorem dX8_arrive_34 : decode cX8_arrive 34 = .ok (.iconst 0, 1) := by decide +kernel
theorem dX8_arrive_35 : decode cX8_arrive 35 = .ok (.ireturn, 1) := by decide +kernel
theorem dX8_arrive_36 : decode cX8_arrive 36 = .ok (.aload_n 0, 1) := by decide +kernel
theorem dX8_arrive_37 : decode cX8_arrive 37 = .ok (.getfield 32, 3) := by decide +kernel
theorem dX8_arrive_40 : decode cX8_arrive 40 = .ok (.iload_n 1, 1) := by decide +kernel
theorem dX8_arrive_41 : decode cX8_arrive 41 = .ok (.iaload, 1) := by decide +kernel
theorem dX8_arrive_42 : decode cX8_arrive 42 = .ok (.ifCond .lt 5, 3) := by decide +kernel
theorem dX8_arrive_45 : decode cX8_arrive 45 = .ok (.iconst (-1), 1) := by decide +kernel
theorem dX8_arrive_46 : decode cX8_arrive 46 = .ok (.ireturn, 1) := by decide +kernel
theorem dX8_arrive_47 : decode cX8_arrive 47 = .ok (.aload_n 0, 1) := by decide +kernel
theorem dX8_arrive_48 : decode cX8_arrive 48 = .ok (.getfield 22, 3) := by decide +kernel
theorem dX8_arrive_51 : decode cX8_arrive 51 = .ok (.iload_n 1, 1) := by decide +kernel
theorem dX8_arrive_52 : decode cX8_arrive 52 = .ok (.iaload, 1) := by decide +kernel
theorem dX8_arrive_53 : decode cX8_arrive 53 = .ok (.iconst 2, 1) := by decide +kernel
theorem dX8_arrive_54 : decode cX8_arrive 54 = .ok (.if_icmp .eq 6, 3) := by decide +kernel
theorem dX8_arrive_57 : decode cX8_arrive 57 = .ok (.bipush (-2), 2) := by decide +kernel
theorem dX8_arrive_59 : decode cX8_arrive 59 = .ok (.ireturn, 1) := by decide +kernel
theorem dX8_arrive_60 : decode cX8_arrive 60 = .ok (.iconst 0, 1) := by decide +kernel
theorem dX8_arrive_61 : decode cX8_arrive 61 = .ok (.istore 5, 2) := by decide +kernel
theorem dX8_arrive_63 : decode cX8_arrive 63 = .ok (.iconst 0, 1) := by decide +kernel
theorem dX8_arrive_64 : decode cX8_arrive 64 = .ok (.istore 6, 2) := by decide +kernel
theorem dX8_arrive_66 : decode cX8_arrive 66 = .ok (.iload 6, 2) := by decide +kernel
theorem dX8_arrive_68 : decode cX8_arrive 68 = .ok (.iconst 4, 1) := by decide +kernel
theorem dX8_arrive_69 : decode cX8_arrive 69 = .ok (.if_icmp .ge 33, 3) := by decide +kernel
theorem dX8_arrive_72 : decode cX8_arrive 72 = .ok (.iload 5, 2) := by decide +kernel
theorem dX8_arrive_74 : decode cX8_arrive 74 = .ok (.ifCond .ne 15, 3) := by decide +kernel
theorem dX8_arrive_77 : decode cX8_arrive 77 = .ok (.iload 6, 2) := by decide +kernel
theorem dX8_arrive_79 : decode cX8_arrive 79 = .ok (.iload_n 2, 1) := by decide +kernel
theorem dX8_arrive_80 : decode cX8_arrive 80 = .ok (.iload_n 3, 1) := by decide +kernel
theorem dX8_arrive_81 : decode cX8_arrive 81 = .ok (.iload 4, 2) := by decide +kernel
theorem dX8_arrive_83 : decode cX8_arrive 83 = .ok (.invokestatic 83, 3) := by decide +kernel
theorem dX8_arrive_86 : decode cX8_arrive 86 = .ok (.ifCond .eq 7, 3) := by decide +kernel
theorem dX8_arrive_89 : decode cX8_arrive 89 = .ok (.iconst 1, 1) := by decide +kernel
theorem dX8_arrive_90 : decode cX8_arrive 90 = .ok (.goto 4, 3) := by decide +kernel
theorem dX8_arrive_93 : decode cX8_arrive 93 = .ok (.iconst 0, 1) := by decide +kernel
theorem dX8_arrive_94 : decode cX8_arrive 94 = .ok (.istore 5, 2) := by decide +kernel
theorem dX8_arrive_96 : decode cX8_arrive 96 = .ok (.iinc 6 1, 3) := by decide +kernel
theorem dX8_arrive_99 : decode cX8_arrive 99 = .ok (.goto (-33), 3) := by decide +kernel
theorem dX8_arrive_102 : decode cX8_arrive 102 = .ok (.iload 5, 2) := by decide +kernel
theorem dX8_arrive_104 : decode cX8_arrive 104 = .ok (.ifCond .ne 6, 3) := by decide +kernel
theorem dX8_arrive_107 : decode cX8_arrive 107 = .ok (.bipush (-3), 2) := by decide +kernel
theorem dX8_arrive_109 : decode cX8_arrive 109 = .ok (.ireturn, 1) := by decide +kernel
theorem dX8_arrive_110 : decode cX8_arrive 110 = .ok (.aload_n 0, 1) := by decide +kernel
theorem dX8_arrive_111 : decode cX8_arrive 111 = .ok (.iload_n 2, 1) := by decide +kernel
theorem dX8_arrive_112 : decode cX8_arrive 112 = .ok (.iload_n 3, 1) := by decide +kernel
theorem dX8_arrive_113 : decode cX8_arrive 113 = .ok (.iload 4, 2) := by decide +kernel
theorem dX8_arrive_115 : decode cX8_arrive 115 = .ok (.invokevirtual 104, 3) := by decide +kernel
theorem dX8_arrive_118 : decode cX8_arrive 118 = .ok (.istore 6, 2) := by decide +kernel
theorem dX8_arrive_120 : decode cX8_arrive 120 = .ok (.iload 6, 2) := by decide +kernel
theorem dX8_arrive_122 : decode cX8_arrive 122 = .ok (.ifCond .ge 6, 3) := by decide +kernel
theorem dX8_arrive_125 : decode cX8_arrive 125 = .ok (.bipush (-4), 2) := by decide +kernel
theorem dX8_arrive_127 : decode cX8_arrive 127 = .ok (.ireturn, 1) := by decide +kernel
theorem dX8_arrive_128 : decode cX8_arrive 128 = .ok (.aload_n 0, 1) := by decide +kernel
theorem dX8_arrive_129 : decode cX8_arrive 129 = .ok (.getfield 38, 3) := by decide +kernel
theorem dX8_arrive_132 : decode cX8_arrive 132 = .ok (.ifCond .ne 6, 3) := by decide +kernel
theorem dX8_arrive_135 : decode cX8_arrive 135 = .ok (.bipush (-5), 2) := by decide +kernel
theorem dX8_arrive_137 : decode cX8_arrive 137 = .ok (.ireturn, 1) := by decide +kernel
theorem dX8_arrive_138 : decode cX8_arrive 138 = .ok (.aload_n 0, 1) := by decide +kernel
theorem dX8_arrive_139 : decode cX8_arrive 139 = .ok (.getfield 108, 3) := by decide +kernel
theorem dX8_arrive_142 : decode cX8_arrive 142 = .ok (.iconst 1, 1) := by decide +kernel
theorem dX8_arrive_143 : decode cX8_arrive 143 = .ok (.iadd, 1) := by decide +kernel
theorem dX8_arrive_144 : decode cX8_arrive 144 = .ok (.istore 7, 2) := by decide +kernel
theorem dX8_arrive_146 : decode cX8_arrive 146 = .ok (.iload 7, 2) := by decide +kernel
theorem dX8_arrive_148 : decode cX8_arrive 148 = .ok (.sipush 10000, 3) := by decide +kernel
theorem dX8_arrive_151 : decode cX8_arrive 151 = .ok (.if_icmp .ge 19, 3) := by decide +kernel
theorem dX8_arrive_154 : decode cX8_arrive 154 = .ok (.iload 7, 2) := by decide +kernel
theorem dX8_arrive_156 : decode cX8_arrive 156 = .ok (.invokestatic 111, 3) := by decide +kernel
theorem dX8_arrive_159 : decode cX8_arrive 159 = .ok (.bipush 10, 2) := by decide +kernel
theorem dX8_arrive_161 : decode cX8_arrive 161 = .ok (.if_icmp .ne 9, 3) := by decide +kernel
theorem dX8_arrive_164 : decode cX8_arrive 164 = .ok (.iinc 7 1, 3) := by decide +kernel
theorem dX8_arrive_167 : decode cX8_arrive 167 = .ok (.goto (-21), 3) := by decide +kernel
theorem dX8_arrive_170 : decode cX8_arrive 170 = .ok (.aload_n 0, 1) := by decide +kernel
theorem dX8_arrive_171 : decode cX8_arrive 171 = .ok (.invokevirtual 114, 3) := by decide +kernel
theorem dX8_arrive_174 : decode cX8_arrive 174 = .ok (.bipush 24, 2) := by decide +kernel
theorem dX8_arrive_176 : decode cX8_arrive 176 = .ok (.if_icmp .ge 11, 3) := by decide +kernel
theorem dX8_arrive_179 : decode cX8_arrive 179 = .ok (.iload 7, 2) := by decide +kernel
theorem dX8_arrive_181 : decode cX8_arrive 181 = .ok (.sipush 9999, 3) := by decide +kernel
theorem dX8_arrive_184 : decode cX8_arrive 184 = .ok (.if_icmp .le 6, 3) := by decide +kernel
theorem dX8_arrive_187 : decode cX8_arrive 187 = .ok (.bipush (-6), 2) := by decide +kernel
theorem dX8_arrive_189 : decode cX8_arrive 189 = .ok (.ireturn, 1) := by decide +kernel
theorem dX8_arrive_190 : decode cX8_arrive 190 = .ok (.aload_n 0, 1) := by decide +kernel
theorem dX8_arrive_191 : decode cX8_arrive 191 = .ok (.iload 7, 2) := by decide +kernel
theorem dX8_arrive_193 : decode cX8_arrive 193 = .ok (.putfield 108, 3) := by decide +kernel
theorem dX8_arrive_196 : decode cX8_arrive 196 = .ok (.aload_n 0, 1) := by decide +kernel
theorem dX8_arrive_197 : decode cX8_arrive 197 = .ok (.getfield 7, 3) := by decide +kernel
theorem dX8_arrive_200 : decode cX8_arrive 200 = .ok (.aload_n 0, 1) := by decide +kernel
theorem dX8_arrive_201 : decode cX8_arrive 201 = .ok (.getfield 90, 3) := by decide +kernel
theorem dX8_arrive_204 : decode cX8_arrive 204 = .ok (.bipush 10, 2) := by decide +kernel
theorem dX8_arrive_206 : decode cX8_arrive 206 = .ok (.iload 7, 2) := by decide +kernel
theorem dX8_arrive_208 : decode cX8_arrive 208 = .ok (.imul, 1) := by decide +kernel
theorem dX8_arrive_209 : decode cX8_arrive 209 = .ok (.iload 7, 2) := by decide +kernel
theorem dX8_arrive_211 : decode cX8_arrive 211 = .ok (.invokestatic 111, 3) := by decide +kernel
theorem dX8_arrive_214 : decode cX8_arrive 214 = .ok (.iadd, 1) := by decide +kernel
theorem dX8_arrive_215 : decode cX8_arrive 215 = .ok (.iastore, 1) := by decide +kernel
theorem dX8_arrive_216 : decode cX8_arrive 216 = .ok (.aload_n 0, 1) := by decide +kernel
theorem dX8_arrive_217 : decode cX8_arrive 217 = .ok (.getfield 13, 3) := by decide +kernel
theorem dX8_arrive_220 : decode cX8_arrive 220 = .ok (.aload_n 0, 1) := by decide +kernel
theorem dX8_arrive_221 : decode cX8_arrive 221 = .ok (.getfield 90, 3) := by decide +kernel
theorem dX8_arrive_224 : decode cX8_arrive 224 = .ok (.iconst 1, 1) := by decide +kernel
theorem dX8_arrive_225 : decode cX8_arrive 225 = .ok (.iastore, 1) := by decide +kernel
theorem dX8_arrive_226 : decode cX8_arrive 226 = .ok (.aload_n 0, 1) := by decide +kernel
theorem dX8_arrive_227 : decode cX8_arrive 227 = .ok (.getfield 16, 3) := by decide +kernel
theorem dX8_arrive_230 : decode cX8_arrive 230 = .ok (.aload_n 0, 1) := by decide +kernel
theorem dX8_arrive_231 : decode cX8_arrive 231 = .ok (.getfield 90, 3) := by decide +kernel
theorem dX8_arrive_234 : decode cX8_arrive 234 = .ok (.iload 6, 2) := by decide +kernel
theorem dX8_arrive_236 : decode cX8_arrive 236 = .ok (.iastore, 1) := by decide +kernel
theorem dX8_arrive_237 : decode cX8_arrive 237 = .ok (.aload_n 0, 1) := by decide +kernel
theorem dX8_arrive_238 : decode cX8_arrive 238 = .ok (.getfield 32, 3) := by decide +kernel
theorem dX8_arrive_241 : decode cX8_arrive 241 = .ok (.iload_n 1, 1) := by decide +kernel
theorem dX8_arrive_242 : decode cX8_arrive 242 = .ok (.aload_n 0, 1) := by decide +kernel
theorem dX8_arrive_243 : decode cX8_arrive 243 = .ok (.getfield 90, 3) := by decide +kernel
theorem dX8_arrive_246 : decode cX8_arrive 246 = .ok (.iastore, 1) := by decide +kernel
theorem dX8_arrive_247 : decode cX8_arrive 247 = .ok (.aload_n 0, 1) := by decide +kernel
theorem dX8_arrive_248 : decode cX8_arrive 248 = .ok (.getfield 19, 3) := by decide +kernel
theorem dX8_arrive_251 : decode cX8_arrive 251 = .ok (.iload 6, 2) := by decide +kernel
theorem dX8_arrive_253 : decode cX8_arrive 253 = .ok (.iconst (-1), 1) := by decide +kernel
theorem dX8_arrive_254 : decode cX8_arrive 254 = .ok (.iastore, 1) := by decide +kernel
theorem dX8_arrive_255 : decode cX8_arrive 255 = .ok (.iload 6, 2) := by decide +kernel
theorem dX8_arrive_257 : decode cX8_arrive 257 = .ok (.invokestatic 67, 3) := by decide +kernel
theorem dX8_arrive_260 : decode cX8_arrive 260 = .ok (.iconst 1, 1) := by decide +kernel
theorem dX8_arrive_261 : decode cX8_arrive 261 = .ok (.if_icmp .ne 13, 3) := by decide +kernel
theorem dX8_arrive_264 : decode cX8_arrive 264 = .ok (.aload_n 0, 1) := by decide +kernel
theorem dX8_arrive_265 : decode cX8_arrive 265 = .ok (.getfield 19, 3) := by decide +kernel
theorem dX8_arrive_268 : decode cX8_arrive 268 = .ok (.iload 6, 2) := by decide +kernel
theorem dX8_arrive_270 : decode cX8_arrive 270 = .ok (.iconst 1, 1) := by decide +kernel
theorem dX8_arrive_271 : decode cX8_arrive 271 = .ok (.isub, 1) := by decide +kernel
theorem dX8_arrive_272 : decode cX8_arrive 272 = .ok (.iconst (-1), 1) := by decide +kernel
theorem dX8_arrive_273 : decode cX8_arrive 273 = .ok (.iastore, 1) := by decide +kernel
theorem dX8_arrive_274 : decode cX8_arrive 274 = .ok (.aload_n 0, 1) := by decide +kernel
theorem dX8_arrive_275 : decode cX8_arrive 275 = .ok (.dup, 1) := by decide +kernel
theorem dX8_arrive_276 : decode cX8_arrive 276 = .ok (.getfield 90, 3) := by decide +kernel
theorem dX8_arrive_279 : decode cX8_arrive 279 = .ok (.iconst 1, 1) := by decide +kernel
theorem dX8_arrive_280 : decode cX8_arrive 280 = .ok (.iadd, 1) := by decide +kernel
theorem dX8_arrive_281 : decode cX8_arrive 281 = .ok (.putfield 90, 3) := by decide +kernel
theorem dX8_arrive_284 : decode cX8_arrive 284 = .ok (.aload_n 0, 1) := by decide +kernel
theorem dX8_arrive_285 : decode cX8_arrive 285 = .ok (.getfield 7, 3) := by decide +kernel
theorem dX8_arrive_288 : decode cX8_arrive 288 = .ok (.aload_n 0, 1) := by decide +kernel
theorem dX8_arrive_289 : decode cX8_arrive 289 = .ok (.getfield 90, 3) := by decide +kernel
theorem dX8_arrive_292 : decode cX8_arrive 292 = .ok (.iconst 1, 1) := by decide +kernel
theorem dX8_arrive_293 : decode cX8_arrive 293 = .ok (.isub, 1) := by decide +kernel
theorem dX8_arrive_294 : decode cX8_arrive 294 = .ok (.iaload, 1) := by decide +kernel
theorem dX8_arrive_295 : decode cX8_arrive 295 = .ok (.ireturn, 1) := by decide +kernel
theorem dX8_moves_0 : decode cX8_moves 0 = .ok (.aload_n 0, 1) := by decide +kernel
theorem dX8_moves_1 : decode cX8_moves 1 = .ok (.getfield 22, 3) := by decide +kernel
theorem dX8_moves_4 : decode cX8_moves 4 = .ok (.iload_n 1, 1) := by decide +kernel
theorem dX8_moves_5 : decode cX8_moves 5 = .ok (.iload_n 2, 1) := by decide +kernel
theorem dX8_moves_6 : decode cX8_moves 6 = .ok (.iastore, 1) := by decide +kernel
theorem dX8_moves_7 : decode cX8_moves 7 = .ok (.aload_n 0, 1) := by decide +kernel
theorem dX8_moves_8 : decode cX8_moves 8 = .ok (.getfield 25, 3) := by decide +kernel
theorem dX8_moves_11 : decode cX8_moves 11 = .ok (.iload_n 1, 1) := by decide +kernel
theorem dX8_moves_12 : decode cX8_moves 12 = .ok (.iconst 4, 1) := by decide +kernel
theorem dX8_moves_13 : decode cX8_moves 13 = .ok (.iastore, 1) := by decide +kernel
theorem dX8_moves_14 : decode cX8_moves 14 = .ok (.return_, 1) := by decide +kernel
set_option maxRecDepth 20000 in
theorem ggX8_shut_X8_in : GoodIn wsX8_shut wsX8_in := goodIn_r _ [10] (by decide +kernel) (by decide +kernel)
set_option maxRecDepth 20000 in
theorem gX8_shut_X8_in : GoodIn wsX8_shut (va_wsS RX8 96 yX8_in wsX8_in) := goodIn_app (goodIn_of _ (by decide +kernel)) ggX8_shut_X8_in
set_option maxRecDepth 20000 in
theorem ggX8_shut_X8_moves : GoodIn wsX8_shut wsX8_moves := goodIn_r _ [14, 1, 15, 16, 17, 18, 19, 20, 21, 22, 23, 24, 25, 26, 27, 28, 29, 30, 31, 32, 33, 34, 35, 36, 37, 38, 39, 40, 41, 42, 43, 44, 45, 46, 47] (by decide +kernel) (by decide +kernel)
set_option maxRecDepth 20000 in
theorem gX8_shut_X8_moves : GoodIn wsX8_shut (wsV RX8 118 RX8 yX8_moves wsX8_moves) := goodIn_app (goodIn_of _ (by decide +kernel)) ggX8_shut_X8_moves
theorem dX8_shut_0 : decode cX8_shut 0 = .ok (.aload_n 0, 1) := by decide +kernel
theorem dX8_shut_1 : decode cX8_shut 1 = .ok (.iload_n 1, 1) := by decide +kernel
theorem dX8_shut_2 : decode cX8_shut 2 = .ok (.iconst 0, 1) := by decide +kernel
theorem dX8_shut_3 : decode cX8_shut 3 = .ok (.iconst 1, 1) := by decide +kernel
theorem dX8_shut_4 : decode cX8_shut 4 = .ok (.invokestatic 96, 3) := by decide +kernel
theorem dX8_shut_7 : decode cX8_shut 7 = .ok (.ifCond .ne 7, 3) := by decide +kernel
theorem dX8_shut_10 : decode cX8_shut 10 = .ok (.iconst 1, 1) := by decide +kernel
theorem dX8_shut_11 : decode cX8_shut 11 = .ok (.goto 58, 3) := by decide +kernel
theorem dX8_shut_14 : decode cX8_shut 14 = .ok (.aload_n 0, 1) := by decide +kernel
theorem dX8_shut_15 : decode cX8_shut 15 = .ok (.getfield 22, 3) := by decide +kernel
theorem dX8_shut_18 : decode cX8_shut 18 = .ok (.iload_n 1, 1) := by decide +kernel
theorem dX8_shut_19 : decode cX8_shut 19 = .ok (.iaload, 1) := by decide +kernel
theorem dX8_shut_20 : decode cX8_shut 20 = .ok (.iconst 2, 1) := by decide +kernel
theorem dX8_shut_21 : decode cX8_shut 21 = .ok (.if_icmp .ne 43, 3) := by decide +kernel
theorem dX8_shut_24 : decode cX8_shut 24 = .ok (.aload_n 0, 1) := by decide +kernel
theorem dX8_shut_25 : decode cX8_shut 25 = .ok (.getfield 28, 3) := by decide +kernel
theorem dX8_shut_28 : decode cX8_shut 28 = .ok (.iload_n 1, 1) := by decide +kernel
theorem dX8_shut_29 : decode cX8_shut 29 = .ok (.baload, 1) := by decide +kernel
theorem dX8_shut_30 : decode cX8_shut 30 = .ok (.ifCond .ne 34, 3) := by decide +kernel
theorem dX8_shut_33 : decode cX8_shut 33 = .ok (.aload_n 0, 1) := by decide +kernel
theorem dX8_shut_34 : decode cX8_shut 34 = .ok (.getfield 32, 3) := by decide +kernel
theorem dX8_shut_37 : decode cX8_shut 37 = .ok (.iload_n 1, 1) := by decide +kernel
theorem dX8_shut_38 : decode cX8_shut 38 = .ok (.iaload, 1) := by decide +kernel
theorem dX8_shut_39 : decode cX8_shut 39 = .ok (.ifCond .lt 18, 3) := by decide +kernel
theorem dX8_shut_42 : decode cX8_shut 42 = .ok (.aload_n 0, 1) := by decide +kernel
theorem dX8_shut_43 : decode cX8_shut 43 = .ok (.getfield 13, 3) := by decide +kernel
theorem dX8_shut_46 : decode cX8_shut 46 = .ok (.aload_n 0, 1) := by decide +kernel
theorem dX8_shut_47 : decode cX8_shut 47 = .ok (.getfield 32, 3) := by decide +kernel
theorem dX8_shut_50 : decode cX8_shut 50 = .ok (.iload_n 1, 1) := by decide +kernel
theorem dX8_shut_51 : decode cX8_shut 51 = .ok (.iaload, 1) := by decide +kernel
theorem dX8_shut_52 : decode cX8_shut 52 = .ok (.iaload, 1) := by decide +kernel
theorem dX8_shut_53 : decode cX8_shut 53 = .ok (.iconst 4, 1) := by decide +kernel
theorem dX8_shut_54 : decode cX8_shut 54 = .ok (.if_icmp .eq 10, 3) := by decide +kernel
theorem dX8_shut_57 : decode cX8_shut 57 = .ok (.aload_n 0, 1) := by decide +kernel
theorem dX8_shut_58 : decode cX8_shut 58 = .ok (.getfield 38, 3) := by decide +kernel
theorem dX8_shut_61 : decode cX8_shut 61 = .ok (.ifCond .ne 7, 3) := by decide +kernel
theorem dX8_shut_64 : decode cX8_shut 64 = .ok (.iconst 2, 1) := by decide +kernel
theorem dX8_shut_65 : decode cX8_shut 65 = .ok (.goto 4, 3) := by decide +kernel
theorem dX8_shut_68 : decode cX8_shut 68 = .ok (.iconst 0, 1) := by decide +kernel
theorem dX8_shut_69 : decode cX8_shut 69 = .ok (.putfield 63, 3) := by decide +kernel
theorem dX8_shut_72 : decode cX8_shut 72 = .ok (.aload_n 0, 1) := by decide +kernel
theorem dX8_shut_73 : decode cX8_shut 73 = .ok (.getfield 63, 3) := by decide +kernel
theorem dX8_shut_76 : decode cX8_shut 76 = .ok (.ifCond .ne 9, 3) := by decide +kernel
theorem dX8_shut_79 : decode cX8_shut 79 = .ok (.aload_n 0, 1) := by decide +kernel
theorem dX8_shut_80 : decode cX8_shut 80 = .ok (.iload_n 1, 1) := by decide +kernel
theorem dX8_shut_81 : decode cX8_shut 81 = .ok (.iconst 3, 1) := by decide +kernel
theorem dX8_shut_82 : decode cX8_shut 82 = .ok (.invokevirtual 118, 3) := by decide +kernel
theorem dX8_shut_85 : decode cX8_shut 85 = .ok (.return_, 1) := by decide +kernel
set_option maxRecDepth 20000 in
theorem ggX8_person_X8_in : GoodIn wsX8_person wsX8_in := goodIn_r _ [7] (by decide +kernel) (by decide +kernel)
set_option maxRecDepth 20000 in
theorem gX8_person_X8_in : GoodIn wsX8_person (va_wsS RX8 96 yX8_in wsX8_in) := goodIn_app (goodIn_of _ (by decide +kernel)) ggX8_person_X8_in
set_option maxRecDepth 20000 in
theorem ggX8_person_X8_moves : GoodIn wsX8_person wsX8_moves := goodIn_r _ [11, 1, 12, 13, 14, 15, 16, 17, 18, 19, 20, 21, 22, 23, 24, 25, 26, 27, 28, 29, 30, 31, 32, 33, 34, 35, 36, 37, 38, 39, 40, 41, 42, 43, 44] (by decide +kernel) (by decide +kernel)
set_option maxRecDepth 20000 in
theorem gX8_person_X8_moves : GoodIn wsX8_person (wsV RX8 118 RX8 yX8_moves wsX8_moves) := goodIn_app (goodIn_of _ (by decide +kernel)) ggX8_person_X8_moves
theorem dX8_person_0 : decode cX8_person 0 = .ok (.aload_n 0, 1) := by decide +kernel
theorem dX8_person_1 : decode cX8_person 1 = .ok (.iload_n 1, 1) := by decide +kernel
theorem dX8_person_2 : decode cX8_person 2 = .ok (.iconst 0, 1) := by decide +kernel
theorem dX8_person_3 : decode cX8_person 3 = .ok (.iconst 1, 1) := by decide +kernel
theorem dX8_person_4 : decode cX8_person 4 = .ok (.invokestatic 96, 3) := by decide +kernel
theorem dX8_person_7 : decode cX8_person 7 = .ok (.ifCond .ne 7, 3) := by decide +kernel
theorem dX8_person_10 : decode cX8_person 10 = .ok (.iconst 1, 1) := by decide +kernel
theorem dX8_person_11 : decode cX8_person 11 = .ok (.goto 21, 3) := by decide +kernel
theorem dX8_person_14 : decode cX8_person 14 = .ok (.iload_n 2, 1) := by decide +kernel
theorem dX8_person_15 : decode cX8_person 15 = .ok (.ifCond .eq 16, 3) := by decide +kernel
theorem dX8_person_18 : decode cX8_person 18 = .ok (.aload_n 0, 1) := by decide +kernel
theorem dX8_person_19 : decode cX8_person 19 = .ok (.getfield 22, 3) := by decide +kernel
theorem dX8_person_22 : decode cX8_person 22 = .ok (.iload_n 1, 1) := by decide +kernel
theorem dX8_person_23 : decode cX8_person 23 = .ok (.iaload, 1) := by decide +kernel
theorem dX8_person_24 : decode cX8_person 24 = .ok (.ifCond .ne 7, 3) := by decide +kernel
theorem dX8_person_27 : decode cX8_person 27 = .ok (.iconst 2, 1) := by decide +kernel
theorem dX8_person_28 : decode cX8_person 28 = .ok (.goto 4, 3) := by decide +kernel
theorem dX8_person_31 : decode cX8_person 31 = .ok (.iconst 0, 1) := by decide +kernel
theorem dX8_person_32 : decode cX8_person 32 = .ok (.putfield 63, 3) := by decide +kernel
theorem dX8_person_35 : decode cX8_person 35 = .ok (.aload_n 0, 1) := by decide +kernel
theorem dX8_person_36 : decode cX8_person 36 = .ok (.getfield 63, 3) := by decide +kernel
theorem dX8_person_39 : decode cX8_person 39 = .ok (.ifCond .le 4, 3) := by decide +kernel
theorem dX8_person_42 : decode cX8_person 42 = .ok (.return_, 1) := by decide +kernel
theorem dX8_person_43 : decode cX8_person 43 = .ok (.aload_n 0, 1) := by decide +kernel
theorem dX8_person_44 : decode cX8_person 44 = .ok (.getfield 28, 3) := by decide +kernel
theorem dX8_person_47 : decode cX8_person 47 = .ok (.iload_n 1, 1) := by decide +kernel
theorem dX8_person_48 : decode cX8_person 48 = .ok (.iload_n 2, 1) := by decide +kernel
theorem dX8_person_49 : decode cX8_person 49 = .ok (.bastore, 1) := by decide +kernel
theorem dX8_person_50 : decode cX8_person 50 = .ok (.iload_n 2, 1) := by decide +kernel
theorem dX8_person_51 : decode cX8_person 51 = .ok (.ifCond .eq 19, 3) := by decide +kernel
theorem dX8_person_54 : decode cX8_person 54 = .ok (.aload_n 0, 1) := by decide +kernel
theorem dX8_person_55 : decode cX8_person 55 = .ok (.getfield 22, 3) := by decide +kernel
theorem dX8_person_58 : decode cX8_person 58 = .ok (.iload_n 1, 1) := by decide +kernel
theorem dX8_person_59 : decode cX8_person 59 = .ok (.iaload, 1) := by decide +kernel
theorem dX8_person_60 : decode cX8_person 60 = .ok (.iconst 3, 1) := by decide +kernel
theorem dX8_person_61 : decode cX8_person 61 = .ok (.if_icmp .ne 9, 3) := by decide +kernel
theorem dX8_person_64 : decode cX8_person 64 = .ok (.aload_n 0, 1) := by decide +kernel
theorem dX8_person_65 : decode cX8_person 65 = .ok (.iload_n 1, 1) := by decide +kernel
theorem dX8_person_66 : decode cX8_person 66 = .ok (.iconst 1, 1) := by decide +kernel
theorem dX8_person_67 : decode cX8_person 67 = .ok (.invokevirtual 118, 3) := by decide +kernel
theorem dX8_person_70 : decode cX8_person 70 = .ok (.return_, 1) := by decide +kernel
set_option maxRecDepth 20000 in
theorem ggX8_gone_X8_in : GoodIn wsX8_gone wsX8_in := goodIn_r _ [9] (by decide +kernel) (by decide +kernel)
set_option maxRecDepth 20000 in
theorem gX8_gone_X8_in : GoodIn wsX8_gone (va_wsS RX8 96 yX8_in wsX8_in) := goodIn_app (goodIn_of _ (by decide +kernel)) ggX8_gone_X8_in
theorem dX8_gone_0 : decode cX8_gone 0 = .ok (.aload_n 0, 1) := by decide +kernel
theorem dX8_gone_1 : decode cX8_gone 1 = .ok (.iload_n 1, 1) := by decide +kernel
theorem dX8_gone_2 : decode cX8_gone 2 = .ok (.iconst 0, 1) := by decide +kernel
theorem dX8_gone_3 : decode cX8_gone 3 = .ok (.iconst 1, 1) := by decide +kernel
theorem dX8_gone_4 : decode cX8_gone 4 = .ok (.invokestatic 96, 3) := by decide +kernel
theorem dX8_gone_7 : decode cX8_gone 7 = .ok (.ifCond .ne 7, 3) := by decide +kernel
theorem dX8_gone_10 : decode cX8_gone 10 = .ok (.iconst 1, 1) := by decide +kernel
theorem dX8_gone_11 : decode cX8_gone 11 = .ok (.goto 42, 3) := by decide +kernel
theorem dX8_gone_14 : decode cX8_gone 14 = .ok (.aload_n 0, 1) := by decide +kernel
theorem dX8_gone_15 : decode cX8_gone 15 = .ok (.getfield 32, 3) := by decide +kernel
theorem dX8_gone_18 : decode cX8_gone 18 = .ok (.iload_n 1, 1) := by decide +kernel
theorem dX8_gone_19 : decode cX8_gone 19 = .ok (.iaload, 1) := by decide +kernel
theorem dX8_gone_20 : decode cX8_gone 20 = .ok (.ifCond .lt 28, 3) := by decide +kernel
theorem dX8_gone_23 : decode cX8_gone 23 = .ok (.aload_n 0, 1) := by decide +kernel
theorem dX8_gone_24 : decode cX8_gone 24 = .ok (.getfield 13, 3) := by decide +kernel
theorem dX8_gone_27 : decode cX8_gone 27 = .ok (.aload_n 0, 1) := by decide +kernel
theorem dX8_gone_28 : decode cX8_gone 28 = .ok (.getfield 32, 3) := by decide +kernel
theorem dX8_gone_31 : decode cX8_gone 31 = .ok (.iload_n 1, 1) := by decide +kernel
theorem dX8_gone_32 : decode cX8_gone 32 = .ok (.iaload, 1) := by decide +kernel
theorem dX8_gone_33 : decode cX8_gone 33 = .ok (.iaload, 1) := by decide +kernel
theorem dX8_gone_34 : decode cX8_gone 34 = .ok (.iconst 4, 1) := by decide +kernel
theorem dX8_gone_35 : decode cX8_gone 35 = .ok (.if_icmp .ne 13, 3) := by decide +kernel
theorem dX8_gone_38 : decode cX8_gone 38 = .ok (.aload_n 0, 1) := by decide +kernel
theorem dX8_gone_39 : decode cX8_gone 39 = .ok (.getfield 22, 3) := by decide +kernel
theorem dX8_gone_42 : decode cX8_gone 42 = .ok (.iload_n 1, 1) := by decide +kernel
theorem dX8_gone_43 : decode cX8_gone 43 = .ok (.iaload, 1) := by decide +kernel
theorem dX8_gone_44 : decode cX8_gone 44 = .ok (.iconst 2, 1) := by decide +kernel
theorem dX8_gone_45 : decode cX8_gone 45 = .ok (.if_icmp .eq 7, 3) := by decide +kernel
theorem dX8_gone_48 : decode cX8_gone 48 = .ok (.iconst 2, 1) := by decide +kernel
theorem dX8_gone_49 : decode cX8_gone 49 = .ok (.goto 4, 3) := by decide +kernel
theorem dX8_gone_52 : decode cX8_gone 52 = .ok (.iconst 0, 1) := by decide +kernel
theorem dX8_gone_53 : decode cX8_gone 53 = .ok (.putfield 63, 3) := by decide +kernel
theorem dX8_gone_56 : decode cX8_gone 56 = .ok (.aload_n 0, 1) := by decide +kernel
theorem dX8_gone_57 : decode cX8_gone 57 = .ok (.getfield 63, 3) := by decide +kernel
theorem dX8_gone_60 : decode cX8_gone 60 = .ok (.ifCond .le 5, 3) := by decide +kernel
theorem dX8_gone_63 : decode cX8_gone 63 = .ok (.iconst 0, 1) := by decide +kernel
theorem dX8_gone_64 : decode cX8_gone 64 = .ok (.ireturn, 1) := by decide +kernel
theorem dX8_gone_65 : decode cX8_gone 65 = .ok (.aload_n 0, 1) := by decide +kernel
theorem dX8_gone_66 : decode cX8_gone 66 = .ok (.getfield 32, 3) := by decide +kernel
theorem dX8_gone_69 : decode cX8_gone 69 = .ok (.iload_n 1, 1) := by decide +kernel
theorem dX8_gone_70 : decode cX8_gone 70 = .ok (.iaload, 1) := by decide +kernel
theorem dX8_gone_71 : decode cX8_gone 71 = .ok (.istore_n 2, 1) := by decide +kernel
theorem dX8_gone_72 : decode cX8_gone 72 = .ok (.aload_n 0, 1) := by decide +kernel
theorem dX8_gone_73 : decode cX8_gone 73 = .ok (.getfield 13, 3) := by decide +kernel
theorem dX8_gone_76 : decode cX8_gone 76 = .ok (.iload_n 2, 1) := by decide +kernel
theorem dX8_gone_77 : decode cX8_gone 77 = .ok (.iconst 5, 1) := by decide +kernel
theorem dX8_gone_78 : decode cX8_gone 78 = .ok (.iastore, 1) := by decide +kernel
theorem dX8_gone_79 : decode cX8_gone 79 = .ok (.aload_n 0, 1) := by decide +kernel
theorem dX8_gone_80 : decode cX8_gone 80 = .ok (.getfield 32, 3) := by decide +kernel
theorem dX8_gone_83 : decode cX8_gone 83 = .ok (.iload_n 1, 1) := by decide +kernel
theorem dX8_gone_84 : decode cX8_gone 84 = .ok (.iconst (-1), 1) := by decide +kernel
theorem dX8_gone_85 : decode cX8_gone 85 = .ok (.iastore, 1) := by decide +kernel
theorem dX8_gone_86 : decode cX8_gone 86 = .ok (.aload_n 0, 1) := by decide +kernel
theorem dX8_gone_87 : decode cX8_gone 87 = .ok (.getfield 7, 3) := by decide +kernel
theorem dX8_gone_90 : decode cX8_gone 90 = .ok (.iload_n 2, 1) := by decide +kernel
theorem dX8_gone_91 : decode cX8_gone 91 = .ok (.iaload, 1) := by decide +kernel
theorem dX8_gone_92 : decode cX8_gone 92 = .ok (.ireturn, 1) := by decide +kernel
theorem dX8_fetching_0 : decode cX8_fetching 0 = .ok (.aload_n 0, 1) := by decide +kernel
theorem dX8_fetching_1 : decode cX8_fetching 1 = .ok (.getfield 71, 3) := by decide +kernel
theorem dX8_fetching_4 : decode cX8_fetching 4 = .ok (.ifCond .eq 22, 3) := by decide +kernel
theorem dX8_fetching_7 : decode cX8_fetching 7 = .ok (.aload_n 0, 1) := by decide +kernel
theorem dX8_fetching_8 : decode cX8_fetching 8 = .ok (.getfield 74, 3) := by decide +kernel
theorem dX8_fetching_11 : decode cX8_fetching 11 = .ok (.ifCond .eq 15, 3) := by decide +kernel
theorem dX8_fetching_14 : decode cX8_fetching 14 = .ok (.aload_n 0, 1) := by decide +kernel
theorem dX8_fetching_15 : decode cX8_fetching 15 = .ok (.getfield 122, 3) := by decide +kernel
theorem dX8_fetching_18 : decode cX8_fetching 18 = .ok (.iload_n 1, 1) := by decide +kernel
theorem dX8_fetching_19 : decode cX8_fetching 19 = .ok (.if_icmp .ne 7, 3) := by decide +kernel
theorem dX8_fetching_22 : decode cX8_fetching 22 = .ok (.iconst 1, 1) := by decide +kernel
theorem dX8_fetching_23 : decode cX8_fetching 23 = .ok (.goto 4, 3) := by decide +kernel
theorem dX8_fetching_26 : decode cX8_fetching 26 = .ok (.iconst 0, 1) := by decide +kernel
theorem dX8_fetching_27 : decode cX8_fetching 27 = .ok (.istore_n 2, 1) := by decide +kernel
theorem dX8_fetching_28 : decode cX8_fetching 28 = .ok (.iconst 0, 1) := by decide +kernel
theorem dX8_fetching_29 : decode cX8_fetching 29 = .ok (.istore_n 3, 1) := by decide +kernel
theorem dX8_fetching_30 : decode cX8_fetching 30 = .ok (.iload_n 3, 1) := by decide +kernel
theorem dX8_fetching_31 : decode cX8_fetching 31 = .ok (.aload_n 0, 1) := by decide +kernel
theorem dX8_fetching_32 : decode cX8_fetching 32 = .ok (.getfield 93, 3) := by decide +kernel
theorem dX8_fetching_35 : decode cX8_fetching 35 = .ok (.if_icmp .ge 36, 3) := by decide +kernel
theorem dX8_fetching_38 : decode cX8_fetching 38 = .ok (.aload_n 0, 1) := by decide +kernel
theorem dX8_fetching_39 : decode cX8_fetching 39 = .ok (.getfield 48, 3) := by decide +kernel
theorem dX8_fetching_42 : decode cX8_fetching 42 = .ok (.iload_n 3, 1) := by decide +kernel
theorem dX8_fetching_43 : decode cX8_fetching 43 = .ok (.baload, 1) := by decide +kernel
theorem dX8_fetching_44 : decode cX8_fetching 44 = .ok (.ifCond .eq 19, 3) := by decide +kernel
theorem dX8_fetching_47 : decode cX8_fetching 47 = .ok (.aload_n 0, 1) := by decide +kernel
theorem dX8_fetching_48 : decode cX8_fetching 48 = .ok (.getfield 45, 3) := by decide +kernel
theorem dX8_fetching_51 : decode cX8_fetching 51 = .ok (.iload_n 3, 1) := by decide +kernel
theorem dX8_fetching_52 : decode cX8_fetching 52 = .ok (.iaload, 1) := by decide +kernel
theorem dX8_fetching_53 : decode cX8_fetching 53 = .ok (.iload_n 1, 1) := by decide +kernel
theorem dX8_fetching_54 : decode cX8_fetching 54 = .ok (.if_icmp .ne 9, 3) := by decide +kernel
theorem dX8_fetching_57 : decode cX8_fetching 57 = .ok (.iload_n 2, 1) := by decide +kernel
theorem dX8_fetching_58 : decode cX8_fetching 58 = .ok (.iconst 1, 1) := by decide +kernel
theorem dX8_fetching_59 : decode cX8_fetching 59 = .ok (.iadd, 1) := by decide +kernel
theorem dX8_fetching_60 : decode cX8_fetching 60 = .ok (.goto 4, 3) := by decide +kernel
theorem dX8_fetching_63 : decode cX8_fetching 63 = .ok (.iload_n 2, 1) := by decide +kernel
theorem dX8_fetching_64 : decode cX8_fetching 64 = .ok (.istore_n 2, 1) := by decide +kernel
theorem dX8_fetching_65 : decode cX8_fetching 65 = .ok (.iinc 3 1, 3) := by decide +kernel
theorem dX8_fetching_68 : decode cX8_fetching 68 = .ok (.goto (-38), 3) := by decide +kernel
theorem dX8_fetching_71 : decode cX8_fetching 71 = .ok (.iload_n 2, 1) := by decide +kernel
theorem dX8_fetching_72 : decode cX8_fetching 72 = .ok (.ireturn, 1) := by decide +kernel
set_option maxRecDepth 20000 in
theorem ggX8_leave_X8_carOf : GoodIn wsX8_leave wsX8_carOf := goodIn_r _ [11, 12, 13, 31, 32, 33, 34, 35, 36, 37, 38, 39, 40, 41, 42, 43, 44, 45, 46, 47, 48, 49, 50, 51, 52, 53, 54, 55, 56, 57, 58, 59, 60, 61, 62] (by decide +kernel) (by decide +kernel)
set_option maxRecDepth 20000 in
theorem gX8_leave_X8_carOf : GoodIn wsX8_leave (wsV RX8 125 RX8 yX8_carOf wsX8_carOf) := goodIn_app (goodIn_of _ (by decide +kernel)) ggX8_leave_X8_carOf
set_option maxRecDepth 20000 in
theorem ggX8_leave_X8_counted : GoodIn wsX8_leave wsX8_counted := goodIn_r _ [17, 4, 2, 18, 6, 5, 3, 31, 32, 33, 34, 35, 36, 37, 38, 39, 40, 41, 42, 43, 44, 45, 46, 47, 48, 49, 50, 51, 52, 53, 54, 55, 56, 57, 58, 59, 60, 61, 62] (by decide +kernel) (by decide +kernel)
set_option maxRecDepth 20000 in
theorem gX8_leave_X8_counted : GoodIn wsX8_leave (wsV RX8 114 RX8 yX8_counted wsX8_counted) := goodIn_app (goodIn_of _ (by decide +kernel)) ggX8_leave_X8_counted
set_option maxRecDepth 20000 in
theorem ggX8_leave_X8_fetching : GoodIn wsX8_leave wsX8_fetching := goodIn_r _ [22, 2, 23, 24, 4, 25, 26, 31, 32, 33, 34, 35, 36, 37, 38, 39, 40, 41, 42, 43, 44, 45, 46, 47, 48, 49, 50, 51, 52, 53, 54, 55, 56, 57, 58, 59, 60, 61, 62] (by decide +kernel) (by decide +kernel)
set_option maxRecDepth 20000 in
theorem gX8_leave_X8_fetching : GoodIn wsX8_leave (wsV RX8 128 RX8 yX8_fetching wsX8_fetching) := goodIn_app (goodIn_of _ (by decide +kernel)) ggX8_leave_X8_fetching
set_option maxRecDepth 20000 in
theorem ggX8_leave_X8_add : GoodIn wsX8_leave wsX8_add := goodIn_r _ [30, 5, 4, 26, 25, 31, 32, 33, 34, 35, 36, 37, 38, 39, 40, 41, 42, 43, 44, 45, 46, 47, 48, 49, 50, 51, 52, 53, 54, 55, 56, 57, 58, 59, 60, 61, 62] (by decide +kernel) (by decide +kernel)
set_option maxRecDepth 20000 in
theorem gX8_leave_X8_add : GoodIn wsX8_leave (wsV RX8 131 RX8 yX8_add wsX8_add) := goodIn_app (goodIn_of _ (by decide +kernel)) ggX8_leave_X8_add
theorem dX8_leave_0 : decode cX8_leave 0 = .ok (.aload_n 0, 1) := by decide +kernel
theorem dX8_leave_1 : decode cX8_leave 1 = .ok (.iload_n 1, 1) := by decide +kernel
theorem dX8_leave_2 : decode cX8_leave 2 = .ok (.invokevirtual 125, 3) := by decide +kernel
theorem dX8_leave_5 : decode cX8_leave 5 = .ok (.istore_n 2, 1) := by decide +kernel
theorem dX8_leave_6 : decode cX8_leave 6 = .ok (.iload_n 2, 1) := by decide +kernel
theorem dX8_leave_7 : decode cX8_leave 7 = .ok (.ifCond .ge 10, 3) := by decide +kernel
theorem dX8_leave_10 : decode cX8_leave 10 = .ok (.aload_n 0, 1) := by decide +kernel
theorem dX8_leave_11 : decode cX8_leave 11 = .ok (.iconst 1, 1) := by decide +kernel
theorem dX8_leave_12 : decode cX8_leave 12 = .ok (.putfield 63, 3) := by decide +kernel
theorem dX8_leave_15 : decode cX8_leave 15 = .ok (.iconst 0, 1) := by decide +kernel
theorem dX8_leave_16 : decode cX8_leave 16 = .ok (.ireturn, 1) := by decide +kernel
theorem dX8_leave_17 : decode cX8_leave 17 = .ok (.aload_n 0, 1) := by decide +kernel
theorem dX8_leave_18 : decode cX8_leave 18 = .ok (.getfield 71, 3) := by decide +kernel
theorem dX8_leave_21 : decode cX8_leave 21 = .ok (.ifCond .eq 15, 3) := by decide +kernel
theorem dX8_leave_24 : decode cX8_leave 24 = .ok (.aload_n 0, 1) := by decide +kernel
theorem dX8_leave_25 : decode cX8_leave 25 = .ok (.getfield 77, 3) := by decide +kernel
theorem dX8_leave_28 : decode cX8_leave 28 = .ok (.iload_n 2, 1) := by decide +kernel
theorem dX8_leave_29 : decode cX8_leave 29 = .ok (.if_icmp .ne 7, 3) := by decide +kernel
theorem dX8_leave_32 : decode cX8_leave 32 = .ok (.iconst 1, 1) := by decide +kernel
theorem dX8_leave_33 : decode cX8_leave 33 = .ok (.goto 4, 3) := by decide +kernel
theorem dX8_leave_36 : decode cX8_leave 36 = .ok (.iconst 0, 1) := by decide +kernel
theorem dX8_leave_37 : decode cX8_leave 37 = .ok (.istore_n 3, 1) := by decide +kernel
theorem dX8_leave_38 : decode cX8_leave 38 = .ok (.iconst 0, 1) := by decide +kernel
theorem dX8_leave_39 : decode cX8_leave 39 = .ok (.istore 4, 2) := by decide +kernel
theorem dX8_leave_41 : decode cX8_leave 41 = .ok (.iload 4, 2) := by decide +kernel
theorem dX8_leave_43 : decode cX8_leave 43 = .ok (.aload_n 0, 1) := by decide +kernel
theorem dX8_leave_44 : decode cX8_leave 44 = .ok (.getfield 93, 3) := by decide +kernel
theorem dX8_leave_47 : decode cX8_leave 47 = .ok (.if_icmp .ge 30, 3) := by decide +kernel
theorem dX8_leave_50 : decode cX8_leave 50 = .ok (.iload_n 3, 1) := by decide +kernel
theorem dX8_leave_51 : decode cX8_leave 51 = .ok (.ifCond .ne 14, 3) := by decide +kernel
theorem dX8_leave_54 : decode cX8_leave 54 = .ok (.aload_n 0, 1) := by decide +kernel
theorem dX8_leave_55 : decode cX8_leave 55 = .ok (.getfield 42, 3) := by decide +kernel
theorem dX8_leave_58 : decode cX8_leave 58 = .ok (.iload 4, 2) := by decide +kernel
theorem dX8_leave_60 : decode cX8_leave 60 = .ok (.iaload, 1) := by decide +kernel
theorem dX8_leave_61 : decode cX8_leave 61 = .ok (.iload_n 2, 1) := by decide +kernel
theorem dX8_leave_62 : decode cX8_leave 62 = .ok (.if_icmp .ne 7, 3) := by decide +kernel
theorem dX8_leave_65 : decode cX8_leave 65 = .ok (.iconst 1, 1) := by decide +kernel
theorem dX8_leave_66 : decode cX8_leave 66 = .ok (.goto 4, 3) := by decide +kernel
theorem dX8_leave_69 : decode cX8_leave 69 = .ok (.iconst 0, 1) := by decide +kernel
theorem dX8_leave_70 : decode cX8_leave 70 = .ok (.istore_n 3, 1) := by decide +kernel
theorem dX8_leave_71 : decode cX8_leave 71 = .ok (.iinc 4 1, 3) := by decide +kernel
theorem dX8_leave_74 : decode cX8_leave 74 = .ok (.goto (-33), 3) := by decide +kernel
theorem dX8_leave_77 : decode cX8_leave 77 = .ok (.aload_n 0, 1) := by decide +kernel
theorem dX8_leave_78 : decode cX8_leave 78 = .ok (.aload_n 0, 1) := by decide +kernel
theorem dX8_leave_79 : decode cX8_leave 79 = .ok (.getfield 13, 3) := by decide +kernel
theorem dX8_leave_82 : decode cX8_leave 82 = .ok (.iload_n 2, 1) := by decide +kernel
theorem dX8_leave_83 : decode cX8_leave 83 = .ok (.iaload, 1) := by decide +kernel
theorem dX8_leave_84 : decode cX8_leave 84 = .ok (.iconst 3, 1) := by decide +kernel
theorem dX8_leave_85 : decode cX8_leave 85 = .ok (.if_icmp .ne 16, 3) := by decide +kernel
theorem dX8_leave_88 : decode cX8_leave 88 = .ok (.iload_n 3, 1) := by decide +kernel
theorem dX8_leave_89 : decode cX8_leave 89 = .ok (.ifCond .ne 12, 3) := by decide +kernel
theorem dX8_leave_92 : decode cX8_leave 92 = .ok (.aload_n 0, 1) := by decide +kernel
theorem dX8_leave_93 : decode cX8_leave 93 = .ok (.invokevirtual 114, 3) := by decide +kernel
theorem dX8_leave_96 : decode cX8_leave 96 = .ok (.bipush 24, 2) := by decide +kernel
theorem dX8_leave_98 : decode cX8_leave 98 = .ok (.if_icmp .lt 7, 3) := by decide +kernel
theorem dX8_leave_101 : decode cX8_leave 101 = .ok (.iconst 2, 1) := by decide +kernel
theorem dX8_leave_102 : decode cX8_leave 102 = .ok (.goto 4, 3) := by decide +kernel
theorem dX8_leave_105 : decode cX8_leave 105 = .ok (.iconst 0, 1) := by decide +kernel
theorem dX8_leave_106 : decode cX8_leave 106 = .ok (.putfield 63, 3) := by decide +kernel
theorem dX8_leave_109 : decode cX8_leave 109 = .ok (.aload_n 0, 1) := by decide +kernel
theorem dX8_leave_110 : decode cX8_leave 110 = .ok (.getfield 63, 3) := by decide +kernel
theorem dX8_leave_113 : decode cX8_leave 113 = .ok (.ifCond .le 5, 3) := by decide +kernel
theorem dX8_leave_116 : decode cX8_leave 116 = .ok (.iconst 0, 1) := by decide +kernel
theorem dX8_leave_117 : decode cX8_leave 117 = .ok (.ireturn, 1) := by decide +kernel
theorem dX8_leave_118 : decode cX8_leave 118 = .ok (.aload_n 0, 1) := by decide +kernel
theorem dX8_leave_119 : decode cX8_leave 119 = .ok (.iconst 1, 1) := by decide +kernel
theorem dX8_leave_120 : decode cX8_leave 120 = .ok (.invokevirtual 128, 3) := by decide +kernel
theorem dX8_leave_123 : decode cX8_leave 123 = .ok (.aload_n 0, 1) := by decide +kernel
theorem dX8_leave_124 : decode cX8_leave 124 = .ok (.iconst 0, 1) := by decide +kernel
theorem dX8_leave_125 : decode cX8_leave 125 = .ok (.invokevirtual 128, 3) := by decide +kernel
theorem dX8_leave_128 : decode cX8_leave 128 = .ok (.if_icmp .ge 7, 3) := by decide +kernel
theorem dX8_leave_131 : decode cX8_leave 131 = .ok (.iconst 1, 1) := by decide +kernel
theorem dX8_leave_132 : decode cX8_leave 132 = .ok (.goto 4, 3) := by decide +kernel
theorem dX8_leave_135 : decode cX8_leave 135 = .ok (.iconst 0, 1) := by decide +kernel
theorem dX8_leave_136 : decode cX8_leave 136 = .ok (.istore 4, 2) := by decide +kernel
theorem dX8_leave_138 : decode cX8_leave 138 = .ok (.aload_n 0, 1) := by decide +kernel
theorem dX8_leave_139 : decode cX8_leave 139 = .ok (.iload_n 2, 1) := by decide +kernel
theorem dX8_leave_140 : decode cX8_leave 140 = .ok (.iload 4, 2) := by decide +kernel
theorem dX8_leave_142 : decode cX8_leave 142 = .ok (.iconst 1, 1) := by decide +kernel
theorem dX8_leave_143 : decode cX8_leave 143 = .ok (.invokevirtual 131, 3) := by decide +kernel
theorem dX8_leave_146 : decode cX8_leave 146 = .ok (.iload 4, 2) := by decide +kernel
theorem dX8_leave_148 : decode cX8_leave 148 = .ok (.ireturn, 1) := by decide +kernel
theorem dX8_add_0 : decode cX8_add 0 = .ok (.aload_n 0, 1) := by decide +kernel
theorem dX8_add_1 : decode cX8_add 1 = .ok (.getfield 42, 3) := by decide +kernel
theorem dX8_add_4 : decode cX8_add 4 = .ok (.aload_n 0, 1) := by decide +kernel
theorem dX8_add_5 : decode cX8_add 5 = .ok (.getfield 93, 3) := by decide +kernel
theorem dX8_add_8 : decode cX8_add 8 = .ok (.iload_n 1, 1) := by decide +kernel
theorem dX8_add_9 : decode cX8_add 9 = .ok (.iastore, 1) := by decide +kernel
theorem dX8_add_10 : decode cX8_add 10 = .ok (.aload_n 0, 1) := by decide +kernel
theorem dX8_add_11 : decode cX8_add 11 = .ok (.getfield 45, 3) := by decide +kernel
theorem dX8_add_14 : decode cX8_add 14 = .ok (.aload_n 0, 1) := by decide +kernel
theorem dX8_add_15 : decode cX8_add 15 = .ok (.getfield 93, 3) := by decide +kernel
theorem dX8_add_18 : decode cX8_add 18 = .ok (.iload_n 2, 1) := by decide +kernel
theorem dX8_add_19 : decode cX8_add 19 = .ok (.iastore, 1) := by decide +kernel
theorem dX8_add_20 : decode cX8_add 20 = .ok (.aload_n 0, 1) := by decide +kernel
theorem dX8_add_21 : decode cX8_add 21 = .ok (.getfield 48, 3) := by decide +kernel
theorem dX8_add_24 : decode cX8_add 24 = .ok (.aload_n 0, 1) := by decide +kernel
theorem dX8_add_25 : decode cX8_add 25 = .ok (.getfield 93, 3) := by decide +kernel
theorem dX8_add_28 : decode cX8_add 28 = .ok (.iload_n 3, 1) := by decide +kernel
theorem dX8_add_29 : decode cX8_add 29 = .ok (.bastore, 1) := by decide +kernel
theorem dX8_add_30 : decode cX8_add 30 = .ok (.aload_n 0, 1) := by decide +kernel
theorem dX8_add_31 : decode cX8_add 31 = .ok (.dup, 1) := by decide +kernel
theorem dX8_add_32 : decode cX8_add 32 = .ok (.getfield 93, 3) := by decide +kernel
theorem dX8_add_35 : decode cX8_add 35 = .ok (.iconst 1, 1) := by decide +kernel
theorem dX8_add_36 : decode cX8_add 36 = .ok (.iadd, 1) := by decide +kernel
theorem dX8_add_37 : decode cX8_add 37 = .ok (.putfield 93, 3) := by decide +kernel
theorem dX8_add_40 : decode cX8_add 40 = .ok (.return_, 1) := by decide +kernel
set_option maxRecDepth 20000 in
theorem ggX8_jam_X8_in : GoodIn wsX8_jam wsX8_in := goodIn_r _ [5] (by decide +kernel) (by decide +kernel)
set_option maxRecDepth 20000 in
theorem gX8_jam_X8_in : GoodIn wsX8_jam (va_wsS RX8 96 yX8_in wsX8_in) := goodIn_app (goodIn_of _ (by decide +kernel)) ggX8_jam_X8_in
set_option maxRecDepth 20000 in
theorem ggX8_jam_X8_says : GoodIn wsX8_jam wsX8_says := goodIn_r _ [9, 10, 11, 12, 13, 14, 15, 16, 17, 18, 19, 20, 21, 22, 23, 24, 25, 26, 27, 28, 29, 30, 31, 32, 33, 34, 35, 36, 37, 38, 39, 40, 41, 42] (by decide +kernel) (by decide +kernel)
set_option maxRecDepth 20000 in
theorem gX8_jam_X8_says : GoodIn wsX8_jam (wsV RX8 100 RX8 yX8_says wsX8_says) := goodIn_app (goodIn_of _ (by decide +kernel)) ggX8_jam_X8_says
theorem dX8_jam_0 : decode cX8_jam 0 = .ok (.aload_n 0, 1) := by decide +kernel
theorem dX8_jam_1 : decode cX8_jam 1 = .ok (.iload_n 1, 1) := by decide +kernel
theorem dX8_jam_2 : decode cX8_jam 2 = .ok (.iconst 0, 1) := by decide +kernel
theorem dX8_jam_3 : decode cX8_jam 3 = .ok (.iconst 3, 1) := by decide +kernel
theorem dX8_jam_4 : decode cX8_jam 4 = .ok (.invokestatic 96, 3) := by decide +kernel
theorem dX8_jam_7 : decode cX8_jam 7 = .ok (.invokevirtual 100, 3) := by decide +kernel
theorem dX8_jam_10 : decode cX8_jam 10 = .ok (.ifCond .eq 10, 3) := by decide +kernel
theorem dX8_jam_13 : decode cX8_jam 13 = .ok (.aload_n 0, 1) := by decide +kernel
theorem dX8_jam_14 : decode cX8_jam 14 = .ok (.getfield 35, 3) := by decide +kernel
theorem dX8_jam_17 : decode cX8_jam 17 = .ok (.iload_n 1, 1) := by decide +kernel
theorem dX8_jam_18 : decode cX8_jam 18 = .ok (.iload_n 2, 1) := by decide +kernel
theorem dX8_jam_19 : decode cX8_jam 19 = .ok (.bastore, 1) := by decide +kernel
theorem dX8_jam_20 : decode cX8_jam 20 = .ok (.return_, 1) := by decide +kernel
theorem dX8_power_0 : decode cX8_power 0 = .ok (.aload_n 0, 1) := by decide +kernel
theorem dX8_power_1 : decode cX8_power 1 = .ok (.iload_n 1, 1) := by decide +kernel
theorem dX8_power_2 : decode cX8_power 2 = .ok (.aload_n 0, 1) := by decide +kernel
theorem dX8_power_3 : decode cX8_power 3 = .ok (.getfield 38, 3) := by decide +kernel
theorem dX8_power_6 : decode cX8_power 6 = .ok (.if_icmp .ne 7, 3) := by decide +kernel
theorem dX8_power_9 : decode cX8_power 9 = .ok (.iconst 1, 1) := by decide +kernel
theorem dX8_power_10 : decode cX8_power 10 = .ok (.goto 4, 3) := by decide +kernel
theorem dX8_power_13 : decode cX8_power 13 = .ok (.iconst 0, 1) := by decide +kernel
theorem dX8_power_14 : decode cX8_power 14 = .ok (.putfield 63, 3) := by decide +kernel
theorem dX8_power_17 : decode cX8_power 17 = .ok (.aload_n 0, 1) := by decide +kernel
theorem dX8_power_18 : decode cX8_power 18 = .ok (.getfield 63, 3) := by decide +kernel
theorem dX8_power_21 : decode cX8_power 21 = .ok (.ifCond .le 4, 3) := by decide +kernel
theorem dX8_power_24 : decode cX8_power 24 = .ok (.return_, 1) := by decide +kernel
theorem dX8_power_25 : decode cX8_power 25 = .ok (.aload_n 0, 1) := by decide +kernel
theorem dX8_power_26 : decode cX8_power 26 = .ok (.iload_n 1, 1) := by decide +kernel
theorem dX8_power_27 : decode cX8_power 27 = .ok (.putfield 38, 3) := by decide +kernel
theorem dX8_power_30 : decode cX8_power 30 = .ok (.aload_n 0, 1) := by decide +kernel
theorem dX8_power_31 : decode cX8_power 31 = .ok (.iload_n 1, 1) := by decide +kernel
theorem dX8_power_32 : decode cX8_power 32 = .ok (.ifCond .eq 7, 3) := by decide +kernel
theorem dX8_power_35 : decode cX8_power 35 = .ok (.iconst 5, 1) := by decide +kernel
theorem dX8_power_36 : decode cX8_power 36 = .ok (.goto 4, 3) := by decide +kernel
theorem dX8_power_39 : decode cX8_power 39 = .ok (.iconst 0, 1) := by decide +kernel
theorem dX8_power_40 : decode cX8_power 40 = .ok (.putfield 135, 3) := by decide +kernel
theorem dX8_power_43 : decode cX8_power 43 = .ok (.return_, 1) := by decide +kernel
set_option maxRecDepth 20000 in
theorem ggX8_may_X8_isReached : GoodIn wsX8_may wsX8_isReached := goodIn_r _ [6, 1, 7, 8, 5, 9, 10, 11, 12, 13, 14, 15, 16, 17, 18, 19, 20, 21, 22, 23, 24, 25, 26, 27, 28, 29, 30, 31, 32, 33, 34, 35, 36, 37, 38, 39, 40, 41] (by decide +kernel) (by decide +kernel)
set_option maxRecDepth 20000 in
theorem gX8_may_X8_isReached : GoodIn wsX8_may (wsV RX8 138 RX8 yX8_isReached wsX8_isReached) := goodIn_app (goodIn_of _ (by decide +kernel)) ggX8_may_X8_isReached
set_option maxRecDepth 20000 in
theorem ggX8_may_X8_depth : GoodIn wsX8_may wsX8_depth := goodIn_r _ [9] (by decide +kernel) (by decide +kernel)
set_option maxRecDepth 20000 in
theorem gX8_may_X8_depth : GoodIn wsX8_may (va_wsS RX8 67 yX8_depth wsX8_depth) := goodIn_app (goodIn_of _ (by decide +kernel)) ggX8_may_X8_depth
theorem dX8_may_0 : decode cX8_may 0 = .ok (.aload_n 0, 1) := by decide +kernel
theorem dX8_may_1 : decode cX8_may 1 = .ok (.getfield 19, 3) := by decide +kernel
theorem dX8_may_4 : decode cX8_may 4 = .ok (.iload_n 1, 1) := by decide +kernel
theorem dX8_may_5 : decode cX8_may 5 = .ok (.iaload, 1) := by decide +kernel
theorem dX8_may_6 : decode cX8_may 6 = .ok (.ifCond .le 20, 3) := by decide +kernel
theorem dX8_may_9 : decode cX8_may 9 = .ok (.aload_n 0, 1) := by decide +kernel
theorem dX8_may_10 : decode cX8_may 10 = .ok (.getfield 19, 3) := by decide +kernel
theorem dX8_may_13 : decode cX8_may 13 = .ok (.iload_n 2, 1) := by decide +kernel
theorem dX8_may_14 : decode cX8_may 14 = .ok (.iaload, 1) := by decide +kernel
theorem dX8_may_15 : decode cX8_may 15 = .ok (.ifCond .ne 11, 3) := by decide +kernel
theorem dX8_may_18 : decode cX8_may 18 = .ok (.aload_n 0, 1) := by decide +kernel
theorem dX8_may_19 : decode cX8_may 19 = .ok (.iload_n 1, 1) := by decide +kernel
theorem dX8_may_20 : decode cX8_may 20 = .ok (.invokevirtual 138, 3) := by decide +kernel
theorem dX8_may_23 : decode cX8_may 23 = .ok (.ifCond .ne 5, 3) := by decide +kernel
theorem dX8_may_26 : decode cX8_may 26 = .ok (.iconst 0, 1) := by decide +kernel
theorem dX8_may_27 : decode cX8_may 27 = .ok (.ireturn, 1) := by decide +kernel
theorem dX8_may_28 : decode cX8_may 28 = .ok (.aload_n 0, 1) := by decide +kernel
theorem dX8_may_29 : decode cX8_may 29 = .ok (.getfield 19, 3) := by decide +kernel
theorem dX8_may_32 : decode cX8_may 32 = .ok (.iload_n 1, 1) := by decide +kernel
theorem dX8_may_33 : decode cX8_may 33 = .ok (.iaload, 1) := by decide +kernel
theorem dX8_may_34 : decode cX8_may 34 = .ok (.istore_n 3, 1) := by decide +kernel
theorem dX8_may_35 : decode cX8_may 35 = .ok (.aload_n 0, 1) := by decide +kernel
theorem dX8_may_36 : decode cX8_may 36 = .ok (.getfield 19, 3) := by decide +kernel
theorem dX8_may_39 : decode cX8_may 39 = .ok (.iload_n 1, 1) := by decide +kernel
theorem dX8_may_40 : decode cX8_may 40 = .ok (.iconst 0, 1) := by decide +kernel
theorem dX8_may_41 : decode cX8_may 41 = .ok (.iastore, 1) := by decide +kernel
theorem dX8_may_42 : decode cX8_may 42 = .ok (.aload_n 0, 1) := by decide +kernel
theorem dX8_may_43 : decode cX8_may 43 = .ok (.iload_n 2, 1) := by decide +kernel
theorem dX8_may_44 : decode cX8_may 44 = .ok (.invokevirtual 138, 3) := by decide +kernel
theorem dX8_may_47 : decode cX8_may 47 = .ok (.ifCond .eq 27, 3) := by decide +kernel
theorem dX8_may_50 : decode cX8_may 50 = .ok (.iload_n 2, 1) := by decide +kernel
theorem dX8_may_51 : decode cX8_may 51 = .ok (.invokestatic 67, 3) := by decide +kernel
theorem dX8_may_54 : decode cX8_may 54 = .ok (.iconst 1, 1) := by decide +kernel
theorem dX8_may_55 : decode cX8_may 55 = .ok (.if_icmp .eq 15, 3) := by decide +kernel
theorem dX8_may_58 : decode cX8_may 58 = .ok (.aload_n 0, 1) := by decide +kernel
theorem dX8_may_59 : decode cX8_may 59 = .ok (.getfield 19, 3) := by decide +kernel
theorem dX8_may_62 : decode cX8_may 62 = .ok (.iload_n 2, 1) := by decide +kernel
theorem dX8_may_63 : decode cX8_may 63 = .ok (.iconst 1, 1) := by decide +kernel
theorem dX8_may_64 : decode cX8_may 64 = .ok (.iadd, 1) := by decide +kernel
theorem dX8_may_65 : decode cX8_may 65 = .ok (.iaload, 1) := by decide +kernel
theorem dX8_may_66 : decode cX8_may 66 = .ok (.iconst (-1), 1) := by decide +kernel
theorem dX8_may_67 : decode cX8_may 67 = .ok (.if_icmp .eq 7, 3) := by decide +kernel
theorem dX8_may_70 : decode cX8_may 70 = .ok (.iconst 1, 1) := by decide +kernel
theorem dX8_may_71 : decode cX8_may 71 = .ok (.goto 4, 3) := by decide +kernel
theorem dX8_may_74 : decode cX8_may 74 = .ok (.iconst 0, 1) := by decide +kernel
theorem dX8_may_75 : decode cX8_may 75 = .ok (.istore 4, 2) := by decide +kernel
theorem dX8_may_77 : decode cX8_may 77 = .ok (.aload_n 0, 1) := by decide +kernel
theorem dX8_may_78 : decode cX8_may 78 = .ok (.getfield 19, 3) := by decide +kernel
theorem dX8_may_81 : decode cX8_may 81 = .ok (.iload_n 1, 1) := by decide +kernel
theorem dX8_may_82 : decode cX8_may 82 = .ok (.iload_n 3, 1) := by decide +kernel
theorem dX8_may_83 : decode cX8_may 83 = .ok (.iastore, 1) := by decide +kernel
theorem dX8_may_84 : decode cX8_may 84 = .ok (.iload 4, 2) := by decide +kernel
theorem dX8_may_86 : decode cX8_may 86 = .ok (.ireturn, 1) := by decide +kernel
theorem dX8_undo_0 : decode cX8_undo 0 = .ok (.aload_n 0, 1) := by decide +kernel
theorem dX8_undo_1 : decode cX8_undo 1 = .ok (.getfield 54, 3) := by decide +kernel
theorem dX8_undo_4 : decode cX8_undo 4 = .ok (.iload_n 1, 1) := by decide +kernel
theorem dX8_undo_5 : decode cX8_undo 5 = .ok (.iaload, 1) := by decide +kernel
theorem dX8_undo_6 : decode cX8_undo 6 = .ok (.bipush 100, 2) := by decide +kernel
theorem dX8_undo_8 : decode cX8_undo 8 = .ok (.idiv, 1) := by decide +kernel
theorem dX8_undo_9 : decode cX8_undo 9 = .ok (.istore_n 2, 1) := by decide +kernel
theorem dX8_undo_10 : decode cX8_undo 10 = .ok (.aload_n 0, 1) := by decide +kernel
theorem dX8_undo_11 : decode cX8_undo 11 = .ok (.getfield 54, 3) := by decide +kernel
theorem dX8_undo_14 : decode cX8_undo 14 = .ok (.iload_n 1, 1) := by decide +kernel
theorem dX8_undo_15 : decode cX8_undo 15 = .ok (.iaload, 1) := by decide +kernel
theorem dX8_undo_16 : decode cX8_undo 16 = .ok (.bipush 100, 2) := by decide +kernel
theorem dX8_undo_18 : decode cX8_undo 18 = .ok (.irem, 1) := by decide +kernel
theorem dX8_undo_19 : decode cX8_undo 19 = .ok (.istore_n 3, 1) := by decide +kernel
theorem dX8_undo_20 : decode cX8_undo 20 = .ok (.aload_n 0, 1) := by decide +kernel
theorem dX8_undo_21 : decode cX8_undo 21 = .ok (.getfield 19, 3) := by decide +kernel
theorem dX8_undo_24 : decode cX8_undo 24 = .ok (.iload_n 2, 1) := by decide +kernel
theorem dX8_undo_25 : decode cX8_undo 25 = .ok (.aload_n 0, 1) := by decide +kernel
theorem dX8_undo_26 : decode cX8_undo 26 = .ok (.getfield 19, 3) := by decide +kernel
theorem dX8_undo_29 : decode cX8_undo 29 = .ok (.iload_n 3, 1) := by decide +kernel
theorem dX8_undo_30 : decode cX8_undo 30 = .ok (.iaload, 1) := by decide +kernel
theorem dX8_undo_31 : decode cX8_undo 31 = .ok (.iastore, 1) := by decide +kernel
theorem dX8_undo_32 : decode cX8_undo 32 = .ok (.aload_n 0, 1) := by decide +kernel
theorem dX8_undo_33 : decode cX8_undo 33 = .ok (.getfield 19, 3) := by decide +kernel
theorem dX8_undo_36 : decode cX8_undo 36 = .ok (.iload_n 3, 1) := by decide +kernel
theorem dX8_undo_37 : decode cX8_undo 37 = .ok (.iconst 0, 1) := by decide +kernel
theorem dX8_undo_38 : decode cX8_undo 38 = .ok (.iastore, 1) := by decide +kernel
theorem dX8_undo_39 : decode cX8_undo 39 = .ok (.aload_n 0, 1) := by decide +kernel
theorem dX8_undo_40 : decode cX8_undo 40 = .ok (.getfield 60, 3) := by decide +kernel
theorem dX8_undo_43 : decode cX8_undo 43 = .ok (.iload_n 1, 1) := by decide +kernel
theorem dX8_undo_44 : decode cX8_undo 44 = .ok (.iconst 0, 1) := by decide +kernel
theorem dX8_undo_45 : decode cX8_undo 45 = .ok (.bastore, 1) := by decide +kernel
theorem dX8_undo_46 : decode cX8_undo 46 = .ok (.return_, 1) := by decide +kernel
set_option maxRecDepth 20000 in
theorem ggX8_turns_X8_level : GoodIn wsX8_turns wsX8_level := goodIn_r _ [8] (by decide +kernel) (by decide +kernel)
set_option maxRecDepth 20000 in
theorem gX8_turns_X8_level : GoodIn wsX8_turns (va_wsS RX8 80 yX8_level wsX8_level) := goodIn_app (goodIn_of _ (by decide +kernel)) ggX8_turns_X8_level
set_option maxRecDepth 20000 in
theorem ggX8_turns_X8_may : GoodIn wsX8_turns wsX8_may := goodIn_r _ [12, 3, 13, 14, 15, 7, 16, 17, 18, 19, 20, 21, 22, 23, 24, 25, 26, 27, 28, 29, 30, 31, 32, 33, 34, 35, 36, 37, 38, 39, 40, 41, 42, 43, 44, 45, 46, 47, 48, 49, 50, 51] (by decide +kernel) (by decide +kernel)
set_option maxRecDepth 20000 in
theorem gX8_turns_X8_may : GoodIn wsX8_turns (wsV RX8 142 RX8 yX8_may wsX8_may) := goodIn_app (goodIn_of _ (by decide +kernel)) ggX8_turns_X8_may
theorem dX8_turns_0 : decode cX8_turns 0 = .ok (.bipush 24, 2) := by decide +kernel
theorem dX8_turns_2 : decode cX8_turns 2 = .ok (.iload_n 1, 1) := by decide +kernel
theorem dX8_turns_3 : decode cX8_turns 3 = .ok (.invokestatic 80, 3) := by decide +kernel
theorem dX8_turns_6 : decode cX8_turns 6 = .ok (.imul, 1) := by decide +kernel
theorem dX8_turns_7 : decode cX8_turns 7 = .ok (.istore_n 3, 1) := by decide +kernel
theorem dX8_turns_8 : decode cX8_turns 8 = .ok (.aload_n 0, 1) := by decide +kernel
theorem dX8_turns_9 : decode cX8_turns 9 = .ok (.getfield 57, 3) := by decide +kernel
theorem dX8_turns_12 : decode cX8_turns 12 = .ok (.iload_n 2, 1) := by decide +kernel
theorem dX8_turns_13 : decode cX8_turns 13 = .ok (.iaload, 1) := by decide +kernel
theorem dX8_turns_14 : decode cX8_turns 14 = .ok (.sipush 575, 3) := by decide +kernel
theorem dX8_turns_17 : decode cX8_turns 17 = .ok (.if_icmp .ge 104, 3) := by decide +kernel
theorem dX8_turns_20 : decode cX8_turns 20 = .ok (.aload_n 0, 1) := by decide +kernel
theorem dX8_turns_21 : decode cX8_turns 21 = .ok (.getfield 57, 3) := by decide +kernel
theorem dX8_turns_24 : decode cX8_turns 24 = .ok (.iload_n 2, 1) := by decide +kernel
theorem dX8_turns_25 : decode cX8_turns 25 = .ok (.dup2, 1) := by decide +kernel
theorem dX8_turns_26 : decode cX8_turns 26 = .ok (.iaload, 1) := by decide +kernel
theorem dX8_turns_27 : decode cX8_turns 27 = .ok (.iconst 1, 1) := by decide +kernel
theorem dX8_turns_28 : decode cX8_turns 28 = .ok (.iadd, 1) := by decide +kernel
theorem dX8_turns_29 : decode cX8_turns 29 = .ok (.iastore, 1) := by decide +kernel
theorem dX8_turns_30 : decode cX8_turns 30 = .ok (.iload_n 3, 1) := by decide +kernel
theorem dX8_turns_31 : decode cX8_turns 31 = .ok (.aload_n 0, 1) := by decide +kernel
theorem dX8_turns_32 : decode cX8_turns 32 = .ok (.getfield 57, 3) := by decide +kernel
theorem dX8_turns_35 : decode cX8_turns 35 = .ok (.iload_n 2, 1) := by decide +kernel
theorem dX8_turns_36 : decode cX8_turns 36 = .ok (.iaload, 1) := by decide +kernel
theorem dX8_turns_37 : decode cX8_turns 37 = .ok (.bipush 24, 2) := by decide +kernel
theorem dX8_turns_39 : decode cX8_turns 39 = .ok (.idiv, 1) := by decide +kernel
theorem dX8_turns_40 : decode cX8_turns 40 = .ok (.iadd, 1) := by decide +kernel
theorem dX8_turns_41 : decode cX8_turns 41 = .ok (.istore 4, 2) := by decide +kernel
theorem dX8_turns_43 : decode cX8_turns 43 = .ok (.iload_n 3, 1) := by decide +kernel
theorem dX8_turns_44 : decode cX8_turns 44 = .ok (.aload_n 0, 1) := by decide +kernel
theorem dX8_turns_45 : decode cX8_turns 45 = .ok (.getfield 57, 3) := by decide +kernel
theorem dX8_turns_48 : decode cX8_turns 48 = .ok (.iload_n 2, 1) := by decide +kernel
theorem dX8_turns_49 : decode cX8_turns 49 = .ok (.iaload, 1) := by decide +kernel
theorem dX8_turns_50 : decode cX8_turns 50 = .ok (.bipush 24, 2) := by decide +kernel
theorem dX8_turns_52 : decode cX8_turns 52 = .ok (.irem, 1) := by decide +kernel
theorem dX8_turns_53 : decode cX8_turns 53 = .ok (.iadd, 1) := by decide +kernel
theorem dX8_turns_54 : decode cX8_turns 54 = .ok (.istore 5, 2) := by decide +kernel
theorem dX8_turns_56 : decode cX8_turns 56 = .ok (.iload 4, 2) := by decide +kernel
theorem dX8_turns_58 : decode cX8_turns 58 = .ok (.iload_n 1, 1) := by decide +kernel
theorem dX8_turns_59 : decode cX8_turns 59 = .ok (.if_icmp .eq (-51), 3) := by decide +kernel
theorem dX8_turns_62 : decode cX8_turns 62 = .ok (.aload_n 0, 1) := by decide +kernel
theorem dX8_turns_63 : decode cX8_turns 63 = .ok (.iload 4, 2) := by decide +kernel
theorem dX8_turns_65 : decode cX8_turns 65 = .ok (.iload 5, 2) := by decide +kernel
theorem dX8_turns_67 : decode cX8_turns 67 = .ok (.invokevirtual 142, 3) := by decide +kernel
theorem dX8_turns_70 : decode cX8_turns 70 = .ok (.ifCond .ne 6, 3) := by decide +kernel
theorem dX8_turns_73 : decode cX8_turns 73 = .ok (.goto (-65), 3) := by decide +kernel
theorem dX8_turns_76 : decode cX8_turns 76 = .ok (.aload_n 0, 1) := by decide +kernel
theorem dX8_turns_77 : decode cX8_turns 77 = .ok (.getfield 54, 3) := by decide +kernel
theorem dX8_turns_80 : decode cX8_turns 80 = .ok (.iload_n 2, 1) := by decide +kernel
theorem dX8_turns_81 : decode cX8_turns 81 = .ok (.bipush 100, 2) := by decide +kernel
theorem dX8_turns_83 : decode cX8_turns 83 = .ok (.iload 4, 2) := by decide +kernel
theorem dX8_turns_85 : decode cX8_turns 85 = .ok (.imul, 1) := by decide +kernel
theorem dX8_turns_86 : decode cX8_turns 86 = .ok (.iload 5, 2) := by decide +kernel
theorem dX8_turns_88 : decode cX8_turns 88 = .ok (.iadd, 1) := by decide +kernel
theorem dX8_turns_89 : decode cX8_turns 89 = .ok (.iastore, 1) := by decide +kernel
theorem dX8_turns_90 : decode cX8_turns 90 = .ok (.aload_n 0, 1) := by decide +kernel
theorem dX8_turns_91 : decode cX8_turns 91 = .ok (.getfield 19, 3) := by decide +kernel
theorem dX8_turns_94 : decode cX8_turns 94 = .ok (.iload 5, 2) := by decide +kernel
theorem dX8_turns_96 : decode cX8_turns 96 = .ok (.aload_n 0, 1) := by decide +kernel
theorem dX8_turns_97 : decode cX8_turns 97 = .ok (.getfield 19, 3) := by decide +kernel
theorem dX8_turns_100 : decode cX8_turns 100 = .ok (.iload 4, 2) := by decide +kernel
theorem dX8_turns_102 : decode cX8_turns 102 = .ok (.iaload, 1) := by decide +kernel
theorem dX8_turns_103 : decode cX8_turns 103 = .ok (.iastore, 1) := by decide +kernel
theorem dX8_turns_104 : decode cX8_turns 104 = .ok (.aload_n 0, 1) := by decide +kernel
theorem dX8_turns_105 : decode cX8_turns 105 = .ok (.getfield 19, 3) := by decide +kernel
theorem dX8_turns_108 : decode cX8_turns 108 = .ok (.iload 4, 2) := by decide +kernel
theorem dX8_turns_110 : decode cX8_turns 110 = .ok (.iconst 0, 1) := by decide +kernel
theorem dX8_turns_111 : decode cX8_turns 111 = .ok (.iastore, 1) := by decide +kernel
theorem dX8_turns_112 : decode cX8_turns 112 = .ok (.aload_n 0, 1) := by decide +kernel
theorem dX8_turns_113 : decode cX8_turns 113 = .ok (.getfield 60, 3) := by decide +kernel
theorem dX8_turns_116 : decode cX8_turns 116 = .ok (.iload_n 2, 1) := by decide +kernel
theorem dX8_turns_117 : decode cX8_turns 117 = .ok (.iconst 1, 1) := by decide +kernel
theorem dX8_turns_118 : decode cX8_turns 118 = .ok (.bastore, 1) := by decide +kernel
theorem dX8_turns_119 : decode cX8_turns 119 = .ok (.iconst 1, 1) := by decide +kernel
theorem dX8_turns_120 : decode cX8_turns 120 = .ok (.ireturn, 1) := by decide +kernel
theorem dX8_turns_121 : decode cX8_turns 121 = .ok (.iconst 0, 1) := by decide +kernel
theorem dX8_turns_122 : decode cX8_turns 122 = .ok (.ireturn, 1) := by decide +kernel
set_option maxRecDepth 20000 in
theorem ggX8_goes_X8_isReached : GoodIn wsX8_goes wsX8_isReached := goodIn_r _ [7, 8, 9, 10, 6, 11, 28, 29, 30, 31, 32, 33, 34, 35, 36, 37, 38, 39, 40, 41, 42, 43, 44, 45, 46, 47, 48, 49, 50, 51, 52, 53, 54, 55, 56, 57, 58, 59] (by decide +kernel) (by decide +kernel)
set_option maxRecDepth 20000 in
theorem gX8_goes_X8_isReached : GoodIn wsX8_goes (wsV RX8 138 RX8 yX8_isReached wsX8_isReached) := goodIn_app (goodIn_of _ (by decide +kernel)) ggX8_goes_X8_isReached
set_option maxRecDepth 20000 in
theorem ggX8_goes_X8_undo : GoodIn wsX8_goes wsX8_undo := goodIn_r _ [15, 16, 8, 2, 28, 29, 30, 31, 32, 33, 34, 35, 36, 37, 38, 39, 40, 41, 42, 43, 44, 45, 46, 47, 48, 49, 50, 51, 52, 53, 54, 55, 56, 57, 58, 59] (by decide +kernel) (by decide +kernel)
set_option maxRecDepth 20000 in
theorem gX8_goes_X8_undo : GoodIn wsX8_goes (wsV RX8 146 RX8 yX8_undo wsX8_undo) := goodIn_app (goodIn_of _ (by decide +kernel)) ggX8_goes_X8_undo
set_option maxRecDepth 20000 in
theorem ggX8_goes_X8_turns : GoodIn wsX8_goes wsX8_turns := goodIn_r _ [20, 1, 16, 8, 2, 21, 22, 6, 23, 24, 25, 26, 27, 3, 4, 5, 7, 9, 10, 11, 28, 29, 30, 31, 32, 33, 34, 35, 36, 37, 38, 39, 40, 41, 42, 43, 44, 45, 46, 47, 48, 49, 50, 51, 52, 53, 54, 55, 56, 57, 58, 59] (by decide +kernel) (by decide +kernel)
set_option maxRecDepth 20000 in
theorem gX8_goes_X8_turns : GoodIn wsX8_goes (wsV RX8 150 RX8 yX8_turns wsX8_turns) := goodIn_app (goodIn_of _ (by decide +kernel)) ggX8_goes_X8_turns
theorem dX8_goes_0 : decode cX8_goes 0 = .ok (.iload_n 2, 1) := by decide +kernel
theorem dX8_goes_1 : decode cX8_goes 1 = .ok (.ifCond .ne 9, 3) := by decide +kernel
theorem dX8_goes_4 : decode cX8_goes 4 = .ok (.aload_n 0, 1) := by decide +kernel
theorem dX8_goes_5 : decode cX8_goes 5 = .ok (.iload_n 1, 1) := by decide +kernel
theorem dX8_goes_6 : decode cX8_goes 6 = .ok (.invokevirtual 138, 3) := by decide +kernel
theorem dX8_goes_9 : decode cX8_goes 9 = .ok (.ireturn, 1) := by decide +kernel
theorem dX8_goes_10 : decode cX8_goes 10 = .ok (.iconst 0, 1) := by decide +kernel
theorem dX8_goes_11 : decode cX8_goes 11 = .ok (.istore_n 3, 1) := by decide +kernel
theorem dX8_goes_12 : decode cX8_goes 12 = .ok (.aload_n 0, 1) := by decide +kernel
theorem dX8_goes_13 : decode cX8_goes 13 = .ok (.getfield 57, 3) := by decide +kernel
theorem dX8_goes_16 : decode cX8_goes 16 = .ok (.iconst 0, 1) := by decide +kernel
theorem dX8_goes_17 : decode cX8_goes 17 = .ok (.iconst (-1), 1) := by decide +kernel
theorem dX8_goes_18 : decode cX8_goes 18 = .ok (.iastore, 1) := by decide +kernel
theorem dX8_goes_19 : decode cX8_goes 19 = .ok (.iconst 0, 1) := by decide +kernel
theorem dX8_goes_20 : decode cX8_goes 20 = .ok (.istore 4, 2) := by decide +kernel
theorem dX8_goes_22 : decode cX8_goes 22 = .ok (.iload_n 3, 1) := by decide +kernel
theorem dX8_goes_23 : decode cX8_goes 23 = .ok (.ifCond .lt 67, 3) := by decide +kernel
theorem dX8_goes_26 : decode cX8_goes 26 = .ok (.iload 4, 2) := by decide +kernel
theorem dX8_goes_28 : decode cX8_goes 28 = .ok (.ifCond .ne 62, 3) := by decide +kernel
theorem dX8_goes_31 : decode cX8_goes 31 = .ok (.aload_n 0, 1) := by decide +kernel
theorem dX8_goes_32 : decode cX8_goes 32 = .ok (.getfield 60, 3) := by decide +kernel
theorem dX8_goes_35 : decode cX8_goes 35 = .ok (.iload_n 3, 1) := by decide +kernel
theorem dX8_goes_36 : decode cX8_goes 36 = .ok (.baload, 1) := by decide +kernel
theorem dX8_goes_37 : decode cX8_goes 37 = .ok (.ifCond .eq 8, 3) := by decide +kernel
theorem dX8_goes_40 : decode cX8_goes 40 = .ok (.aload_n 0, 1) := by decide +kernel
theorem dX8_goes_41 : decode cX8_goes 41 = .ok (.iload_n 3, 1) := by decide +kernel
theorem dX8_goes_42 : decode cX8_goes 42 = .ok (.invokevirtual 146, 3) := by decide +kernel
theorem dX8_goes_45 : decode cX8_goes 45 = .ok (.aload_n 0, 1) := by decide +kernel
theorem dX8_goes_46 : decode cX8_goes 46 = .ok (.iload_n 1, 1) := by decide +kernel
theorem dX8_goes_47 : decode cX8_goes 47 = .ok (.iload_n 3, 1) := by decide +kernel
theorem dX8_goes_48 : decode cX8_goes 48 = .ok (.invokevirtual 150, 3) := by decide +kernel
theorem dX8_goes_51 : decode cX8_goes 51 = .ok (.ifCond .ne 9, 3) := by decide +kernel
theorem dX8_goes_54 : decode cX8_goes 54 = .ok (.iinc 3 (-1), 3) := by decide +kernel
theorem dX8_goes_57 : decode cX8_goes 57 = .ok (.goto (-35), 3) := by decide +kernel
theorem dX8_goes_60 : decode cX8_goes 60 = .ok (.iload_n 3, 1) := by decide +kernel
theorem dX8_goes_61 : decode cX8_goes 61 = .ok (.iload_n 2, 1) := by decide +kernel
theorem dX8_goes_62 : decode cX8_goes 62 = .ok (.iconst 1, 1) := by decide +kernel
theorem dX8_goes_63 : decode cX8_goes 63 = .ok (.isub, 1) := by decide +kernel
theorem dX8_goes_64 : decode cX8_goes 64 = .ok (.if_icmp .ne 13, 3) := by decide +kernel
theorem dX8_goes_67 : decode cX8_goes 67 = .ok (.aload_n 0, 1) := by decide +kernel
theorem dX8_goes_68 : decode cX8_goes 68 = .ok (.iload_n 1, 1) := by decide +kernel
theorem dX8_goes_69 : decode cX8_goes 69 = .ok (.invokevirtual 138, 3) := by decide +kernel
theorem dX8_goes_72 : decode cX8_goes 72 = .ok (.istore 4, 2) := by decide +kernel
theorem dX8_goes_74 : decode cX8_goes 74 = .ok (.goto (-52), 3) := by decide +kernel
theorem dX8_goes_77 : decode cX8_goes 77 = .ok (.iinc 3 1, 3) := by decide +kernel
theorem dX8_goes_80 : decode cX8_goes 80 = .ok (.aload_n 0, 1) := by decide +kernel
theorem dX8_goes_81 : decode cX8_goes 81 = .ok (.getfield 57, 3) := by decide +kernel
theorem dX8_goes_84 : decode cX8_goes 84 = .ok (.iload_n 3, 1) := by decide +kernel
theorem dX8_goes_85 : decode cX8_goes 85 = .ok (.iconst (-1), 1) := by decide +kernel
theorem dX8_goes_86 : decode cX8_goes 86 = .ok (.iastore, 1) := by decide +kernel
theorem dX8_goes_87 : decode cX8_goes 87 = .ok (.goto (-65), 3) := by decide +kernel
theorem dX8_goes_90 : decode cX8_goes 90 = .ok (.iload_n 2, 1) := by decide +kernel
theorem dX8_goes_91 : decode cX8_goes 91 = .ok (.iconst 1, 1) := by decide +kernel
theorem dX8_goes_92 : decode cX8_goes 92 = .ok (.isub, 1) := by decide +kernel
theorem dX8_goes_93 : decode cX8_goes 93 = .ok (.istore 5, 2) := by decide +kernel
theorem dX8_goes_95 : decode cX8_goes 95 = .ok (.iload 5, 2) := by decide +kernel
theorem dX8_goes_97 : decode cX8_goes 97 = .ok (.ifCond .lt 25, 3) := by decide +kernel
theorem dX8_goes_100 : decode cX8_goes 100 = .ok (.aload_n 0, 1) := by decide +kernel
theorem dX8_goes_101 : decode cX8_goes 101 = .ok (.getfield 60, 3) := by decide +kernel
theorem dX8_goes_104 : decode cX8_goes 104 = .ok (.iload 5, 2) := by decide +kernel
theorem dX8_goes_106 : decode cX8_goes 106 = .ok (.baload, 1) := by decide +kernel
theorem dX8_goes_107 : decode cX8_goes 107 = .ok (.ifCond .eq 9, 3) := by decide +kernel
theorem dX8_goes_110 : decode cX8_goes 110 = .ok (.aload_n 0, 1) := by decide +kernel
theorem dX8_goes_111 : decode cX8_goes 111 = .ok (.iload 5, 2) := by decide +kernel
theorem dX8_goes_113 : decode cX8_goes 113 = .ok (.invokevirtual 146, 3) := by decide +kernel
theorem dX8_goes_116 : decode cX8_goes 116 = .ok (.iinc 5 (-1), 3) := by decide +kernel
theorem dX8_goes_119 : decode cX8_goes 119 = .ok (.goto (-24), 3) := by decide +kernel
theorem dX8_goes_122 : decode cX8_goes 122 = .ok (.iload 4, 2) := by decide +kernel
theorem dX8_goes_124 : decode cX8_goes 124 = .ok (.ireturn, 1) := by decide +kernel
set_option maxRecDepth 20000 in
theorem ggX8_planOf_X8_goes : GoodIn wsX8_planOf wsX8_goes := goodIn_r _ [6, 7, 8, 9, 10, 11, 5, 12, 13, 14, 15, 16, 17, 18, 19, 20, 21, 22, 23, 24, 25, 26, 27, 28, 29, 30, 31, 32, 33, 34, 35, 36, 37, 38, 39, 40, 41, 42, 43, 44, 45, 46, 47, 48, 49, 50, 51, 52, 53, 54, 55, 56, 57, 58, 59, 60, 61, 62, 63, 64] (by decide +kernel) (by decide +kernel)
set_option maxRecDepth 20000 in
theorem gX8_planOf_X8_goes : GoodIn wsX8_planOf (wsV RX8 153 RX8 yX8_goes wsX8_goes) := goodIn_app (goodIn_of _ (by decide +kernel)) ggX8_planOf_X8_goes
theorem dX8_planOf_0 : decode cX8_planOf 0 = .ok (.iconst 0, 1) := by decide +kernel
theorem dX8_planOf_1 : decode cX8_planOf 1 = .ok (.istore_n 2, 1) := by decide +kernel
theorem dX8_planOf_2 : decode cX8_planOf 2 = .ok (.iload_n 2, 1) := by decide +kernel
theorem dX8_planOf_3 : decode cX8_planOf 3 = .ok (.iconst 4, 1) := by decide +kernel
theorem dX8_planOf_4 : decode cX8_planOf 4 = .ok (.if_icmp .ge 25, 3) := by decide +kernel
theorem dX8_planOf_7 : decode cX8_planOf 7 = .ok (.aload_n 0, 1) := by decide +kernel
theorem dX8_planOf_8 : decode cX8_planOf 8 = .ok (.aload_n 0, 1) := by decide +kernel
theorem dX8_planOf_9 : decode cX8_planOf 9 = .ok (.getfield 16, 3) := by decide +kernel
theorem dX8_planOf_12 : decode cX8_planOf 12 = .ok (.iload_n 1, 1) := by decide +kernel
theorem dX8_planOf_13 : decode cX8_planOf 13 = .ok (.iaload, 1) := by decide +kernel
theorem dX8_planOf_14 : decode cX8_planOf 14 = .ok (.iload_n 2, 1) := by decide +kernel
theorem dX8_planOf_15 : decode cX8_planOf 15 = .ok (.invokevirtual 153, 3) := by decide +kernel
theorem dX8_planOf_18 : decode cX8_planOf 18 = .ok (.ifCond .eq 5, 3) := by decide +kernel
theorem dX8_planOf_21 : decode cX8_planOf 21 = .ok (.iload_n 2, 1) := by decide +kernel
theorem dX8_planOf_22 : decode cX8_planOf 22 = .ok (.ireturn, 1) := by decide +kernel
theorem dX8_planOf_23 : decode cX8_planOf 23 = .ok (.iinc 2 1, 3) := by decide +kernel
theorem dX8_planOf_26 : decode cX8_planOf 26 = .ok (.goto (-24), 3) := by decide +kernel
theorem dX8_planOf_29 : decode cX8_planOf 29 = .ok (.iconst (-1), 1) := by decide +kernel
theorem dX8_planOf_30 : decode cX8_planOf 30 = .ok (.ireturn, 1) := by decide +kernel
set_option maxRecDepth 20000 in
theorem ggX8_doors_X8_add : GoodIn wsX8_doors wsX8_add := goodIn_r _ [14, 15, 6, 7, 9, 20, 21, 22, 23, 24, 25, 26, 27, 28, 29, 30, 31, 32, 33, 34, 35, 36, 37, 38, 39, 40, 41, 42, 43, 44, 45, 46, 47, 48, 49, 50, 51] (by decide +kernel) (by decide +kernel)
set_option maxRecDepth 20000 in
theorem gX8_doors_X8_add : GoodIn wsX8_doors (wsV RX8 131 RX8 yX8_add wsX8_add) := goodIn_app (goodIn_of _ (by decide +kernel)) ggX8_doors_X8_add
set_option maxRecDepth 20000 in
theorem ggX8_doors_X8_moves : GoodIn wsX8_doors wsX8_moves := goodIn_r _ [19, 2, 3, 20, 21, 22, 23, 24, 25, 26, 27, 28, 29, 30, 31, 32, 33, 34, 35, 36, 37, 38, 39, 40, 41, 42, 43, 44, 45, 46, 47, 48, 49, 50, 51] (by decide +kernel) (by decide +kernel)
set_option maxRecDepth 20000 in
theorem gX8_doors_X8_moves : GoodIn wsX8_doors (wsV RX8 118 RX8 yX8_moves wsX8_moves) := goodIn_app (goodIn_of _ (by decide +kernel)) ggX8_doors_X8_moves
theorem dX8_doors_0 : decode cX8_doors 0 = .ok (.iconst 0, 1) := by decide +kernel
theorem dX8_doors_1 : decode cX8_doors 1 = .ok (.istore_n 1, 1) := by decide +kernel
theorem dX8_doors_2 : decode cX8_doors 2 = .ok (.iload_n 1, 1) := by decide +kernel
theorem dX8_doors_3 : decode cX8_doors 3 = .ok (.iconst 2, 1) := by decide +kernel
theorem dX8_doors_4 : decode cX8_doors 4 = .ok (.if_icmp .ge 214, 3) := by decide +kernel
theorem dX8_doors_7 : decode cX8_doors 7 = .ok (.aload_n 0, 1) := by decide +kernel
theorem dX8_doors_8 : decode cX8_doors 8 = .ok (.getfield 38, 3) := by decide +kernel
theorem dX8_doors_11 : decode cX8_doors 11 = .ok (.ifCond .eq 117, 3) := by decide +kernel
theorem dX8_doors_14 : decode cX8_doors 14 = .ok (.aload_n 0, 1) := by decide +kernel
theorem dX8_doors_15 : decode cX8_doors 15 = .ok (.getfield 22, 3) := by decide +kernel
theorem dX8_doors_18 : decode cX8_doors 18 = .ok (.iload_n 1, 1) := by decide +kernel
theorem dX8_doors_19 : decode cX8_doors 19 = .ok (.iaload, 1) := by decide +kernel
theorem dX8_doors_20 : decode cX8_doors 20 = .ok (.iconst 1, 1) := by decide +kernel
theorem dX8_doors_21 : decode cX8_doors 21 = .ok (.if_icmp .eq 13, 3) := by decide +kernel
theorem dX8_doors_24 : decode cX8_doors 24 = .ok (.aload_n 0, 1) := by decide +kernel
theorem dX8_doors_25 : decode cX8_doors 25 = .ok (.getfield 22, 3) := by decide +kernel
theorem dX8_doors_28 : decode cX8_doors 28 = .ok (.iload_n 1, 1) := by decide +kernel
theorem dX8_doors_29 : decode cX8_doors 29 = .ok (.iaload, 1) := by decide +kernel
theorem dX8_doors_30 : decode cX8_doors 30 = .ok (.iconst 3, 1) := by decide +kernel
theorem dX8_doors_31 : decode cX8_doors 31 = .ok (.if_icmp .ne 97, 3) := by decide +kernel
theorem dX8_doors_34 : decode cX8_doors 34 = .ok (.aload_n 0, 1) := by decide +kernel
theorem dX8_doors_35 : decode cX8_doors 35 = .ok (.getfield 25, 3) := by decide +kernel
theorem dX8_doors_38 : decode cX8_doors 38 = .ok (.iload_n 1, 1) := by decide +kernel
theorem dX8_doors_39 : decode cX8_doors 39 = .ok (.dup2, 1) := by decide +kernel
theorem dX8_doors_40 : decode cX8_doors 40 = .ok (.iaload, 1) := by decide +kernel
theorem dX8_doors_41 : decode cX8_doors 41 = .ok (.iconst 1, 1) := by decide +kernel
theorem dX8_doors_42 : decode cX8_doors 42 = .ok (.isub, 1) := by decide +kernel
theorem dX8_doors_43 : decode cX8_doors 43 = .ok (.iastore, 1) := by decide +kernel
theorem dX8_doors_44 : decode cX8_doors 44 = .ok (.aload_n 0, 1) := by decide +kernel
theorem dX8_doors_45 : decode cX8_doors 45 = .ok (.getfield 25, 3) := by decide +kernel
theorem dX8_doors_48 : decode cX8_doors 48 = .ok (.iload_n 1, 1) := by decide +kernel
theorem dX8_doors_49 : decode cX8_doors 49 = .ok (.iaload, 1) := by decide +kernel
theorem dX8_doors_50 : decode cX8_doors 50 = .ok (.ifCond .ne 24, 3) := by decide +kernel
theorem dX8_doors_53 : decode cX8_doors 53 = .ok (.aload_n 0, 1) := by decide +kernel
theorem dX8_doors_54 : decode cX8_doors 54 = .ok (.getfield 22, 3) := by decide +kernel
theorem dX8_doors_57 : decode cX8_doors 57 = .ok (.iload_n 1, 1) := by decide +kernel
theorem dX8_doors_58 : decode cX8_doors 58 = .ok (.aload_n 0, 1) := by decide +kernel
theorem dX8_doors_59 : decode cX8_doors 59 = .ok (.getfield 22, 3) := by decide +kernel
theorem dX8_doors_62 : decode cX8_doors 62 = .ok (.iload_n 1, 1) := by decide +kernel
theorem dX8_doors_63 : decode cX8_doors 63 = .ok (.iaload, 1) := by decide +kernel
theorem dX8_doors_64 : decode cX8_doors 64 = .ok (.iconst 1, 1) := by decide +kernel
theorem dX8_doors_65 : decode cX8_doors 65 = .ok (.if_icmp .ne 7, 3) := by decide +kernel
theorem dX8_doors_68 : decode cX8_doors 68 = .ok (.iconst 2, 1) := by decide +kernel
theorem dX8_doors_69 : decode cX8_doors 69 = .ok (.goto 4, 3) := by decide +kernel
theorem dX8_doors_72 : decode cX8_doors 72 = .ok (.iconst 0, 1) := by decide +kernel
theorem dX8_doors_73 : decode cX8_doors 73 = .ok (.iastore, 1) := by decide +kernel
theorem dX8_doors_74 : decode cX8_doors 74 = .ok (.aload_n 0, 1) := by decide +kernel
theorem dX8_doors_75 : decode cX8_doors 75 = .ok (.getfield 25, 3) := by decide +kernel
theorem dX8_doors_78 : decode cX8_doors 78 = .ok (.iload_n 1, 1) := by decide +kernel
theorem dX8_doors_79 : decode cX8_doors 79 = .ok (.iaload, 1) := by decide +kernel
theorem dX8_doors_80 : decode cX8_doors 80 = .ok (.ifCond .ne 48, 3) := by decide +kernel
theorem dX8_doors_83 : decode cX8_doors 83 = .ok (.aload_n 0, 1) := by decide +kernel
theorem dX8_doors_84 : decode cX8_doors 84 = .ok (.getfield 22, 3) := by decide +kernel
theorem dX8_doors_87 : decode cX8_doors 87 = .ok (.iload_n 1, 1) := by decide +kernel
theorem dX8_doors_88 : decode cX8_doors 88 = .ok (.iaload, 1) := by decide +kernel
theorem dX8_doors_89 : decode cX8_doors 89 = .ok (.ifCond .ne 39, 3) := by decide +kernel
theorem dX8_doors_92 : decode cX8_doors 92 = .ok (.aload_n 0, 1) := by decide +kernel
theorem dX8_doors_93 : decode cX8_doors 93 = .ok (.getfield 32, 3) := by decide +kernel
theorem dX8_doors_96 : decode cX8_doors 96 = .ok (.iload_n 1, 1) := by decide +kernel
theorem dX8_doors_97 : decode cX8_doors 97 = .ok (.iaload, 1) := by decide +kernel
theorem dX8_doors_98 : decode cX8_doors 98 = .ok (.ifCond .lt 30, 3) := by decide +kernel
theorem dX8_doors_101 : decode cX8_doors 101 = .ok (.aload_n 0, 1) := by decide +kernel
theorem dX8_doors_102 : decode cX8_doors 102 = .ok (.getfield 13, 3) := by decide +kernel
theorem dX8_doors_105 : decode cX8_doors 105 = .ok (.aload_n 0, 1) := by decide +kernel
theorem dX8_doors_106 : decode cX8_doors 106 = .ok (.getfield 32, 3) := by decide +kernel
theorem dX8_doors_109 : decode cX8_doors 109 = .ok (.iload_n 1, 1) := by decide +kernel
theorem dX8_doors_110 : decode cX8_doors 110 = .ok (.iaload, 1) := by decide +kernel
theorem dX8_doors_111 : decode cX8_doors 111 = .ok (.iaload, 1) := by decide +kernel
theorem dX8_doors_112 : decode cX8_doors 112 = .ok (.iconst 1, 1) := by decide +kernel
theorem dX8_doors_113 : decode cX8_doors 113 = .ok (.if_icmp .ne 15, 3) := by decide +kernel
theorem dX8_doors_116 : decode cX8_doors 116 = .ok (.aload_n 0, 1) := by decide +kernel
theorem dX8_doors_117 : decode cX8_doors 117 = .ok (.aload_n 0, 1) := by decide +kernel
theorem dX8_doors_118 : decode cX8_doors 118 = .ok (.getfield 32, 3) := by decide +kernel
theorem dX8_doors_121 : decode cX8_doors 121 = .ok (.iload_n 1, 1) := by decide +kernel
theorem dX8_doors_122 : decode cX8_doors 122 = .ok (.iaload, 1) := by decide +kernel
theorem dX8_doors_123 : decode cX8_doors 123 = .ok (.iload_n 1, 1) := by decide +kernel
theorem dX8_doors_124 : decode cX8_doors 124 = .ok (.iconst 0, 1) := by decide +kernel
theorem dX8_doors_125 : decode cX8_doors 125 = .ok (.invokevirtual 131, 3) := by decide +kernel
theorem dX8_doors_128 : decode cX8_doors 128 = .ok (.iconst 0, 1) := by decide +kernel
theorem dX8_doors_129 : decode cX8_doors 129 = .ok (.istore_n 2, 1) := by decide +kernel
theorem dX8_doors_130 : decode cX8_doors 130 = .ok (.iload_n 2, 1) := by decide +kernel
theorem dX8_doors_131 : decode cX8_doors 131 = .ok (.aload_n 0, 1) := by decide +kernel
theorem dX8_doors_132 : decode cX8_doors 132 = .ok (.getfield 93, 3) := by decide +kernel
theorem dX8_doors_135 : decode cX8_doors 135 = .ok (.if_icmp .ge 19, 3) := by decide +kernel
theorem dX8_doors_138 : decode cX8_doors 138 = .ok (.aload_n 0, 1) := by decide +kernel
theorem dX8_doors_139 : decode cX8_doors 139 = .ok (.getfield 45, 3) := by decide +kernel
theorem dX8_doors_142 : decode cX8_doors 142 = .ok (.iload_n 2, 1) := by decide +kernel
theorem dX8_doors_143 : decode cX8_doors 143 = .ok (.iaload, 1) := by decide +kernel
theorem dX8_doors_144 : decode cX8_doors 144 = .ok (.iload_n 1, 1) := by decide +kernel
theorem dX8_doors_145 : decode cX8_doors 145 = .ok (.if_icmp .eq 9, 3) := by decide +kernel
theorem dX8_doors_148 : decode cX8_doors 148 = .ok (.iinc 2 1, 3) := by decide +kernel
theorem dX8_doors_151 : decode cX8_doors 151 = .ok (.goto (-21), 3) := by decide +kernel
theorem dX8_doors_154 : decode cX8_doors 154 = .ok (.aload_n 0, 1) := by decide +kernel
theorem dX8_doors_155 : decode cX8_doors 155 = .ok (.getfield 38, 3) := by decide +kernel
theorem dX8_doors_158 : decode cX8_doors 158 = .ok (.ifCond .eq 54, 3) := by decide +kernel
theorem dX8_doors_161 : decode cX8_doors 161 = .ok (.aload_n 0, 1) := by decide +kernel
theorem dX8_doors_162 : decode cX8_doors 162 = .ok (.getfield 22, 3) := by decide +kernel
theorem dX8_doors_165 : decode cX8_doors 165 = .ok (.iload_n 1, 1) := by decide +kernel
theorem dX8_doors_166 : decode cX8_doors 166 = .ok (.iaload, 1) := by decide +kernel
theorem dX8_doors_167 : decode cX8_doors 167 = .ok (.iconst 2, 1) := by decide +kernel
theorem dX8_doors_168 : decode cX8_doors 168 = .ok (.if_icmp .ne 44, 3) := by decide +kernel
theorem dX8_doors_171 : decode cX8_doors 171 = .ok (.aload_n 0, 1) := by decide +kernel
theorem dX8_doors_172 : decode cX8_doors 172 = .ok (.getfield 32, 3) := by decide +kernel
theorem dX8_doors_175 : decode cX8_doors 175 = .ok (.iload_n 1, 1) := by decide +kernel
theorem dX8_doors_176 : decode cX8_doors 176 = .ok (.iaload, 1) := by decide +kernel
theorem dX8_doors_177 : decode cX8_doors 177 = .ok (.ifCond .ge 35, 3) := by decide +kernel
theorem dX8_doors_180 : decode cX8_doors 180 = .ok (.aload_n 0, 1) := by decide +kernel
theorem dX8_doors_181 : decode cX8_doors 181 = .ok (.getfield 28, 3) := by decide +kernel
theorem dX8_doors_184 : decode cX8_doors 184 = .ok (.iload_n 1, 1) := by decide +kernel
theorem dX8_doors_185 : decode cX8_doors 185 = .ok (.baload, 1) := by decide +kernel
theorem dX8_doors_186 : decode cX8_doors 186 = .ok (.ifCond .ne 26, 3) := by decide +kernel
theorem dX8_doors_189 : decode cX8_doors 189 = .ok (.iload_n 2, 1) := by decide +kernel
theorem dX8_doors_190 : decode cX8_doors 190 = .ok (.aload_n 0, 1) := by decide +kernel
theorem dX8_doors_191 : decode cX8_doors 191 = .ok (.getfield 93, 3) := by decide +kernel
theorem dX8_doors_194 : decode cX8_doors 194 = .ok (.if_icmp .ge 18, 3) := by decide +kernel
theorem dX8_doors_197 : decode cX8_doors 197 = .ok (.aload_n 0, 1) := by decide +kernel
theorem dX8_doors_198 : decode cX8_doors 198 = .ok (.getfield 48, 3) := by decide +kernel
theorem dX8_doors_201 : decode cX8_doors 201 = .ok (.iload_n 2, 1) := by decide +kernel
theorem dX8_doors_202 : decode cX8_doors 202 = .ok (.baload, 1) := by decide +kernel
theorem dX8_doors_203 : decode cX8_doors 203 = .ok (.ifCond .eq 9, 3) := by decide +kernel
theorem dX8_doors_206 : decode cX8_doors 206 = .ok (.aload_n 0, 1) := by decide +kernel
theorem dX8_doors_207 : decode cX8_doors 207 = .ok (.iload_n 1, 1) := by decide +kernel
theorem dX8_doors_208 : decode cX8_doors 208 = .ok (.iconst 3, 1) := by decide +kernel
theorem dX8_doors_209 : decode cX8_doors 209 = .ok (.invokevirtual 118, 3) := by decide +kernel
theorem dX8_doors_212 : decode cX8_doors 212 = .ok (.iinc 1 1, 3) := by decide +kernel
theorem dX8_doors_215 : decode cX8_doors 215 = .ok (.goto (-213), 3) := by decide +kernel
theorem dX8_doors_218 : decode cX8_doors 218 = .ok (.return_, 1) := by decide +kernel
set_option maxRecDepth 20000 in
theorem ggX8_begins_X8_level : GoodIn wsX8_begins wsX8_level := goodIn_r _ [12] (by decide +kernel) (by decide +kernel)
set_option maxRecDepth 20000 in
theorem gX8_begins_X8_level : GoodIn wsX8_begins (va_wsS RX8 80 yX8_level wsX8_level) := goodIn_app (goodIn_of _ (by decide +kernel)) ggX8_begins_X8_level
set_option maxRecDepth 20000 in
theorem ggX8_begins_X8_planOf : GoodIn wsX8_begins wsX8_planOf := goodIn_r _ [16, 4, 17, 18, 19, 11, 20, 21, 22, 23, 24, 25, 26, 27, 28, 29, 30, 31, 32, 33, 34, 35, 36, 37, 38, 39, 9, 10, 12, 40, 41, 42, 43, 44, 45, 46, 47, 48, 49, 50, 51, 52, 53, 54, 55, 56, 57, 58, 59, 60, 61, 62, 63, 64, 65, 66, 67, 68, 69, 70, 71, 72, 73, 74, 75] (by decide +kernel) (by decide +kernel)
set_option maxRecDepth 20000 in
theorem gX8_begins_X8_planOf : GoodIn wsX8_begins (wsV RX8 156 RX8 yX8_planOf wsX8_planOf) := goodIn_app (goodIn_of _ (by decide +kernel)) ggX8_begins_X8_planOf
theorem dX8_begins_0 : decode cX8_begins 0 = .ok (.aload_n 0, 1) := by decide +kernel
theorem dX8_begins_1 : decode cX8_begins 1 = .ok (.getfield 48, 3) := by decide +kernel
theorem dX8_begins_4 : decode cX8_begins 4 = .ok (.iload_n 1, 1) := by decide +kernel
theorem dX8_begins_5 : decode cX8_begins 5 = .ok (.baload, 1) := by decide +kernel
theorem dX8_begins_6 : decode cX8_begins 6 = .ok (.ifCond .ne 5, 3) := by decide +kernel
theorem dX8_begins_9 : decode cX8_begins 9 = .ok (.iconst 1, 1) := by decide +kernel
theorem dX8_begins_10 : decode cX8_begins 10 = .ok (.ireturn, 1) := by decide +kernel
theorem dX8_begins_11 : decode cX8_begins 11 = .ok (.aload_n 0, 1) := by decide +kernel
theorem dX8_begins_12 : decode cX8_begins 12 = .ok (.getfield 45, 3) := by decide +kernel
theorem dX8_begins_15 : decode cX8_begins 15 = .ok (.iload_n 1, 1) := by decide +kernel
theorem dX8_begins_16 : decode cX8_begins 16 = .ok (.iaload, 1) := by decide +kernel
theorem dX8_begins_17 : decode cX8_begins 17 = .ok (.istore_n 2, 1) := by decide +kernel
theorem dX8_begins_18 : decode cX8_begins 18 = .ok (.aload_n 0, 1) := by decide +kernel
theorem dX8_begins_19 : decode cX8_begins 19 = .ok (.getfield 35, 3) := by decide +kernel
theorem dX8_begins_22 : decode cX8_begins 22 = .ok (.aload_n 0, 1) := by decide +kernel
theorem dX8_begins_23 : decode cX8_begins 23 = .ok (.getfield 16, 3) := by decide +kernel
theorem dX8_begins_26 : decode cX8_begins 26 = .ok (.aload_n 0, 1) := by decide +kernel
theorem dX8_begins_27 : decode cX8_begins 27 = .ok (.getfield 42, 3) := by decide +kernel
theorem dX8_begins_30 : decode cX8_begins 30 = .ok (.iload_n 1, 1) := by decide +kernel
theorem dX8_begins_31 : decode cX8_begins 31 = .ok (.iaload, 1) := by decide +kernel
theorem dX8_begins_32 : decode cX8_begins 32 = .ok (.iaload, 1) := by decide +kernel
theorem dX8_begins_33 : decode cX8_begins 33 = .ok (.invokestatic 80, 3) := by decide +kernel
theorem dX8_begins_36 : decode cX8_begins 36 = .ok (.baload, 1) := by decide +kernel
theorem dX8_begins_37 : decode cX8_begins 37 = .ok (.ifCond .ne 47, 3) := by decide +kernel
theorem dX8_begins_40 : decode cX8_begins 40 = .ok (.aload_n 0, 1) := by decide +kernel
theorem dX8_begins_41 : decode cX8_begins 41 = .ok (.getfield 32, 3) := by decide +kernel
theorem dX8_begins_44 : decode cX8_begins 44 = .ok (.iload_n 2, 1) := by decide +kernel
theorem dX8_begins_45 : decode cX8_begins 45 = .ok (.iaload, 1) := by decide +kernel
theorem dX8_begins_46 : decode cX8_begins 46 = .ok (.ifCond .ge 38, 3) := by decide +kernel
theorem dX8_begins_49 : decode cX8_begins 49 = .ok (.aload_n 0, 1) := by decide +kernel
theorem dX8_begins_50 : decode cX8_begins 50 = .ok (.getfield 22, 3) := by decide +kernel
theorem dX8_begins_53 : decode cX8_begins 53 = .ok (.iload_n 2, 1) := by decide +kernel
theorem dX8_begins_54 : decode cX8_begins 54 = .ok (.iaload, 1) := by decide +kernel
theorem dX8_begins_55 : decode cX8_begins 55 = .ok (.ifCond .ne 29, 3) := by decide +kernel
theorem dX8_begins_58 : decode cX8_begins 58 = .ok (.aload_n 0, 1) := by decide +kernel
theorem dX8_begins_59 : decode cX8_begins 59 = .ok (.getfield 28, 3) := by decide +kernel
theorem dX8_begins_62 : decode cX8_begins 62 = .ok (.iload_n 2, 1) := by decide +kernel
theorem dX8_begins_63 : decode cX8_begins 63 = .ok (.baload, 1) := by decide +kernel
theorem dX8_begins_64 : decode cX8_begins 64 = .ok (.ifCond .ne 20, 3) := by decide +kernel
theorem dX8_begins_67 : decode cX8_begins 67 = .ok (.aload_n 0, 1) := by decide +kernel
theorem dX8_begins_68 : decode cX8_begins 68 = .ok (.aload_n 0, 1) := by decide +kernel
theorem dX8_begins_69 : decode cX8_begins 69 = .ok (.getfield 42, 3) := by decide +kernel
theorem dX8_begins_72 : decode cX8_begins 72 = .ok (.iload_n 1, 1) := by decide +kernel
theorem dX8_begins_73 : decode cX8_begins 73 = .ok (.iaload, 1) := by decide +kernel
theorem dX8_begins_74 : decode cX8_begins 74 = .ok (.invokevirtual 156, 3) := by decide +kernel
theorem dX8_begins_77 : decode cX8_begins 77 = .ok (.ifCond .lt 7, 3) := by decide +kernel
theorem dX8_begins_80 : decode cX8_begins 80 = .ok (.iconst 1, 1) := by decide +kernel
theorem dX8_begins_81 : decode cX8_begins 81 = .ok (.goto 4, 3) := by decide +kernel
theorem dX8_begins_84 : decode cX8_begins 84 = .ok (.iconst 0, 1) := by decide +kernel
theorem dX8_begins_85 : decode cX8_begins 85 = .ok (.ireturn, 1) := by decide +kernel
theorem dX8_away_0 : decode cX8_away 0 = .ok (.iconst 3, 1) := by decide +kernel
theorem dX8_away_1 : decode cX8_away 1 = .ok (.iload_n 0, 1) := by decide +kernel
theorem dX8_away_2 : decode cX8_away 2 = .ok (.iload_n 1, 1) := by decide +kernel
theorem dX8_away_3 : decode cX8_away 3 = .ok (.if_icmp .le 9, 3) := by decide +kernel
theorem dX8_away_6 : decode cX8_away 6 = .ok (.iload_n 0, 1) := by decide +kernel
theorem dX8_away_7 : decode cX8_away 7 = .ok (.iload_n 1, 1) := by decide +kernel
theorem dX8_away_8 : decode cX8_away 8 = .ok (.isub, 1) := by decide +kernel
theorem dX8_away_9 : decode cX8_away 9 = .ok (.goto 6, 3) := by decide +kernel
theorem dX8_away_12 : decode cX8_away 12 = .ok (.iload_n 1, 1) := by decide +kernel
theorem dX8_away_13 : decode cX8_away 13 = .ok (.iload_n 0, 1) := by decide +kernel
theorem dX8_away_14 : decode cX8_away 14 = .ok (.isub, 1) := by decide +kernel
theorem dX8_away_15 : decode cX8_away 15 = .ok (.imul, 1) := by decide +kernel
theorem dX8_away_16 : decode cX8_away 16 = .ok (.ireturn, 1) := by decide +kernel
theorem dX8_steps_0 : decode cX8_steps 0 = .ok (.aload_n 0, 1) := by decide +kernel
theorem dX8_steps_1 : decode cX8_steps 1 = .ok (.getfield 74, 3) := by decide +kernel
theorem dX8_steps_4 : decode cX8_steps 4 = .ok (.ifCond .eq 12, 3) := by decide +kernel
theorem dX8_steps_7 : decode cX8_steps 7 = .ok (.aload_n 0, 1) := by decide +kernel
theorem dX8_steps_8 : decode cX8_steps 8 = .ok (.getfield 159, 3) := by decide +kernel
theorem dX8_steps_11 : decode cX8_steps 11 = .ok (.iconst 4, 1) := by decide +kernel
theorem dX8_steps_12 : decode cX8_steps 12 = .ok (.iadd, 1) := by decide +kernel
theorem dX8_steps_13 : decode cX8_steps 13 = .ok (.goto 4, 3) := by decide +kernel
theorem dX8_steps_16 : decode cX8_steps 16 = .ok (.iconst 4, 1) := by decide +kernel
theorem dX8_steps_17 : decode cX8_steps 17 = .ok (.ireturn, 1) := by decide +kernel
set_option maxRecDepth 20000 in
theorem ggX8_ticksOf_X8_away : GoodIn wsX8_ticksOf wsX8_away := goodIn_r _ [10] (by decide +kernel) (by decide +kernel)
set_option maxRecDepth 20000 in
theorem gX8_ticksOf_X8_away : GoodIn wsX8_ticksOf (va_wsS RX8 164 yX8_away wsX8_away) := goodIn_app (goodIn_of _ (by decide +kernel)) ggX8_ticksOf_X8_away
set_option maxRecDepth 20000 in
theorem ggX8_ticksOf_X8_level : GoodIn wsX8_ticksOf wsX8_level := goodIn_r _ [13] (by decide +kernel) (by decide +kernel)
set_option maxRecDepth 20000 in
theorem gX8_ticksOf_X8_level : GoodIn wsX8_ticksOf (va_wsS RX8 80 yX8_level wsX8_level) := goodIn_app (goodIn_of _ (by decide +kernel)) ggX8_ticksOf_X8_level
set_option maxRecDepth 20000 in
theorem ggX8_ticksOf_X8_reach : GoodIn wsX8_ticksOf wsX8_reach := goodIn_r _ [16, 17, 18, 9, 19] (by decide +kernel) (by decide +kernel)
set_option maxRecDepth 20000 in
theorem gX8_ticksOf_X8_reach : GoodIn wsX8_ticksOf (va_wsS RX8 168 yX8_reach wsX8_reach) := goodIn_app (goodIn_of _ (by decide +kernel)) ggX8_ticksOf_X8_reach
theorem dX8_ticksOf_0 : decode cX8_ticksOf 0 = .ok (.aload_n 0, 1) := by decide +kernel
theorem dX8_ticksOf_1 : decode cX8_ticksOf 1 = .ok (.getfield 16, 3) := by decide +kernel
theorem dX8_ticksOf_4 : decode cX8_ticksOf 4 = .ok (.aload_n 0, 1) := by decide +kernel
theorem dX8_ticksOf_5 : decode cX8_ticksOf 5 = .ok (.getfield 77, 3) := by decide +kernel
theorem dX8_ticksOf_8 : decode cX8_ticksOf 8 = .ok (.iaload, 1) := by decide +kernel
theorem dX8_ticksOf_9 : decode cX8_ticksOf 9 = .ok (.istore_n 2, 1) := by decide +kernel
theorem dX8_ticksOf_10 : decode cX8_ticksOf 10 = .ok (.aload_n 0, 1) := by decide +kernel
theorem dX8_ticksOf_11 : decode cX8_ticksOf 11 = .ok (.getfield 74, 3) := by decide +kernel
theorem dX8_ticksOf_14 : decode cX8_ticksOf 14 = .ok (.ifCond .ne 51, 3) := by decide +kernel
theorem dX8_ticksOf_17 : decode cX8_ticksOf 17 = .ok (.iload_n 1, 1) := by decide +kernel
theorem dX8_ticksOf_18 : decode cX8_ticksOf 18 = .ok (.ifCond .ne 14, 3) := by decide +kernel
theorem dX8_ticksOf_21 : decode cX8_ticksOf 21 = .ok (.aload_n 0, 1) := by decide +kernel
theorem dX8_ticksOf_22 : decode cX8_ticksOf 22 = .ok (.getfield 161, 3) := by decide +kernel
theorem dX8_ticksOf_25 : decode cX8_ticksOf 25 = .ok (.iconst 0, 1) := by decide +kernel
theorem dX8_ticksOf_26 : decode cX8_ticksOf 26 = .ok (.invokestatic 164, 3) := by decide +kernel
theorem dX8_ticksOf_29 : decode cX8_ticksOf 29 = .ok (.goto 35, 3) := by decide +kernel
theorem dX8_ticksOf_32 : decode cX8_ticksOf 32 = .ok (.iload_n 1, 1) := by decide +kernel
theorem dX8_ticksOf_33 : decode cX8_ticksOf 33 = .ok (.iconst 1, 1) := by decide +kernel
theorem dX8_ticksOf_34 : decode cX8_ticksOf 34 = .ok (.if_icmp .ne 7, 3) := by decide +kernel
theorem dX8_ticksOf_37 : decode cX8_ticksOf 37 = .ok (.iconst 2, 1) := by decide +kernel
theorem dX8_ticksOf_38 : decode cX8_ticksOf 38 = .ok (.goto 26, 3) := by decide +kernel
theorem dX8_ticksOf_41 : decode cX8_ticksOf 41 = .ok (.iload_n 1, 1) := by decide +kernel
theorem dX8_ticksOf_42 : decode cX8_ticksOf 42 = .ok (.iconst 2, 1) := by decide +kernel
theorem dX8_ticksOf_43 : decode cX8_ticksOf 43 = .ok (.if_icmp .ne 17, 3) := by decide +kernel
theorem dX8_ticksOf_46 : decode cX8_ticksOf 46 = .ok (.aload_n 0, 1) := by decide +kernel
theorem dX8_ticksOf_47 : decode cX8_ticksOf 47 = .ok (.getfield 161, 3) := by decide +kernel
theorem dX8_ticksOf_50 : decode cX8_ticksOf 50 = .ok (.iload_n 2, 1) := by decide +kernel
theorem dX8_ticksOf_51 : decode cX8_ticksOf 51 = .ok (.invokestatic 80, 3) := by decide +kernel
theorem dX8_ticksOf_54 : decode cX8_ticksOf 54 = .ok (.invokestatic 164, 3) := by decide +kernel
theorem dX8_ticksOf_57 : decode cX8_ticksOf 57 = .ok (.goto 7, 3) := by decide +kernel
theorem dX8_ticksOf_60 : decode cX8_ticksOf 60 = .ok (.iload_n 2, 1) := by decide +kernel
theorem dX8_ticksOf_61 : decode cX8_ticksOf 61 = .ok (.invokestatic 168, 3) := by decide +kernel
theorem dX8_ticksOf_64 : decode cX8_ticksOf 64 = .ok (.ireturn, 1) := by decide +kernel
theorem dX8_ticksOf_65 : decode cX8_ticksOf 65 = .ok (.iload_n 1, 1) := by decide +kernel
theorem dX8_ticksOf_66 : decode cX8_ticksOf 66 = .ok (.ifCond .ne 15, 3) := by decide +kernel
theorem dX8_ticksOf_69 : decode cX8_ticksOf 69 = .ok (.aload_n 0, 1) := by decide +kernel
theorem dX8_ticksOf_70 : decode cX8_ticksOf 70 = .ok (.getfield 161, 3) := by decide +kernel
theorem dX8_ticksOf_73 : decode cX8_ticksOf 73 = .ok (.iload_n 2, 1) := by decide +kernel
theorem dX8_ticksOf_74 : decode cX8_ticksOf 74 = .ok (.invokestatic 80, 3) := by decide +kernel
theorem dX8_ticksOf_77 : decode cX8_ticksOf 77 = .ok (.invokestatic 164, 3) := by decide +kernel
theorem dX8_ticksOf_80 : decode cX8_ticksOf 80 = .ok (.ireturn, 1) := by decide +kernel
theorem dX8_ticksOf_81 : decode cX8_ticksOf 81 = .ok (.iload_n 1, 1) := by decide +kernel
theorem dX8_ticksOf_82 : decode cX8_ticksOf 82 = .ok (.aload_n 0, 1) := by decide +kernel
theorem dX8_ticksOf_83 : decode cX8_ticksOf 83 = .ok (.getfield 159, 3) := by decide +kernel
theorem dX8_ticksOf_86 : decode cX8_ticksOf 86 = .ok (.if_icmp .gt 33, 3) := by decide +kernel
theorem dX8_ticksOf_89 : decode cX8_ticksOf 89 = .ok (.aload_n 0, 1) := by decide +kernel
theorem dX8_ticksOf_90 : decode cX8_ticksOf 90 = .ok (.getfield 51, 3) := by decide +kernel
theorem dX8_ticksOf_93 : decode cX8_ticksOf 93 = .ok (.iload_n 1, 1) := by decide +kernel
theorem dX8_ticksOf_94 : decode cX8_ticksOf 94 = .ok (.iconst 1, 1) := by decide +kernel
theorem dX8_ticksOf_95 : decode cX8_ticksOf 95 = .ok (.isub, 1) := by decide +kernel
theorem dX8_ticksOf_96 : decode cX8_ticksOf 96 = .ok (.iaload, 1) := by decide +kernel
theorem dX8_ticksOf_97 : decode cX8_ticksOf 97 = .ok (.bipush 100, 2) := by decide +kernel
theorem dX8_ticksOf_99 : decode cX8_ticksOf 99 = .ok (.idiv, 1) := by decide +kernel
theorem dX8_ticksOf_100 : decode cX8_ticksOf 100 = .ok (.invokestatic 168, 3) := by decide +kernel
theorem dX8_ticksOf_103 : decode cX8_ticksOf 103 = .ok (.aload_n 0, 1) := by decide +kernel
theorem dX8_ticksOf_104 : decode cX8_ticksOf 104 = .ok (.getfield 51, 3) := by decide +kernel
theorem dX8_ticksOf_107 : decode cX8_ticksOf 107 = .ok (.iload_n 1, 1) := by decide +kernel
theorem dX8_ticksOf_108 : decode cX8_ticksOf 108 = .ok (.iconst 1, 1) := by decide +kernel
theorem dX8_ticksOf_109 : decode cX8_ticksOf 109 = .ok (.isub, 1) := by decide +kernel
theorem dX8_ticksOf_110 : decode cX8_ticksOf 110 = .ok (.iaload, 1) := by decide +kernel
theorem dX8_ticksOf_111 : decode cX8_ticksOf 111 = .ok (.bipush 100, 2) := by decide +kernel
theorem dX8_ticksOf_113 : decode cX8_ticksOf 113 = .ok (.irem, 1) := by decide +kernel
theorem dX8_ticksOf_114 : decode cX8_ticksOf 114 = .ok (.invokestatic 168, 3) := by decide +kernel
theorem dX8_ticksOf_117 : decode cX8_ticksOf 117 = .ok (.iadd, 1) := by decide +kernel
theorem dX8_ticksOf_118 : decode cX8_ticksOf 118 = .ok (.ireturn, 1) := by decide +kernel
theorem dX8_ticksOf_119 : decode cX8_ticksOf 119 = .ok (.iload_n 1, 1) := by decide +kernel
theorem dX8_ticksOf_120 : decode cX8_ticksOf 120 = .ok (.aload_n 0, 1) := by decide +kernel
theorem dX8_ticksOf_121 : decode cX8_ticksOf 121 = .ok (.getfield 159, 3) := by decide +kernel
theorem dX8_ticksOf_124 : decode cX8_ticksOf 124 = .ok (.iconst 1, 1) := by decide +kernel
theorem dX8_ticksOf_125 : decode cX8_ticksOf 125 = .ok (.iadd, 1) := by decide +kernel
theorem dX8_ticksOf_126 : decode cX8_ticksOf 126 = .ok (.if_icmp .ne 10, 3) := by decide +kernel
theorem dX8_ticksOf_129 : decode cX8_ticksOf 129 = .ok (.iload_n 2, 1) := by decide +kernel
theorem dX8_ticksOf_130 : decode cX8_ticksOf 130 = .ok (.invokestatic 168, 3) := by decide +kernel
theorem dX8_ticksOf_133 : decode cX8_ticksOf 133 = .ok (.goto 25, 3) := by decide +kernel
theorem dX8_ticksOf_136 : decode cX8_ticksOf 136 = .ok (.iload_n 1, 1) := by decide +kernel
theorem dX8_ticksOf_137 : decode cX8_ticksOf 137 = .ok (.aload_n 0, 1) := by decide +kernel
theorem dX8_ticksOf_138 : decode cX8_ticksOf 138 = .ok (.getfield 159, 3) := by decide +kernel
theorem dX8_ticksOf_141 : decode cX8_ticksOf 141 = .ok (.iconst 2, 1) := by decide +kernel
theorem dX8_ticksOf_142 : decode cX8_ticksOf 142 = .ok (.iadd, 1) := by decide +kernel
theorem dX8_ticksOf_143 : decode cX8_ticksOf 143 = .ok (.if_icmp .ne 14, 3) := by decide +kernel
theorem dX8_ticksOf_146 : decode cX8_ticksOf 146 = .ok (.aload_n 0, 1) := by decide +kernel
theorem dX8_ticksOf_147 : decode cX8_ticksOf 147 = .ok (.getfield 161, 3) := by decide +kernel
theorem dX8_ticksOf_150 : decode cX8_ticksOf 150 = .ok (.iconst 0, 1) := by decide +kernel
theorem dX8_ticksOf_151 : decode cX8_ticksOf 151 = .ok (.invokestatic 164, 3) := by decide +kernel
theorem dX8_ticksOf_154 : decode cX8_ticksOf 154 = .ok (.goto 4, 3) := by decide +kernel
theorem dX8_ticksOf_157 : decode cX8_ticksOf 157 = .ok (.iconst 2, 1) := by decide +kernel
theorem dX8_ticksOf_158 : decode cX8_ticksOf 158 = .ok (.ireturn, 1) := by decide +kernel
theorem dX8_isAtBay_0 : decode cX8_isAtBay 0 = .ok (.aload_n 0, 1) := by decide +kernel
theorem dX8_isAtBay_1 : decode cX8_isAtBay 1 = .ok (.getfield 74, 3) := by decide +kernel
theorem dX8_isAtBay_4 : decode cX8_isAtBay 4 = .ok (.ifCond .eq 21, 3) := by decide +kernel
theorem dX8_isAtBay_7 : decode cX8_isAtBay 7 = .ok (.iload_n 1, 1) := by decide +kernel
theorem dX8_isAtBay_8 : decode cX8_isAtBay 8 = .ok (.aload_n 0, 1) := by decide +kernel
theorem dX8_isAtBay_9 : decode cX8_isAtBay 9 = .ok (.getfield 159, 3) := by decide +kernel
theorem dX8_isAtBay_12 : decode cX8_isAtBay 12 = .ok (.iconst 3, 1) := by decide +kernel
theorem dX8_isAtBay_13 : decode cX8_isAtBay 13 = .ok (.iadd, 1) := by decide +kernel
theorem dX8_isAtBay_14 : decode cX8_isAtBay 14 = .ok (.if_icmp .ne 7, 3) := by decide +kernel
theorem dX8_isAtBay_17 : decode cX8_isAtBay 17 = .ok (.iconst 1, 1) := by decide +kernel
theorem dX8_isAtBay_18 : decode cX8_isAtBay 18 = .ok (.goto 17, 3) := by decide +kernel
theorem dX8_isAtBay_21 : decode cX8_isAtBay 21 = .ok (.iconst 0, 1) := by decide +kernel
theorem dX8_isAtBay_22 : decode cX8_isAtBay 22 = .ok (.goto 13, 3) := by decide +kernel
theorem dX8_isAtBay_25 : decode cX8_isAtBay 25 = .ok (.iload_n 1, 1) := by decide +kernel
theorem dX8_isAtBay_26 : decode cX8_isAtBay 26 = .ok (.iconst 1, 1) := by decide +kernel
theorem dX8_isAtBay_27 : decode cX8_isAtBay 27 = .ok (.if_icmp .ne 7, 3) := by decide +kernel
theorem dX8_isAtBay_30 : decode cX8_isAtBay 30 = .ok (.iconst 1, 1) := by decide +kernel
theorem dX8_isAtBay_31 : decode cX8_isAtBay 31 = .ok (.goto 4, 3) := by decide +kernel
theorem dX8_isAtBay_34 : decode cX8_isAtBay 34 = .ok (.iconst 0, 1) := by decide +kernel
theorem dX8_isAtBay_35 : decode cX8_isAtBay 35 = .ok (.ireturn, 1) := by decide +kernel
theorem dX8_isAtLevel_0 : decode cX8_isAtLevel 0 = .ok (.aload_n 0, 1) := by decide +kernel
theorem dX8_isAtLevel_1 : decode cX8_isAtLevel 1 = .ok (.getfield 74, 3) := by decide +kernel
theorem dX8_isAtLevel_4 : decode cX8_isAtLevel 4 = .ok (.ifCond .eq 25, 3) := by decide +kernel
theorem dX8_isAtLevel_7 : decode cX8_isAtLevel 7 = .ok (.iload_n 1, 1) := by decide +kernel
theorem dX8_isAtLevel_8 : decode cX8_isAtLevel 8 = .ok (.ifCond .le 17, 3) := by decide +kernel
theorem dX8_isAtLevel_11 : decode cX8_isAtLevel 11 = .ok (.iload_n 1, 1) := by decide +kernel
theorem dX8_isAtLevel_12 : decode cX8_isAtLevel 12 = .ok (.aload_n 0, 1) := by decide +kernel
theorem dX8_isAtLevel_13 : decode cX8_isAtLevel 13 = .ok (.getfield 159, 3) := by decide +kernel
theorem dX8_isAtLevel_16 : decode cX8_isAtLevel 16 = .ok (.iconst 2, 1) := by decide +kernel
theorem dX8_isAtLevel_17 : decode cX8_isAtLevel 17 = .ok (.iadd, 1) := by decide +kernel
theorem dX8_isAtLevel_18 : decode cX8_isAtLevel 18 = .ok (.if_icmp .ge 7, 3) := by decide +kernel
theorem dX8_isAtLevel_21 : decode cX8_isAtLevel 21 = .ok (.iconst 1, 1) := by decide +kernel
theorem dX8_isAtLevel_22 : decode cX8_isAtLevel 22 = .ok (.goto 17, 3) := by decide +kernel
theorem dX8_isAtLevel_25 : decode cX8_isAtLevel 25 = .ok (.iconst 0, 1) := by decide +kernel
theorem dX8_isAtLevel_26 : decode cX8_isAtLevel 26 = .ok (.goto 13, 3) := by decide +kernel
theorem dX8_isAtLevel_29 : decode cX8_isAtLevel 29 = .ok (.iload_n 1, 1) := by decide +kernel
theorem dX8_isAtLevel_30 : decode cX8_isAtLevel 30 = .ok (.iconst 3, 1) := by decide +kernel
theorem dX8_isAtLevel_31 : decode cX8_isAtLevel 31 = .ok (.if_icmp .ne 7, 3) := by decide +kernel
theorem dX8_isAtLevel_34 : decode cX8_isAtLevel 34 = .ok (.iconst 1, 1) := by decide +kernel
theorem dX8_isAtLevel_35 : decode cX8_isAtLevel 35 = .ok (.goto 4, 3) := by decide +kernel
theorem dX8_isAtLevel_38 : decode cX8_isAtLevel 38 = .ok (.iconst 0, 1) := by decide +kernel
theorem dX8_isAtLevel_39 : decode cX8_isAtLevel 39 = .ok (.ireturn, 1) := by decide +kernel
set_option maxRecDepth 20000 in
theorem ggX8_ends_X8_moves : GoodIn wsX8_ends wsX8_moves := goodIn_r _ [15, 16, 17, 24, 25, 26, 27, 28, 29, 30, 31, 32, 33, 34, 35, 36, 37, 38, 39, 40, 41, 42, 43, 44, 45, 46, 47, 48, 49, 50, 51, 52, 53, 54, 55] (by decide +kernel) (by decide +kernel)
set_option maxRecDepth 20000 in
theorem gX8_ends_X8_moves : GoodIn wsX8_ends (wsV RX8 118 RX8 yX8_moves wsX8_moves) := goodIn_app (goodIn_of _ (by decide +kernel)) ggX8_ends_X8_moves
set_option maxRecDepth 20000 in
theorem ggX8_ends_X8_level : GoodIn wsX8_ends wsX8_level := goodIn_r _ [20] (by decide +kernel) (by decide +kernel)
set_option maxRecDepth 20000 in
theorem gX8_ends_X8_level : GoodIn wsX8_ends (va_wsS RX8 80 yX8_level wsX8_level) := goodIn_app (goodIn_of _ (by decide +kernel)) ggX8_ends_X8_level
set_option maxRecDepth 20000 in
theorem ggX8_ends_X8_depth : GoodIn wsX8_ends wsX8_depth := goodIn_r _ [23] (by decide +kernel) (by decide +kernel)
set_option maxRecDepth 20000 in
theorem gX8_ends_X8_depth : GoodIn wsX8_ends (va_wsS RX8 67 yX8_depth wsX8_depth) := goodIn_app (goodIn_of _ (by decide +kernel)) ggX8_ends_X8_depth
theorem dX8_ends_0 : decode cX8_ends 0 = .ok (.aload_n 0, 1) := by decide +kernel
theorem dX8_ends_1 : decode cX8_ends 1 = .ok (.getfield 77, 3) := by decide +kernel
theorem dX8_ends_4 : decode cX8_ends 4 = .ok (.istore_n 2, 1) := by decide +kernel
theorem dX8_ends_5 : decode cX8_ends 5 = .ok (.aload_n 0, 1) := by decide +kernel
theorem dX8_ends_6 : decode cX8_ends 6 = .ok (.getfield 16, 3) := by decide +kernel
theorem dX8_ends_9 : decode cX8_ends 9 = .ok (.iload_n 2, 1) := by decide +kernel
theorem dX8_ends_10 : decode cX8_ends 10 = .ok (.iaload, 1) := by decide +kernel
theorem dX8_ends_11 : decode cX8_ends 11 = .ok (.istore_n 3, 1) := by decide +kernel
theorem dX8_ends_12 : decode cX8_ends 12 = .ok (.aload_n 0, 1) := by decide +kernel
theorem dX8_ends_13 : decode cX8_ends 13 = .ok (.getfield 74, 3) := by decide +kernel
theorem dX8_ends_16 : decode cX8_ends 16 = .ok (.ifCond .ne 95, 3) := by decide +kernel
theorem dX8_ends_19 : decode cX8_ends 19 = .ok (.iload_n 1, 1) := by decide +kernel
theorem dX8_ends_20 : decode cX8_ends 20 = .ok (.ifCond .ne 8, 3) := by decide +kernel
theorem dX8_ends_23 : decode cX8_ends 23 = .ok (.aload_n 0, 1) := by decide +kernel
theorem dX8_ends_24 : decode cX8_ends 24 = .ok (.iconst 0, 1) := by decide +kernel
theorem dX8_ends_25 : decode cX8_ends 25 = .ok (.putfield 161, 3) := by decide +kernel
theorem dX8_ends_28 : decode cX8_ends 28 = .ok (.iload_n 1, 1) := by decide +kernel
theorem dX8_ends_29 : decode cX8_ends 29 = .ok (.iconst 1, 1) := by decide +kernel
theorem dX8_ends_30 : decode cX8_ends 30 = .ok (.if_icmp .ne 29, 3) := by decide +kernel
theorem dX8_ends_33 : decode cX8_ends 33 = .ok (.aload_n 0, 1) := by decide +kernel
theorem dX8_ends_34 : decode cX8_ends 34 = .ok (.getfield 13, 3) := by decide +kernel
theorem dX8_ends_37 : decode cX8_ends 37 = .ok (.iload_n 2, 1) := by decide +kernel
theorem dX8_ends_38 : decode cX8_ends 38 = .ok (.iconst 2, 1) := by decide +kernel
theorem dX8_ends_39 : decode cX8_ends 39 = .ok (.iastore, 1) := by decide +kernel
theorem dX8_ends_40 : decode cX8_ends 40 = .ok (.aload_n 0, 1) := by decide +kernel
theorem dX8_ends_41 : decode cX8_ends 41 = .ok (.getfield 32, 3) := by decide +kernel
theorem dX8_ends_44 : decode cX8_ends 44 = .ok (.aload_n 0, 1) := by decide +kernel
theorem dX8_ends_45 : decode cX8_ends 45 = .ok (.getfield 122, 3) := by decide +kernel
theorem dX8_ends_48 : decode cX8_ends 48 = .ok (.iconst (-1), 1) := by decide +kernel
theorem dX8_ends_49 : decode cX8_ends 49 = .ok (.iastore, 1) := by decide +kernel
theorem dX8_ends_50 : decode cX8_ends 50 = .ok (.aload_n 0, 1) := by decide +kernel
theorem dX8_ends_51 : decode cX8_ends 51 = .ok (.aload_n 0, 1) := by decide +kernel
theorem dX8_ends_52 : decode cX8_ends 52 = .ok (.getfield 122, 3) := by decide +kernel
theorem dX8_ends_55 : decode cX8_ends 55 = .ok (.iconst 1, 1) := by decide +kernel
theorem dX8_ends_56 : decode cX8_ends 56 = .ok (.invokevirtual 118, 3) := by decide +kernel
theorem dX8_ends_59 : decode cX8_ends 59 = .ok (.iload_n 1, 1) := by decide +kernel
theorem dX8_ends_60 : decode cX8_ends 60 = .ok (.iconst 2, 1) := by decide +kernel
theorem dX8_ends_61 : decode cX8_ends 61 = .ok (.if_icmp .ne 11, 3) := by decide +kernel
theorem dX8_ends_64 : decode cX8_ends 64 = .ok (.aload_n 0, 1) := by decide +kernel
theorem dX8_ends_65 : decode cX8_ends 65 = .ok (.iload_n 3, 1) := by decide +kernel
theorem dX8_ends_66 : decode cX8_ends 66 = .ok (.invokestatic 80, 3) := by decide +kernel
theorem dX8_ends_69 : decode cX8_ends 69 = .ok (.putfield 161, 3) := by decide +kernel
theorem dX8_ends_72 : decode cX8_ends 72 = .ok (.iload_n 1, 1) := by decide +kernel
theorem dX8_ends_73 : decode cX8_ends 73 = .ok (.iconst 3, 1) := by decide +kernel
theorem dX8_ends_74 : decode cX8_ends 74 = .ok (.if_icmp .ne 36, 3) := by decide +kernel
theorem dX8_ends_77 : decode cX8_ends 77 = .ok (.aload_n 0, 1) := by decide +kernel
theorem dX8_ends_78 : decode cX8_ends 78 = .ok (.getfield 13, 3) := by decide +kernel
theorem dX8_ends_81 : decode cX8_ends 81 = .ok (.iload_n 2, 1) := by decide +kernel
theorem dX8_ends_82 : decode cX8_ends 82 = .ok (.iconst 3, 1) := by decide +kernel
theorem dX8_ends_83 : decode cX8_ends 83 = .ok (.iastore, 1) := by decide +kernel
theorem dX8_ends_84 : decode cX8_ends 84 = .ok (.aload_n 0, 1) := by decide +kernel
theorem dX8_ends_85 : decode cX8_ends 85 = .ok (.getfield 19, 3) := by decide +kernel
theorem dX8_ends_88 : decode cX8_ends 88 = .ok (.iload_n 3, 1) := by decide +kernel
theorem dX8_ends_89 : decode cX8_ends 89 = .ok (.iload_n 2, 1) := by decide +kernel
theorem dX8_ends_90 : decode cX8_ends 90 = .ok (.iconst 1, 1) := by decide +kernel
theorem dX8_ends_91 : decode cX8_ends 91 = .ok (.iadd, 1) := by decide +kernel
theorem dX8_ends_92 : decode cX8_ends 92 = .ok (.iastore, 1) := by decide +kernel
theorem dX8_ends_93 : decode cX8_ends 93 = .ok (.iload_n 3, 1) := by decide +kernel
theorem dX8_ends_94 : decode cX8_ends 94 = .ok (.invokestatic 67, 3) := by decide +kernel
theorem dX8_ends_97 : decode cX8_ends 97 = .ok (.iconst 1, 1) := by decide +kernel
theorem dX8_ends_98 : decode cX8_ends 98 = .ok (.if_icmp .ne 12, 3) := by decide +kernel
theorem dX8_ends_101 : decode cX8_ends 101 = .ok (.aload_n 0, 1) := by decide +kernel
theorem dX8_ends_102 : decode cX8_ends 102 = .ok (.getfield 19, 3) := by decide +kernel
theorem dX8_ends_105 : decode cX8_ends 105 = .ok (.iload_n 3, 1) := by decide +kernel
theorem dX8_ends_106 : decode cX8_ends 106 = .ok (.iconst 1, 1) := by decide +kernel
theorem dX8_ends_107 : decode cX8_ends 107 = .ok (.isub, 1) := by decide +kernel
theorem dX8_ends_108 : decode cX8_ends 108 = .ok (.iconst 0, 1) := by decide +kernel
theorem dX8_ends_109 : decode cX8_ends 109 = .ok (.iastore, 1) := by decide +kernel
theorem dX8_ends_110 : decode cX8_ends 110 = .ok (.return_, 1) := by decide +kernel
theorem dX8_ends_111 : decode cX8_ends 111 = .ok (.iload_n 1, 1) := by decide +kernel
theorem dX8_ends_112 : decode cX8_ends 112 = .ok (.ifCond .ne 11, 3) := by decide +kernel
theorem dX8_ends_115 : decode cX8_ends 115 = .ok (.aload_n 0, 1) := by decide +kernel
theorem dX8_ends_116 : decode cX8_ends 116 = .ok (.iload_n 3, 1) := by decide +kernel
theorem dX8_ends_117 : decode cX8_ends 117 = .ok (.invokestatic 80, 3) := by decide +kernel
theorem dX8_ends_120 : decode cX8_ends 120 = .ok (.putfield 161, 3) := by decide +kernel
theorem dX8_ends_123 : decode cX8_ends 123 = .ok (.iload_n 1, 1) := by decide +kernel
theorem dX8_ends_124 : decode cX8_ends 124 = .ok (.ifCond .le 75, 3) := by decide +kernel
theorem dX8_ends_127 : decode cX8_ends 127 = .ok (.iload_n 1, 1) := by decide +kernel
theorem dX8_ends_128 : decode cX8_ends 128 = .ok (.aload_n 0, 1) := by decide +kernel
theorem dX8_ends_129 : decode cX8_ends 129 = .ok (.getfield 159, 3) := by decide +kernel
theorem dX8_ends_132 : decode cX8_ends 132 = .ok (.if_icmp .gt 67, 3) := by decide +kernel
theorem dX8_ends_135 : decode cX8_ends 135 = .ok (.aload_n 0, 1) := by decide +kernel
theorem dX8_ends_136 : decode cX8_ends 136 = .ok (.getfield 51, 3) := by decide +kernel
theorem dX8_ends_139 : decode cX8_ends 139 = .ok (.iload_n 1, 1) := by decide +kernel
theorem dX8_ends_140 : decode cX8_ends 140 = .ok (.iconst 1, 1) := by decide +kernel
theorem dX8_ends_141 : decode cX8_ends 141 = .ok (.isub, 1) := by decide +kernel
theorem dX8_ends_142 : decode cX8_ends 142 = .ok (.iaload, 1) := by decide +kernel
theorem dX8_ends_143 : decode cX8_ends 143 = .ok (.bipush 100, 2) := by decide +kernel
theorem dX8_ends_145 : decode cX8_ends 145 = .ok (.idiv, 1) := by decide +kernel
theorem dX8_ends_146 : decode cX8_ends 146 = .ok (.istore 4, 2) := by decide +kernel
theorem dX8_ends_148 : decode cX8_ends 148 = .ok (.aload_n 0, 1) := by decide +kernel
theorem dX8_ends_149 : decode cX8_ends 149 = .ok (.getfield 51, 3) := by decide +kernel
theorem dX8_ends_152 : decode cX8_ends 152 = .ok (.iload_n 1, 1) := by decide +kernel
theorem dX8_ends_153 : decode cX8_ends 153 = .ok (.iconst 1, 1) := by decide +kernel
theorem dX8_ends_154 : decode cX8_ends 154 = .ok (.isub, 1) := by decide +kernel
theorem dX8_ends_155 : decode cX8_ends 155 = .ok (.iaload, 1) := by decide +kernel
theorem dX8_ends_156 : decode cX8_ends 156 = .ok (.bipush 100, 2) := by decide +kernel
theorem dX8_ends_158 : decode cX8_ends 158 = .ok (.irem, 1) := by decide +kernel
theorem dX8_ends_159 : decode cX8_ends 159 = .ok (.istore 5, 2) := by decide +kernel
theorem dX8_ends_161 : decode cX8_ends 161 = .ok (.aload_n 0, 1) := by decide +kernel
theorem dX8_ends_162 : decode cX8_ends 162 = .ok (.getfield 19, 3) := by decide +kernel
theorem dX8_ends_165 : decode cX8_ends 165 = .ok (.iload 5, 2) := by decide +kernel
theorem dX8_ends_167 : decode cX8_ends 167 = .ok (.aload_n 0, 1) := by decide +kernel
theorem dX8_ends_168 : decode cX8_ends 168 = .ok (.getfield 19, 3) := by decide +kernel
theorem dX8_ends_171 : decode cX8_ends 171 = .ok (.iload 4, 2) := by decide +kernel
theorem dX8_ends_173 : decode cX8_ends 173 = .ok (.iaload, 1) := by decide +kernel
theorem dX8_ends_174 : decode cX8_ends 174 = .ok (.iastore, 1) := by decide +kernel
theorem dX8_ends_175 : decode cX8_ends 175 = .ok (.aload_n 0, 1) := by decide +kernel
theorem dX8_ends_176 : decode cX8_ends 176 = .ok (.getfield 19, 3) := by decide +kernel
theorem dX8_ends_179 : decode cX8_ends 179 = .ok (.iload 4, 2) := by decide +kernel
theorem dX8_ends_181 : decode cX8_ends 181 = .ok (.iconst 0, 1) := by decide +kernel
theorem dX8_ends_182 : decode cX8_ends 182 = .ok (.iastore, 1) := by decide +kernel
theorem dX8_ends_183 : decode cX8_ends 183 = .ok (.aload_n 0, 1) := by decide +kernel
theorem dX8_ends_184 : decode cX8_ends 184 = .ok (.getfield 16, 3) := by decide +kernel
theorem dX8_ends_187 : decode cX8_ends 187 = .ok (.aload_n 0, 1) := by decide +kernel
theorem dX8_ends_188 : decode cX8_ends 188 = .ok (.getfield 19, 3) := by decide +kernel
theorem dX8_ends_191 : decode cX8_ends 191 = .ok (.iload 5, 2) := by decide +kernel
theorem dX8_ends_193 : decode cX8_ends 193 = .ok (.iaload, 1) := by decide +kernel
theorem dX8_ends_194 : decode cX8_ends 194 = .ok (.iconst 1, 1) := by decide +kernel
theorem dX8_ends_195 : decode cX8_ends 195 = .ok (.isub, 1) := by decide +kernel
theorem dX8_ends_196 : decode cX8_ends 196 = .ok (.iload 5, 2) := by decide +kernel
theorem dX8_ends_198 : decode cX8_ends 198 = .ok (.iastore, 1) := by decide +kernel
theorem dX8_ends_199 : decode cX8_ends 199 = .ok (.iload_n 1, 1) := by decide +kernel
theorem dX8_ends_200 : decode cX8_ends 200 = .ok (.aload_n 0, 1) := by decide +kernel
theorem dX8_ends_201 : decode cX8_ends 201 = .ok (.getfield 159, 3) := by decide +kernel
theorem dX8_ends_204 : decode cX8_ends 204 = .ok (.iconst 1, 1) := by decide +kernel
theorem dX8_ends_205 : decode cX8_ends 205 = .ok (.iadd, 1) := by decide +kernel
theorem dX8_ends_206 : decode cX8_ends 206 = .ok (.if_icmp .ne 17, 3) := by decide +kernel
theorem dX8_ends_209 : decode cX8_ends 209 = .ok (.aload_n 0, 1) := by decide +kernel
theorem dX8_ends_210 : decode cX8_ends 210 = .ok (.getfield 13, 3) := by decide +kernel
theorem dX8_ends_213 : decode cX8_ends 213 = .ok (.iload_n 2, 1) := by decide +kernel
theorem dX8_ends_214 : decode cX8_ends 214 = .ok (.iconst 2, 1) := by decide +kernel
theorem dX8_ends_215 : decode cX8_ends 215 = .ok (.iastore, 1) := by decide +kernel
theorem dX8_ends_216 : decode cX8_ends 216 = .ok (.aload_n 0, 1) := by decide +kernel
theorem dX8_ends_217 : decode cX8_ends 217 = .ok (.getfield 19, 3) := by decide +kernel
theorem dX8_ends_220 : decode cX8_ends 220 = .ok (.iload_n 3, 1) := by decide +kernel
theorem dX8_ends_221 : decode cX8_ends 221 = .ok (.iconst 0, 1) := by decide +kernel
theorem dX8_ends_222 : decode cX8_ends 222 = .ok (.iastore, 1) := by decide +kernel
theorem dX8_ends_223 : decode cX8_ends 223 = .ok (.iload_n 1, 1) := by decide +kernel
theorem dX8_ends_224 : decode cX8_ends 224 = .ok (.aload_n 0, 1) := by decide +kernel
theorem dX8_ends_225 : decode cX8_ends 225 = .ok (.getfield 159, 3) := by decide +kernel
theorem dX8_ends_228 : decode cX8_ends 228 = .ok (.iconst 2, 1) := by decide +kernel
theorem dX8_ends_229 : decode cX8_ends 229 = .ok (.iadd, 1) := by decide +kernel
theorem dX8_ends_230 : decode cX8_ends 230 = .ok (.if_icmp .ne 8, 3) := by decide +kernel
theorem dX8_ends_233 : decode cX8_ends 233 = .ok (.aload_n 0, 1) := by decide +kernel
theorem dX8_ends_234 : decode cX8_ends 234 = .ok (.iconst 0, 1) := by decide +kernel
theorem dX8_ends_235 : decode cX8_ends 235 = .ok (.putfield 161, 3) := by decide +kernel
theorem dX8_ends_238 : decode cX8_ends 238 = .ok (.iload_n 1, 1) := by decide +kernel
theorem dX8_ends_239 : decode cX8_ends 239 = .ok (.aload_n 0, 1) := by decide +kernel
theorem dX8_ends_240 : decode cX8_ends 240 = .ok (.getfield 159, 3) := by decide +kernel
theorem dX8_ends_243 : decode cX8_ends 243 = .ok (.iconst 3, 1) := by decide +kernel
theorem dX8_ends_244 : decode cX8_ends 244 = .ok (.iadd, 1) := by decide +kernel
theorem dX8_ends_245 : decode cX8_ends 245 = .ok (.if_icmp .ne 29, 3) := by decide +kernel
theorem dX8_ends_248 : decode cX8_ends 248 = .ok (.aload_n 0, 1) := by decide +kernel
theorem dX8_ends_249 : decode cX8_ends 249 = .ok (.getfield 13, 3) := by decide +kernel
theorem dX8_ends_252 : decode cX8_ends 252 = .ok (.iload_n 2, 1) := by decide +kernel
theorem dX8_ends_253 : decode cX8_ends 253 = .ok (.iconst 4, 1) := by decide +kernel
theorem dX8_ends_254 : decode cX8_ends 254 = .ok (.iastore, 1) := by decide +kernel
theorem dX8_ends_255 : decode cX8_ends 255 = .ok (.aload_n 0, 1) := by decide +kernel
theorem dX8_ends_256 : decode cX8_ends 256 = .ok (.getfield 32, 3) := by decide +kernel
theorem dX8_ends_259 : decode cX8_ends 259 = .ok (.aload_n 0, 1) := by decide +kernel
theorem dX8_ends_260 : decode cX8_ends 260 = .ok (.getfield 122, 3) := by decide +kernel
theorem dX8_ends_263 : decode cX8_ends 263 = .ok (.iload_n 2, 1) := by decide +kernel
theorem dX8_ends_264 : decode cX8_ends 264 = .ok (.iastore, 1) := by decide +kernel
theorem dX8_ends_265 : decode cX8_ends 265 = .ok (.aload_n 0, 1) := by decide +kernel
theorem dX8_ends_266 : decode cX8_ends 266 = .ok (.aload_n 0, 1) := by decide +kernel
theorem dX8_ends_267 : decode cX8_ends 267 = .ok (.getfield 122, 3) := by decide +kernel
theorem dX8_ends_270 : decode cX8_ends 270 = .ok (.iconst 1, 1) := by decide +kernel
theorem dX8_ends_271 : decode cX8_ends 271 = .ok (.invokevirtual 118, 3) := by decide +kernel
theorem dX8_ends_274 : decode cX8_ends 274 = .ok (.return_, 1) := by decide +kernel
set_option maxRecDepth 20000 in
theorem ggX8_passes_X8_steps : GoodIn wsX8_passes wsX8_steps := goodIn_r _ [7, 8, 9, 44, 45, 46, 47, 48, 49, 50, 51, 52, 53, 54, 55, 56, 57, 58, 59, 60, 61, 62, 63, 64, 65, 66, 67, 68, 69, 70, 71, 72, 73, 74, 75] (by decide +kernel) (by decide +kernel)
set_option maxRecDepth 20000 in
theorem gX8_passes_X8_steps : GoodIn wsX8_passes (wsV RX8 174 RX8 yX8_steps wsX8_steps) := goodIn_app (goodIn_of _ (by decide +kernel)) ggX8_passes_X8_steps
set_option maxRecDepth 20000 in
theorem ggX8_passes_X8_ticksOf : GoodIn wsX8_passes wsX8_ticksOf := goodIn_r _ [13, 14, 15, 8, 16, 9, 17, 18, 19, 6, 20, 21, 22, 23, 24, 25, 26, 27, 28, 29, 44, 45, 46, 47, 48, 49, 50, 51, 52, 53, 54, 55, 56, 57, 58, 59, 60, 61, 62, 63, 64, 65, 66, 67, 68, 69, 70, 71, 72, 73, 74, 75] (by decide +kernel) (by decide +kernel)
set_option maxRecDepth 20000 in
theorem gX8_passes_X8_ticksOf : GoodIn wsX8_passes (wsV RX8 177 RX8 yX8_ticksOf wsX8_ticksOf) := goodIn_app (goodIn_of _ (by decide +kernel)) ggX8_passes_X8_ticksOf
set_option maxRecDepth 20000 in
theorem ggX8_passes_X8_ends : GoodIn wsX8_passes wsX8_ends := goodIn_r _ [33, 15, 14, 8, 16, 34, 35, 36, 37, 9, 17, 38, 39, 40, 6, 41, 42, 43, 21, 22, 23, 27, 28, 29, 44, 45, 46, 47, 48, 49, 50, 51, 52, 53, 54, 55, 56, 57, 58, 59, 60, 61, 62, 63, 64, 65, 66, 67, 68, 69, 70, 71, 72, 73, 74, 75] (by decide +kernel) (by decide +kernel)
set_option maxRecDepth 20000 in
theorem gX8_passes_X8_ends : GoodIn wsX8_passes (wsV RX8 180 RX8 yX8_ends wsX8_ends) := goodIn_app (goodIn_of _ (by decide +kernel)) ggX8_passes_X8_ends
theorem dX8_passes_0 : decode cX8_passes 0 = .ok (.aload_n 0, 1) := by decide +kernel
theorem dX8_passes_1 : decode cX8_passes 1 = .ok (.getfield 171, 3) := by decide +kernel
theorem dX8_passes_4 : decode cX8_passes 4 = .ok (.aload_n 0, 1) := by decide +kernel
theorem dX8_passes_5 : decode cX8_passes 5 = .ok (.invokevirtual 174, 3) := by decide +kernel
theorem dX8_passes_8 : decode cX8_passes 8 = .ok (.if_icmp .ge 35, 3) := by decide +kernel
theorem dX8_passes_11 : decode cX8_passes 11 = .ok (.aload_n 0, 1) := by decide +kernel
theorem dX8_passes_12 : decode cX8_passes 12 = .ok (.aload_n 0, 1) := by decide +kernel
theorem dX8_passes_13 : decode cX8_passes 13 = .ok (.getfield 171, 3) := by decide +kernel
theorem dX8_passes_16 : decode cX8_passes 16 = .ok (.invokevirtual 177, 3) := by decide +kernel
theorem dX8_passes_19 : decode cX8_passes 19 = .ok (.ifCond .ne 24, 3) := by decide +kernel
theorem dX8_passes_22 : decode cX8_passes 22 = .ok (.aload_n 0, 1) := by decide +kernel
theorem dX8_passes_23 : decode cX8_passes 23 = .ok (.aload_n 0, 1) := by decide +kernel
theorem dX8_passes_24 : decode cX8_passes 24 = .ok (.getfield 171, 3) := by decide +kernel
theorem dX8_passes_27 : decode cX8_passes 27 = .ok (.invokevirtual 180, 3) := by decide +kernel
theorem dX8_passes_30 : decode cX8_passes 30 = .ok (.aload_n 0, 1) := by decide +kernel
theorem dX8_passes_31 : decode cX8_passes 31 = .ok (.dup, 1) := by decide +kernel
theorem dX8_passes_32 : decode cX8_passes 32 = .ok (.getfield 171, 3) := by decide +kernel
theorem dX8_passes_35 : decode cX8_passes 35 = .ok (.iconst 1, 1) := by decide +kernel
theorem dX8_passes_36 : decode cX8_passes 36 = .ok (.iadd, 1) := by decide +kernel
theorem dX8_passes_37 : decode cX8_passes 37 = .ok (.putfield 171, 3) := by decide +kernel
theorem dX8_passes_40 : decode cX8_passes 40 = .ok (.goto (-40), 3) := by decide +kernel
theorem dX8_passes_43 : decode cX8_passes 43 = .ok (.aload_n 0, 1) := by decide +kernel
theorem dX8_passes_44 : decode cX8_passes 44 = .ok (.aload_n 0, 1) := by decide +kernel
theorem dX8_passes_45 : decode cX8_passes 45 = .ok (.getfield 171, 3) := by decide +kernel
theorem dX8_passes_48 : decode cX8_passes 48 = .ok (.aload_n 0, 1) := by decide +kernel
theorem dX8_passes_49 : decode cX8_passes 49 = .ok (.invokevirtual 174, 3) := by decide +kernel
theorem dX8_passes_52 : decode cX8_passes 52 = .ok (.if_icmp .ge 14, 3) := by decide +kernel
theorem dX8_passes_55 : decode cX8_passes 55 = .ok (.aload_n 0, 1) := by decide +kernel
theorem dX8_passes_56 : decode cX8_passes 56 = .ok (.aload_n 0, 1) := by decide +kernel
theorem dX8_passes_57 : decode cX8_passes 57 = .ok (.getfield 171, 3) := by decide +kernel
theorem dX8_passes_60 : decode cX8_passes 60 = .ok (.invokevirtual 177, 3) := by decide +kernel
theorem dX8_passes_63 : decode cX8_passes 63 = .ok (.goto 4, 3) := by decide +kernel
theorem dX8_passes_66 : decode cX8_passes 66 = .ok (.iconst 0, 1) := by decide +kernel
theorem dX8_passes_67 : decode cX8_passes 67 = .ok (.putfield 183, 3) := by decide +kernel
theorem dX8_passes_70 : decode cX8_passes 70 = .ok (.aload_n 0, 1) := by decide +kernel
theorem dX8_passes_71 : decode cX8_passes 71 = .ok (.getfield 171, 3) := by decide +kernel
theorem dX8_passes_74 : decode cX8_passes 74 = .ok (.aload_n 0, 1) := by decide +kernel
theorem dX8_passes_75 : decode cX8_passes 75 = .ok (.invokevirtual 174, 3) := by decide +kernel
theorem dX8_passes_78 : decode cX8_passes 78 = .ok (.if_icmp .ge 7, 3) := by decide +kernel
theorem dX8_passes_81 : decode cX8_passes 81 = .ok (.iconst 1, 1) := by decide +kernel
theorem dX8_passes_82 : decode cX8_passes 82 = .ok (.goto 4, 3) := by decide +kernel
theorem dX8_passes_85 : decode cX8_passes 85 = .ok (.iconst 0, 1) := by decide +kernel
theorem dX8_passes_86 : decode cX8_passes 86 = .ok (.ireturn, 1) := by decide +kernel
set_option maxRecDepth 20000 in
theorem ggX8_order_X8_begins : GoodIn wsX8_order wsX8_begins := goodIn_r _ [22, 7, 5, 15, 16, 3, 23, 13, 14, 24, 25, 21, 26, 27, 28, 29, 30, 31, 32, 33, 34, 35, 36, 37, 38, 39, 40, 41, 42, 43, 44, 45, 46, 47, 48, 12, 49, 50, 51, 52, 53, 54, 55, 56, 94, 95, 96, 97, 98, 99, 100, 101, 102, 103, 104, 105, 106, 107, 108, 109, 110, 111, 112, 113, 114, 115, 116, 117, 118, 119, 120, 121, 122, 123, 124, 125] (by decide +kernel) (by decide +kernel)
set_option maxRecDepth 20000 in
theorem gX8_order_X8_begins : GoodIn wsX8_order (wsV RX8 186 RX8 yX8_begins wsX8_begins) := goodIn_app (goodIn_of _ (by decide +kernel)) ggX8_order_X8_begins
set_option maxRecDepth 20000 in
theorem ggX8_order_X8_planOf : GoodIn wsX8_order wsX8_planOf := goodIn_r _ [30, 16, 31, 32, 33, 21, 34, 35, 36, 37, 38, 39, 40, 41, 42, 43, 44, 45, 46, 47, 48, 12, 49, 50, 51, 52, 24, 25, 26, 53, 54, 55, 56, 94, 95, 96, 97, 98, 99, 100, 101, 102, 103, 104, 105, 106, 107, 108, 109, 110, 111, 112, 113, 114, 115, 116, 117, 118, 119, 120, 121, 122, 123, 124, 125] (by decide +kernel) (by decide +kernel)
set_option maxRecDepth 20000 in
theorem gX8_order_X8_planOf : GoodIn wsX8_order (wsV RX8 156 RX8 yX8_planOf wsX8_planOf) := goodIn_app (goodIn_of _ (by decide +kernel)) ggX8_order_X8_planOf
set_option maxRecDepth 20000 in
theorem ggX8_order_X8_passes : GoodIn wsX8_order wsX8_passes := goodIn_r _ [60, 9, 17, 61, 62, 63, 21, 64, 8, 10, 65, 66, 67, 68, 16, 4, 69, 11, 70, 71, 72, 24, 25, 26, 73, 74, 75, 42, 43, 44, 76, 77, 78, 79, 80, 23, 6, 41, 81, 82, 83, 84, 13, 85, 94, 95, 96, 97, 98, 99, 100, 101, 102, 103, 104, 105, 106, 107, 108, 109, 110, 111, 112, 113, 114, 115, 116, 117, 118, 119, 120, 121, 122, 123, 124, 125] (by decide +kernel) (by decide +kernel)
set_option maxRecDepth 20000 in
theorem gX8_order_X8_passes : GoodIn wsX8_order (wsV RX8 189 RX8 yX8_passes wsX8_passes) := goodIn_app (goodIn_of _ (by decide +kernel)) ggX8_order_X8_passes
set_option maxRecDepth 20000 in
theorem ggX8_order_X8_isAtBay : GoodIn wsX8_order wsX8_isAtBay := goodIn_r _ [89, 8, 10, 94, 95, 96, 97, 98, 99, 100, 101, 102, 103, 104, 105, 106, 107, 108, 109, 110, 111, 112, 113, 114, 115, 116, 117, 118, 119, 120, 121, 122, 123, 124, 125] (by decide +kernel) (by decide +kernel)
set_option maxRecDepth 20000 in
theorem gX8_order_X8_isAtBay : GoodIn wsX8_order (wsV RX8 193 RX8 yX8_isAtBay wsX8_isAtBay) := goodIn_app (goodIn_of _ (by decide +kernel)) ggX8_order_X8_isAtBay
set_option maxRecDepth 20000 in
theorem ggX8_order_X8_isAtLevel : GoodIn wsX8_order wsX8_isAtLevel := goodIn_r _ [93, 8, 10, 94, 95, 96, 97, 98, 99, 100, 101, 102, 103, 104, 105, 106, 107, 108, 109, 110, 111, 112, 113, 114, 115, 116, 117, 118, 119, 120, 121, 122, 123, 124, 125] (by decide +kernel) (by decide +kernel)
set_option maxRecDepth 20000 in
theorem gX8_order_X8_isAtLevel : GoodIn wsX8_order (wsV RX8 196 RX8 yX8_isAtLevel wsX8_isAtLevel) := goodIn_app (goodIn_of _ (by decide +kernel)) ggX8_order_X8_isAtLevel
set_option maxRecDepth 20000 in
theorem ggX8_order_X8_level : GoodIn wsX8_order wsX8_level := goodIn_r _ [26] (by decide +kernel) (by decide +kernel)
set_option maxRecDepth 20000 in
theorem gX8_order_X8_level : GoodIn wsX8_order (va_wsS RX8 80 yX8_level wsX8_level) := goodIn_app (goodIn_of _ (by decide +kernel)) ggX8_order_X8_level
set_option maxRecDepth 20000 in
theorem ggX8_order_X8_ends : GoodIn wsX8_order wsX8_ends := goodIn_r _ [79, 4, 16, 8, 69, 80, 23, 6, 41, 10, 11, 81, 82, 83, 21, 84, 13, 85, 24, 25, 26, 42, 43, 44, 94, 95, 96, 97, 98, 99, 100, 101, 102, 103, 104, 105, 106, 107, 108, 109, 110, 111, 112, 113, 114, 115, 116, 117, 118, 119, 120, 121, 122, 123, 124, 125] (by decide +kernel) (by decide +kernel)
set_option maxRecDepth 20000 in
theorem gX8_order_X8_ends : GoodIn wsX8_order (wsV RX8 180 RX8 yX8_ends wsX8_ends) := goodIn_app (goodIn_of _ (by decide +kernel)) ggX8_order_X8_ends
theorem dX8_order_0 : decode cX8_order 0 = .ok (.aload_n 0, 1) := by decide +kernel
theorem dX8_order_1 : decode cX8_order 1 = .ok (.getfield 71, 3) := by decide +kernel
theorem dX8_order_4 : decode cX8_order 4 = .ok (.ifCond .ne 200, 3) := by decide +kernel
theorem dX8_order_7 : decode cX8_order 7 = .ok (.iconst 0, 1) := by decide +kernel
theorem dX8_order_8 : decode cX8_order 8 = .ok (.istore_n 1, 1) := by decide +kernel
theorem dX8_order_9 : decode cX8_order 9 = .ok (.iload_n 1, 1) := by decide +kernel
theorem dX8_order_10 : decode cX8_order 10 = .ok (.aload_n 0, 1) := by decide +kernel
theorem dX8_order_11 : decode cX8_order 11 = .ok (.getfield 93, 3) := by decide +kernel
theorem dX8_order_14 : decode cX8_order 14 = .ok (.if_icmp .ge 17, 3) := by decide +kernel
theorem dX8_order_17 : decode cX8_order 17 = .ok (.aload_n 0, 1) := by decide +kernel
theorem dX8_order_18 : decode cX8_order 18 = .ok (.iload_n 1, 1) := by decide +kernel
theorem dX8_order_19 : decode cX8_order 19 = .ok (.invokevirtual 186, 3) := by decide +kernel
theorem dX8_order_22 : decode cX8_order 22 = .ok (.ifCond .ne 9, 3) := by decide +kernel
theorem dX8_order_25 : decode cX8_order 25 = .ok (.iinc 1 1, 3) := by decide +kernel
theorem dX8_order_28 : decode cX8_order 28 = .ok (.goto (-19), 3) := by decide +kernel
theorem dX8_order_31 : decode cX8_order 31 = .ok (.iload_n 1, 1) := by decide +kernel
theorem dX8_order_32 : decode cX8_order 32 = .ok (.aload_n 0, 1) := by decide +kernel
theorem dX8_order_33 : decode cX8_order 33 = .ok (.getfield 93, 3) := by decide +kernel
theorem dX8_order_36 : decode cX8_order 36 = .ok (.if_icmp .ne 4, 3) := by decide +kernel
theorem dX8_order_39 : decode cX8_order 39 = .ok (.return_, 1) := by decide +kernel
theorem dX8_order_40 : decode cX8_order 40 = .ok (.aload_n 0, 1) := by decide +kernel
theorem dX8_order_41 : decode cX8_order 41 = .ok (.aload_n 0, 1) := by decide +kernel
theorem dX8_order_42 : decode cX8_order 42 = .ok (.getfield 42, 3) := by decide +kernel
theorem dX8_order_45 : decode cX8_order 45 = .ok (.iload_n 1, 1) := by decide +kernel
theorem dX8_order_46 : decode cX8_order 46 = .ok (.iaload, 1) := by decide +kernel
theorem dX8_order_47 : decode cX8_order 47 = .ok (.putfield 77, 3) := by decide +kernel
theorem dX8_order_50 : decode cX8_order 50 = .ok (.aload_n 0, 1) := by decide +kernel
theorem dX8_order_51 : decode cX8_order 51 = .ok (.aload_n 0, 1) := by decide +kernel
theorem dX8_order_52 : decode cX8_order 52 = .ok (.getfield 45, 3) := by decide +kernel
theorem dX8_order_55 : decode cX8_order 55 = .ok (.iload_n 1, 1) := by decide +kernel
theorem dX8_order_56 : decode cX8_order 56 = .ok (.iaload, 1) := by decide +kernel
theorem dX8_order_57 : decode cX8_order 57 = .ok (.putfield 122, 3) := by decide +kernel
theorem dX8_order_60 : decode cX8_order 60 = .ok (.aload_n 0, 1) := by decide +kernel
theorem dX8_order_61 : decode cX8_order 61 = .ok (.aload_n 0, 1) := by decide +kernel
theorem dX8_order_62 : decode cX8_order 62 = .ok (.getfield 48, 3) := by decide +kernel
theorem dX8_order_65 : decode cX8_order 65 = .ok (.iload_n 1, 1) := by decide +kernel
theorem dX8_order_66 : decode cX8_order 66 = .ok (.baload, 1) := by decide +kernel
theorem dX8_order_67 : decode cX8_order 67 = .ok (.putfield 74, 3) := by decide +kernel
theorem dX8_order_70 : decode cX8_order 70 = .ok (.aload_n 0, 1) := by decide +kernel
theorem dX8_order_71 : decode cX8_order 71 = .ok (.dup, 1) := by decide +kernel
theorem dX8_order_72 : decode cX8_order 72 = .ok (.getfield 93, 3) := by decide +kernel
theorem dX8_order_75 : decode cX8_order 75 = .ok (.iconst 1, 1) := by decide +kernel
theorem dX8_order_76 : decode cX8_order 76 = .ok (.isub, 1) := by decide +kernel
theorem dX8_order_77 : decode cX8_order 77 = .ok (.putfield 93, 3) := by decide +kernel
theorem dX8_order_80 : decode cX8_order 80 = .ok (.iload_n 1, 1) := by decide +kernel
theorem dX8_order_81 : decode cX8_order 81 = .ok (.istore_n 2, 1) := by decide +kernel
theorem dX8_order_82 : decode cX8_order 82 = .ok (.iload_n 2, 1) := by decide +kernel
theorem dX8_order_83 : decode cX8_order 83 = .ok (.aload_n 0, 1) := by decide +kernel
theorem dX8_order_84 : decode cX8_order 84 = .ok (.getfield 93, 3) := by decide +kernel
theorem dX8_order_87 : decode cX8_order 87 = .ok (.if_icmp .ge 51, 3) := by decide +kernel
theorem dX8_order_90 : decode cX8_order 90 = .ok (.aload_n 0, 1) := by decide +kernel
theorem dX8_order_91 : decode cX8_order 91 = .ok (.getfield 42, 3) := by decide +kernel
theorem dX8_order_94 : decode cX8_order 94 = .ok (.iload_n 2, 1) := by decide +kernel
theorem dX8_order_95 : decode cX8_order 95 = .ok (.aload_n 0, 1) := by decide +kernel
theorem dX8_order_96 : decode cX8_order 96 = .ok (.getfield 42, 3) := by decide +kernel
theorem dX8_order_99 : decode cX8_order 99 = .ok (.iload_n 2, 1) := by decide +kernel
theorem dX8_order_100 : decode cX8_order 100 = .ok (.iconst 1, 1) := by decide +kernel
theorem dX8_order_101 : decode cX8_order 101 = .ok (.iadd, 1) := by decide +kernel
theorem dX8_order_102 : decode cX8_order 102 = .ok (.iaload, 1) := by decide +kernel
theorem dX8_order_103 : decode cX8_order 103 = .ok (.iastore, 1) := by decide +kernel
theorem dX8_order_104 : decode cX8_order 104 = .ok (.aload_n 0, 1) := by decide +kernel
theorem dX8_order_105 : decode cX8_order 105 = .ok (.getfield 45, 3) := by decide +kernel
theorem dX8_order_108 : decode cX8_order 108 = .ok (.iload_n 2, 1) := by decide +kernel
theorem dX8_order_109 : decode cX8_order 109 = .ok (.aload_n 0, 1) := by decide +kernel
theorem dX8_order_110 : decode cX8_order 110 = .ok (.getfield 45, 3) := by decide +kernel
theorem dX8_order_113 : decode cX8_order 113 = .ok (.iload_n 2, 1) := by decide +kernel
theorem dX8_order_114 : decode cX8_order 114 = .ok (.iconst 1, 1) := by decide +kernel
theorem dX8_order_115 : decode cX8_order 115 = .ok (.iadd, 1) := by decide +kernel
theorem dX8_order_116 : decode cX8_order 116 = .ok (.iaload, 1) := by decide +kernel
theorem dX8_order_117 : decode cX8_order 117 = .ok (.iastore, 1) := by decide +kernel
theorem dX8_order_118 : decode cX8_order 118 = .ok (.aload_n 0, 1) := by decide +kernel
theorem dX8_order_119 : decode cX8_order 119 = .ok (.getfield 48, 3) := by decide +kernel
theorem dX8_order_122 : decode cX8_order 122 = .ok (.iload_n 2, 1) := by decide +kernel
theorem dX8_order_123 : decode cX8_order 123 = .ok (.aload_n 0, 1) := by decide +kernel
theorem dX8_order_124 : decode cX8_order 124 = .ok (.getfield 48, 3) := by decide +kernel
theorem dX8_order_127 : decode cX8_order 127 = .ok (.iload_n 2, 1) := by decide +kernel
theorem dX8_order_128 : decode cX8_order 128 = .ok (.iconst 1, 1) := by decide +kernel
theorem dX8_order_129 : decode cX8_order 129 = .ok (.iadd, 1) := by decide +kernel
theorem dX8_order_130 : decode cX8_order 130 = .ok (.baload, 1) := by decide +kernel
theorem dX8_order_131 : decode cX8_order 131 = .ok (.bastore, 1) := by decide +kernel
theorem dX8_order_132 : decode cX8_order 132 = .ok (.iinc 2 1, 3) := by decide +kernel
theorem dX8_order_135 : decode cX8_order 135 = .ok (.goto (-53), 3) := by decide +kernel
theorem dX8_order_138 : decode cX8_order 138 = .ok (.aload_n 0, 1) := by decide +kernel
theorem dX8_order_139 : decode cX8_order 139 = .ok (.iconst 1, 1) := by decide +kernel
theorem dX8_order_140 : decode cX8_order 140 = .ok (.putfield 71, 3) := by decide +kernel
theorem dX8_order_143 : decode cX8_order 143 = .ok (.aload_n 0, 1) := by decide +kernel
theorem dX8_order_144 : decode cX8_order 144 = .ok (.iconst 0, 1) := by decide +kernel
theorem dX8_order_145 : decode cX8_order 145 = .ok (.putfield 171, 3) := by decide +kernel
theorem dX8_order_148 : decode cX8_order 148 = .ok (.aload_n 0, 1) := by decide +kernel
theorem dX8_order_149 : decode cX8_order 149 = .ok (.aload_n 0, 1) := by decide +kernel
theorem dX8_order_150 : decode cX8_order 150 = .ok (.getfield 74, 3) := by decide +kernel
theorem dX8_order_153 : decode cX8_order 153 = .ok (.ifCond .eq 14, 3) := by decide +kernel
theorem dX8_order_156 : decode cX8_order 156 = .ok (.aload_n 0, 1) := by decide +kernel
theorem dX8_order_157 : decode cX8_order 157 = .ok (.aload_n 0, 1) := by decide +kernel
theorem dX8_order_158 : decode cX8_order 158 = .ok (.getfield 77, 3) := by decide +kernel
theorem dX8_order_161 : decode cX8_order 161 = .ok (.invokevirtual 156, 3) := by decide +kernel
theorem dX8_order_164 : decode cX8_order 164 = .ok (.goto 4, 3) := by decide +kernel
theorem dX8_order_167 : decode cX8_order 167 = .ok (.iconst 0, 1) := by decide +kernel
theorem dX8_order_168 : decode cX8_order 168 = .ok (.putfield 159, 3) := by decide +kernel
theorem dX8_order_171 : decode cX8_order 171 = .ok (.iconst 0, 1) := by decide +kernel
theorem dX8_order_172 : decode cX8_order 172 = .ok (.istore_n 2, 1) := by decide +kernel
theorem dX8_order_173 : decode cX8_order 173 = .ok (.iload_n 2, 1) := by decide +kernel
theorem dX8_order_174 : decode cX8_order 174 = .ok (.aload_n 0, 1) := by decide +kernel
theorem dX8_order_175 : decode cX8_order 175 = .ok (.getfield 159, 3) := by decide +kernel
theorem dX8_order_178 : decode cX8_order 178 = .ok (.if_icmp .ge 21, 3) := by decide +kernel
theorem dX8_order_181 : decode cX8_order 181 = .ok (.aload_n 0, 1) := by decide +kernel
theorem dX8_order_182 : decode cX8_order 182 = .ok (.getfield 51, 3) := by decide +kernel
theorem dX8_order_185 : decode cX8_order 185 = .ok (.iload_n 2, 1) := by decide +kernel
theorem dX8_order_186 : decode cX8_order 186 = .ok (.aload_n 0, 1) := by decide +kernel
theorem dX8_order_187 : decode cX8_order 187 = .ok (.getfield 54, 3) := by decide +kernel
theorem dX8_order_190 : decode cX8_order 190 = .ok (.iload_n 2, 1) := by decide +kernel
theorem dX8_order_191 : decode cX8_order 191 = .ok (.iaload, 1) := by decide +kernel
theorem dX8_order_192 : decode cX8_order 192 = .ok (.iastore, 1) := by decide +kernel
theorem dX8_order_193 : decode cX8_order 193 = .ok (.iinc 2 1, 3) := by decide +kernel
theorem dX8_order_196 : decode cX8_order 196 = .ok (.goto (-23), 3) := by decide +kernel
theorem dX8_order_199 : decode cX8_order 199 = .ok (.aload_n 0, 1) := by decide +kernel
theorem dX8_order_200 : decode cX8_order 200 = .ok (.invokevirtual 189, 3) := by decide +kernel
theorem dX8_order_203 : decode cX8_order 203 = .ok (.istore_n 2, 1) := by decide +kernel
theorem dX8_order_204 : decode cX8_order 204 = .ok (.aload_n 0, 1) := by decide +kernel
theorem dX8_order_205 : decode cX8_order 205 = .ok (.aload_n 0, 1) := by decide +kernel
theorem dX8_order_206 : decode cX8_order 206 = .ok (.getfield 171, 3) := by decide +kernel
theorem dX8_order_209 : decode cX8_order 209 = .ok (.invokevirtual 193, 3) := by decide +kernel
theorem dX8_order_212 : decode cX8_order 212 = .ok (.ifCond .eq 27, 3) := by decide +kernel
theorem dX8_order_215 : decode cX8_order 215 = .ok (.aload_n 0, 1) := by decide +kernel
theorem dX8_order_216 : decode cX8_order 216 = .ok (.getfield 22, 3) := by decide +kernel
theorem dX8_order_219 : decode cX8_order 219 = .ok (.aload_n 0, 1) := by decide +kernel
theorem dX8_order_220 : decode cX8_order 220 = .ok (.getfield 122, 3) := by decide +kernel
theorem dX8_order_223 : decode cX8_order 223 = .ok (.iaload, 1) := by decide +kernel
theorem dX8_order_224 : decode cX8_order 224 = .ok (.ifCond .ne 46, 3) := by decide +kernel
theorem dX8_order_227 : decode cX8_order 227 = .ok (.aload_n 0, 1) := by decide +kernel
theorem dX8_order_228 : decode cX8_order 228 = .ok (.getfield 28, 3) := by decide +kernel
theorem dX8_order_231 : decode cX8_order 231 = .ok (.aload_n 0, 1) := by decide +kernel
theorem dX8_order_232 : decode cX8_order 232 = .ok (.getfield 122, 3) := by decide +kernel
theorem dX8_order_235 : decode cX8_order 235 = .ok (.baload, 1) := by decide +kernel
theorem dX8_order_236 : decode cX8_order 236 = .ok (.ifCond .ne 34, 3) := by decide +kernel
theorem dX8_order_239 : decode cX8_order 239 = .ok (.aload_n 0, 1) := by decide +kernel
theorem dX8_order_240 : decode cX8_order 240 = .ok (.aload_n 0, 1) := by decide +kernel
theorem dX8_order_241 : decode cX8_order 241 = .ok (.getfield 171, 3) := by decide +kernel
theorem dX8_order_244 : decode cX8_order 244 = .ok (.invokevirtual 196, 3) := by decide +kernel
theorem dX8_order_247 : decode cX8_order 247 = .ok (.ifCond .eq 27, 3) := by decide +kernel
theorem dX8_order_250 : decode cX8_order 250 = .ok (.aload_n 0, 1) := by decide +kernel
theorem dX8_order_251 : decode cX8_order 251 = .ok (.getfield 35, 3) := by decide +kernel
theorem dX8_order_254 : decode cX8_order 254 = .ok (.aload_n 0, 1) := by decide +kernel
theorem dX8_order_255 : decode cX8_order 255 = .ok (.getfield 16, 3) := by decide +kernel
theorem dX8_order_258 : decode cX8_order 258 = .ok (.aload_n 0, 1) := by decide +kernel
theorem dX8_order_259 : decode cX8_order 259 = .ok (.getfield 77, 3) := by decide +kernel
theorem dX8_order_262 : decode cX8_order 262 = .ok (.iaload, 1) := by decide +kernel
theorem dX8_order_263 : decode cX8_order 263 = .ok (.invokestatic 80, 3) := by decide +kernel
theorem dX8_order_266 : decode cX8_order 266 = .ok (.baload, 1) := by decide +kernel
theorem dX8_order_267 : decode cX8_order 267 = .ok (.ifCond .eq 7, 3) := by decide +kernel
theorem dX8_order_270 : decode cX8_order 270 = .ok (.iconst 1, 1) := by decide +kernel
theorem dX8_order_271 : decode cX8_order 271 = .ok (.goto 4, 3) := by decide +kernel
theorem dX8_order_274 : decode cX8_order 274 = .ok (.iconst 0, 1) := by decide +kernel
theorem dX8_order_275 : decode cX8_order 275 = .ok (.istore_n 1, 1) := by decide +kernel
theorem dX8_order_276 : decode cX8_order 276 = .ok (.iload_n 1, 1) := by decide +kernel
theorem dX8_order_277 : decode cX8_order 277 = .ok (.ifCond .eq 4, 3) := by decide +kernel
theorem dX8_order_280 : decode cX8_order 280 = .ok (.return_, 1) := by decide +kernel
theorem dX8_order_281 : decode cX8_order 281 = .ok (.aload_n 0, 1) := by decide +kernel
theorem dX8_order_282 : decode cX8_order 282 = .ok (.dup, 1) := by decide +kernel
theorem dX8_order_283 : decode cX8_order 283 = .ok (.getfield 183, 3) := by decide +kernel
theorem dX8_order_286 : decode cX8_order 286 = .ok (.iconst 1, 1) := by decide +kernel
theorem dX8_order_287 : decode cX8_order 287 = .ok (.isub, 1) := by decide +kernel
theorem dX8_order_288 : decode cX8_order 288 = .ok (.putfield 183, 3) := by decide +kernel
theorem dX8_order_291 : decode cX8_order 291 = .ok (.aload_n 0, 1) := by decide +kernel
theorem dX8_order_292 : decode cX8_order 292 = .ok (.getfield 183, 3) := by decide +kernel
theorem dX8_order_295 : decode cX8_order 295 = .ok (.ifCond .le 4, 3) := by decide +kernel
theorem dX8_order_298 : decode cX8_order 298 = .ok (.return_, 1) := by decide +kernel
theorem dX8_order_299 : decode cX8_order 299 = .ok (.aload_n 0, 1) := by decide +kernel
theorem dX8_order_300 : decode cX8_order 300 = .ok (.aload_n 0, 1) := by decide +kernel
theorem dX8_order_301 : decode cX8_order 301 = .ok (.getfield 171, 3) := by decide +kernel
theorem dX8_order_304 : decode cX8_order 304 = .ok (.invokevirtual 180, 3) := by decide +kernel
theorem dX8_order_307 : decode cX8_order 307 = .ok (.aload_n 0, 1) := by decide +kernel
theorem dX8_order_308 : decode cX8_order 308 = .ok (.dup, 1) := by decide +kernel
theorem dX8_order_309 : decode cX8_order 309 = .ok (.getfield 171, 3) := by decide +kernel
theorem dX8_order_312 : decode cX8_order 312 = .ok (.iconst 1, 1) := by decide +kernel
theorem dX8_order_313 : decode cX8_order 313 = .ok (.iadd, 1) := by decide +kernel
theorem dX8_order_314 : decode cX8_order 314 = .ok (.putfield 171, 3) := by decide +kernel
theorem dX8_order_317 : decode cX8_order 317 = .ok (.aload_n 0, 1) := by decide +kernel
theorem dX8_order_318 : decode cX8_order 318 = .ok (.invokevirtual 189, 3) := by decide +kernel
theorem dX8_order_321 : decode cX8_order 321 = .ok (.ifCond .ne 8, 3) := by decide +kernel
theorem dX8_order_324 : decode cX8_order 324 = .ok (.aload_n 0, 1) := by decide +kernel
theorem dX8_order_325 : decode cX8_order 325 = .ok (.iconst 0, 1) := by decide +kernel
theorem dX8_order_326 : decode cX8_order 326 = .ok (.putfield 71, 3) := by decide +kernel
theorem dX8_order_329 : decode cX8_order 329 = .ok (.return_, 1) := by decide +kernel
set_option maxRecDepth 20000 in
theorem ggX8_tick_X8_in : GoodIn wsX8_tick wsX8_in := goodIn_r _ [7] (by decide +kernel) (by decide +kernel)
set_option maxRecDepth 20000 in
theorem gX8_tick_X8_in : GoodIn wsX8_tick (va_wsS RX8 96 yX8_in wsX8_in) := goodIn_app (goodIn_of _ (by decide +kernel)) ggX8_tick_X8_in
set_option maxRecDepth 20000 in
theorem ggX8_tick_X8_says : GoodIn wsX8_tick wsX8_says := goodIn_r _ [11, 12, 117, 118, 119, 120, 121, 122, 123, 124, 125, 126, 127, 128, 129, 130, 131, 132, 133, 134, 135, 136, 137, 138, 139, 140, 141, 142, 143, 144, 145, 146, 147, 148] (by decide +kernel) (by decide +kernel)
set_option maxRecDepth 20000 in
theorem gX8_tick_X8_says : GoodIn wsX8_tick (wsV RX8 100 RX8 yX8_says wsX8_says) := goodIn_app (goodIn_of _ (by decide +kernel)) ggX8_tick_X8_says
set_option maxRecDepth 20000 in
theorem ggX8_tick_X8_doors : GoodIn wsX8_tick wsX8_doors := goodIn_r _ [16, 2, 17, 18, 19, 20, 21, 22, 23, 24, 25, 26, 27, 6, 28, 29, 30, 31, 32, 33, 117, 118, 119, 120, 121, 122, 123, 124, 125, 126, 127, 128, 129, 130, 131, 132, 133, 134, 135, 136, 137, 138, 139, 140, 141, 142, 143, 144, 145, 146, 147, 148] (by decide +kernel) (by decide +kernel)
set_option maxRecDepth 20000 in
theorem gX8_tick_X8_doors : GoodIn wsX8_tick (wsV RX8 202 RX8 yX8_doors wsX8_doors) := goodIn_app (goodIn_of _ (by decide +kernel)) ggX8_tick_X8_doors
set_option maxRecDepth 20000 in
theorem ggX8_tick_X8_order : GoodIn wsX8_tick wsX8_order := goodIn_r _ [37, 38, 21, 29, 39, 22, 40, 24, 41, 42, 43, 44, 45, 17, 23, 46, 47, 48, 49, 50, 51, 6, 52, 19, 53, 54, 55, 56, 57, 58, 59, 60, 61, 62, 63, 64, 65, 66, 67, 68, 69, 70, 71, 72, 73, 74, 75, 76, 77, 78, 79, 80, 81, 82, 83, 84, 85, 86, 87, 88, 89, 90, 91, 92, 93, 94, 95, 96, 97, 98, 99, 100, 101, 102, 103, 104, 105, 106, 107, 108, 20, 30, 31, 32, 33, 18, 109, 110, 111, 112, 113, 114, 115, 116, 117, 118, 119, 120, 121, 122, 123, 124, 125, 126, 127, 128, 129, 130, 131, 132, 133, 134, 135, 136, 137, 138, 139, 140, 141, 142, 143, 144, 145, 146, 147, 148] (by decide +kernel) (by decide +kernel)
set_option maxRecDepth 20000 in
theorem gX8_tick_X8_order : GoodIn wsX8_tick (wsV RX8 205 RX8 yX8_order wsX8_order) := goodIn_app (goodIn_of _ (by decide +kernel)) ggX8_tick_X8_order
theorem dX8_tick_0 : decode cX8_tick 0 = .ok (.aload_n 0, 1) := by decide +kernel
theorem dX8_tick_1 : decode cX8_tick 1 = .ok (.iload_n 1, 1) := by decide +kernel
theorem dX8_tick_2 : decode cX8_tick 2 = .ok (.iconst 1, 1) := by decide +kernel
theorem dX8_tick_3 : decode cX8_tick 3 = .ok (.sipush 500, 3) := by decide +kernel
theorem dX8_tick_6 : decode cX8_tick 6 = .ok (.invokestatic 96, 3) := by decide +kernel
theorem dX8_tick_9 : decode cX8_tick 9 = .ok (.invokevirtual 100, 3) := by decide +kernel
theorem dX8_tick_12 : decode cX8_tick 12 = .ok (.ifCond .ne 5, 3) := by decide +kernel
theorem dX8_tick_15 : decode cX8_tick 15 = .ok (.iconst 0, 1) := by decide +kernel
theorem dX8_tick_16 : decode cX8_tick 16 = .ok (.ireturn, 1) := by decide +kernel
theorem dX8_tick_17 : decode cX8_tick 17 = .ok (.iconst 0, 1) := by decide +kernel
theorem dX8_tick_18 : decode cX8_tick 18 = .ok (.istore_n 2, 1) := by decide +kernel
theorem dX8_tick_19 : decode cX8_tick 19 = .ok (.iload_n 2, 1) := by decide +kernel
theorem dX8_tick_20 : decode cX8_tick 20 = .ok (.iload_n 1, 1) := by decide +kernel
theorem dX8_tick_21 : decode cX8_tick 21 = .ok (.if_icmp .ge 57, 3) := by decide +kernel
theorem dX8_tick_24 : decode cX8_tick 24 = .ok (.aload_n 0, 1) := by decide +kernel
theorem dX8_tick_25 : decode cX8_tick 25 = .ok (.dup, 1) := by decide +kernel
theorem dX8_tick_26 : decode cX8_tick 26 = .ok (.getfield 199, 3) := by decide +kernel
theorem dX8_tick_29 : decode cX8_tick 29 = .ok (.iconst 1, 1) := by decide +kernel
theorem dX8_tick_30 : decode cX8_tick 30 = .ok (.iadd, 1) := by decide +kernel
theorem dX8_tick_31 : decode cX8_tick 31 = .ok (.putfield 199, 3) := by decide +kernel
theorem dX8_tick_34 : decode cX8_tick 34 = .ok (.aload_n 0, 1) := by decide +kernel
theorem dX8_tick_35 : decode cX8_tick 35 = .ok (.invokevirtual 202, 3) := by decide +kernel
theorem dX8_tick_38 : decode cX8_tick 38 = .ok (.aload_n 0, 1) := by decide +kernel
theorem dX8_tick_39 : decode cX8_tick 39 = .ok (.getfield 38, 3) := by decide +kernel
theorem dX8_tick_42 : decode cX8_tick 42 = .ok (.ifCond .ne 6, 3) := by decide +kernel
theorem dX8_tick_45 : decode cX8_tick 45 = .ok (.goto 27, 3) := by decide +kernel
theorem dX8_tick_48 : decode cX8_tick 48 = .ok (.aload_n 0, 1) := by decide +kernel
theorem dX8_tick_49 : decode cX8_tick 49 = .ok (.getfield 135, 3) := by decide +kernel
theorem dX8_tick_52 : decode cX8_tick 52 = .ok (.ifCond .le 16, 3) := by decide +kernel
theorem dX8_tick_55 : decode cX8_tick 55 = .ok (.aload_n 0, 1) := by decide +kernel
theorem dX8_tick_56 : decode cX8_tick 56 = .ok (.dup, 1) := by decide +kernel
theorem dX8_tick_57 : decode cX8_tick 57 = .ok (.getfield 135, 3) := by decide +kernel
theorem dX8_tick_60 : decode cX8_tick 60 = .ok (.iconst 1, 1) := by decide +kernel
theorem dX8_tick_61 : decode cX8_tick 61 = .ok (.isub, 1) := by decide +kernel
theorem dX8_tick_62 : decode cX8_tick 62 = .ok (.putfield 135, 3) := by decide +kernel
theorem dX8_tick_65 : decode cX8_tick 65 = .ok (.goto 7, 3) := by decide +kernel
theorem dX8_tick_68 : decode cX8_tick 68 = .ok (.aload_n 0, 1) := by decide +kernel
theorem dX8_tick_69 : decode cX8_tick 69 = .ok (.invokevirtual 205, 3) := by decide +kernel
theorem dX8_tick_72 : decode cX8_tick 72 = .ok (.iinc 2 1, 3) := by decide +kernel
theorem dX8_tick_75 : decode cX8_tick 75 = .ok (.goto (-56), 3) := by decide +kernel
theorem dX8_tick_78 : decode cX8_tick 78 = .ok (.aload_n 0, 1) := by decide +kernel
theorem dX8_tick_79 : decode cX8_tick 79 = .ok (.getfield 199, 3) := by decide +kernel
theorem dX8_tick_82 : decode cX8_tick 82 = .ok (.ireturn, 1) := by decide +kernel
set_option maxRecDepth 20000 in
theorem ggX8_cell_X8_in : GoodIn wsX8_cell wsX8_in := goodIn_r _ [6] (by decide +kernel) (by decide +kernel)
set_option maxRecDepth 20000 in
theorem gX8_cell_X8_in : GoodIn wsX8_cell (va_wsS RX8 96 yX8_in wsX8_in) := goodIn_app (goodIn_of _ (by decide +kernel)) ggX8_cell_X8_in
set_option maxRecDepth 20000 in
theorem ggX8_cell_X8_says : GoodIn wsX8_cell wsX8_says := goodIn_r _ [10, 11, 12, 13, 14, 15, 16, 17, 18, 19, 20, 21, 22, 23, 24, 25, 26, 27, 28, 29, 30, 31, 32, 33, 34, 35, 36, 37, 38, 39, 40, 41, 42, 43] (by decide +kernel) (by decide +kernel)
set_option maxRecDepth 20000 in
theorem gX8_cell_X8_says : GoodIn wsX8_cell (wsV RX8 100 RX8 yX8_says wsX8_says) := goodIn_app (goodIn_of _ (by decide +kernel)) ggX8_cell_X8_says
theorem dX8_cell_0 : decode cX8_cell 0 = .ok (.aload_n 0, 1) := by decide +kernel
theorem dX8_cell_1 : decode cX8_cell 1 = .ok (.iload_n 1, 1) := by decide +kernel
theorem dX8_cell_2 : decode cX8_cell 2 = .ok (.iconst 0, 1) := by decide +kernel
theorem dX8_cell_3 : decode cX8_cell 3 = .ok (.bipush 95, 2) := by decide +kernel
theorem dX8_cell_5 : decode cX8_cell 5 = .ok (.invokestatic 96, 3) := by decide +kernel
theorem dX8_cell_8 : decode cX8_cell 8 = .ok (.invokevirtual 100, 3) := by decide +kernel
theorem dX8_cell_11 : decode cX8_cell 11 = .ok (.ifCond .ne 5, 3) := by decide +kernel
theorem dX8_cell_14 : decode cX8_cell 14 = .ok (.iconst 0, 1) := by decide +kernel
theorem dX8_cell_15 : decode cX8_cell 15 = .ok (.ireturn, 1) := by decide +kernel
theorem dX8_cell_16 : decode cX8_cell 16 = .ok (.aload_n 0, 1) := by decide +kernel
theorem dX8_cell_17 : decode cX8_cell 17 = .ok (.getfield 19, 3) := by decide +kernel
theorem dX8_cell_20 : decode cX8_cell 20 = .ok (.iload_n 1, 1) := by decide +kernel
theorem dX8_cell_21 : decode cX8_cell 21 = .ok (.iaload, 1) := by decide +kernel
theorem dX8_cell_22 : decode cX8_cell 22 = .ok (.ifCond .le 19, 3) := by decide +kernel
theorem dX8_cell_25 : decode cX8_cell 25 = .ok (.aload_n 0, 1) := by decide +kernel
theorem dX8_cell_26 : decode cX8_cell 26 = .ok (.getfield 7, 3) := by decide +kernel
theorem dX8_cell_29 : decode cX8_cell 29 = .ok (.aload_n 0, 1) := by decide +kernel
theorem dX8_cell_30 : decode cX8_cell 30 = .ok (.getfield 19, 3) := by decide +kernel
theorem dX8_cell_33 : decode cX8_cell 33 = .ok (.iload_n 1, 1) := by decide +kernel
theorem dX8_cell_34 : decode cX8_cell 34 = .ok (.iaload, 1) := by decide +kernel
theorem dX8_cell_35 : decode cX8_cell 35 = .ok (.iconst 1, 1) := by decide +kernel
theorem dX8_cell_36 : decode cX8_cell 36 = .ok (.isub, 1) := by decide +kernel
theorem dX8_cell_37 : decode cX8_cell 37 = .ok (.iaload, 1) := by decide +kernel
theorem dX8_cell_38 : decode cX8_cell 38 = .ok (.goto 9, 3) := by decide +kernel
theorem dX8_cell_41 : decode cX8_cell 41 = .ok (.aload_n 0, 1) := by decide +kernel
theorem dX8_cell_42 : decode cX8_cell 42 = .ok (.getfield 19, 3) := by decide +kernel
theorem dX8_cell_45 : decode cX8_cell 45 = .ok (.iload_n 1, 1) := by decide +kernel
theorem dX8_cell_46 : decode cX8_cell 46 = .ok (.iaload, 1) := by decide +kernel
theorem dX8_cell_47 : decode cX8_cell 47 = .ok (.ireturn, 1) := by decide +kernel
set_option maxRecDepth 20000 in
theorem ggX8_plan_X8_carOf : GoodIn wsX8_plan wsX8_carOf := goodIn_r _ [8, 9, 10, 48, 49, 50, 51, 52, 53, 54, 55, 56, 57, 58, 59, 60, 61, 62, 63, 64, 65, 66, 67, 68, 69, 70, 71, 72, 73, 74, 75, 76, 77, 78, 79] (by decide +kernel) (by decide +kernel)
set_option maxRecDepth 20000 in
theorem gX8_plan_X8_carOf : GoodIn wsX8_plan (wsV RX8 125 RX8 yX8_carOf wsX8_carOf) := goodIn_app (goodIn_of _ (by decide +kernel)) ggX8_plan_X8_carOf
set_option maxRecDepth 20000 in
theorem ggX8_plan_X8_planOf : GoodIn wsX8_plan wsX8_planOf := goodIn_r _ [14, 15, 16, 17, 18, 7, 19, 20, 21, 22, 23, 24, 25, 26, 27, 28, 29, 30, 31, 32, 33, 3, 34, 35, 36, 37, 38, 39, 40, 41, 42, 43, 44, 48, 49, 50, 51, 52, 53, 54, 55, 56, 57, 58, 59, 60, 61, 62, 63, 64, 65, 66, 67, 68, 69, 70, 71, 72, 73, 74, 75, 76, 77, 78, 79] (by decide +kernel) (by decide +kernel)
set_option maxRecDepth 20000 in
theorem gX8_plan_X8_planOf : GoodIn wsX8_plan (wsV RX8 156 RX8 yX8_planOf wsX8_planOf) := goodIn_app (goodIn_of _ (by decide +kernel)) ggX8_plan_X8_planOf
set_option maxRecDepth 20000 in
theorem ggX8_plan_X8_in : GoodIn wsX8_plan wsX8_in := goodIn_r _ [47] (by decide +kernel) (by decide +kernel)
set_option maxRecDepth 20000 in
theorem gX8_plan_X8_in : GoodIn wsX8_plan (va_wsS RX8 96 yX8_in wsX8_in) := goodIn_app (goodIn_of _ (by decide +kernel)) ggX8_plan_X8_in
theorem dX8_plan_0 : decode cX8_plan 0 = .ok (.aload_n 0, 1) := by decide +kernel
theorem dX8_plan_1 : decode cX8_plan 1 = .ok (.iload_n 1, 1) := by decide +kernel
theorem dX8_plan_2 : decode cX8_plan 2 = .ok (.invokevirtual 125, 3) := by decide +kernel
theorem dX8_plan_5 : decode cX8_plan 5 = .ok (.istore_n 3, 1) := by decide +kernel
theorem dX8_plan_6 : decode cX8_plan 6 = .ok (.aload_n 0, 1) := by decide +kernel
theorem dX8_plan_7 : decode cX8_plan 7 = .ok (.iload_n 3, 1) := by decide +kernel
theorem dX8_plan_8 : decode cX8_plan 8 = .ok (.ifCond .ge 7, 3) := by decide +kernel
theorem dX8_plan_11 : decode cX8_plan 11 = .ok (.iconst 1, 1) := by decide +kernel
theorem dX8_plan_12 : decode cX8_plan 12 = .ok (.goto 18, 3) := by decide +kernel
theorem dX8_plan_15 : decode cX8_plan 15 = .ok (.aload_n 0, 1) := by decide +kernel
theorem dX8_plan_16 : decode cX8_plan 16 = .ok (.getfield 13, 3) := by decide +kernel
theorem dX8_plan_19 : decode cX8_plan 19 = .ok (.iload_n 3, 1) := by decide +kernel
theorem dX8_plan_20 : decode cX8_plan 20 = .ok (.iaload, 1) := by decide +kernel
theorem dX8_plan_21 : decode cX8_plan 21 = .ok (.iconst 3, 1) := by decide +kernel
theorem dX8_plan_22 : decode cX8_plan 22 = .ok (.if_icmp .eq 7, 3) := by decide +kernel
theorem dX8_plan_25 : decode cX8_plan 25 = .ok (.iconst 2, 1) := by decide +kernel
theorem dX8_plan_26 : decode cX8_plan 26 = .ok (.goto 4, 3) := by decide +kernel
theorem dX8_plan_29 : decode cX8_plan 29 = .ok (.iconst 0, 1) := by decide +kernel
theorem dX8_plan_30 : decode cX8_plan 30 = .ok (.putfield 63, 3) := by decide +kernel
theorem dX8_plan_33 : decode cX8_plan 33 = .ok (.aload_n 0, 1) := by decide +kernel
theorem dX8_plan_34 : decode cX8_plan 34 = .ok (.getfield 63, 3) := by decide +kernel
theorem dX8_plan_37 : decode cX8_plan 37 = .ok (.ifCond .le 5, 3) := by decide +kernel
theorem dX8_plan_40 : decode cX8_plan 40 = .ok (.iconst 0, 1) := by decide +kernel
theorem dX8_plan_41 : decode cX8_plan 41 = .ok (.ireturn, 1) := by decide +kernel
theorem dX8_plan_42 : decode cX8_plan 42 = .ok (.aload_n 0, 1) := by decide +kernel
theorem dX8_plan_43 : decode cX8_plan 43 = .ok (.iload_n 3, 1) := by decide +kernel
theorem dX8_plan_44 : decode cX8_plan 44 = .ok (.invokevirtual 156, 3) := by decide +kernel
theorem dX8_plan_47 : decode cX8_plan 47 = .ok (.istore 4, 2) := by decide +kernel
theorem dX8_plan_49 : decode cX8_plan 49 = .ok (.iload_n 2, 1) := by decide +kernel
theorem dX8_plan_50 : decode cX8_plan 50 = .ok (.iconst (-1), 1) := by decide +kernel
theorem dX8_plan_51 : decode cX8_plan 51 = .ok (.if_icmp .ne 6, 3) := by decide +kernel
theorem dX8_plan_54 : decode cX8_plan 54 = .ok (.iload 4, 2) := by decide +kernel
theorem dX8_plan_56 : decode cX8_plan 56 = .ok (.ireturn, 1) := by decide +kernel
theorem dX8_plan_57 : decode cX8_plan 57 = .ok (.aload_n 0, 1) := by decide +kernel
theorem dX8_plan_58 : decode cX8_plan 58 = .ok (.iload_n 2, 1) := by decide +kernel
theorem dX8_plan_59 : decode cX8_plan 59 = .ok (.iconst 0, 1) := by decide +kernel
theorem dX8_plan_60 : decode cX8_plan 60 = .ok (.iload 4, 2) := by decide +kernel
theorem dX8_plan_62 : decode cX8_plan 62 = .ok (.iconst 1, 1) := by decide +kernel
theorem dX8_plan_63 : decode cX8_plan 63 = .ok (.isub, 1) := by decide +kernel
theorem dX8_plan_64 : decode cX8_plan 64 = .ok (.invokestatic 96, 3) := by decide +kernel
theorem dX8_plan_67 : decode cX8_plan 67 = .ok (.ifCond .eq 7, 3) := by decide +kernel
theorem dX8_plan_70 : decode cX8_plan 70 = .ok (.iconst 0, 1) := by decide +kernel
theorem dX8_plan_71 : decode cX8_plan 71 = .ok (.goto 4, 3) := by decide +kernel
theorem dX8_plan_74 : decode cX8_plan 74 = .ok (.iconst 3, 1) := by decide +kernel
theorem dX8_plan_75 : decode cX8_plan 75 = .ok (.putfield 63, 3) := by decide +kernel
theorem dX8_plan_78 : decode cX8_plan 78 = .ok (.aload_n 0, 1) := by decide +kernel
theorem dX8_plan_79 : decode cX8_plan 79 = .ok (.getfield 63, 3) := by decide +kernel
theorem dX8_plan_82 : decode cX8_plan 82 = .ok (.ifCond .le 7, 3) := by decide +kernel
theorem dX8_plan_85 : decode cX8_plan 85 = .ok (.iconst 0, 1) := by decide +kernel
theorem dX8_plan_86 : decode cX8_plan 86 = .ok (.goto 9, 3) := by decide +kernel
theorem dX8_plan_89 : decode cX8_plan 89 = .ok (.aload_n 0, 1) := by decide +kernel
theorem dX8_plan_90 : decode cX8_plan 90 = .ok (.getfield 54, 3) := by decide +kernel
theorem dX8_plan_93 : decode cX8_plan 93 = .ok (.iload_n 2, 1) := by decide +kernel
theorem dX8_plan_94 : decode cX8_plan 94 = .ok (.iaload, 1) := by decide +kernel
theorem dX8_plan_95 : decode cX8_plan 95 = .ok (.ireturn, 1) := by decide +kernel
set_option maxRecDepth 20000 in
theorem ggX8_bay_X8_in : GoodIn wsX8_bay wsX8_in := goodIn_r _ [13] (by decide +kernel) (by decide +kernel)
set_option maxRecDepth 20000 in
theorem gX8_bay_X8_in : GoodIn wsX8_bay (va_wsS RX8 96 yX8_in wsX8_in) := goodIn_app (goodIn_of _ (by decide +kernel)) ggX8_bay_X8_in
set_option maxRecDepth 20000 in
theorem ggX8_bay_X8_says : GoodIn wsX8_bay wsX8_says := goodIn_r _ [17, 18, 19, 20, 21, 22, 23, 24, 25, 26, 27, 28, 29, 30, 31, 32, 33, 34, 35, 36, 37, 38, 39, 40, 41, 42, 43, 44, 45, 46, 47, 48, 49, 50] (by decide +kernel) (by decide +kernel)
set_option maxRecDepth 20000 in
theorem gX8_bay_X8_says : GoodIn wsX8_bay (wsV RX8 100 RX8 yX8_says wsX8_says) := goodIn_app (goodIn_of _ (by decide +kernel)) ggX8_bay_X8_says
theorem dX8_bay_0 : decode cX8_bay 0 = .ok (.aload_n 0, 1) := by decide +kernel
theorem dX8_bay_1 : decode cX8_bay 1 = .ok (.iload_n 1, 1) := by decide +kernel
theorem dX8_bay_2 : decode cX8_bay 2 = .ok (.iconst 0, 1) := by decide +kernel
theorem dX8_bay_3 : decode cX8_bay 3 = .ok (.iconst 1, 1) := by decide +kernel
theorem dX8_bay_4 : decode cX8_bay 4 = .ok (.invokestatic 96, 3) := by decide +kernel
theorem dX8_bay_7 : decode cX8_bay 7 = .ok (.ifCond .eq 16, 3) := by decide +kernel
theorem dX8_bay_10 : decode cX8_bay 10 = .ok (.iload_n 2, 1) := by decide +kernel
theorem dX8_bay_11 : decode cX8_bay 11 = .ok (.iconst 0, 1) := by decide +kernel
theorem dX8_bay_12 : decode cX8_bay 12 = .ok (.iconst 4, 1) := by decide +kernel
theorem dX8_bay_13 : decode cX8_bay 13 = .ok (.invokestatic 96, 3) := by decide +kernel
theorem dX8_bay_16 : decode cX8_bay 16 = .ok (.ifCond .eq 7, 3) := by decide +kernel
theorem dX8_bay_19 : decode cX8_bay 19 = .ok (.iconst 1, 1) := by decide +kernel
theorem dX8_bay_20 : decode cX8_bay 20 = .ok (.goto 4, 3) := by decide +kernel
theorem dX8_bay_23 : decode cX8_bay 23 = .ok (.iconst 0, 1) := by decide +kernel
theorem dX8_bay_24 : decode cX8_bay 24 = .ok (.invokevirtual 100, 3) := by decide +kernel
theorem dX8_bay_27 : decode cX8_bay 27 = .ok (.ifCond .ne 5, 3) := by decide +kernel
theorem dX8_bay_30 : decode cX8_bay 30 = .ok (.iconst 0, 1) := by decide +kernel
theorem dX8_bay_31 : decode cX8_bay 31 = .ok (.ireturn, 1) := by decide +kernel
theorem dX8_bay_32 : decode cX8_bay 32 = .ok (.iload_n 2, 1) := by decide +kernel
theorem dX8_bay_33 : decode cX8_bay 33 = .ok (.ifCond .ne 10, 3) := by decide +kernel
theorem dX8_bay_36 : decode cX8_bay 36 = .ok (.aload_n 0, 1) := by decide +kernel
theorem dX8_bay_37 : decode cX8_bay 37 = .ok (.getfield 22, 3) := by decide +kernel
theorem dX8_bay_40 : decode cX8_bay 40 = .ok (.iload_n 1, 1) := by decide +kernel
theorem dX8_bay_41 : decode cX8_bay 41 = .ok (.iaload, 1) := by decide +kernel
theorem dX8_bay_42 : decode cX8_bay 42 = .ok (.ireturn, 1) := by decide +kernel
theorem dX8_bay_43 : decode cX8_bay 43 = .ok (.iload_n 2, 1) := by decide +kernel
theorem dX8_bay_44 : decode cX8_bay 44 = .ok (.iconst 1, 1) := by decide +kernel
theorem dX8_bay_45 : decode cX8_bay 45 = .ok (.if_icmp .ne 18, 3) := by decide +kernel
theorem dX8_bay_48 : decode cX8_bay 48 = .ok (.aload_n 0, 1) := by decide +kernel
theorem dX8_bay_49 : decode cX8_bay 49 = .ok (.getfield 28, 3) := by decide +kernel
theorem dX8_bay_52 : decode cX8_bay 52 = .ok (.iload_n 1, 1) := by decide +kernel
theorem dX8_bay_53 : decode cX8_bay 53 = .ok (.baload, 1) := by decide +kernel
theorem dX8_bay_54 : decode cX8_bay 54 = .ok (.ifCond .eq 7, 3) := by decide +kernel
theorem dX8_bay_57 : decode cX8_bay 57 = .ok (.iconst 1, 1) := by decide +kernel
theorem dX8_bay_58 : decode cX8_bay 58 = .ok (.goto 4, 3) := by decide +kernel
theorem dX8_bay_61 : decode cX8_bay 61 = .ok (.iconst 0, 1) := by decide +kernel
theorem dX8_bay_62 : decode cX8_bay 62 = .ok (.ireturn, 1) := by decide +kernel
theorem dX8_bay_63 : decode cX8_bay 63 = .ok (.iload_n 2, 1) := by decide +kernel
theorem dX8_bay_64 : decode cX8_bay 64 = .ok (.iconst 2, 1) := by decide +kernel
theorem dX8_bay_65 : decode cX8_bay 65 = .ok (.if_icmp .ne 28, 3) := by decide +kernel
theorem dX8_bay_68 : decode cX8_bay 68 = .ok (.aload_n 0, 1) := by decide +kernel
theorem dX8_bay_69 : decode cX8_bay 69 = .ok (.getfield 32, 3) := by decide +kernel
theorem dX8_bay_72 : decode cX8_bay 72 = .ok (.iload_n 1, 1) := by decide +kernel
theorem dX8_bay_73 : decode cX8_bay 73 = .ok (.iaload, 1) := by decide +kernel
theorem dX8_bay_74 : decode cX8_bay 74 = .ok (.ifCond .ge 7, 3) := by decide +kernel
theorem dX8_bay_77 : decode cX8_bay 77 = .ok (.iconst 0, 1) := by decide +kernel
theorem dX8_bay_78 : decode cX8_bay 78 = .ok (.goto 14, 3) := by decide +kernel
theorem dX8_bay_81 : decode cX8_bay 81 = .ok (.aload_n 0, 1) := by decide +kernel
theorem dX8_bay_82 : decode cX8_bay 82 = .ok (.getfield 7, 3) := by decide +kernel
theorem dX8_bay_85 : decode cX8_bay 85 = .ok (.aload_n 0, 1) := by decide +kernel
theorem dX8_bay_86 : decode cX8_bay 86 = .ok (.getfield 32, 3) := by decide +kernel
theorem dX8_bay_89 : decode cX8_bay 89 = .ok (.iload_n 1, 1) := by decide +kernel
theorem dX8_bay_90 : decode cX8_bay 90 = .ok (.iaload, 1) := by decide +kernel
theorem dX8_bay_91 : decode cX8_bay 91 = .ok (.iaload, 1) := by decide +kernel
theorem dX8_bay_92 : decode cX8_bay 92 = .ok (.ireturn, 1) := by decide +kernel
theorem dX8_bay_93 : decode cX8_bay 93 = .ok (.iload_n 2, 1) := by decide +kernel
theorem dX8_bay_94 : decode cX8_bay 94 = .ok (.iconst 3, 1) := by decide +kernel
theorem dX8_bay_95 : decode cX8_bay 95 = .ok (.if_icmp .ne 33, 3) := by decide +kernel
theorem dX8_bay_98 : decode cX8_bay 98 = .ok (.aload_n 0, 1) := by decide +kernel
theorem dX8_bay_99 : decode cX8_bay 99 = .ok (.getfield 32, 3) := by decide +kernel
theorem dX8_bay_102 : decode cX8_bay 102 = .ok (.iload_n 1, 1) := by decide +kernel
theorem dX8_bay_103 : decode cX8_bay 103 = .ok (.iaload, 1) := by decide +kernel
theorem dX8_bay_104 : decode cX8_bay 104 = .ok (.ifCond .lt 22, 3) := by decide +kernel
theorem dX8_bay_107 : decode cX8_bay 107 = .ok (.aload_n 0, 1) := by decide +kernel
theorem dX8_bay_108 : decode cX8_bay 108 = .ok (.getfield 13, 3) := by decide +kernel
theorem dX8_bay_111 : decode cX8_bay 111 = .ok (.aload_n 0, 1) := by decide +kernel
theorem dX8_bay_112 : decode cX8_bay 112 = .ok (.getfield 32, 3) := by decide +kernel
theorem dX8_bay_115 : decode cX8_bay 115 = .ok (.iload_n 1, 1) := by decide +kernel
theorem dX8_bay_116 : decode cX8_bay 116 = .ok (.iaload, 1) := by decide +kernel
theorem dX8_bay_117 : decode cX8_bay 117 = .ok (.iaload, 1) := by decide +kernel
theorem dX8_bay_118 : decode cX8_bay 118 = .ok (.iconst 4, 1) := by decide +kernel
theorem dX8_bay_119 : decode cX8_bay 119 = .ok (.if_icmp .ne 7, 3) := by decide +kernel
theorem dX8_bay_122 : decode cX8_bay 122 = .ok (.iconst 1, 1) := by decide +kernel
theorem dX8_bay_123 : decode cX8_bay 123 = .ok (.goto 4, 3) := by decide +kernel
theorem dX8_bay_126 : decode cX8_bay 126 = .ok (.iconst 0, 1) := by decide +kernel
theorem dX8_bay_127 : decode cX8_bay 127 = .ok (.ireturn, 1) := by decide +kernel
theorem dX8_bay_128 : decode cX8_bay 128 = .ok (.aload_n 0, 1) := by decide +kernel
theorem dX8_bay_129 : decode cX8_bay 129 = .ok (.getfield 71, 3) := by decide +kernel
theorem dX8_bay_132 : decode cX8_bay 132 = .ok (.ifCond .eq 15, 3) := by decide +kernel
theorem dX8_bay_135 : decode cX8_bay 135 = .ok (.aload_n 0, 1) := by decide +kernel
theorem dX8_bay_136 : decode cX8_bay 136 = .ok (.getfield 122, 3) := by decide +kernel
theorem dX8_bay_139 : decode cX8_bay 139 = .ok (.iload_n 1, 1) := by decide +kernel
theorem dX8_bay_140 : decode cX8_bay 140 = .ok (.if_icmp .ne 7, 3) := by decide +kernel
theorem dX8_bay_143 : decode cX8_bay 143 = .ok (.iconst 1, 1) := by decide +kernel
theorem dX8_bay_144 : decode cX8_bay 144 = .ok (.goto 4, 3) := by decide +kernel
theorem dX8_bay_147 : decode cX8_bay 147 = .ok (.iconst 0, 1) := by decide +kernel
theorem dX8_bay_148 : decode cX8_bay 148 = .ok (.istore_n 3, 1) := by decide +kernel
theorem dX8_bay_149 : decode cX8_bay 149 = .ok (.iconst 0, 1) := by decide +kernel
theorem dX8_bay_150 : decode cX8_bay 150 = .ok (.istore 4, 2) := by decide +kernel
theorem dX8_bay_152 : decode cX8_bay 152 = .ok (.iload 4, 2) := by decide +kernel
theorem dX8_bay_154 : decode cX8_bay 154 = .ok (.aload_n 0, 1) := by decide +kernel
theorem dX8_bay_155 : decode cX8_bay 155 = .ok (.getfield 93, 3) := by decide +kernel
theorem dX8_bay_158 : decode cX8_bay 158 = .ok (.if_icmp .ge 28, 3) := by decide +kernel
theorem dX8_bay_161 : decode cX8_bay 161 = .ok (.aload_n 0, 1) := by decide +kernel
theorem dX8_bay_162 : decode cX8_bay 162 = .ok (.getfield 45, 3) := by decide +kernel
theorem dX8_bay_165 : decode cX8_bay 165 = .ok (.iload 4, 2) := by decide +kernel
theorem dX8_bay_167 : decode cX8_bay 167 = .ok (.iaload, 1) := by decide +kernel
theorem dX8_bay_168 : decode cX8_bay 168 = .ok (.iload_n 1, 1) := by decide +kernel
theorem dX8_bay_169 : decode cX8_bay 169 = .ok (.if_icmp .ne 9, 3) := by decide +kernel
theorem dX8_bay_172 : decode cX8_bay 172 = .ok (.iload_n 3, 1) := by decide +kernel
theorem dX8_bay_173 : decode cX8_bay 173 = .ok (.iconst 1, 1) := by decide +kernel
theorem dX8_bay_174 : decode cX8_bay 174 = .ok (.iadd, 1) := by decide +kernel
theorem dX8_bay_175 : decode cX8_bay 175 = .ok (.goto 4, 3) := by decide +kernel
theorem dX8_bay_178 : decode cX8_bay 178 = .ok (.iload_n 3, 1) := by decide +kernel
theorem dX8_bay_179 : decode cX8_bay 179 = .ok (.istore_n 3, 1) := by decide +kernel
theorem dX8_bay_180 : decode cX8_bay 180 = .ok (.iinc 4 1, 3) := by decide +kernel
theorem dX8_bay_183 : decode cX8_bay 183 = .ok (.goto (-31), 3) := by decide +kernel
theorem dX8_bay_186 : decode cX8_bay 186 = .ok (.iload_n 3, 1) := by decide +kernel
theorem dX8_bay_187 : decode cX8_bay 187 = .ok (.ireturn, 1) := by decide +kernel
set_option maxRecDepth 20000 in
theorem ggX8_look_X8_in : GoodIn wsX8_look wsX8_in := goodIn_r _ [14] (by decide +kernel) (by decide +kernel)
set_option maxRecDepth 20000 in
theorem gX8_look_X8_in : GoodIn wsX8_look (va_wsS RX8 96 yX8_in wsX8_in) := goodIn_app (goodIn_of _ (by decide +kernel)) ggX8_look_X8_in
set_option maxRecDepth 20000 in
theorem ggX8_look_X8_says : GoodIn wsX8_look wsX8_says := goodIn_r _ [18, 19, 20, 21, 22, 23, 24, 25, 26, 27, 28, 29, 30, 31, 32, 33, 34, 35, 36, 37, 38, 39, 40, 41, 42, 43, 44, 45, 46, 47, 48, 49, 50, 51] (by decide +kernel) (by decide +kernel)
set_option maxRecDepth 20000 in
theorem gX8_look_X8_says : GoodIn wsX8_look (wsV RX8 100 RX8 yX8_says wsX8_says) := goodIn_app (goodIn_of _ (by decide +kernel)) ggX8_look_X8_says
theorem dX8_look_0 : decode cX8_look 0 = .ok (.aload_n 0, 1) := by decide +kernel
theorem dX8_look_1 : decode cX8_look 1 = .ok (.iload_n 1, 1) := by decide +kernel
theorem dX8_look_2 : decode cX8_look 2 = .ok (.iconst 0, 1) := by decide +kernel
theorem dX8_look_3 : decode cX8_look 3 = .ok (.bipush 6, 2) := by decide +kernel
theorem dX8_look_5 : decode cX8_look 5 = .ok (.invokestatic 96, 3) := by decide +kernel
theorem dX8_look_8 : decode cX8_look 8 = .ok (.invokevirtual 100, 3) := by decide +kernel
theorem dX8_look_11 : decode cX8_look 11 = .ok (.ifCond .ne 5, 3) := by decide +kernel
theorem dX8_look_14 : decode cX8_look 14 = .ok (.iconst 0, 1) := by decide +kernel
theorem dX8_look_15 : decode cX8_look 15 = .ok (.ireturn, 1) := by decide +kernel
theorem dX8_look_16 : decode cX8_look 16 = .ok (.iconst 0, 1) := by decide +kernel
theorem dX8_look_17 : decode cX8_look 17 = .ok (.istore_n 2, 1) := by decide +kernel
theorem dX8_look_18 : decode cX8_look 18 = .ok (.iconst 0, 1) := by decide +kernel
theorem dX8_look_19 : decode cX8_look 19 = .ok (.istore_n 3, 1) := by decide +kernel
theorem dX8_look_20 : decode cX8_look 20 = .ok (.iload_n 3, 1) := by decide +kernel
theorem dX8_look_21 : decode cX8_look 21 = .ok (.aload_n 0, 1) := by decide +kernel
theorem dX8_look_22 : decode cX8_look 22 = .ok (.getfield 90, 3) := by decide +kernel
theorem dX8_look_25 : decode cX8_look 25 = .ok (.if_icmp .ge 27, 3) := by decide +kernel
theorem dX8_look_28 : decode cX8_look 28 = .ok (.aload_n 0, 1) := by decide +kernel
theorem dX8_look_29 : decode cX8_look 29 = .ok (.getfield 13, 3) := by decide +kernel
theorem dX8_look_32 : decode cX8_look 32 = .ok (.iload_n 3, 1) := by decide +kernel
theorem dX8_look_33 : decode cX8_look 33 = .ok (.iaload, 1) := by decide +kernel
theorem dX8_look_34 : decode cX8_look 34 = .ok (.iconst 3, 1) := by decide +kernel
theorem dX8_look_35 : decode cX8_look 35 = .ok (.if_icmp .ne 9, 3) := by decide +kernel
theorem dX8_look_38 : decode cX8_look 38 = .ok (.iload_n 2, 1) := by decide +kernel
theorem dX8_look_39 : decode cX8_look 39 = .ok (.iconst 1, 1) := by decide +kernel
theorem dX8_look_40 : decode cX8_look 40 = .ok (.iadd, 1) := by decide +kernel
theorem dX8_look_41 : decode cX8_look 41 = .ok (.goto 4, 3) := by decide +kernel
theorem dX8_look_44 : decode cX8_look 44 = .ok (.iload_n 2, 1) := by decide +kernel
theorem dX8_look_45 : decode cX8_look 45 = .ok (.istore_n 2, 1) := by decide +kernel
theorem dX8_look_46 : decode cX8_look 46 = .ok (.iinc 3 1, 3) := by decide +kernel
theorem dX8_look_49 : decode cX8_look 49 = .ok (.goto (-29), 3) := by decide +kernel
theorem dX8_look_52 : decode cX8_look 52 = .ok (.iload_n 1, 1) := by decide +kernel
theorem dX8_look_53 : decode cX8_look 53 = .ok (.ifCond .ne 23, 3) := by decide +kernel
theorem dX8_look_56 : decode cX8_look 56 = .ok (.aload_n 0, 1) := by decide +kernel
theorem dX8_look_57 : decode cX8_look 57 = .ok (.getfield 93, 3) := by decide +kernel
theorem dX8_look_60 : decode cX8_look 60 = .ok (.aload_n 0, 1) := by decide +kernel
theorem dX8_look_61 : decode cX8_look 61 = .ok (.getfield 71, 3) := by decide +kernel
theorem dX8_look_64 : decode cX8_look 64 = .ok (.ifCond .eq 7, 3) := by decide +kernel
theorem dX8_look_67 : decode cX8_look 67 = .ok (.iconst 1, 1) := by decide +kernel
theorem dX8_look_68 : decode cX8_look 68 = .ok (.goto 4, 3) := by decide +kernel
theorem dX8_look_71 : decode cX8_look 71 = .ok (.iconst 0, 1) := by decide +kernel
theorem dX8_look_72 : decode cX8_look 72 = .ok (.iadd, 1) := by decide +kernel
theorem dX8_look_73 : decode cX8_look 73 = .ok (.goto 102, 3) := by decide +kernel
theorem dX8_look_76 : decode cX8_look 76 = .ok (.iload_n 1, 1) := by decide +kernel
theorem dX8_look_77 : decode cX8_look 77 = .ok (.iconst 1, 1) := by decide +kernel
theorem dX8_look_78 : decode cX8_look 78 = .ok (.if_icmp .ne 26, 3) := by decide +kernel
theorem dX8_look_81 : decode cX8_look 81 = .ok (.aload_n 0, 1) := by decide +kernel
theorem dX8_look_82 : decode cX8_look 82 = .ok (.getfield 71, 3) := by decide +kernel
theorem dX8_look_85 : decode cX8_look 85 = .ok (.ifCond .eq 15, 3) := by decide +kernel
theorem dX8_look_88 : decode cX8_look 88 = .ok (.aload_n 0, 1) := by decide +kernel
theorem dX8_look_89 : decode cX8_look 89 = .ok (.getfield 7, 3) := by decide +kernel
theorem dX8_look_92 : decode cX8_look 92 = .ok (.aload_n 0, 1) := by decide +kernel
theorem dX8_look_93 : decode cX8_look 93 = .ok (.getfield 77, 3) := by decide +kernel
theorem dX8_look_96 : decode cX8_look 96 = .ok (.iaload, 1) := by decide +kernel
theorem dX8_look_97 : decode cX8_look 97 = .ok (.goto 78, 3) := by decide +kernel
theorem dX8_look_100 : decode cX8_look 100 = .ok (.iconst 0, 1) := by decide +kernel
theorem dX8_look_101 : decode cX8_look 101 = .ok (.goto 74, 3) := by decide +kernel
theorem dX8_look_104 : decode cX8_look 104 = .ok (.iload_n 1, 1) := by decide +kernel
theorem dX8_look_105 : decode cX8_look 105 = .ok (.iconst 2, 1) := by decide +kernel
theorem dX8_look_106 : decode cX8_look 106 = .ok (.if_icmp .ne 21, 3) := by decide +kernel
theorem dX8_look_109 : decode cX8_look 109 = .ok (.aload_n 0, 1) := by decide +kernel
theorem dX8_look_110 : decode cX8_look 110 = .ok (.getfield 71, 3) := by decide +kernel
theorem dX8_look_113 : decode cX8_look 113 = .ok (.ifCond .eq 10, 3) := by decide +kernel
theorem dX8_look_116 : decode cX8_look 116 = .ok (.aload_n 0, 1) := by decide +kernel
theorem dX8_look_117 : decode cX8_look 117 = .ok (.getfield 171, 3) := by decide +kernel
theorem dX8_look_120 : decode cX8_look 120 = .ok (.goto 55, 3) := by decide +kernel
theorem dX8_look_123 : decode cX8_look 123 = .ok (.iconst 0, 1) := by decide +kernel
theorem dX8_look_124 : decode cX8_look 124 = .ok (.goto 51, 3) := by decide +kernel
theorem dX8_look_127 : decode cX8_look 127 = .ok (.iload_n 1, 1) := by decide +kernel
theorem dX8_look_128 : decode cX8_look 128 = .ok (.iconst 3, 1) := by decide +kernel
theorem dX8_look_129 : decode cX8_look 129 = .ok (.if_icmp .ne 21, 3) := by decide +kernel
theorem dX8_look_132 : decode cX8_look 132 = .ok (.aload_n 0, 1) := by decide +kernel
theorem dX8_look_133 : decode cX8_look 133 = .ok (.getfield 71, 3) := by decide +kernel
theorem dX8_look_136 : decode cX8_look 136 = .ok (.ifCond .eq 10, 3) := by decide +kernel
theorem dX8_look_139 : decode cX8_look 139 = .ok (.aload_n 0, 1) := by decide +kernel
theorem dX8_look_140 : decode cX8_look 140 = .ok (.getfield 183, 3) := by decide +kernel
theorem dX8_look_143 : decode cX8_look 143 = .ok (.goto 32, 3) := by decide +kernel
theorem dX8_look_146 : decode cX8_look 146 = .ok (.iconst 0, 1) := by decide +kernel
theorem dX8_look_147 : decode cX8_look 147 = .ok (.goto 28, 3) := by decide +kernel
theorem dX8_look_150 : decode cX8_look 150 = .ok (.iload_n 1, 1) := by decide +kernel
theorem dX8_look_151 : decode cX8_look 151 = .ok (.iconst 4, 1) := by decide +kernel
theorem dX8_look_152 : decode cX8_look 152 = .ok (.if_icmp .ne 10, 3) := by decide +kernel
theorem dX8_look_155 : decode cX8_look 155 = .ok (.aload_n 0, 1) := by decide +kernel
theorem dX8_look_156 : decode cX8_look 156 = .ok (.getfield 161, 3) := by decide +kernel
theorem dX8_look_159 : decode cX8_look 159 = .ok (.goto 16, 3) := by decide +kernel
theorem dX8_look_162 : decode cX8_look 162 = .ok (.iload_n 1, 1) := by decide +kernel
theorem dX8_look_163 : decode cX8_look 163 = .ok (.iconst 5, 1) := by decide +kernel
theorem dX8_look_164 : decode cX8_look 164 = .ok (.if_icmp .ne 7, 3) := by decide +kernel
theorem dX8_look_167 : decode cX8_look 167 = .ok (.iload_n 2, 1) := by decide +kernel
theorem dX8_look_168 : decode cX8_look 168 = .ok (.goto 7, 3) := by decide +kernel
theorem dX8_look_171 : decode cX8_look 171 = .ok (.aload_n 0, 1) := by decide +kernel
theorem dX8_look_172 : decode cX8_look 172 = .ok (.getfield 108, 3) := by decide +kernel
theorem dX8_look_175 : decode cX8_look 175 = .ok (.ireturn, 1) := by decide +kernel
