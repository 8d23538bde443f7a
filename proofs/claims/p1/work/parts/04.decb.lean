set_option maxRecDepth 20000 in
theorem ggX7_init_X5_init : GoodIn wsX7_init wsX5_init := goodIn_r _ [27, 28, 2, 3, 29, 30, 31, 32, 60, 61] (by decide +kernel) (by decide +kernel)
set_option maxRecDepth 20000 in
theorem gX7_init_X5_init : GoodIn wsX7_init (wsX5_init) := ggX7_init_X5_init
set_option maxRecDepth 20000 in
theorem ggX7_init_X1_init : GoodIn wsX7_init wsX1_init := goodIn_r _ [35, 36, 2, 3, 37, 38, 72, 73, 74, 75, 76, 77] (by decide +kernel) (by decide +kernel)
set_option maxRecDepth 20000 in
theorem gX7_init_X1_init : GoodIn wsX7_init (wsX1_init) := ggX7_init_X1_init
set_option maxRecDepth 20000 in
theorem ggX7_init_X3_init : GoodIn wsX7_init wsX3_init := goodIn_r _ [41, 42, 2, 3, 29, 43, 44, 45, 78, 79, 80, 81] (by decide +kernel) (by decide +kernel)
set_option maxRecDepth 20000 in
theorem gX7_init_X3_init : GoodIn wsX7_init (wsX3_init) := ggX7_init_X3_init
set_option maxRecDepth 20000 in
theorem ggX7_init_X2_init : GoodIn wsX7_init wsX2_init := goodIn_r _ [48, 49, 2, 3, 50, 21, 22, 51, 52, 53, 54, 55, 56, 29, 57, 58, 87, 88, 89, 82, 83, 84, 85, 86] (by decide +kernel) (by decide +kernel)
set_option maxRecDepth 20000 in
theorem gX7_init_X2_init : GoodIn wsX7_init (wsX2_init) := ggX7_init_X2_init
set_option maxRecDepth 20000 in
theorem ggX7_init_X4_init : GoodIn wsX7_init wsX4_init := goodIn_r _ [55, 56, 2, 3, 29, 57, 58, 87, 88, 89] (by decide +kernel) (by decide +kernel)
set_option maxRecDepth 20000 in
theorem gX7_init_X4_init : GoodIn wsX7_init (wsX4_init) := ggX7_init_X4_init
theorem dX7_init_0 : decode cX7_init 0 = .ok (.aload_n 0, 1) := by decide +kernel
theorem dX7_init_1 : decode cX7_init 1 = .ok (.invokespecial 1, 3) := by decide +kernel
theorem dX7_init_4 : decode cX7_init 4 = .ok (.aload_n 0, 1) := by decide +kernel
theorem dX7_init_5 : decode cX7_init 5 = .ok (.new 7, 3) := by decide +kernel
theorem dX7_init_8 : decode cX7_init 8 = .ok (.dup, 1) := by decide +kernel
theorem dX7_init_9 : decode cX7_init 9 = .ok (.invokespecial 9, 3) := by decide +kernel
theorem dX7_init_12 : decode cX7_init 12 = .ok (.putfield 10, 3) := by decide +kernel
theorem dX7_init_15 : decode cX7_init 15 = .ok (.aload_n 0, 1) := by decide +kernel
theorem dX7_init_16 : decode cX7_init 16 = .ok (.iconst 2, 1) := by decide +kernel
theorem dX7_init_17 : decode cX7_init 17 = .ok (.anewarray 16, 3) := by decide +kernel
theorem dX7_init_20 : decode cX7_init 20 = .ok (.putfield 18, 3) := by decide +kernel
theorem dX7_init_23 : decode cX7_init 23 = .ok (.iconst 0, 1) := by decide +kernel
theorem dX7_init_24 : decode cX7_init 24 = .ok (.istore_n 1, 1) := by decide +kernel
theorem dX7_init_25 : decode cX7_init 25 = .ok (.iload_n 1, 1) := by decide +kernel
theorem dX7_init_26 : decode cX7_init 26 = .ok (.iconst 2, 1) := by decide +kernel
theorem dX7_init_27 : decode cX7_init 27 = .ok (.if_icmp .ge 22, 3) := by decide +kernel
theorem dX7_init_30 : decode cX7_init 30 = .ok (.aload_n 0, 1) := by decide +kernel
theorem dX7_init_31 : decode cX7_init 31 = .ok (.getfield 18, 3) := by decide +kernel
theorem dX7_init_34 : decode cX7_init 34 = .ok (.iload_n 1, 1) := by decide +kernel
theorem dX7_init_35 : decode cX7_init 35 = .ok (.new 16, 3) := by decide +kernel
theorem dX7_init_38 : decode cX7_init 38 = .ok (.dup, 1) := by decide +kernel
theorem dX7_init_39 : decode cX7_init 39 = .ok (.invokespecial 22, 3) := by decide +kernel
theorem dX7_init_42 : decode cX7_init 42 = .ok (.aastore, 1) := by decide +kernel
theorem dX7_init_43 : decode cX7_init 43 = .ok (.iinc 1 1, 3) := by decide +kernel
theorem dX7_init_46 : decode cX7_init 46 = .ok (.goto (-21), 3) := by decide +kernel
theorem dX7_init_49 : decode cX7_init 49 = .ok (.aload_n 0, 1) := by decide +kernel
theorem dX7_init_50 : decode cX7_init 50 = .ok (.new 23, 3) := by decide +kernel
theorem dX7_init_53 : decode cX7_init 53 = .ok (.dup, 1) := by decide +kernel
theorem dX7_init_54 : decode cX7_init 54 = .ok (.invokespecial 25, 3) := by decide +kernel
theorem dX7_init_57 : decode cX7_init 57 = .ok (.putfield 26, 3) := by decide +kernel
theorem dX7_init_60 : decode cX7_init 60 = .ok (.aload_n 0, 1) := by decide +kernel
theorem dX7_init_61 : decode cX7_init 61 = .ok (.new 30, 3) := by decide +kernel
theorem dX7_init_64 : decode cX7_init 64 = .ok (.dup, 1) := by decide +kernel
theorem dX7_init_65 : decode cX7_init 65 = .ok (.invokespecial 32, 3) := by decide +kernel
theorem dX7_init_68 : decode cX7_init 68 = .ok (.putfield 33, 3) := by decide +kernel
theorem dX7_init_71 : decode cX7_init 71 = .ok (.aload_n 0, 1) := by decide +kernel
theorem dX7_init_72 : decode cX7_init 72 = .ok (.new 37, 3) := by decide +kernel
theorem dX7_init_75 : decode cX7_init 75 = .ok (.dup, 1) := by decide +kernel
theorem dX7_init_76 : decode cX7_init 76 = .ok (.invokespecial 39, 3) := by decide +kernel
theorem dX7_init_79 : decode cX7_init 79 = .ok (.putfield 40, 3) := by decide +kernel
theorem dX7_init_82 : decode cX7_init 82 = .ok (.aload_n 0, 1) := by decide +kernel
theorem dX7_init_83 : decode cX7_init 83 = .ok (.iconst 1, 1) := by decide +kernel
theorem dX7_init_84 : decode cX7_init 84 = .ok (.putfield 44, 3) := by decide +kernel
theorem dX7_init_87 : decode cX7_init 87 = .ok (.return_, 1) := by decide +kernel
set_option maxRecDepth 20000 in
theorem ggX7_arrive_X7_isBay : GoodIn wsX7_arrive wsX7_isBay := goodIn_r _ [10] (by decide +kernel) (by decide +kernel)
set_option maxRecDepth 20000 in
theorem gX7_arrive_X7_isBay : GoodIn wsX7_arrive (va_wsS RX7 48 yX7_isBay wsX7_isBay) := goodIn_app (goodIn_of _ (by decide +kernel)) ggX7_arrive_X7_isBay
set_option maxRecDepth 20000 in
theorem ggX7_arrive_X7_fitsAnyLevel : GoodIn wsX7_arrive wsX7_fitsAnyLevel := goodIn_r _ [13, 14, 15, 9, 16] (by decide +kernel) (by decide +kernel)
set_option maxRecDepth 20000 in
theorem gX7_arrive_X7_fitsAnyLevel : GoodIn wsX7_arrive (va_wsS RX7 62 yX7_fitsAnyLevel wsX7_fitsAnyLevel) := goodIn_app (goodIn_of _ (by decide +kernel)) ggX7_arrive_X7_fitsAnyLevel
set_option maxRecDepth 20000 in
theorem ggX7_arrive_X7_cellFor : GoodIn wsX7_arrive wsX7_cellFor := goodIn_r _ [20, 6, 14, 15, 9, 16, 21, 22, 23, 24, 25, 26, 27, 28, 29, 30, 31, 32, 33, 34, 35, 36, 37, 38, 39, 40, 41, 42, 43, 44, 45, 46, 47, 48, 49, 50, 51, 52, 53, 54, 55, 56, 57, 58, 59, 60, 93, 94, 95, 96, 97, 98, 99, 100, 101, 102, 109, 110, 111, 112, 113, 114, 115, 116, 117, 118, 119] (by decide +kernel) (by decide +kernel)
set_option maxRecDepth 20000 in
theorem gX7_arrive_X7_cellFor : GoodIn wsX7_arrive (wsV RX7 66 RX7 yX7_cellFor wsX7_cellFor) := goodIn_app (goodIn_of _ (by decide +kernel)) ggX7_arrive_X7_cellFor
set_option maxRecDepth 20000 in
theorem ggX7_arrive_X7_serialAfter : GoodIn wsX7_arrive wsX7_serialAfter := goodIn_r _ [63, 64, 65, 9, 66] (by decide +kernel) (by decide +kernel)
set_option maxRecDepth 20000 in
theorem gX7_arrive_X7_serialAfter : GoodIn wsX7_arrive (va_wsS RX7 73 yX7_serialAfter wsX7_serialAfter) := goodIn_app (goodIn_of _ (by decide +kernel)) ggX7_arrive_X7_serialAfter
set_option maxRecDepth 20000 in
theorem ggX7_arrive_X7_allOrders : GoodIn wsX7_arrive wsX7_allOrders := goodIn_r _ [70, 26, 3, 71, 72, 73, 74, 75, 76, 77, 78, 93, 94, 95, 96, 97, 98, 99, 100, 101, 102, 114, 115, 116, 117, 103, 104, 105, 106, 107, 108] (by decide +kernel) (by decide +kernel)
set_option maxRecDepth 20000 in
theorem gX7_arrive_X7_allOrders : GoodIn wsX7_arrive (wsV RX7 77 RX7 yX7_allOrders wsX7_allOrders) := goodIn_app (goodIn_of _ (by decide +kernel)) ggX7_arrive_X7_allOrders
set_option maxRecDepth 20000 in
theorem ggX7_arrive_X5_keep : GoodIn wsX7_arrive wsX5_keep := goodIn_r _ [82, 52, 83, 9, 84, 118, 119] (by decide +kernel) (by decide +kernel)
set_option maxRecDepth 20000 in
theorem gX7_arrive_X5_keep : GoodIn wsX7_arrive (wsV RX7 81 RX5 yX5_keep wsX5_keep) := goodIn_app (goodIn_of _ (by decide +kernel)) ggX7_arrive_X5_keep
set_option maxRecDepth 20000 in
theorem ggX7_arrive_X7_ticketOf : GoodIn wsX7_arrive wsX7_ticketOf := goodIn_r _ [87, 64, 65, 9, 66] (by decide +kernel) (by decide +kernel)
set_option maxRecDepth 20000 in
theorem gX7_arrive_X7_ticketOf : GoodIn wsX7_arrive (va_wsS RX7 85 yX7_ticketOf wsX7_ticketOf) := goodIn_app (goodIn_of _ (by decide +kernel)) ggX7_arrive_X7_ticketOf
set_option maxRecDepth 20000 in
theorem ggX7_arrive_X1_receive : GoodIn wsX7_arrive wsX1_receive := goodIn_r _ [91, 76, 92, 103, 104, 105, 106, 107, 108] (by decide +kernel) (by decide +kernel)
set_option maxRecDepth 20000 in
theorem gX7_arrive_X1_receive : GoodIn wsX7_arrive (wsV RX7 88 RX1 yX1_receive wsX1_receive) := goodIn_app (goodIn_of _ (by decide +kernel)) ggX7_arrive_X1_receive
theorem dX7_arrive_0 : decode cX7_arrive 0 = .ok (.iload_n 1, 1) := by decide +kernel
theorem dX7_arrive_1 : decode cX7_arrive 1 = .ok (.invokestatic 48, 3) := by decide +kernel
theorem dX7_arrive_4 : decode cX7_arrive 4 = .ok (.ifCond .eq 19, 3) := by decide +kernel
theorem dX7_arrive_7 : decode cX7_arrive 7 = .ok (.iload_n 2, 1) := by decide +kernel
theorem dX7_arrive_8 : decode cX7_arrive 8 = .ok (.iconst 1, 1) := by decide +kernel
theorem dX7_arrive_9 : decode cX7_arrive 9 = .ok (.if_icmp .lt 14, 3) := by decide +kernel
theorem dX7_arrive_12 : decode cX7_arrive 12 = .ok (.iload_n 3, 1) := by decide +kernel
theorem dX7_arrive_13 : decode cX7_arrive 13 = .ok (.iconst 1, 1) := by decide +kernel
theorem dX7_arrive_14 : decode cX7_arrive 14 = .ok (.if_icmp .lt 9, 3) := by decide +kernel
theorem dX7_arrive_17 : decode cX7_arrive 17 = .ok (.iload 4, 2) := by decide +kernel
theorem dX7_arrive_19 : decode cX7_arrive 19 = .ok (.iconst 1, 1) := by decide +kernel
theorem dX7_arrive_20 : decode cX7_arrive 20 = .ok (.if_icmp .ge 11, 3) := by decide +kernel
theorem dX7_arrive_23 : decode cX7_arrive 23 = .ok (.new 52, 3) := by decide +kernel
theorem dX7_arrive_26 : decode cX7_arrive 26 = .ok (.dup, 1) := by decide +kernel
theorem dX7_arrive_27 : decode cX7_arrive 27 = .ok (.invokespecial 54, 3) := by decide +kernel
theorem dX7_arrive_30 : decode cX7_arrive 30 = .ok (.athrow, 1) := by decide +kernel
theorem dX7_arrive_31 : decode cX7_arrive 31 = .ok (.aload_n 0, 1) := by decide +kernel
theorem dX7_arrive_32 : decode cX7_arrive 32 = .ok (.getfield 18, 3) := by decide +kernel
theorem dX7_arrive_35 : decode cX7_arrive 35 = .ok (.iload_n 1, 1) := by decide +kernel
theorem dX7_arrive_36 : decode cX7_arrive 36 = .ok (.aaload, 1) := by decide +kernel
theorem dX7_arrive_37 : decode cX7_arrive 37 = .ok (.astore 5, 2) := by decide +kernel
theorem dX7_arrive_39 : decode cX7_arrive 39 = .ok (.aload 5, 2) := by decide +kernel
theorem dX7_arrive_41 : decode cX7_arrive 41 = .ok (.getfield 55, 3) := by decide +kernel
theorem dX7_arrive_44 : decode cX7_arrive 44 = .ok (.ifCond .eq 5, 3) := by decide +kernel
theorem dX7_arrive_47 : decode cX7_arrive 47 = .ok (.iconst (-1), 1) := by decide +kernel
theorem dX7_arrive_48 : decode cX7_arrive 48 = .ok (.ireturn, 1) := by decide +kernel
theorem dX7_arrive_49 : decode cX7_arrive 49 = .ok (.aload 5, 2) := by decide +kernel
theorem dX7_arrive_51 : decode cX7_arrive 51 = .ok (.getfield 59, 3) := by decide +kernel
theorem dX7_arrive_54 : decode cX7_arrive 54 = .ok (.iconst 2, 1) := by decide +kernel
theorem dX7_arrive_55 : decode cX7_arrive 55 = .ok (.if_icmp .eq 6, 3) := by decide +kernel
theorem dX7_arrive_58 : decode cX7_arrive 58 = .ok (.bipush (-2), 2) := by decide +kernel
theorem dX7_arrive_60 : decode cX7_arrive 60 = .ok (.ireturn, 1) := by decide +kernel
theorem dX7_arrive_61 : decode cX7_arrive 61 = .ok (.iload_n 2, 1) := by decide +kernel
theorem dX7_arrive_62 : decode cX7_arrive 62 = .ok (.sipush 520, 3) := by decide +kernel
theorem dX7_arrive_65 : decode cX7_arrive 65 = .ok (.if_icmp .gt 12, 3) := by decide +kernel
theorem dX7_arrive_68 : decode cX7_arrive 68 = .ok (.iload_n 3, 1) := by decide +kernel
theorem dX7_arrive_69 : decode cX7_arrive 69 = .ok (.iload 4, 2) := by decide +kernel
theorem dX7_arrive_71 : decode cX7_arrive 71 = .ok (.invokestatic 62, 3) := by decide +kernel
theorem dX7_arrive_74 : decode cX7_arrive 74 = .ok (.ifCond .ne 6, 3) := by decide +kernel
theorem dX7_arrive_77 : decode cX7_arrive 77 = .ok (.bipush (-3), 2) := by decide +kernel
theorem dX7_arrive_79 : decode cX7_arrive 79 = .ok (.ireturn, 1) := by decide +kernel
theorem dX7_arrive_80 : decode cX7_arrive 80 = .ok (.aload_n 0, 1) := by decide +kernel
theorem dX7_arrive_81 : decode cX7_arrive 81 = .ok (.iload_n 3, 1) := by decide +kernel
theorem dX7_arrive_82 : decode cX7_arrive 82 = .ok (.iload 4, 2) := by decide +kernel
theorem dX7_arrive_84 : decode cX7_arrive 84 = .ok (.invokevirtual 66, 3) := by decide +kernel
theorem dX7_arrive_87 : decode cX7_arrive 87 = .ok (.istore 6, 2) := by decide +kernel
theorem dX7_arrive_89 : decode cX7_arrive 89 = .ok (.iload 6, 2) := by decide +kernel
theorem dX7_arrive_91 : decode cX7_arrive 91 = .ok (.iconst (-1), 1) := by decide +kernel
theorem dX7_arrive_92 : decode cX7_arrive 92 = .ok (.if_icmp .ne 6, 3) := by decide +kernel
theorem dX7_arrive_95 : decode cX7_arrive 95 = .ok (.bipush (-4), 2) := by decide +kernel
theorem dX7_arrive_97 : decode cX7_arrive 97 = .ok (.ireturn, 1) := by decide +kernel
theorem dX7_arrive_98 : decode cX7_arrive 98 = .ok (.aload_n 0, 1) := by decide +kernel
theorem dX7_arrive_99 : decode cX7_arrive 99 = .ok (.getfield 44, 3) := by decide +kernel
theorem dX7_arrive_102 : decode cX7_arrive 102 = .ok (.ifCond .ne 6, 3) := by decide +kernel
theorem dX7_arrive_105 : decode cX7_arrive 105 = .ok (.bipush (-5), 2) := by decide +kernel
theorem dX7_arrive_107 : decode cX7_arrive 107 = .ok (.ireturn, 1) := by decide +kernel
theorem dX7_arrive_108 : decode cX7_arrive 108 = .ok (.aload_n 0, 1) := by decide +kernel
theorem dX7_arrive_109 : decode cX7_arrive 109 = .ok (.getfield 70, 3) := by decide +kernel
theorem dX7_arrive_112 : decode cX7_arrive 112 = .ok (.invokestatic 73, 3) := by decide +kernel
theorem dX7_arrive_115 : decode cX7_arrive 115 = .ok (.istore 7, 2) := by decide +kernel
theorem dX7_arrive_117 : decode cX7_arrive 117 = .ok (.aload_n 0, 1) := by decide +kernel
theorem dX7_arrive_118 : decode cX7_arrive 118 = .ok (.invokevirtual 77, 3) := by decide +kernel
theorem dX7_arrive_121 : decode cX7_arrive 121 = .ok (.bipush 24, 2) := by decide +kernel
theorem dX7_arrive_123 : decode cX7_arrive 123 = .ok (.if_icmp .ge 9, 3) := by decide +kernel
theorem dX7_arrive_126 : decode cX7_arrive 126 = .ok (.iload 7, 2) := by decide +kernel
theorem dX7_arrive_128 : decode cX7_arrive 128 = .ok (.iconst (-1), 1) := by decide +kernel
theorem dX7_arrive_129 : decode cX7_arrive 129 = .ok (.if_icmp .ne 6, 3) := by decide +kernel
theorem dX7_arrive_132 : decode cX7_arrive 132 = .ok (.bipush (-6), 2) := by decide +kernel
theorem dX7_arrive_134 : decode cX7_arrive 134 = .ok (.ireturn, 1) := by decide +kernel
theorem dX7_arrive_135 : decode cX7_arrive 135 = .ok (.aload_n 0, 1) := by decide +kernel
theorem dX7_arrive_136 : decode cX7_arrive 136 = .ok (.iload 7, 2) := by decide +kernel
theorem dX7_arrive_138 : decode cX7_arrive 138 = .ok (.putfield 70, 3) := by decide +kernel
theorem dX7_arrive_141 : decode cX7_arrive 141 = .ok (.aload_n 0, 1) := by decide +kernel
theorem dX7_arrive_142 : decode cX7_arrive 142 = .ok (.getfield 10, 3) := by decide +kernel
theorem dX7_arrive_145 : decode cX7_arrive 145 = .ok (.iload 6, 2) := by decide +kernel
theorem dX7_arrive_147 : decode cX7_arrive 147 = .ok (.invokevirtual 81, 3) := by decide +kernel
theorem dX7_arrive_150 : decode cX7_arrive 150 = .ok (.aload 5, 2) := by decide +kernel
theorem dX7_arrive_152 : decode cX7_arrive 152 = .ok (.iload 7, 2) := by decide +kernel
theorem dX7_arrive_154 : decode cX7_arrive 154 = .ok (.invokestatic 85, 3) := by decide +kernel
theorem dX7_arrive_157 : decode cX7_arrive 157 = .ok (.iload 6, 2) := by decide +kernel
theorem dX7_arrive_159 : decode cX7_arrive 159 = .ok (.invokevirtual 88, 3) := by decide +kernel
theorem dX7_arrive_162 : decode cX7_arrive 162 = .ok (.aload 5, 2) := by decide +kernel
theorem dX7_arrive_164 : decode cX7_arrive 164 = .ok (.getfield 55, 3) := by decide +kernel
theorem dX7_arrive_167 : decode cX7_arrive 167 = .ok (.ireturn, 1) := by decide +kernel
set_option maxRecDepth 20000 in
theorem ggX7_shut_X7_isBay : GoodIn wsX7_shut wsX7_isBay := goodIn_r _ [10] (by decide +kernel) (by decide +kernel)
set_option maxRecDepth 20000 in
theorem gX7_shut_X7_isBay : GoodIn wsX7_shut (va_wsS RX7 48 yX7_isBay wsX7_isBay) := goodIn_app (goodIn_of _ (by decide +kernel)) ggX7_shut_X7_isBay
set_option maxRecDepth 20000 in
theorem ggX7_shut_X1_beginToShut : GoodIn wsX7_shut wsX1_beginToShut := goodIn_r _ [15, 16, 17, 28, 29, 30, 31, 32, 33] (by decide +kernel) (by decide +kernel)
set_option maxRecDepth 20000 in
theorem gX7_shut_X1_beginToShut : GoodIn wsX7_shut (wsV RX7 101 RX1 yX1_beginToShut wsX1_beginToShut) := goodIn_app (goodIn_of _ (by decide +kernel)) ggX7_shut_X1_beginToShut
theorem dX7_shut_0 : decode cX7_shut 0 = .ok (.iload_n 1, 1) := by decide +kernel
theorem dX7_shut_1 : decode cX7_shut 1 = .ok (.invokestatic 48, 3) := by decide +kernel
theorem dX7_shut_4 : decode cX7_shut 4 = .ok (.ifCond .ne 11, 3) := by decide +kernel
theorem dX7_shut_7 : decode cX7_shut 7 = .ok (.new 52, 3) := by decide +kernel
theorem dX7_shut_10 : decode cX7_shut 10 = .ok (.dup, 1) := by decide +kernel
theorem dX7_shut_11 : decode cX7_shut 11 = .ok (.invokespecial 54, 3) := by decide +kernel
theorem dX7_shut_14 : decode cX7_shut 14 = .ok (.athrow, 1) := by decide +kernel
theorem dX7_shut_15 : decode cX7_shut 15 = .ok (.aload_n 0, 1) := by decide +kernel
theorem dX7_shut_16 : decode cX7_shut 16 = .ok (.getfield 18, 3) := by decide +kernel
theorem dX7_shut_19 : decode cX7_shut 19 = .ok (.iload_n 1, 1) := by decide +kernel
theorem dX7_shut_20 : decode cX7_shut 20 = .ok (.aaload, 1) := by decide +kernel
theorem dX7_shut_21 : decode cX7_shut 21 = .ok (.astore_n 2, 1) := by decide +kernel
theorem dX7_shut_22 : decode cX7_shut 22 = .ok (.aload_n 2, 1) := by decide +kernel
theorem dX7_shut_23 : decode cX7_shut 23 = .ok (.getfield 59, 3) := by decide +kernel
theorem dX7_shut_26 : decode cX7_shut 26 = .ok (.iconst 2, 1) := by decide +kernel
theorem dX7_shut_27 : decode cX7_shut 27 = .ok (.if_icmp .ne 24, 3) := by decide +kernel
theorem dX7_shut_30 : decode cX7_shut 30 = .ok (.aload_n 2, 1) := by decide +kernel
theorem dX7_shut_31 : decode cX7_shut 31 = .ok (.getfield 92, 3) := by decide +kernel
theorem dX7_shut_34 : decode cX7_shut 34 = .ok (.ifCond .ne 17, 3) := by decide +kernel
theorem dX7_shut_37 : decode cX7_shut 37 = .ok (.aload_n 2, 1) := by decide +kernel
theorem dX7_shut_38 : decode cX7_shut 38 = .ok (.getfield 95, 3) := by decide +kernel
theorem dX7_shut_41 : decode cX7_shut 41 = .ok (.ifCond .ne 10, 3) := by decide +kernel
theorem dX7_shut_44 : decode cX7_shut 44 = .ok (.aload_n 0, 1) := by decide +kernel
theorem dX7_shut_45 : decode cX7_shut 45 = .ok (.getfield 44, 3) := by decide +kernel
theorem dX7_shut_48 : decode cX7_shut 48 = .ok (.ifCond .ne 11, 3) := by decide +kernel
theorem dX7_shut_51 : decode cX7_shut 51 = .ok (.new 98, 3) := by decide +kernel
theorem dX7_shut_54 : decode cX7_shut 54 = .ok (.dup, 1) := by decide +kernel
theorem dX7_shut_55 : decode cX7_shut 55 = .ok (.invokespecial 100, 3) := by decide +kernel
theorem dX7_shut_58 : decode cX7_shut 58 = .ok (.athrow, 1) := by decide +kernel
theorem dX7_shut_59 : decode cX7_shut 59 = .ok (.aload_n 2, 1) := by decide +kernel
theorem dX7_shut_60 : decode cX7_shut 60 = .ok (.invokevirtual 101, 3) := by decide +kernel
theorem dX7_shut_63 : decode cX7_shut 63 = .ok (.return_, 1) := by decide +kernel
set_option maxRecDepth 20000 in
theorem ggX7_person_X7_isBay : GoodIn wsX7_person wsX7_isBay := goodIn_r _ [9] (by decide +kernel) (by decide +kernel)
set_option maxRecDepth 20000 in
theorem gX7_person_X7_isBay : GoodIn wsX7_person (va_wsS RX7 48 yX7_isBay wsX7_isBay) := goodIn_app (goodIn_of _ (by decide +kernel)) ggX7_person_X7_isBay
theorem dX7_person_0 : decode cX7_person 0 = .ok (.iload_n 1, 1) := by decide +kernel
theorem dX7_person_1 : decode cX7_person 1 = .ok (.invokestatic 48, 3) := by decide +kernel
theorem dX7_person_4 : decode cX7_person 4 = .ok (.ifCond .ne 11, 3) := by decide +kernel
theorem dX7_person_7 : decode cX7_person 7 = .ok (.new 52, 3) := by decide +kernel
theorem dX7_person_10 : decode cX7_person 10 = .ok (.dup, 1) := by decide +kernel
theorem dX7_person_11 : decode cX7_person 11 = .ok (.invokespecial 54, 3) := by decide +kernel
theorem dX7_person_14 : decode cX7_person 14 = .ok (.athrow, 1) := by decide +kernel
theorem dX7_person_15 : decode cX7_person 15 = .ok (.aload_n 0, 1) := by decide +kernel
theorem dX7_person_16 : decode cX7_person 16 = .ok (.getfield 18, 3) := by decide +kernel
theorem dX7_person_19 : decode cX7_person 19 = .ok (.iload_n 1, 1) := by decide +kernel
theorem dX7_person_20 : decode cX7_person 20 = .ok (.aaload, 1) := by decide +kernel
theorem dX7_person_21 : decode cX7_person 21 = .ok (.astore_n 3, 1) := by decide +kernel
theorem dX7_person_22 : decode cX7_person 22 = .ok (.iload_n 2, 1) := by decide +kernel
theorem dX7_person_23 : decode cX7_person 23 = .ok (.ifCond .eq 18, 3) := by decide +kernel
theorem dX7_person_26 : decode cX7_person 26 = .ok (.aload_n 3, 1) := by decide +kernel
theorem dX7_person_27 : decode cX7_person 27 = .ok (.getfield 59, 3) := by decide +kernel
theorem dX7_person_30 : decode cX7_person 30 = .ok (.ifCond .ne 11, 3) := by decide +kernel
theorem dX7_person_33 : decode cX7_person 33 = .ok (.new 98, 3) := by decide +kernel
theorem dX7_person_36 : decode cX7_person 36 = .ok (.dup, 1) := by decide +kernel
theorem dX7_person_37 : decode cX7_person 37 = .ok (.invokespecial 100, 3) := by decide +kernel
theorem dX7_person_40 : decode cX7_person 40 = .ok (.athrow, 1) := by decide +kernel
theorem dX7_person_41 : decode cX7_person 41 = .ok (.aload_n 3, 1) := by decide +kernel
theorem dX7_person_42 : decode cX7_person 42 = .ok (.iload_n 2, 1) := by decide +kernel
theorem dX7_person_43 : decode cX7_person 43 = .ok (.putfield 92, 3) := by decide +kernel
theorem dX7_person_46 : decode cX7_person 46 = .ok (.iload_n 2, 1) := by decide +kernel
theorem dX7_person_47 : decode cX7_person 47 = .ok (.ifCond .eq 15, 3) := by decide +kernel
theorem dX7_person_50 : decode cX7_person 50 = .ok (.aload_n 3, 1) := by decide +kernel
theorem dX7_person_51 : decode cX7_person 51 = .ok (.getfield 59, 3) := by decide +kernel
theorem dX7_person_54 : decode cX7_person 54 = .ok (.iconst 3, 1) := by decide +kernel
theorem dX7_person_55 : decode cX7_person 55 = .ok (.if_icmp .ne 7, 3) := by decide +kernel
theorem dX7_person_58 : decode cX7_person 58 = .ok (.aload_n 3, 1) := by decide +kernel
theorem dX7_person_59 : decode cX7_person 59 = .ok (.invokevirtual 104, 3) := by decide +kernel
theorem dX7_person_62 : decode cX7_person 62 = .ok (.return_, 1) := by decide +kernel
set_option maxRecDepth 20000 in
theorem ggX7_gone_X7_isBay : GoodIn wsX7_gone wsX7_isBay := goodIn_r _ [9] (by decide +kernel) (by decide +kernel)
set_option maxRecDepth 20000 in
theorem gX7_gone_X7_isBay : GoodIn wsX7_gone (va_wsS RX7 48 yX7_isBay wsX7_isBay) := goodIn_app (goodIn_of _ (by decide +kernel)) ggX7_gone_X7_isBay
theorem dX7_gone_0 : decode cX7_gone 0 = .ok (.iload_n 1, 1) := by decide +kernel
theorem dX7_gone_1 : decode cX7_gone 1 = .ok (.invokestatic 48, 3) := by decide +kernel
theorem dX7_gone_4 : decode cX7_gone 4 = .ok (.ifCond .ne 11, 3) := by decide +kernel
theorem dX7_gone_7 : decode cX7_gone 7 = .ok (.new 52, 3) := by decide +kernel
theorem dX7_gone_10 : decode cX7_gone 10 = .ok (.dup, 1) := by decide +kernel
theorem dX7_gone_11 : decode cX7_gone 11 = .ok (.invokespecial 54, 3) := by decide +kernel
theorem dX7_gone_14 : decode cX7_gone 14 = .ok (.athrow, 1) := by decide +kernel
theorem dX7_gone_15 : decode cX7_gone 15 = .ok (.aload_n 0, 1) := by decide +kernel
theorem dX7_gone_16 : decode cX7_gone 16 = .ok (.getfield 18, 3) := by decide +kernel
theorem dX7_gone_19 : decode cX7_gone 19 = .ok (.iload_n 1, 1) := by decide +kernel
theorem dX7_gone_20 : decode cX7_gone 20 = .ok (.aaload, 1) := by decide +kernel
theorem dX7_gone_21 : decode cX7_gone 21 = .ok (.astore_n 2, 1) := by decide +kernel
theorem dX7_gone_22 : decode cX7_gone 22 = .ok (.aload_n 2, 1) := by decide +kernel
theorem dX7_gone_23 : decode cX7_gone 23 = .ok (.getfield 95, 3) := by decide +kernel
theorem dX7_gone_26 : decode cX7_gone 26 = .ok (.ifCond .eq 11, 3) := by decide +kernel
theorem dX7_gone_29 : decode cX7_gone 29 = .ok (.aload_n 2, 1) := by decide +kernel
theorem dX7_gone_30 : decode cX7_gone 30 = .ok (.getfield 59, 3) := by decide +kernel
theorem dX7_gone_33 : decode cX7_gone 33 = .ok (.iconst 2, 1) := by decide +kernel
theorem dX7_gone_34 : decode cX7_gone 34 = .ok (.if_icmp .eq 11, 3) := by decide +kernel
theorem dX7_gone_37 : decode cX7_gone 37 = .ok (.new 98, 3) := by decide +kernel
theorem dX7_gone_40 : decode cX7_gone 40 = .ok (.dup, 1) := by decide +kernel
theorem dX7_gone_41 : decode cX7_gone 41 = .ok (.invokespecial 100, 3) := by decide +kernel
theorem dX7_gone_44 : decode cX7_gone 44 = .ok (.athrow, 1) := by decide +kernel
theorem dX7_gone_45 : decode cX7_gone 45 = .ok (.aload_n 2, 1) := by decide +kernel
theorem dX7_gone_46 : decode cX7_gone 46 = .ok (.getfield 55, 3) := by decide +kernel
theorem dX7_gone_49 : decode cX7_gone 49 = .ok (.istore_n 3, 1) := by decide +kernel
theorem dX7_gone_50 : decode cX7_gone 50 = .ok (.aload_n 2, 1) := by decide +kernel
theorem dX7_gone_51 : decode cX7_gone 51 = .ok (.invokevirtual 107, 3) := by decide +kernel
theorem dX7_gone_54 : decode cX7_gone 54 = .ok (.iload_n 3, 1) := by decide +kernel
theorem dX7_gone_55 : decode cX7_gone 55 = .ok (.ireturn, 1) := by decide +kernel
set_option maxRecDepth 20000 in
theorem ggX7_leave_X7_wasGiven : GoodIn wsX7_leave wsX7_wasGiven := goodIn_r _ [11, 12, 13, 14, 10, 15, 56, 57, 58, 59, 60, 61, 62, 63, 64, 65] (by decide +kernel) (by decide +kernel)
set_option maxRecDepth 20000 in
theorem gX7_leave_X7_wasGiven : GoodIn wsX7_leave (wsV RX7 110 RX7 yX7_wasGiven wsX7_wasGiven) := goodIn_app (goodIn_of _ (by decide +kernel)) ggX7_leave_X7_wasGiven
set_option maxRecDepth 20000 in
theorem ggX7_leave_X7_allOrders : GoodIn wsX7_leave wsX7_allOrders := goodIn_r _ [32, 6, 33, 34, 35, 36, 37, 38, 39, 40, 41, 56, 57, 58, 59, 60, 61, 62, 63, 64, 65, 68, 69, 70, 71, 72, 73, 74, 75, 76, 77] (by decide +kernel) (by decide +kernel)
set_option maxRecDepth 20000 in
theorem gX7_leave_X7_allOrders : GoodIn wsX7_leave (wsV RX7 77 RX7 yX7_allOrders wsX7_allOrders) := goodIn_app (goodIn_of _ (by decide +kernel)) ggX7_leave_X7_allOrders
theorem dX7_leave_0 : decode cX7_leave 0 = .ok (.aload_n 0, 1) := by decide +kernel
theorem dX7_leave_1 : decode cX7_leave 1 = .ok (.iload_n 1, 1) := by decide +kernel
theorem dX7_leave_2 : decode cX7_leave 2 = .ok (.invokevirtual 110, 3) := by decide +kernel
theorem dX7_leave_5 : decode cX7_leave 5 = .ok (.ifCond .ne 11, 3) := by decide +kernel
theorem dX7_leave_8 : decode cX7_leave 8 = .ok (.new 52, 3) := by decide +kernel
theorem dX7_leave_11 : decode cX7_leave 11 = .ok (.dup, 1) := by decide +kernel
theorem dX7_leave_12 : decode cX7_leave 12 = .ok (.invokespecial 54, 3) := by decide +kernel
theorem dX7_leave_15 : decode cX7_leave 15 = .ok (.athrow, 1) := by decide +kernel
theorem dX7_leave_16 : decode cX7_leave 16 = .ok (.aload_n 0, 1) := by decide +kernel
theorem dX7_leave_17 : decode cX7_leave 17 = .ok (.getfield 10, 3) := by decide +kernel
theorem dX7_leave_20 : decode cX7_leave 20 = .ok (.iload_n 1, 1) := by decide +kernel
theorem dX7_leave_21 : decode cX7_leave 21 = .ok (.invokevirtual 113, 3) := by decide +kernel
theorem dX7_leave_24 : decode cX7_leave 24 = .ok (.iconst (-1), 1) := by decide +kernel
theorem dX7_leave_25 : decode cX7_leave 25 = .ok (.if_icmp .eq 23, 3) := by decide +kernel
theorem dX7_leave_28 : decode cX7_leave 28 = .ok (.aload_n 0, 1) := by decide +kernel
theorem dX7_leave_29 : decode cX7_leave 29 = .ok (.getfield 26, 3) := by decide +kernel
theorem dX7_leave_32 : decode cX7_leave 32 = .ok (.iload_n 1, 1) := by decide +kernel
theorem dX7_leave_33 : decode cX7_leave 33 = .ok (.invokevirtual 116, 3) := by decide +kernel
theorem dX7_leave_36 : decode cX7_leave 36 = .ok (.ifCond .ne 12, 3) := by decide +kernel
theorem dX7_leave_39 : decode cX7_leave 39 = .ok (.aload_n 0, 1) := by decide +kernel
theorem dX7_leave_40 : decode cX7_leave 40 = .ok (.invokevirtual 77, 3) := by decide +kernel
theorem dX7_leave_43 : decode cX7_leave 43 = .ok (.bipush 24, 2) := by decide +kernel
theorem dX7_leave_45 : decode cX7_leave 45 = .ok (.if_icmp .lt 11, 3) := by decide +kernel
theorem dX7_leave_48 : decode cX7_leave 48 = .ok (.new 98, 3) := by decide +kernel
theorem dX7_leave_51 : decode cX7_leave 51 = .ok (.dup, 1) := by decide +kernel
theorem dX7_leave_52 : decode cX7_leave 52 = .ok (.invokespecial 100, 3) := by decide +kernel
theorem dX7_leave_55 : decode cX7_leave 55 = .ok (.athrow, 1) := by decide +kernel
theorem dX7_leave_56 : decode cX7_leave 56 = .ok (.aload_n 0, 1) := by decide +kernel
theorem dX7_leave_57 : decode cX7_leave 57 = .ok (.getfield 26, 3) := by decide +kernel
theorem dX7_leave_60 : decode cX7_leave 60 = .ok (.iconst 1, 1) := by decide +kernel
theorem dX7_leave_61 : decode cX7_leave 61 = .ok (.invokevirtual 119, 3) := by decide +kernel
theorem dX7_leave_64 : decode cX7_leave 64 = .ok (.aload_n 0, 1) := by decide +kernel
theorem dX7_leave_65 : decode cX7_leave 65 = .ok (.getfield 26, 3) := by decide +kernel
theorem dX7_leave_68 : decode cX7_leave 68 = .ok (.iconst 0, 1) := by decide +kernel
theorem dX7_leave_69 : decode cX7_leave 69 = .ok (.invokevirtual 119, 3) := by decide +kernel
theorem dX7_leave_72 : decode cX7_leave 72 = .ok (.if_icmp .ge 7, 3) := by decide +kernel
theorem dX7_leave_75 : decode cX7_leave 75 = .ok (.iconst 1, 1) := by decide +kernel
theorem dX7_leave_76 : decode cX7_leave 76 = .ok (.goto 4, 3) := by decide +kernel
theorem dX7_leave_79 : decode cX7_leave 79 = .ok (.iconst 0, 1) := by decide +kernel
theorem dX7_leave_80 : decode cX7_leave 80 = .ok (.istore_n 2, 1) := by decide +kernel
theorem dX7_leave_81 : decode cX7_leave 81 = .ok (.aload_n 0, 1) := by decide +kernel
theorem dX7_leave_82 : decode cX7_leave 82 = .ok (.getfield 26, 3) := by decide +kernel
theorem dX7_leave_85 : decode cX7_leave 85 = .ok (.iload_n 1, 1) := by decide +kernel
theorem dX7_leave_86 : decode cX7_leave 86 = .ok (.iload_n 2, 1) := by decide +kernel
theorem dX7_leave_87 : decode cX7_leave 87 = .ok (.iconst (-1), 1) := by decide +kernel
theorem dX7_leave_88 : decode cX7_leave 88 = .ok (.invokevirtual 122, 3) := by decide +kernel
theorem dX7_leave_91 : decode cX7_leave 91 = .ok (.iload_n 2, 1) := by decide +kernel
theorem dX7_leave_92 : decode cX7_leave 92 = .ok (.ireturn, 1) := by decide +kernel
theorem dX7_jam_0 : decode cX7_jam 0 = .ok (.iload_n 1, 1) := by decide +kernel
theorem dX7_jam_1 : decode cX7_jam 1 = .ok (.ifCond .lt 8, 3) := by decide +kernel
theorem dX7_jam_4 : decode cX7_jam 4 = .ok (.iload_n 1, 1) := by decide +kernel
theorem dX7_jam_5 : decode cX7_jam 5 = .ok (.iconst 4, 1) := by decide +kernel
theorem dX7_jam_6 : decode cX7_jam 6 = .ok (.if_icmp .lt 11, 3) := by decide +kernel
theorem dX7_jam_9 : decode cX7_jam 9 = .ok (.new 52, 3) := by decide +kernel
theorem dX7_jam_12 : decode cX7_jam 12 = .ok (.dup, 1) := by decide +kernel
theorem dX7_jam_13 : decode cX7_jam 13 = .ok (.invokespecial 54, 3) := by decide +kernel
theorem dX7_jam_16 : decode cX7_jam 16 = .ok (.athrow, 1) := by decide +kernel
theorem dX7_jam_17 : decode cX7_jam 17 = .ok (.aload_n 0, 1) := by decide +kernel
theorem dX7_jam_18 : decode cX7_jam 18 = .ok (.getfield 10, 3) := by decide +kernel
theorem dX7_jam_21 : decode cX7_jam 21 = .ok (.getfield 126, 3) := by decide +kernel
theorem dX7_jam_24 : decode cX7_jam 24 = .ok (.iload_n 1, 1) := by decide +kernel
theorem dX7_jam_25 : decode cX7_jam 25 = .ok (.iload_n 2, 1) := by decide +kernel
theorem dX7_jam_26 : decode cX7_jam 26 = .ok (.bastore, 1) := by decide +kernel
theorem dX7_jam_27 : decode cX7_jam 27 = .ok (.return_, 1) := by decide +kernel
theorem dX7_power_0 : decode cX7_power 0 = .ok (.aload_n 0, 1) := by decide +kernel
theorem dX7_power_1 : decode cX7_power 1 = .ok (.getfield 44, 3) := by decide +kernel
theorem dX7_power_4 : decode cX7_power 4 = .ok (.iload_n 1, 1) := by decide +kernel
theorem dX7_power_5 : decode cX7_power 5 = .ok (.if_icmp .ne 11, 3) := by decide +kernel
theorem dX7_power_8 : decode cX7_power 8 = .ok (.new 98, 3) := by decide +kernel
theorem dX7_power_11 : decode cX7_power 11 = .ok (.dup, 1) := by decide +kernel
theorem dX7_power_12 : decode cX7_power 12 = .ok (.invokespecial 100, 3) := by decide +kernel
theorem dX7_power_15 : decode cX7_power 15 = .ok (.athrow, 1) := by decide +kernel
theorem dX7_power_16 : decode cX7_power 16 = .ok (.aload_n 0, 1) := by decide +kernel
theorem dX7_power_17 : decode cX7_power 17 = .ok (.iload_n 1, 1) := by decide +kernel
theorem dX7_power_18 : decode cX7_power 18 = .ok (.putfield 44, 3) := by decide +kernel
theorem dX7_power_21 : decode cX7_power 21 = .ok (.iload_n 1, 1) := by decide +kernel
theorem dX7_power_22 : decode cX7_power 22 = .ok (.ifCond .eq 8, 3) := by decide +kernel
theorem dX7_power_25 : decode cX7_power 25 = .ok (.aload_n 0, 1) := by decide +kernel
theorem dX7_power_26 : decode cX7_power 26 = .ok (.iconst 5, 1) := by decide +kernel
theorem dX7_power_27 : decode cX7_power 27 = .ok (.putfield 130, 3) := by decide +kernel
theorem dX7_power_30 : decode cX7_power 30 = .ok (.return_, 1) := by decide +kernel
set_option maxRecDepth 20000 in
theorem ggX7_tick_X7_passOneTick : GoodIn wsX7_tick wsX7_passOneTick := goodIn_r _ [8, 3, 9, 10, 11, 12, 13, 14, 7, 15, 16, 17, 18, 19, 20, 21, 22, 23, 24, 25, 26, 27, 28, 29, 30, 31, 32, 33, 34, 35, 36, 37, 38, 39, 40, 41, 42, 43, 44, 45, 46, 47, 48, 49, 50, 51, 52, 53, 54, 55, 56, 57, 58, 59, 60, 61, 62, 63, 64, 65, 66, 67, 68, 69, 70, 71, 72, 73, 74, 75, 76, 77, 78, 79, 80, 81, 82, 83, 84, 85, 86, 87, 88, 89, 90, 91, 92, 93, 94, 95, 96, 97, 98, 99, 100, 101, 102, 103, 104, 105, 106, 107, 108, 109, 110, 111, 112, 113, 114, 115, 116, 117, 118, 119, 120, 121, 122, 123, 124, 125, 126, 127, 128, 129, 130, 131, 132, 133, 134, 135, 136, 137, 138, 139, 140, 141, 142, 143, 144, 145, 146, 147, 148, 149, 150, 151, 152, 153, 154, 155, 156, 157, 158, 159, 160, 161, 162, 163, 164, 165, 166, 167, 168, 169, 170, 171, 172, 173, 174, 175, 176, 177, 178, 179, 180, 181, 182, 183, 184, 185, 186, 187, 188, 189, 190, 191, 192, 193, 194, 195, 196, 197, 198, 199, 200, 201, 202, 203, 204, 205, 206, 207, 208, 209, 210, 211, 212, 213, 214, 215, 216, 217, 218, 219, 220, 221, 222, 223, 224, 225, 226, 227, 228, 229, 230, 231, 232, 233, 234, 235, 236, 237, 238, 239, 240, 241, 242, 243, 244, 245, 246, 247, 248, 249, 250, 251, 252] (by decide +kernel) (by decide +kernel)
set_option maxRecDepth 20000 in
theorem gX7_tick_X7_passOneTick : GoodIn wsX7_tick (wsV RX7 133 RX7 yX7_passOneTick wsX7_passOneTick) := goodIn_app (goodIn_of _ (by decide +kernel)) ggX7_tick_X7_passOneTick
theorem dX7_tick_0 : decode cX7_tick 0 = .ok (.iload_n 1, 1) := by decide +kernel
theorem dX7_tick_1 : decode cX7_tick 1 = .ok (.iconst 1, 1) := by decide +kernel
theorem dX7_tick_2 : decode cX7_tick 2 = .ok (.if_icmp .lt 10, 3) := by decide +kernel
theorem dX7_tick_5 : decode cX7_tick 5 = .ok (.iload_n 1, 1) := by decide +kernel
theorem dX7_tick_6 : decode cX7_tick 6 = .ok (.sipush 500, 3) := by decide +kernel
theorem dX7_tick_9 : decode cX7_tick 9 = .ok (.if_icmp .le 11, 3) := by decide +kernel
theorem dX7_tick_12 : decode cX7_tick 12 = .ok (.new 52, 3) := by decide +kernel
theorem dX7_tick_15 : decode cX7_tick 15 = .ok (.dup, 1) := by decide +kernel
theorem dX7_tick_16 : decode cX7_tick 16 = .ok (.invokespecial 54, 3) := by decide +kernel
theorem dX7_tick_19 : decode cX7_tick 19 = .ok (.athrow, 1) := by decide +kernel
theorem dX7_tick_20 : decode cX7_tick 20 = .ok (.iconst 0, 1) := by decide +kernel
theorem dX7_tick_21 : decode cX7_tick 21 = .ok (.istore_n 2, 1) := by decide +kernel
theorem dX7_tick_22 : decode cX7_tick 22 = .ok (.iload_n 2, 1) := by decide +kernel
theorem dX7_tick_23 : decode cX7_tick 23 = .ok (.iload_n 1, 1) := by decide +kernel
theorem dX7_tick_24 : decode cX7_tick 24 = .ok (.if_icmp .ge 13, 3) := by decide +kernel
theorem dX7_tick_27 : decode cX7_tick 27 = .ok (.aload_n 0, 1) := by decide +kernel
theorem dX7_tick_28 : decode cX7_tick 28 = .ok (.invokevirtual 133, 3) := by decide +kernel
theorem dX7_tick_31 : decode cX7_tick 31 = .ok (.iinc 2 1, 3) := by decide +kernel
theorem dX7_tick_34 : decode cX7_tick 34 = .ok (.goto (-12), 3) := by decide +kernel
theorem dX7_tick_37 : decode cX7_tick 37 = .ok (.aload_n 0, 1) := by decide +kernel
theorem dX7_tick_38 : decode cX7_tick 38 = .ok (.getfield 136, 3) := by decide +kernel
theorem dX7_tick_41 : decode cX7_tick 41 = .ok (.ireturn, 1) := by decide +kernel
theorem dX7_cell_0 : decode cX7_cell 0 = .ok (.iload_n 1, 1) := by decide +kernel
theorem dX7_cell_1 : decode cX7_cell 1 = .ok (.ifCond .lt 9, 3) := by decide +kernel
theorem dX7_cell_4 : decode cX7_cell 4 = .ok (.iload_n 1, 1) := by decide +kernel
theorem dX7_cell_5 : decode cX7_cell 5 = .ok (.bipush 96, 2) := by decide +kernel
theorem dX7_cell_7 : decode cX7_cell 7 = .ok (.if_icmp .lt 11, 3) := by decide +kernel
theorem dX7_cell_10 : decode cX7_cell 10 = .ok (.new 52, 3) := by decide +kernel
theorem dX7_cell_13 : decode cX7_cell 13 = .ok (.dup, 1) := by decide +kernel
theorem dX7_cell_14 : decode cX7_cell 14 = .ok (.invokespecial 54, 3) := by decide +kernel
theorem dX7_cell_17 : decode cX7_cell 17 = .ok (.athrow, 1) := by decide +kernel
theorem dX7_cell_18 : decode cX7_cell 18 = .ok (.aload_n 0, 1) := by decide +kernel
theorem dX7_cell_19 : decode cX7_cell 19 = .ok (.getfield 10, 3) := by decide +kernel
theorem dX7_cell_22 : decode cX7_cell 22 = .ok (.getfield 139, 3) := by decide +kernel
theorem dX7_cell_25 : decode cX7_cell 25 = .ok (.iload_n 1, 1) := by decide +kernel
theorem dX7_cell_26 : decode cX7_cell 26 = .ok (.iaload, 1) := by decide +kernel
theorem dX7_cell_27 : decode cX7_cell 27 = .ok (.ireturn, 1) := by decide +kernel
set_option maxRecDepth 20000 in
theorem ggX7_plan_X7_wasGiven : GoodIn wsX7_plan wsX7_wasGiven := goodIn_r _ [13, 14, 15, 16, 12, 17, 57, 58, 59, 60, 61, 62, 63, 64, 65, 66] (by decide +kernel) (by decide +kernel)
set_option maxRecDepth 20000 in
theorem gX7_plan_X7_wasGiven : GoodIn wsX7_plan (wsV RX7 110 RX7 yX7_wasGiven wsX7_wasGiven) := goodIn_app (goodIn_of _ (by decide +kernel)) ggX7_plan_X7_wasGiven
theorem dX7_plan_0 : decode cX7_plan 0 = .ok (.aload_n 0, 1) := by decide +kernel
theorem dX7_plan_1 : decode cX7_plan 1 = .ok (.iload_n 1, 1) := by decide +kernel
theorem dX7_plan_2 : decode cX7_plan 2 = .ok (.invokevirtual 110, 3) := by decide +kernel
theorem dX7_plan_5 : decode cX7_plan 5 = .ok (.ifCond .ne 11, 3) := by decide +kernel
theorem dX7_plan_8 : decode cX7_plan 8 = .ok (.new 52, 3) := by decide +kernel
theorem dX7_plan_11 : decode cX7_plan 11 = .ok (.dup, 1) := by decide +kernel
theorem dX7_plan_12 : decode cX7_plan 12 = .ok (.invokespecial 54, 3) := by decide +kernel
theorem dX7_plan_15 : decode cX7_plan 15 = .ok (.athrow, 1) := by decide +kernel
theorem dX7_plan_16 : decode cX7_plan 16 = .ok (.aload_n 0, 1) := by decide +kernel
theorem dX7_plan_17 : decode cX7_plan 17 = .ok (.getfield 10, 3) := by decide +kernel
theorem dX7_plan_20 : decode cX7_plan 20 = .ok (.iload_n 1, 1) := by decide +kernel
theorem dX7_plan_21 : decode cX7_plan 21 = .ok (.invokevirtual 113, 3) := by decide +kernel
theorem dX7_plan_24 : decode cX7_plan 24 = .ok (.istore_n 3, 1) := by decide +kernel
theorem dX7_plan_25 : decode cX7_plan 25 = .ok (.iload_n 3, 1) := by decide +kernel
theorem dX7_plan_26 : decode cX7_plan 26 = .ok (.iconst (-1), 1) := by decide +kernel
theorem dX7_plan_27 : decode cX7_plan 27 = .ok (.if_icmp .ne 11, 3) := by decide +kernel
theorem dX7_plan_30 : decode cX7_plan 30 = .ok (.new 98, 3) := by decide +kernel
theorem dX7_plan_33 : decode cX7_plan 33 = .ok (.dup, 1) := by decide +kernel
theorem dX7_plan_34 : decode cX7_plan 34 = .ok (.invokespecial 100, 3) := by decide +kernel
theorem dX7_plan_37 : decode cX7_plan 37 = .ok (.athrow, 1) := by decide +kernel
theorem dX7_plan_38 : decode cX7_plan 38 = .ok (.aload_n 0, 1) := by decide +kernel
theorem dX7_plan_39 : decode cX7_plan 39 = .ok (.getfield 40, 3) := by decide +kernel
theorem dX7_plan_42 : decode cX7_plan 42 = .ok (.aload_n 0, 1) := by decide +kernel
theorem dX7_plan_43 : decode cX7_plan 43 = .ok (.getfield 10, 3) := by decide +kernel
theorem dX7_plan_46 : decode cX7_plan 46 = .ok (.iload_n 3, 1) := by decide +kernel
theorem dX7_plan_47 : decode cX7_plan 47 = .ok (.invokevirtual 143, 3) := by decide +kernel
theorem dX7_plan_50 : decode cX7_plan 50 = .ok (.pop, 1) := by decide +kernel
theorem dX7_plan_51 : decode cX7_plan 51 = .ok (.iload_n 2, 1) := by decide +kernel
theorem dX7_plan_52 : decode cX7_plan 52 = .ok (.iconst (-1), 1) := by decide +kernel
theorem dX7_plan_53 : decode cX7_plan 53 = .ok (.if_icmp .ne 11, 3) := by decide +kernel
theorem dX7_plan_56 : decode cX7_plan 56 = .ok (.aload_n 0, 1) := by decide +kernel
theorem dX7_plan_57 : decode cX7_plan 57 = .ok (.getfield 40, 3) := by decide +kernel
theorem dX7_plan_60 : decode cX7_plan 60 = .ok (.getfield 147, 3) := by decide +kernel
theorem dX7_plan_63 : decode cX7_plan 63 = .ok (.ireturn, 1) := by decide +kernel
theorem dX7_plan_64 : decode cX7_plan 64 = .ok (.iload_n 2, 1) := by decide +kernel
theorem dX7_plan_65 : decode cX7_plan 65 = .ok (.ifCond .lt 14, 3) := by decide +kernel
theorem dX7_plan_68 : decode cX7_plan 68 = .ok (.iload_n 2, 1) := by decide +kernel
theorem dX7_plan_69 : decode cX7_plan 69 = .ok (.aload_n 0, 1) := by decide +kernel
theorem dX7_plan_70 : decode cX7_plan 70 = .ok (.getfield 40, 3) := by decide +kernel
theorem dX7_plan_73 : decode cX7_plan 73 = .ok (.getfield 147, 3) := by decide +kernel
theorem dX7_plan_76 : decode cX7_plan 76 = .ok (.if_icmp .lt 11, 3) := by decide +kernel
theorem dX7_plan_79 : decode cX7_plan 79 = .ok (.new 150, 3) := by decide +kernel
theorem dX7_plan_82 : decode cX7_plan 82 = .ok (.dup, 1) := by decide +kernel
theorem dX7_plan_83 : decode cX7_plan 83 = .ok (.invokespecial 152, 3) := by decide +kernel
theorem dX7_plan_86 : decode cX7_plan 86 = .ok (.athrow, 1) := by decide +kernel
theorem dX7_plan_87 : decode cX7_plan 87 = .ok (.bipush 100, 2) := by decide +kernel
theorem dX7_plan_89 : decode cX7_plan 89 = .ok (.aload_n 0, 1) := by decide +kernel
theorem dX7_plan_90 : decode cX7_plan 90 = .ok (.getfield 40, 3) := by decide +kernel
theorem dX7_plan_93 : decode cX7_plan 93 = .ok (.getfield 153, 3) := by decide +kernel
theorem dX7_plan_96 : decode cX7_plan 96 = .ok (.iload_n 2, 1) := by decide +kernel
theorem dX7_plan_97 : decode cX7_plan 97 = .ok (.iaload, 1) := by decide +kernel
theorem dX7_plan_98 : decode cX7_plan 98 = .ok (.imul, 1) := by decide +kernel
theorem dX7_plan_99 : decode cX7_plan 99 = .ok (.aload_n 0, 1) := by decide +kernel
theorem dX7_plan_100 : decode cX7_plan 100 = .ok (.getfield 40, 3) := by decide +kernel
theorem dX7_plan_103 : decode cX7_plan 103 = .ok (.getfield 156, 3) := by decide +kernel
theorem dX7_plan_106 : decode cX7_plan 106 = .ok (.iload_n 2, 1) := by decide +kernel
theorem dX7_plan_107 : decode cX7_plan 107 = .ok (.iaload, 1) := by decide +kernel
theorem dX7_plan_108 : decode cX7_plan 108 = .ok (.iadd, 1) := by decide +kernel
theorem dX7_plan_109 : decode cX7_plan 109 = .ok (.ireturn, 1) := by decide +kernel
set_option maxRecDepth 20000 in
theorem ggX7_bay_X7_isBay : GoodIn wsX7_bay wsX7_isBay := goodIn_r _ [8] (by decide +kernel) (by decide +kernel)
set_option maxRecDepth 20000 in
theorem gX7_bay_X7_isBay : GoodIn wsX7_bay (va_wsS RX7 48 yX7_isBay wsX7_isBay) := goodIn_app (goodIn_of _ (by decide +kernel)) ggX7_bay_X7_isBay
set_option maxRecDepth 20000 in
theorem ggX7_bay_X3_countFor : GoodIn wsX7_bay wsX3_countFor := goodIn_r _ [13, 14, 15, 32, 33, 34, 35] (by decide +kernel) (by decide +kernel)
set_option maxRecDepth 20000 in
theorem gX7_bay_X3_countFor : GoodIn wsX7_bay (wsV RX7 159 RX3 yX3_countFor wsX3_countFor) := goodIn_app (goodIn_of _ (by decide +kernel)) ggX7_bay_X3_countFor
theorem dX7_bay_0 : decode cX7_bay 0 = .ok (.iload_n 1, 1) := by decide +kernel
theorem dX7_bay_1 : decode cX7_bay 1 = .ok (.invokestatic 48, 3) := by decide +kernel
theorem dX7_bay_4 : decode cX7_bay 4 = .ok (.ifCond .ne 11, 3) := by decide +kernel
theorem dX7_bay_7 : decode cX7_bay 7 = .ok (.new 52, 3) := by decide +kernel
theorem dX7_bay_10 : decode cX7_bay 10 = .ok (.dup, 1) := by decide +kernel
theorem dX7_bay_11 : decode cX7_bay 11 = .ok (.invokespecial 54, 3) := by decide +kernel
theorem dX7_bay_14 : decode cX7_bay 14 = .ok (.athrow, 1) := by decide +kernel
theorem dX7_bay_15 : decode cX7_bay 15 = .ok (.aload_n 0, 1) := by decide +kernel
theorem dX7_bay_16 : decode cX7_bay 16 = .ok (.getfield 18, 3) := by decide +kernel
theorem dX7_bay_19 : decode cX7_bay 19 = .ok (.iload_n 1, 1) := by decide +kernel
theorem dX7_bay_20 : decode cX7_bay 20 = .ok (.aaload, 1) := by decide +kernel
theorem dX7_bay_21 : decode cX7_bay 21 = .ok (.astore_n 3, 1) := by decide +kernel
theorem dX7_bay_22 : decode cX7_bay 22 = .ok (.iload_n 2, 1) := by decide +kernel
theorem dX7_bay_23 : decode cX7_bay 23 = .ok (.tableswitch 78 0 4 #[33, 38, 51, 56, 69], 33) := by decide +kernel
theorem dX7_bay_56 : decode cX7_bay 56 = .ok (.aload_n 3, 1) := by decide +kernel
theorem dX7_bay_57 : decode cX7_bay 57 = .ok (.getfield 59, 3) := by decide +kernel
theorem dX7_bay_60 : decode cX7_bay 60 = .ok (.ireturn, 1) := by decide +kernel
theorem dX7_bay_61 : decode cX7_bay 61 = .ok (.aload_n 3, 1) := by decide +kernel
theorem dX7_bay_62 : decode cX7_bay 62 = .ok (.getfield 92, 3) := by decide +kernel
theorem dX7_bay_65 : decode cX7_bay 65 = .ok (.ifCond .eq 7, 3) := by decide +kernel
theorem dX7_bay_68 : decode cX7_bay 68 = .ok (.iconst 1, 1) := by decide +kernel
theorem dX7_bay_69 : decode cX7_bay 69 = .ok (.goto 4, 3) := by decide +kernel
theorem dX7_bay_72 : decode cX7_bay 72 = .ok (.iconst 0, 1) := by decide +kernel
theorem dX7_bay_73 : decode cX7_bay 73 = .ok (.ireturn, 1) := by decide +kernel
theorem dX7_bay_74 : decode cX7_bay 74 = .ok (.aload_n 3, 1) := by decide +kernel
theorem dX7_bay_75 : decode cX7_bay 75 = .ok (.getfield 55, 3) := by decide +kernel
theorem dX7_bay_78 : decode cX7_bay 78 = .ok (.ireturn, 1) := by decide +kernel
theorem dX7_bay_79 : decode cX7_bay 79 = .ok (.aload_n 3, 1) := by decide +kernel
theorem dX7_bay_80 : decode cX7_bay 80 = .ok (.getfield 95, 3) := by decide +kernel
theorem dX7_bay_83 : decode cX7_bay 83 = .ok (.ifCond .eq 7, 3) := by decide +kernel
theorem dX7_bay_86 : decode cX7_bay 86 = .ok (.iconst 1, 1) := by decide +kernel
theorem dX7_bay_87 : decode cX7_bay 87 = .ok (.goto 4, 3) := by decide +kernel
theorem dX7_bay_90 : decode cX7_bay 90 = .ok (.iconst 0, 1) := by decide +kernel
theorem dX7_bay_91 : decode cX7_bay 91 = .ok (.ireturn, 1) := by decide +kernel
theorem dX7_bay_92 : decode cX7_bay 92 = .ok (.aload_n 0, 1) := by decide +kernel
theorem dX7_bay_93 : decode cX7_bay 93 = .ok (.getfield 26, 3) := by decide +kernel
theorem dX7_bay_96 : decode cX7_bay 96 = .ok (.iload_n 1, 1) := by decide +kernel
theorem dX7_bay_97 : decode cX7_bay 97 = .ok (.invokevirtual 159, 3) := by decide +kernel
theorem dX7_bay_100 : decode cX7_bay 100 = .ok (.ireturn, 1) := by decide +kernel
theorem dX7_bay_101 : decode cX7_bay 101 = .ok (.new 52, 3) := by decide +kernel
theorem dX7_bay_104 : decode cX7_bay 104 = .ok (.dup, 1) := by decide +kernel
theorem dX7_bay_105 : decode cX7_bay 105 = .ok (.invokespecial 54, 3) := by decide +kernel
theorem dX7_bay_108 : decode cX7_bay 108 = .ok (.athrow, 1) := by decide +kernel
set_option maxRecDepth 20000 in
theorem ggX7_look_X2_isIdle : GoodIn wsX7_look wsX2_isIdle := goodIn_r _ [12, 13, 38, 39, 40, 41, 42] (by decide +kernel) (by decide +kernel)
set_option maxRecDepth 20000 in
theorem gX7_look_X2_isIdle : GoodIn wsX7_look (wsV RX7 163 RX2 yX2_isIdle wsX2_isIdle) := goodIn_app (goodIn_of _ (by decide +kernel)) ggX7_look_X2_isIdle
set_option maxRecDepth 20000 in
theorem ggX7_look_X5_countCars : GoodIn wsX7_look wsX5_countCars := goodIn_r _ [18, 19, 20, 21, 17, 22, 23, 43, 44] (by decide +kernel) (by decide +kernel)
set_option maxRecDepth 20000 in
theorem gX7_look_X5_countCars : GoodIn wsX7_look (wsV RX7 182 RX5 yX5_countCars wsX5_countCars) := goodIn_app (goodIn_of _ (by decide +kernel)) ggX7_look_X5_countCars
theorem dX7_look_0 : decode cX7_look 0 = .ok (.iload_n 1, 1) := by decide +kernel
theorem dX7_look_1 : decode cX7_look 1 = .ok (.tableswitch 115 0 6 #[43, 51, 81, 89, 97, 102, 110], 43) := by decide +kernel
theorem dX7_look_44 : decode cX7_look 44 = .ok (.aload_n 0, 1) := by decide +kernel
theorem dX7_look_45 : decode cX7_look 45 = .ok (.getfield 26, 3) := by decide +kernel
theorem dX7_look_48 : decode cX7_look 48 = .ok (.getfield 162, 3) := by decide +kernel
theorem dX7_look_51 : decode cX7_look 51 = .ok (.ireturn, 1) := by decide +kernel
theorem dX7_look_52 : decode cX7_look 52 = .ok (.aload_n 0, 1) := by decide +kernel
theorem dX7_look_53 : decode cX7_look 53 = .ok (.getfield 33, 3) := by decide +kernel
theorem dX7_look_56 : decode cX7_look 56 = .ok (.invokevirtual 163, 3) := by decide +kernel
theorem dX7_look_59 : decode cX7_look 59 = .ok (.ifCond .eq 7, 3) := by decide +kernel
theorem dX7_look_62 : decode cX7_look 62 = .ok (.iconst 0, 1) := by decide +kernel
theorem dX7_look_63 : decode cX7_look 63 = .ok (.goto 18, 3) := by decide +kernel
theorem dX7_look_66 : decode cX7_look 66 = .ok (.aload_n 0, 1) := by decide +kernel
theorem dX7_look_67 : decode cX7_look 67 = .ok (.getfield 26, 3) := by decide +kernel
theorem dX7_look_70 : decode cX7_look 70 = .ok (.getfield 167, 3) := by decide +kernel
theorem dX7_look_73 : decode cX7_look 73 = .ok (.aload_n 0, 1) := by decide +kernel
theorem dX7_look_74 : decode cX7_look 74 = .ok (.getfield 33, 3) := by decide +kernel
theorem dX7_look_77 : decode cX7_look 77 = .ok (.getfield 170, 3) := by decide +kernel
theorem dX7_look_80 : decode cX7_look 80 = .ok (.iaload, 1) := by decide +kernel
theorem dX7_look_81 : decode cX7_look 81 = .ok (.ireturn, 1) := by decide +kernel
theorem dX7_look_82 : decode cX7_look 82 = .ok (.aload_n 0, 1) := by decide +kernel
theorem dX7_look_83 : decode cX7_look 83 = .ok (.getfield 33, 3) := by decide +kernel
theorem dX7_look_86 : decode cX7_look 86 = .ok (.getfield 173, 3) := by decide +kernel
theorem dX7_look_89 : decode cX7_look 89 = .ok (.ireturn, 1) := by decide +kernel
theorem dX7_look_90 : decode cX7_look 90 = .ok (.aload_n 0, 1) := by decide +kernel
theorem dX7_look_91 : decode cX7_look 91 = .ok (.getfield 33, 3) := by decide +kernel
theorem dX7_look_94 : decode cX7_look 94 = .ok (.getfield 176, 3) := by decide +kernel
theorem dX7_look_97 : decode cX7_look 97 = .ok (.ireturn, 1) := by decide +kernel
theorem dX7_look_98 : decode cX7_look 98 = .ok (.aload_n 0, 1) := by decide +kernel
theorem dX7_look_99 : decode cX7_look 99 = .ok (.getfield 179, 3) := by decide +kernel
theorem dX7_look_102 : decode cX7_look 102 = .ok (.ireturn, 1) := by decide +kernel
theorem dX7_look_103 : decode cX7_look 103 = .ok (.aload_n 0, 1) := by decide +kernel
theorem dX7_look_104 : decode cX7_look 104 = .ok (.getfield 10, 3) := by decide +kernel
theorem dX7_look_107 : decode cX7_look 107 = .ok (.invokevirtual 182, 3) := by decide +kernel
theorem dX7_look_110 : decode cX7_look 110 = .ok (.ireturn, 1) := by decide +kernel
theorem dX7_look_111 : decode cX7_look 111 = .ok (.aload_n 0, 1) := by decide +kernel
theorem dX7_look_112 : decode cX7_look 112 = .ok (.getfield 70, 3) := by decide +kernel
theorem dX7_look_115 : decode cX7_look 115 = .ok (.ireturn, 1) := by decide +kernel
theorem dX7_look_116 : decode cX7_look 116 = .ok (.new 52, 3) := by decide +kernel
theorem dX7_look_119 : decode cX7_look 119 = .ok (.dup, 1) := by decide +kernel
theorem dX7_look_120 : decode cX7_look 120 = .ok (.invokespecial 54, 3) := by decide +kernel
theorem dX7_look_123 : decode cX7_look 123 = .ok (.athrow, 1) := by decide +kernel
theorem dX7_isBay_0 : decode cX7_isBay 0 = .ok (.iload_n 0, 1) := by decide +kernel
theorem dX7_isBay_1 : decode cX7_isBay 1 = .ok (.ifCond .lt 12, 3) := by decide +kernel
theorem dX7_isBay_4 : decode cX7_isBay 4 = .ok (.iload_n 0, 1) := by decide +kernel
theorem dX7_isBay_5 : decode cX7_isBay 5 = .ok (.iconst 2, 1) := by decide +kernel
theorem dX7_isBay_6 : decode cX7_isBay 6 = .ok (.if_icmp .ge 7, 3) := by decide +kernel
theorem dX7_isBay_9 : decode cX7_isBay 9 = .ok (.iconst 1, 1) := by decide +kernel
theorem dX7_isBay_10 : decode cX7_isBay 10 = .ok (.goto 4, 3) := by decide +kernel
theorem dX7_isBay_13 : decode cX7_isBay 13 = .ok (.iconst 0, 1) := by decide +kernel
theorem dX7_isBay_14 : decode cX7_isBay 14 = .ok (.ireturn, 1) := by decide +kernel
theorem dX7_fitsLevel_0 : decode cX7_fitsLevel 0 = .ok (.iload_n 0, 1) := by decide +kernel
theorem dX7_fitsLevel_1 : decode cX7_fitsLevel 1 = .ok (.iconst 2, 1) := by decide +kernel
theorem dX7_fitsLevel_2 : decode cX7_fitsLevel 2 = .ok (.if_icmp .ge 9, 3) := by decide +kernel
theorem dX7_fitsLevel_5 : decode cX7_fitsLevel 5 = .ok (.sipush 160, 3) := by decide +kernel
theorem dX7_fitsLevel_8 : decode cX7_fitsLevel 8 = .ok (.goto 6, 3) := by decide +kernel
theorem dX7_fitsLevel_11 : decode cX7_fitsLevel 11 = .ok (.sipush 210, 3) := by decide +kernel
theorem dX7_fitsLevel_14 : decode cX7_fitsLevel 14 = .ok (.istore_n 3, 1) := by decide +kernel
theorem dX7_fitsLevel_15 : decode cX7_fitsLevel 15 = .ok (.iload_n 0, 1) := by decide +kernel
theorem dX7_fitsLevel_16 : decode cX7_fitsLevel 16 = .ok (.iconst 2, 1) := by decide +kernel
theorem dX7_fitsLevel_17 : decode cX7_fitsLevel 17 = .ok (.irem, 1) := by decide +kernel
theorem dX7_fitsLevel_18 : decode cX7_fitsLevel 18 = .ok (.ifCond .ne 9, 3) := by decide +kernel
theorem dX7_fitsLevel_21 : decode cX7_fitsLevel 21 = .ok (.sipush 2000, 3) := by decide +kernel
theorem dX7_fitsLevel_24 : decode cX7_fitsLevel 24 = .ok (.goto 6, 3) := by decide +kernel
theorem dX7_fitsLevel_27 : decode cX7_fitsLevel 27 = .ok (.sipush 3000, 3) := by decide +kernel
theorem dX7_fitsLevel_30 : decode cX7_fitsLevel 30 = .ok (.istore 4, 2) := by decide +kernel
theorem dX7_fitsLevel_32 : decode cX7_fitsLevel 32 = .ok (.iload_n 1, 1) := by decide +kernel
theorem dX7_fitsLevel_33 : decode cX7_fitsLevel 33 = .ok (.iload_n 3, 1) := by decide +kernel
theorem dX7_fitsLevel_34 : decode cX7_fitsLevel 34 = .ok (.if_icmp .gt 13, 3) := by decide +kernel
theorem dX7_fitsLevel_37 : decode cX7_fitsLevel 37 = .ok (.iload_n 2, 1) := by decide +kernel
theorem dX7_fitsLevel_38 : decode cX7_fitsLevel 38 = .ok (.iload 4, 2) := by decide +kernel
theorem dX7_fitsLevel_40 : decode cX7_fitsLevel 40 = .ok (.if_icmp .gt 7, 3) := by decide +kernel
theorem dX7_fitsLevel_43 : decode cX7_fitsLevel 43 = .ok (.iconst 1, 1) := by decide +kernel
theorem dX7_fitsLevel_44 : decode cX7_fitsLevel 44 = .ok (.goto 4, 3) := by decide +kernel
theorem dX7_fitsLevel_47 : decode cX7_fitsLevel 47 = .ok (.iconst 0, 1) := by decide +kernel
theorem dX7_fitsLevel_48 : decode cX7_fitsLevel 48 = .ok (.ireturn, 1) := by decide +kernel
set_option maxRecDepth 20000 in
theorem ggX7_fitsAnyLevel_X7_fitsLevel : GoodIn wsX7_fitsAnyLevel wsX7_fitsLevel := goodIn_r _ [4] (by decide +kernel) (by decide +kernel)
set_option maxRecDepth 20000 in
theorem gX7_fitsAnyLevel_X7_fitsLevel : GoodIn wsX7_fitsAnyLevel (va_wsS RX7 185 yX7_fitsLevel wsX7_fitsLevel) := goodIn_app (goodIn_of _ (by decide +kernel)) ggX7_fitsAnyLevel_X7_fitsLevel
theorem dX7_fitsAnyLevel_0 : decode cX7_fitsAnyLevel 0 = .ok (.iconst 0, 1) := by decide +kernel
theorem dX7_fitsAnyLevel_1 : decode cX7_fitsAnyLevel 1 = .ok (.istore_n 2, 1) := by decide +kernel
theorem dX7_fitsAnyLevel_2 : decode cX7_fitsAnyLevel 2 = .ok (.iload_n 2, 1) := by decide +kernel
theorem dX7_fitsAnyLevel_3 : decode cX7_fitsAnyLevel 3 = .ok (.iconst 4, 1) := by decide +kernel
theorem dX7_fitsAnyLevel_4 : decode cX7_fitsAnyLevel 4 = .ok (.if_icmp .ge 20, 3) := by decide +kernel
theorem dX7_fitsAnyLevel_7 : decode cX7_fitsAnyLevel 7 = .ok (.iload_n 2, 1) := by decide +kernel
theorem dX7_fitsAnyLevel_8 : decode cX7_fitsAnyLevel 8 = .ok (.iload_n 0, 1) := by decide +kernel
theorem dX7_fitsAnyLevel_9 : decode cX7_fitsAnyLevel 9 = .ok (.iload_n 1, 1) := by decide +kernel
theorem dX7_fitsAnyLevel_10 : decode cX7_fitsAnyLevel 10 = .ok (.invokestatic 185, 3) := by decide +kernel
theorem dX7_fitsAnyLevel_13 : decode cX7_fitsAnyLevel 13 = .ok (.ifCond .eq 5, 3) := by decide +kernel
theorem dX7_fitsAnyLevel_16 : decode cX7_fitsAnyLevel 16 = .ok (.iconst 1, 1) := by decide +kernel
theorem dX7_fitsAnyLevel_17 : decode cX7_fitsAnyLevel 17 = .ok (.ireturn, 1) := by decide +kernel
theorem dX7_fitsAnyLevel_18 : decode cX7_fitsAnyLevel 18 = .ok (.iinc 2 1, 3) := by decide +kernel
theorem dX7_fitsAnyLevel_21 : decode cX7_fitsAnyLevel 21 = .ok (.goto (-19), 3) := by decide +kernel
theorem dX7_fitsAnyLevel_24 : decode cX7_fitsAnyLevel 24 = .ok (.iconst 0, 1) := by decide +kernel
theorem dX7_fitsAnyLevel_25 : decode cX7_fitsAnyLevel 25 = .ok (.ireturn, 1) := by decide +kernel
set_option maxRecDepth 20000 in
theorem ggX7_cellFor_X7_fitsLevel : GoodIn wsX7_cellFor wsX7_fitsLevel := goodIn_r _ [5] (by decide +kernel) (by decide +kernel)
set_option maxRecDepth 20000 in
theorem gX7_cellFor_X7_fitsLevel : GoodIn wsX7_cellFor (va_wsS RX7 185 yX7_fitsLevel wsX7_fitsLevel) := goodIn_app (goodIn_of _ (by decide +kernel)) ggX7_cellFor_X7_fitsLevel
set_option maxRecDepth 20000 in
theorem ggX7_cellFor_X7_levelOfFetch : GoodIn wsX7_cellFor wsX7_levelOfFetch := goodIn_r _ [9, 10, 11, 12, 13, 14, 15, 16, 17, 18, 19, 20, 21, 22, 23, 24, 25, 4, 26, 46, 47, 48, 49, 50, 51, 52, 53, 54, 55, 56, 57, 58, 59, 60, 61, 62, 63, 64] (by decide +kernel) (by decide +kernel)
set_option maxRecDepth 20000 in
theorem gX7_cellFor_X7_levelOfFetch : GoodIn wsX7_cellFor (wsV RX7 189 RX7 yX7_levelOfFetch wsX7_levelOfFetch) := goodIn_app (goodIn_of _ (by decide +kernel)) ggX7_cellFor_X7_levelOfFetch
set_option maxRecDepth 20000 in
theorem ggX7_cellFor_X5_hasRoom : GoodIn wsX7_cellFor wsX5_hasRoom := goodIn_r _ [31, 32, 33, 34, 35, 30, 36, 37, 65, 66] (by decide +kernel) (by decide +kernel)
set_option maxRecDepth 20000 in
theorem gX7_cellFor_X5_hasRoom : GoodIn wsX7_cellFor (wsV RX7 192 RX5 yX5_hasRoom wsX5_hasRoom) := goodIn_app (goodIn_of _ (by decide +kernel)) ggX7_cellFor_X5_hasRoom
set_option maxRecDepth 20000 in
theorem ggX7_cellFor_X5_firstCellToStore : GoodIn wsX7_cellFor wsX5_firstCellToStore := goodIn_r _ [41, 37, 42, 43, 44, 30, 45, 65, 66] (by decide +kernel) (by decide +kernel)
set_option maxRecDepth 20000 in
theorem gX7_cellFor_X5_firstCellToStore : GoodIn wsX7_cellFor (wsV RX7 195 RX5 yX5_firstCellToStore wsX5_firstCellToStore) := goodIn_app (goodIn_of _ (by decide +kernel)) ggX7_cellFor_X5_firstCellToStore
theorem dX7_cellFor_0 : decode cX7_cellFor 0 = .ok (.iconst 0, 1) := by decide +kernel
theorem dX7_cellFor_1 : decode cX7_cellFor 1 = .ok (.istore_n 3, 1) := by decide +kernel
theorem dX7_cellFor_2 : decode cX7_cellFor 2 = .ok (.iload_n 3, 1) := by decide +kernel
theorem dX7_cellFor_3 : decode cX7_cellFor 3 = .ok (.iconst 4, 1) := by decide +kernel
theorem dX7_cellFor_4 : decode cX7_cellFor 4 = .ok (.if_icmp .ge 56, 3) := by decide +kernel
theorem dX7_cellFor_7 : decode cX7_cellFor 7 = .ok (.iload_n 3, 1) := by decide +kernel
theorem dX7_cellFor_8 : decode cX7_cellFor 8 = .ok (.iload_n 1, 1) := by decide +kernel
theorem dX7_cellFor_9 : decode cX7_cellFor 9 = .ok (.iload_n 2, 1) := by decide +kernel
theorem dX7_cellFor_10 : decode cX7_cellFor 10 = .ok (.invokestatic 185, 3) := by decide +kernel
theorem dX7_cellFor_13 : decode cX7_cellFor 13 = .ok (.ifCond .eq 41, 3) := by decide +kernel
theorem dX7_cellFor_16 : decode cX7_cellFor 16 = .ok (.iload_n 3, 1) := by decide +kernel
theorem dX7_cellFor_17 : decode cX7_cellFor 17 = .ok (.aload_n 0, 1) := by decide +kernel
theorem dX7_cellFor_18 : decode cX7_cellFor 18 = .ok (.invokevirtual 189, 3) := by decide +kernel
theorem dX7_cellFor_21 : decode cX7_cellFor 21 = .ok (.if_icmp .eq 33, 3) := by decide +kernel
theorem dX7_cellFor_24 : decode cX7_cellFor 24 = .ok (.aload_n 0, 1) := by decide +kernel
theorem dX7_cellFor_25 : decode cX7_cellFor 25 = .ok (.getfield 10, 3) := by decide +kernel
theorem dX7_cellFor_28 : decode cX7_cellFor 28 = .ok (.iload_n 3, 1) := by decide +kernel
theorem dX7_cellFor_29 : decode cX7_cellFor 29 = .ok (.invokevirtual 192, 3) := by decide +kernel
theorem dX7_cellFor_32 : decode cX7_cellFor 32 = .ok (.ifCond .eq 22, 3) := by decide +kernel
theorem dX7_cellFor_35 : decode cX7_cellFor 35 = .ok (.aload_n 0, 1) := by decide +kernel
theorem dX7_cellFor_36 : decode cX7_cellFor 36 = .ok (.getfield 10, 3) := by decide +kernel
theorem dX7_cellFor_39 : decode cX7_cellFor 39 = .ok (.iload_n 3, 1) := by decide +kernel
theorem dX7_cellFor_40 : decode cX7_cellFor 40 = .ok (.invokevirtual 195, 3) := by decide +kernel
theorem dX7_cellFor_43 : decode cX7_cellFor 43 = .ok (.istore 4, 2) := by decide +kernel
theorem dX7_cellFor_45 : decode cX7_cellFor 45 = .ok (.iload 4, 2) := by decide +kernel
theorem dX7_cellFor_47 : decode cX7_cellFor 47 = .ok (.iconst (-1), 1) := by decide +kernel
theorem dX7_cellFor_48 : decode cX7_cellFor 48 = .ok (.if_icmp .eq 6, 3) := by decide +kernel
theorem dX7_cellFor_51 : decode cX7_cellFor 51 = .ok (.iload 4, 2) := by decide +kernel
theorem dX7_cellFor_53 : decode cX7_cellFor 53 = .ok (.ireturn, 1) := by decide +kernel
theorem dX7_cellFor_54 : decode cX7_cellFor 54 = .ok (.iinc 3 1, 3) := by decide +kernel
theorem dX7_cellFor_57 : decode cX7_cellFor 57 = .ok (.goto (-55), 3) := by decide +kernel
theorem dX7_cellFor_60 : decode cX7_cellFor 60 = .ok (.iconst (-1), 1) := by decide +kernel
theorem dX7_cellFor_61 : decode cX7_cellFor 61 = .ok (.ireturn, 1) := by decide +kernel
set_option maxRecDepth 20000 in
theorem ggX7_levelOfFetch_X2_isIdle : GoodIn wsX7_levelOfFetch wsX2_isIdle := goodIn_r _ [7, 8, 29, 30, 31, 32, 33] (by decide +kernel) (by decide +kernel)
set_option maxRecDepth 20000 in
theorem gX7_levelOfFetch_X2_isIdle : GoodIn wsX7_levelOfFetch (wsV RX7 163 RX2 yX2_isIdle wsX2_isIdle) := goodIn_app (goodIn_of _ (by decide +kernel)) ggX7_levelOfFetch_X2_isIdle
theorem dX7_levelOfFetch_0 : decode cX7_levelOfFetch 0 = .ok (.aload_n 0, 1) := by decide +kernel
theorem dX7_levelOfFetch_1 : decode cX7_levelOfFetch 1 = .ok (.getfield 33, 3) := by decide +kernel
theorem dX7_levelOfFetch_4 : decode cX7_levelOfFetch 4 = .ok (.invokevirtual 163, 3) := by decide +kernel
theorem dX7_levelOfFetch_7 : decode cX7_levelOfFetch 7 = .ok (.ifCond .ne 20, 3) := by decide +kernel
theorem dX7_levelOfFetch_10 : decode cX7_levelOfFetch 10 = .ok (.aload_n 0, 1) := by decide +kernel
theorem dX7_levelOfFetch_11 : decode cX7_levelOfFetch 11 = .ok (.getfield 26, 3) := by decide +kernel
theorem dX7_levelOfFetch_14 : decode cX7_levelOfFetch 14 = .ok (.aload_n 0, 1) := by decide +kernel
theorem dX7_levelOfFetch_15 : decode cX7_levelOfFetch 15 = .ok (.getfield 33, 3) := by decide +kernel
theorem dX7_levelOfFetch_18 : decode cX7_levelOfFetch 18 = .ok (.getfield 170, 3) := by decide +kernel
theorem dX7_levelOfFetch_21 : decode cX7_levelOfFetch 21 = .ok (.invokevirtual 198, 3) := by decide +kernel
theorem dX7_levelOfFetch_24 : decode cX7_levelOfFetch 24 = .ok (.ifCond .ne 5, 3) := by decide +kernel
theorem dX7_levelOfFetch_27 : decode cX7_levelOfFetch 27 = .ok (.iconst (-1), 1) := by decide +kernel
theorem dX7_levelOfFetch_28 : decode cX7_levelOfFetch 28 = .ok (.ireturn, 1) := by decide +kernel
theorem dX7_levelOfFetch_29 : decode cX7_levelOfFetch 29 = .ok (.aload_n 0, 1) := by decide +kernel
theorem dX7_levelOfFetch_30 : decode cX7_levelOfFetch 30 = .ok (.getfield 33, 3) := by decide +kernel
theorem dX7_levelOfFetch_33 : decode cX7_levelOfFetch 33 = .ok (.getfield 201, 3) := by decide +kernel
theorem dX7_levelOfFetch_36 : decode cX7_levelOfFetch 36 = .ok (.invokestatic 204, 3) := by decide +kernel
theorem dX7_levelOfFetch_39 : decode cX7_levelOfFetch 39 = .ok (.ireturn, 1) := by decide +kernel
theorem dX7_isFront_0 : decode cX7_isFront 0 = .ok (.iload_n 0, 1) := by decide +kernel
theorem dX7_isFront_1 : decode cX7_isFront 1 = .ok (.iconst 2, 1) := by decide +kernel
theorem dX7_isFront_2 : decode cX7_isFront 2 = .ok (.irem, 1) := by decide +kernel
theorem dX7_isFront_3 : decode cX7_isFront 3 = .ok (.ifCond .ne 7, 3) := by decide +kernel
theorem dX7_isFront_6 : decode cX7_isFront 6 = .ok (.iconst 1, 1) := by decide +kernel
theorem dX7_isFront_7 : decode cX7_isFront 7 = .ok (.goto 4, 3) := by decide +kernel
theorem dX7_isFront_10 : decode cX7_isFront 10 = .ok (.iconst 0, 1) := by decide +kernel
theorem dX7_isFront_11 : decode cX7_isFront 11 = .ok (.ireturn, 1) := by decide +kernel
theorem dX7_checkDigit_0 : decode cX7_checkDigit 0 = .ok (.iconst 5, 1) := by decide +kernel
theorem dX7_checkDigit_1 : decode cX7_checkDigit 1 = .ok (.iload_n 0, 1) := by decide +kernel
theorem dX7_checkDigit_2 : decode cX7_checkDigit 2 = .ok (.sipush 1000, 3) := by decide +kernel
theorem dX7_checkDigit_5 : decode cX7_checkDigit 5 = .ok (.idiv, 1) := by decide +kernel
theorem dX7_checkDigit_6 : decode cX7_checkDigit 6 = .ok (.imul, 1) := by decide +kernel
theorem dX7_checkDigit_7 : decode cX7_checkDigit 7 = .ok (.iconst 4, 1) := by decide +kernel
theorem dX7_checkDigit_8 : decode cX7_checkDigit 8 = .ok (.iload_n 0, 1) := by decide +kernel
theorem dX7_checkDigit_9 : decode cX7_checkDigit 9 = .ok (.bipush 100, 2) := by decide +kernel
theorem dX7_checkDigit_11 : decode cX7_checkDigit 11 = .ok (.idiv, 1) := by decide +kernel
theorem dX7_checkDigit_12 : decode cX7_checkDigit 12 = .ok (.bipush 10, 2) := by decide +kernel
theorem dX7_checkDigit_14 : decode cX7_checkDigit 14 = .ok (.irem, 1) := by decide +kernel
theorem dX7_checkDigit_15 : decode cX7_checkDigit 15 = .ok (.imul, 1) := by decide +kernel
theorem dX7_checkDigit_16 : decode cX7_checkDigit 16 = .ok (.iadd, 1) := by decide +kernel
theorem dX7_checkDigit_17 : decode cX7_checkDigit 17 = .ok (.iconst 3, 1) := by decide +kernel
theorem dX7_checkDigit_18 : decode cX7_checkDigit 18 = .ok (.iload_n 0, 1) := by decide +kernel
theorem dX7_checkDigit_19 : decode cX7_checkDigit 19 = .ok (.bipush 10, 2) := by decide +kernel
theorem dX7_checkDigit_21 : decode cX7_checkDigit 21 = .ok (.idiv, 1) := by decide +kernel
theorem dX7_checkDigit_22 : decode cX7_checkDigit 22 = .ok (.bipush 10, 2) := by decide +kernel
theorem dX7_checkDigit_24 : decode cX7_checkDigit 24 = .ok (.irem, 1) := by decide +kernel
theorem dX7_checkDigit_25 : decode cX7_checkDigit 25 = .ok (.imul, 1) := by decide +kernel
theorem dX7_checkDigit_26 : decode cX7_checkDigit 26 = .ok (.iadd, 1) := by decide +kernel
theorem dX7_checkDigit_27 : decode cX7_checkDigit 27 = .ok (.iconst 2, 1) := by decide +kernel
theorem dX7_checkDigit_28 : decode cX7_checkDigit 28 = .ok (.iload_n 0, 1) := by decide +kernel
theorem dX7_checkDigit_29 : decode cX7_checkDigit 29 = .ok (.bipush 10, 2) := by decide +kernel
theorem dX7_checkDigit_31 : decode cX7_checkDigit 31 = .ok (.irem, 1) := by decide +kernel
theorem dX7_checkDigit_32 : decode cX7_checkDigit 32 = .ok (.imul, 1) := by decide +kernel
theorem dX7_checkDigit_33 : decode cX7_checkDigit 33 = .ok (.iadd, 1) := by decide +kernel
theorem dX7_checkDigit_34 : decode cX7_checkDigit 34 = .ok (.istore_n 1, 1) := by decide +kernel
theorem dX7_checkDigit_35 : decode cX7_checkDigit 35 = .ok (.bipush 11, 2) := by decide +kernel
theorem dX7_checkDigit_37 : decode cX7_checkDigit 37 = .ok (.iload_n 1, 1) := by decide +kernel
theorem dX7_checkDigit_38 : decode cX7_checkDigit 38 = .ok (.bipush 11, 2) := by decide +kernel
theorem dX7_checkDigit_40 : decode cX7_checkDigit 40 = .ok (.irem, 1) := by decide +kernel
theorem dX7_checkDigit_41 : decode cX7_checkDigit 41 = .ok (.isub, 1) := by decide +kernel
theorem dX7_checkDigit_42 : decode cX7_checkDigit 42 = .ok (.bipush 11, 2) := by decide +kernel
theorem dX7_checkDigit_44 : decode cX7_checkDigit 44 = .ok (.irem, 1) := by decide +kernel
theorem dX7_checkDigit_45 : decode cX7_checkDigit 45 = .ok (.ireturn, 1) := by decide +kernel
set_option maxRecDepth 20000 in
theorem ggX7_ticketOf_X7_checkDigit : GoodIn wsX7_ticketOf wsX7_checkDigit := goodIn_r _ [4] (by decide +kernel) (by decide +kernel)
set_option maxRecDepth 20000 in
theorem gX7_ticketOf_X7_checkDigit : GoodIn wsX7_ticketOf (va_wsS RX7 207 yX7_checkDigit wsX7_checkDigit) := goodIn_app (goodIn_of _ (by decide +kernel)) ggX7_ticketOf_X7_checkDigit
theorem dX7_ticketOf_0 : decode cX7_ticketOf 0 = .ok (.bipush 10, 2) := by decide +kernel
theorem dX7_ticketOf_2 : decode cX7_ticketOf 2 = .ok (.iload_n 0, 1) := by decide +kernel
theorem dX7_ticketOf_3 : decode cX7_ticketOf 3 = .ok (.imul, 1) := by decide +kernel
theorem dX7_ticketOf_4 : decode cX7_ticketOf 4 = .ok (.iload_n 0, 1) := by decide +kernel
theorem dX7_ticketOf_5 : decode cX7_ticketOf 5 = .ok (.invokestatic 207, 3) := by decide +kernel
theorem dX7_ticketOf_8 : decode cX7_ticketOf 8 = .ok (.iadd, 1) := by decide +kernel
theorem dX7_ticketOf_9 : decode cX7_ticketOf 9 = .ok (.ireturn, 1) := by decide +kernel
set_option maxRecDepth 20000 in
theorem ggX7_serialAfter_X7_checkDigit : GoodIn wsX7_serialAfter wsX7_checkDigit := goodIn_r _ [4] (by decide +kernel) (by decide +kernel)
set_option maxRecDepth 20000 in
theorem gX7_serialAfter_X7_checkDigit : GoodIn wsX7_serialAfter (va_wsS RX7 207 yX7_checkDigit wsX7_checkDigit) := goodIn_app (goodIn_of _ (by decide +kernel)) ggX7_serialAfter_X7_checkDigit
theorem dX7_serialAfter_0 : decode cX7_serialAfter 0 = .ok (.iload_n 0, 1) := by decide +kernel
theorem dX7_serialAfter_1 : decode cX7_serialAfter 1 = .ok (.iconst 1, 1) := by decide +kernel
theorem dX7_serialAfter_2 : decode cX7_serialAfter 2 = .ok (.iadd, 1) := by decide +kernel
theorem dX7_serialAfter_3 : decode cX7_serialAfter 3 = .ok (.istore_n 1, 1) := by decide +kernel
theorem dX7_serialAfter_4 : decode cX7_serialAfter 4 = .ok (.iload_n 1, 1) := by decide +kernel
theorem dX7_serialAfter_5 : decode cX7_serialAfter 5 = .ok (.sipush 9999, 3) := by decide +kernel
theorem dX7_serialAfter_8 : decode cX7_serialAfter 8 = .ok (.if_icmp .gt 20, 3) := by decide +kernel
theorem dX7_serialAfter_11 : decode cX7_serialAfter 11 = .ok (.iload_n 1, 1) := by decide +kernel
theorem dX7_serialAfter_12 : decode cX7_serialAfter 12 = .ok (.invokestatic 207, 3) := by decide +kernel
theorem dX7_serialAfter_15 : decode cX7_serialAfter 15 = .ok (.bipush 10, 2) := by decide +kernel
theorem dX7_serialAfter_17 : decode cX7_serialAfter 17 = .ok (.if_icmp .eq 5, 3) := by decide +kernel
theorem dX7_serialAfter_20 : decode cX7_serialAfter 20 = .ok (.iload_n 1, 1) := by decide +kernel
theorem dX7_serialAfter_21 : decode cX7_serialAfter 21 = .ok (.ireturn, 1) := by decide +kernel
theorem dX7_serialAfter_22 : decode cX7_serialAfter 22 = .ok (.iinc 1 1, 3) := by decide +kernel
theorem dX7_serialAfter_25 : decode cX7_serialAfter 25 = .ok (.goto (-21), 3) := by decide +kernel
theorem dX7_serialAfter_28 : decode cX7_serialAfter 28 = .ok (.iconst (-1), 1) := by decide +kernel
theorem dX7_serialAfter_29 : decode cX7_serialAfter 29 = .ok (.ireturn, 1) := by decide +kernel
set_option maxRecDepth 20000 in
theorem ggX7_wasGiven_X7_checkDigit : GoodIn wsX7_wasGiven wsX7_checkDigit := goodIn_r _ [5] (by decide +kernel) (by decide +kernel)
set_option maxRecDepth 20000 in
theorem gX7_wasGiven_X7_checkDigit : GoodIn wsX7_wasGiven (va_wsS RX7 207 yX7_checkDigit wsX7_checkDigit) := goodIn_app (goodIn_of _ (by decide +kernel)) ggX7_wasGiven_X7_checkDigit
theorem dX7_wasGiven_0 : decode cX7_wasGiven 0 = .ok (.iload_n 1, 1) := by decide +kernel
theorem dX7_wasGiven_1 : decode cX7_wasGiven 1 = .ok (.bipush 10, 2) := by decide +kernel
theorem dX7_wasGiven_3 : decode cX7_wasGiven 3 = .ok (.idiv, 1) := by decide +kernel
theorem dX7_wasGiven_4 : decode cX7_wasGiven 4 = .ok (.istore_n 2, 1) := by decide +kernel
theorem dX7_wasGiven_5 : decode cX7_wasGiven 5 = .ok (.iload_n 2, 1) := by decide +kernel
theorem dX7_wasGiven_6 : decode cX7_wasGiven 6 = .ok (.iconst 1, 1) := by decide +kernel
theorem dX7_wasGiven_7 : decode cX7_wasGiven 7 = .ok (.if_icmp .lt 26, 3) := by decide +kernel
theorem dX7_wasGiven_10 : decode cX7_wasGiven 10 = .ok (.iload_n 2, 1) := by decide +kernel
theorem dX7_wasGiven_11 : decode cX7_wasGiven 11 = .ok (.aload_n 0, 1) := by decide +kernel
theorem dX7_wasGiven_12 : decode cX7_wasGiven 12 = .ok (.getfield 70, 3) := by decide +kernel
theorem dX7_wasGiven_15 : decode cX7_wasGiven 15 = .ok (.if_icmp .gt 18, 3) := by decide +kernel
theorem dX7_wasGiven_18 : decode cX7_wasGiven 18 = .ok (.iload_n 2, 1) := by decide +kernel
theorem dX7_wasGiven_19 : decode cX7_wasGiven 19 = .ok (.invokestatic 207, 3) := by decide +kernel
theorem dX7_wasGiven_22 : decode cX7_wasGiven 22 = .ok (.iload_n 1, 1) := by decide +kernel
theorem dX7_wasGiven_23 : decode cX7_wasGiven 23 = .ok (.bipush 10, 2) := by decide +kernel
theorem dX7_wasGiven_25 : decode cX7_wasGiven 25 = .ok (.irem, 1) := by decide +kernel
theorem dX7_wasGiven_26 : decode cX7_wasGiven 26 = .ok (.if_icmp .ne 7, 3) := by decide +kernel
theorem dX7_wasGiven_29 : decode cX7_wasGiven 29 = .ok (.iconst 1, 1) := by decide +kernel
theorem dX7_wasGiven_30 : decode cX7_wasGiven 30 = .ok (.goto 4, 3) := by decide +kernel
theorem dX7_wasGiven_33 : decode cX7_wasGiven 33 = .ok (.iconst 0, 1) := by decide +kernel
theorem dX7_wasGiven_34 : decode cX7_wasGiven 34 = .ok (.ireturn, 1) := by decide +kernel
set_option maxRecDepth 20000 in
theorem ggX7_allOrders_X1_holdsCarWithoutOrder : GoodIn wsX7_allOrders wsX1_holdsCarWithoutOrder := goodIn_r _ [7, 8, 9, 10, 25, 26, 27, 28, 29, 30] (by decide +kernel) (by decide +kernel)
set_option maxRecDepth 20000 in
theorem gX7_allOrders_X1_holdsCarWithoutOrder : GoodIn wsX7_allOrders (wsV RX7 210 RX1 yX1_holdsCarWithoutOrder wsX1_holdsCarWithoutOrder) := goodIn_app (goodIn_of _ (by decide +kernel)) ggX7_allOrders_X1_holdsCarWithoutOrder
theorem dX7_allOrders_0 : decode cX7_allOrders 0 = .ok (.aload_n 0, 1) := by decide +kernel
theorem dX7_allOrders_1 : decode cX7_allOrders 1 = .ok (.getfield 26, 3) := by decide +kernel
theorem dX7_allOrders_4 : decode cX7_allOrders 4 = .ok (.getfield 162, 3) := by decide +kernel
theorem dX7_allOrders_7 : decode cX7_allOrders 7 = .ok (.istore_n 1, 1) := by decide +kernel
theorem dX7_allOrders_8 : decode cX7_allOrders 8 = .ok (.iconst 0, 1) := by decide +kernel
theorem dX7_allOrders_9 : decode cX7_allOrders 9 = .ok (.istore_n 2, 1) := by decide +kernel
theorem dX7_allOrders_10 : decode cX7_allOrders 10 = .ok (.iload_n 2, 1) := by decide +kernel
theorem dX7_allOrders_11 : decode cX7_allOrders 11 = .ok (.iconst 2, 1) := by decide +kernel
theorem dX7_allOrders_12 : decode cX7_allOrders 12 = .ok (.if_icmp .ge 24, 3) := by decide +kernel
theorem dX7_allOrders_15 : decode cX7_allOrders 15 = .ok (.aload_n 0, 1) := by decide +kernel
theorem dX7_allOrders_16 : decode cX7_allOrders 16 = .ok (.getfield 18, 3) := by decide +kernel
theorem dX7_allOrders_19 : decode cX7_allOrders 19 = .ok (.iload_n 2, 1) := by decide +kernel
theorem dX7_allOrders_20 : decode cX7_allOrders 20 = .ok (.aaload, 1) := by decide +kernel
theorem dX7_allOrders_21 : decode cX7_allOrders 21 = .ok (.invokevirtual 210, 3) := by decide +kernel
theorem dX7_allOrders_24 : decode cX7_allOrders 24 = .ok (.ifCond .eq 6, 3) := by decide +kernel
theorem dX7_allOrders_27 : decode cX7_allOrders 27 = .ok (.iinc 1 1, 3) := by decide +kernel
theorem dX7_allOrders_30 : decode cX7_allOrders 30 = .ok (.iinc 2 1, 3) := by decide +kernel
theorem dX7_allOrders_33 : decode cX7_allOrders 33 = .ok (.goto (-23), 3) := by decide +kernel
theorem dX7_allOrders_36 : decode cX7_allOrders 36 = .ok (.iload_n 1, 1) := by decide +kernel
theorem dX7_allOrders_37 : decode cX7_allOrders 37 = .ok (.ireturn, 1) := by decide +kernel
set_option maxRecDepth 20000 in
theorem ggX7_passOneTick_X7_workDoor : GoodIn wsX7_passOneTick wsX7_workDoor := goodIn_r _ [9, 10, 11, 4, 12, 13, 14, 15, 16, 17, 18, 19, 20, 21, 22, 23, 24, 25, 26, 27, 28, 29, 30, 31, 32, 33, 34, 35, 36, 37, 38, 39, 40, 41, 42, 43, 44, 45, 46, 47, 48, 49, 50, 217, 218, 219, 220, 221, 222, 223, 224, 225, 226, 227, 228, 229, 230, 231, 232, 233, 234, 235, 236, 237, 238, 239, 240, 241] (by decide +kernel) (by decide +kernel)
set_option maxRecDepth 20000 in
theorem gX7_passOneTick_X7_workDoor : GoodIn wsX7_passOneTick (wsV RX7 213 RX7 yX7_workDoor wsX7_workDoor) := goodIn_app (goodIn_of _ (by decide +kernel)) ggX7_passOneTick_X7_workDoor
set_option maxRecDepth 20000 in
theorem ggX7_passOneTick_X2_isIdle : GoodIn wsX7_passOneTick wsX2_isIdle := goodIn_r _ [55, 56, 233, 234, 235, 236, 237] (by decide +kernel) (by decide +kernel)
set_option maxRecDepth 20000 in
theorem gX7_passOneTick_X2_isIdle : GoodIn wsX7_passOneTick (wsV RX7 163 RX2 yX2_isIdle wsX2_isIdle) := goodIn_app (goodIn_of _ (by decide +kernel)) ggX7_passOneTick_X2_isIdle
set_option maxRecDepth 20000 in
theorem ggX7_passOneTick_X7_beginFirstThatCan : GoodIn wsX7_passOneTick wsX7_beginFirstThatCan := goodIn_r _ [60, 11, 61, 44, 45, 28, 46, 33, 62, 63, 64, 8, 65, 10, 66, 4, 67, 68, 69, 15, 70, 19, 38, 71, 72, 73, 74, 75, 76, 77, 78, 79, 80, 81, 82, 83, 84, 85, 86, 87, 88, 89, 90, 91, 92, 93, 94, 95, 96, 97, 98, 99, 100, 101, 102, 103, 104, 105, 106, 107, 108, 109, 110, 111, 112, 113, 114, 115, 116, 117, 118, 119, 120, 121, 122, 123, 124, 125, 126, 127, 128, 129, 130, 131, 132, 133, 134, 135, 136, 137, 138, 139, 140, 141, 142, 143, 144, 145, 146, 147, 148, 149, 150, 151, 152, 153, 154, 155, 156, 157, 158, 159, 160, 161, 162, 163, 164, 54, 165, 166, 167, 168, 169, 170, 171, 172, 173, 174, 217, 218, 219, 220, 221, 222, 223, 224, 225, 226, 238, 239, 240, 241, 227, 228, 229, 230, 231, 232, 242, 243, 233, 234, 235, 236, 237, 244, 245, 246] (by decide +kernel) (by decide +kernel)
set_option maxRecDepth 20000 in
theorem gX7_passOneTick_X7_beginFirstThatCan : GoodIn wsX7_passOneTick (wsV RX7 216 RX7 yX7_beginFirstThatCan wsX7_beginFirstThatCan) := goodIn_app (goodIn_of _ (by decide +kernel)) ggX7_passOneTick_X7_beginFirstThatCan
theorem dX7_passOneTick_0 : decode cX7_passOneTick 0 = .ok (.aload_n 0, 1) := by decide +kernel
theorem dX7_passOneTick_1 : decode cX7_passOneTick 1 = .ok (.dup, 1) := by decide +kernel
theorem dX7_passOneTick_2 : decode cX7_passOneTick 2 = .ok (.getfield 136, 3) := by decide +kernel
theorem dX7_passOneTick_5 : decode cX7_passOneTick 5 = .ok (.iconst 1, 1) := by decide +kernel
theorem dX7_passOneTick_6 : decode cX7_passOneTick 6 = .ok (.iadd, 1) := by decide +kernel
theorem dX7_passOneTick_7 : decode cX7_passOneTick 7 = .ok (.putfield 136, 3) := by decide +kernel
theorem dX7_passOneTick_10 : decode cX7_passOneTick 10 = .ok (.aload_n 0, 1) := by decide +kernel
theorem dX7_passOneTick_11 : decode cX7_passOneTick 11 = .ok (.getfield 44, 3) := by decide +kernel
theorem dX7_passOneTick_14 : decode cX7_passOneTick 14 = .ok (.ifCond .eq 21, 3) := by decide +kernel
theorem dX7_passOneTick_17 : decode cX7_passOneTick 17 = .ok (.iconst 0, 1) := by decide +kernel
theorem dX7_passOneTick_18 : decode cX7_passOneTick 18 = .ok (.istore_n 1, 1) := by decide +kernel
theorem dX7_passOneTick_19 : decode cX7_passOneTick 19 = .ok (.iload_n 1, 1) := by decide +kernel
theorem dX7_passOneTick_20 : decode cX7_passOneTick 20 = .ok (.iconst 2, 1) := by decide +kernel
theorem dX7_passOneTick_21 : decode cX7_passOneTick 21 = .ok (.if_icmp .ge 14, 3) := by decide +kernel
theorem dX7_passOneTick_24 : decode cX7_passOneTick 24 = .ok (.aload_n 0, 1) := by decide +kernel
theorem dX7_passOneTick_25 : decode cX7_passOneTick 25 = .ok (.iload_n 1, 1) := by decide +kernel
theorem dX7_passOneTick_26 : decode cX7_passOneTick 26 = .ok (.invokevirtual 213, 3) := by decide +kernel
theorem dX7_passOneTick_29 : decode cX7_passOneTick 29 = .ok (.iinc 1 1, 3) := by decide +kernel
theorem dX7_passOneTick_32 : decode cX7_passOneTick 32 = .ok (.goto (-13), 3) := by decide +kernel
theorem dX7_passOneTick_35 : decode cX7_passOneTick 35 = .ok (.aload_n 0, 1) := by decide +kernel
theorem dX7_passOneTick_36 : decode cX7_passOneTick 36 = .ok (.getfield 130, 3) := by decide +kernel
theorem dX7_passOneTick_39 : decode cX7_passOneTick 39 = .ok (.ifCond .le 14, 3) := by decide +kernel
theorem dX7_passOneTick_42 : decode cX7_passOneTick 42 = .ok (.aload_n 0, 1) := by decide +kernel
theorem dX7_passOneTick_43 : decode cX7_passOneTick 43 = .ok (.dup, 1) := by decide +kernel
theorem dX7_passOneTick_44 : decode cX7_passOneTick 44 = .ok (.getfield 130, 3) := by decide +kernel
theorem dX7_passOneTick_47 : decode cX7_passOneTick 47 = .ok (.iconst 1, 1) := by decide +kernel
theorem dX7_passOneTick_48 : decode cX7_passOneTick 48 = .ok (.isub, 1) := by decide +kernel
theorem dX7_passOneTick_49 : decode cX7_passOneTick 49 = .ok (.putfield 130, 3) := by decide +kernel
theorem dX7_passOneTick_52 : decode cX7_passOneTick 52 = .ok (.return_, 1) := by decide +kernel
theorem dX7_passOneTick_53 : decode cX7_passOneTick 53 = .ok (.aload_n 0, 1) := by decide +kernel
theorem dX7_passOneTick_54 : decode cX7_passOneTick 54 = .ok (.getfield 33, 3) := by decide +kernel
theorem dX7_passOneTick_57 : decode cX7_passOneTick 57 = .ok (.invokevirtual 163, 3) := by decide +kernel
theorem dX7_passOneTick_60 : decode cX7_passOneTick 60 = .ok (.ifCond .eq 7, 3) := by decide +kernel
theorem dX7_passOneTick_63 : decode cX7_passOneTick 63 = .ok (.aload_n 0, 1) := by decide +kernel
theorem dX7_passOneTick_64 : decode cX7_passOneTick 64 = .ok (.invokevirtual 216, 3) := by decide +kernel
theorem dX7_passOneTick_67 : decode cX7_passOneTick 67 = .ok (.aload_n 0, 1) := by decide +kernel
theorem dX7_passOneTick_68 : decode cX7_passOneTick 68 = .ok (.getfield 33, 3) := by decide +kernel
theorem dX7_passOneTick_71 : decode cX7_passOneTick 71 = .ok (.invokevirtual 163, 3) := by decide +kernel
theorem dX7_passOneTick_74 : decode cX7_passOneTick 74 = .ok (.ifCond .ne 14, 3) := by decide +kernel
theorem dX7_passOneTick_77 : decode cX7_passOneTick 77 = .ok (.aload_n 0, 1) := by decide +kernel
theorem dX7_passOneTick_78 : decode cX7_passOneTick 78 = .ok (.invokevirtual 219, 3) := by decide +kernel
theorem dX7_passOneTick_81 : decode cX7_passOneTick 81 = .ok (.ifCond .eq 7, 3) := by decide +kernel
theorem dX7_passOneTick_84 : decode cX7_passOneTick 84 = .ok (.aload_n 0, 1) := by decide +kernel
theorem dX7_passOneTick_85 : decode cX7_passOneTick 85 = .ok (.invokevirtual 222, 3) := by decide +kernel
theorem dX7_passOneTick_88 : decode cX7_passOneTick 88 = .ok (.return_, 1) := by decide +kernel
set_option maxRecDepth 20000 in
theorem ggX7_workDoor_X1_holdsCarWithoutOrder : GoodIn wsX7_workDoor wsX1_holdsCarWithoutOrder := goodIn_r _ [8, 9, 10, 11, 53, 54, 55, 56, 57, 58] (by decide +kernel) (by decide +kernel)
set_option maxRecDepth 20000 in
theorem gX7_workDoor_X1_holdsCarWithoutOrder : GoodIn wsX7_workDoor (wsV RX7 210 RX1 yX1_holdsCarWithoutOrder wsX1_holdsCarWithoutOrder) := goodIn_app (goodIn_of _ (by decide +kernel)) ggX7_workDoor_X1_holdsCarWithoutOrder
set_option maxRecDepth 20000 in
theorem ggX7_workDoor_X1_moveDoor : GoodIn wsX7_workDoor wsX1_moveDoor := goodIn_r _ [15, 16, 11, 53, 54, 55, 56, 57, 58] (by decide +kernel) (by decide +kernel)
set_option maxRecDepth 20000 in
theorem gX7_workDoor_X1_moveDoor : GoodIn wsX7_workDoor (wsV RX7 225 RX1 yX1_moveDoor wsX1_moveDoor) := goodIn_app (goodIn_of _ (by decide +kernel)) ggX7_workDoor_X1_moveDoor
set_option maxRecDepth 20000 in
theorem ggX7_workDoor_X1_isOpenAndClear : GoodIn wsX7_workDoor wsX1_isOpenAndClear := goodIn_r _ [29, 11, 9, 30, 53, 54, 55, 56, 57, 58] (by decide +kernel) (by decide +kernel)
set_option maxRecDepth 20000 in
theorem gX7_workDoor_X1_isOpenAndClear : GoodIn wsX7_workDoor (wsV RX7 231 RX1 yX1_isOpenAndClear wsX1_isOpenAndClear) := goodIn_app (goodIn_of _ (by decide +kernel)) ggX7_workDoor_X1_isOpenAndClear
set_option maxRecDepth 20000 in
theorem ggX7_workDoor_X3_firstWaitingIsFetch : GoodIn wsX7_workDoor wsX3_firstWaitingIsFetch := goodIn_r _ [34, 22, 24, 35, 36, 37, 20, 38, 25, 64, 65, 66, 67] (by decide +kernel) (by decide +kernel)
set_option maxRecDepth 20000 in
theorem gX7_workDoor_X3_firstWaitingIsFetch : GoodIn wsX7_workDoor (wsV RX7 234 RX3 yX3_firstWaitingIsFetch wsX3_firstWaitingIsFetch) := goodIn_app (goodIn_of _ (by decide +kernel)) ggX7_workDoor_X3_firstWaitingIsFetch
set_option maxRecDepth 20000 in
theorem ggX7_workDoor_X1_beginToShut : GoodIn wsX7_workDoor wsX1_beginToShut := goodIn_r _ [42, 11, 16, 53, 54, 55, 56, 57, 58] (by decide +kernel) (by decide +kernel)
set_option maxRecDepth 20000 in
theorem gX7_workDoor_X1_beginToShut : GoodIn wsX7_workDoor (wsV RX7 101 RX1 yX1_beginToShut wsX1_beginToShut) := goodIn_app (goodIn_of _ (by decide +kernel)) ggX7_workDoor_X1_beginToShut
theorem dX7_workDoor_0 : decode cX7_workDoor 0 = .ok (.aload_n 0, 1) := by decide +kernel
theorem dX7_workDoor_1 : decode cX7_workDoor 1 = .ok (.getfield 18, 3) := by decide +kernel
theorem dX7_workDoor_4 : decode cX7_workDoor 4 = .ok (.iload_n 1, 1) := by decide +kernel
theorem dX7_workDoor_5 : decode cX7_workDoor 5 = .ok (.aaload, 1) := by decide +kernel
theorem dX7_workDoor_6 : decode cX7_workDoor 6 = .ok (.astore_n 2, 1) := by decide +kernel
theorem dX7_workDoor_7 : decode cX7_workDoor 7 = .ok (.aload_n 2, 1) := by decide +kernel
theorem dX7_workDoor_8 : decode cX7_workDoor 8 = .ok (.invokevirtual 210, 3) := by decide +kernel
theorem dX7_workDoor_11 : decode cX7_workDoor 11 = .ok (.istore_n 3, 1) := by decide +kernel
theorem dX7_workDoor_12 : decode cX7_workDoor 12 = .ok (.aload_n 2, 1) := by decide +kernel
theorem dX7_workDoor_13 : decode cX7_workDoor 13 = .ok (.invokevirtual 225, 3) := by decide +kernel
theorem dX7_workDoor_16 : decode cX7_workDoor 16 = .ok (.iload_n 3, 1) := by decide +kernel
theorem dX7_workDoor_17 : decode cX7_workDoor 17 = .ok (.ifCond .eq 26, 3) := by decide +kernel
theorem dX7_workDoor_20 : decode cX7_workDoor 20 = .ok (.aload_n 2, 1) := by decide +kernel
theorem dX7_workDoor_21 : decode cX7_workDoor 21 = .ok (.getfield 59, 3) := by decide +kernel
theorem dX7_workDoor_24 : decode cX7_workDoor 24 = .ok (.ifCond .ne 19, 3) := by decide +kernel
theorem dX7_workDoor_27 : decode cX7_workDoor 27 = .ok (.aload_n 0, 1) := by decide +kernel
theorem dX7_workDoor_28 : decode cX7_workDoor 28 = .ok (.getfield 26, 3) := by decide +kernel
theorem dX7_workDoor_31 : decode cX7_workDoor 31 = .ok (.aload_n 2, 1) := by decide +kernel
theorem dX7_workDoor_32 : decode cX7_workDoor 32 = .ok (.getfield 55, 3) := by decide +kernel
theorem dX7_workDoor_35 : decode cX7_workDoor 35 = .ok (.iload_n 1, 1) := by decide +kernel
theorem dX7_workDoor_36 : decode cX7_workDoor 36 = .ok (.aload_n 2, 1) := by decide +kernel
theorem dX7_workDoor_37 : decode cX7_workDoor 37 = .ok (.getfield 228, 3) := by decide +kernel
theorem dX7_workDoor_40 : decode cX7_workDoor 40 = .ok (.invokevirtual 122, 3) := by decide +kernel
theorem dX7_workDoor_43 : decode cX7_workDoor 43 = .ok (.aload_n 2, 1) := by decide +kernel
theorem dX7_workDoor_44 : decode cX7_workDoor 44 = .ok (.invokevirtual 231, 3) := by decide +kernel
theorem dX7_workDoor_47 : decode cX7_workDoor 47 = .ok (.ifCond .eq 25, 3) := by decide +kernel
theorem dX7_workDoor_50 : decode cX7_workDoor 50 = .ok (.aload_n 0, 1) := by decide +kernel
theorem dX7_workDoor_51 : decode cX7_workDoor 51 = .ok (.getfield 26, 3) := by decide +kernel
theorem dX7_workDoor_54 : decode cX7_workDoor 54 = .ok (.iload_n 1, 1) := by decide +kernel
theorem dX7_workDoor_55 : decode cX7_workDoor 55 = .ok (.aload_n 0, 1) := by decide +kernel
theorem dX7_workDoor_56 : decode cX7_workDoor 56 = .ok (.getfield 33, 3) := by decide +kernel
theorem dX7_workDoor_59 : decode cX7_workDoor 59 = .ok (.getfield 170, 3) := by decide +kernel
theorem dX7_workDoor_62 : decode cX7_workDoor 62 = .ok (.invokevirtual 234, 3) := by decide +kernel
theorem dX7_workDoor_65 : decode cX7_workDoor 65 = .ok (.ifCond .eq 7, 3) := by decide +kernel
theorem dX7_workDoor_68 : decode cX7_workDoor 68 = .ok (.aload_n 2, 1) := by decide +kernel
theorem dX7_workDoor_69 : decode cX7_workDoor 69 = .ok (.invokevirtual 101, 3) := by decide +kernel
theorem dX7_workDoor_72 : decode cX7_workDoor 72 = .ok (.return_, 1) := by decide +kernel
theorem dX7_beginFirstThatCan_0 : decode cX7_beginFirstThatCan 0 = .ok (.iconst 0, 1) := by decide +kernel
theorem dX7_beginFirstThatCan_1 : decode cX7_beginFirstThatCan 1 = .ok (.istore_n 1, 1) := by decide +kernel
theorem dX7_beginFirstThatCan_2 : decode cX7_beginFirstThatCan 2 = .ok (.iload_n 1, 1) := by decide +kernel
theorem dX7_beginFirstThatCan_3 : decode cX7_beginFirstThatCan 3 = .ok (.aload_n 0, 1) := by decide +kernel
theorem dX7_beginFirstThatCan_4 : decode cX7_beginFirstThatCan 4 = .ok (.getfield 26, 3) := by decide +kernel
theorem dX7_beginFirstThatCan_7 : decode cX7_beginFirstThatCan 7 = .ok (.getfield 162, 3) := by decide +kernel
theorem dX7_beginFirstThatCan_10 : decode cX7_beginFirstThatCan 10 = .ok (.if_icmp .ge 50, 3) := by decide +kernel
theorem dX7_beginFirstThatCan_13 : decode cX7_beginFirstThatCan 13 = .ok (.aload_n 0, 1) := by decide +kernel
theorem dX7_beginFirstThatCan_14 : decode cX7_beginFirstThatCan 14 = .ok (.getfield 26, 3) := by decide +kernel
theorem dX7_beginFirstThatCan_17 : decode cX7_beginFirstThatCan 17 = .ok (.iload_n 1, 1) := by decide +kernel
theorem dX7_beginFirstThatCan_18 : decode cX7_beginFirstThatCan 18 = .ok (.invokevirtual 198, 3) := by decide +kernel
theorem dX7_beginFirstThatCan_21 : decode cX7_beginFirstThatCan 21 = .ok (.ifCond .eq 11, 3) := by decide +kernel
theorem dX7_beginFirstThatCan_24 : decode cX7_beginFirstThatCan 24 = .ok (.aload_n 0, 1) := by decide +kernel
theorem dX7_beginFirstThatCan_25 : decode cX7_beginFirstThatCan 25 = .ok (.iload_n 1, 1) := by decide +kernel
theorem dX7_beginFirstThatCan_26 : decode cX7_beginFirstThatCan 26 = .ok (.invokevirtual 237, 3) := by decide +kernel
theorem dX7_beginFirstThatCan_29 : decode cX7_beginFirstThatCan 29 = .ok (.goto 12, 3) := by decide +kernel
theorem dX7_beginFirstThatCan_32 : decode cX7_beginFirstThatCan 32 = .ok (.aload_n 0, 1) := by decide +kernel
theorem dX7_beginFirstThatCan_33 : decode cX7_beginFirstThatCan 33 = .ok (.getfield 26, 3) := by decide +kernel
theorem dX7_beginFirstThatCan_36 : decode cX7_beginFirstThatCan 36 = .ok (.getfield 240, 3) := by decide +kernel
theorem dX7_beginFirstThatCan_39 : decode cX7_beginFirstThatCan 39 = .ok (.iload_n 1, 1) := by decide +kernel
theorem dX7_beginFirstThatCan_40 : decode cX7_beginFirstThatCan 40 = .ok (.iaload, 1) := by decide +kernel
theorem dX7_beginFirstThatCan_41 : decode cX7_beginFirstThatCan 41 = .ok (.istore_n 2, 1) := by decide +kernel
theorem dX7_beginFirstThatCan_42 : decode cX7_beginFirstThatCan 42 = .ok (.iload_n 2, 1) := by decide +kernel
theorem dX7_beginFirstThatCan_43 : decode cX7_beginFirstThatCan 43 = .ok (.iconst (-1), 1) := by decide +kernel
theorem dX7_beginFirstThatCan_44 : decode cX7_beginFirstThatCan 44 = .ok (.if_icmp .eq 10, 3) := by decide +kernel
theorem dX7_beginFirstThatCan_47 : decode cX7_beginFirstThatCan 47 = .ok (.aload_n 0, 1) := by decide +kernel
theorem dX7_beginFirstThatCan_48 : decode cX7_beginFirstThatCan 48 = .ok (.iload_n 1, 1) := by decide +kernel
theorem dX7_beginFirstThatCan_49 : decode cX7_beginFirstThatCan 49 = .ok (.iload_n 2, 1) := by decide +kernel
theorem dX7_beginFirstThatCan_50 : decode cX7_beginFirstThatCan 50 = .ok (.invokevirtual 243, 3) := by decide +kernel
theorem dX7_beginFirstThatCan_53 : decode cX7_beginFirstThatCan 53 = .ok (.return_, 1) := by decide +kernel
theorem dX7_beginFirstThatCan_54 : decode cX7_beginFirstThatCan 54 = .ok (.iinc 1 1, 3) := by decide +kernel
theorem dX7_beginFirstThatCan_57 : decode cX7_beginFirstThatCan 57 = .ok (.goto (-55), 3) := by decide +kernel
theorem dX7_beginFirstThatCan_60 : decode cX7_beginFirstThatCan 60 = .ok (.return_, 1) := by decide +kernel
