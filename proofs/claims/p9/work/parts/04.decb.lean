set_option maxRecDepth 20000 in
theorem ggX7_init_X5_init : GoodIn wsX7_init wsX5_init := goodIn_r _ [27, 28, 2, 3, 29, 30, 31, 32, 60, 61] (by decide +kernel) (by decide +kernel)
set_option maxRecDepth 20000 in
theorem gX7_init_X5_init : GoodIn wsX7_init (wsX5_init) := ggX7_init_X5_init
set_option maxRecDepth 20000 in
theorem ggX7_init_X1_init : GoodIn wsX7_init wsX1_init := goodIn_r _ [35, 36, 2, 3, 37, 38, 72, 73, 74, 75, 76, 77] (by decide +kernel) (by decide +kernel)
set_option maxRecDepth 20000 in
theorem gX7_init_X1_init : GoodIn wsX7_init (wsX1_init) := ggX7_init_X1_init
set_option maxRecDepth 20000 in
theorem ggX7_init_X3_init : GoodIn wsX7_init wsX3_init := goodIn_r _ [41, 42, 2, 3, 29, 43, 44, 45, 78, 79, 80, 81] (by decide +kernel) (by decide +kernel)
set_option maxRecDepth 20000 in
theorem gX7_init_X3_init : GoodIn wsX7_init (wsX3_init) := ggX7_init_X3_init
set_option maxRecDepth 20000 in
theorem ggX7_init_X2_init : GoodIn wsX7_init wsX2_init := goodIn_r _ [48, 49, 2, 3, 50, 21, 22, 51, 52, 53, 54, 55, 56, 29, 57, 58, 87, 88, 89, 82, 83, 84, 85, 86] (by decide +kernel) (by decide +kernel)
set_option maxRecDepth 20000 in
theorem gX7_init_X2_init : GoodIn wsX7_init (wsX2_init) := ggX7_init_X2_init
set_option maxRecDepth 20000 in
theorem ggX7_init_X4_init : GoodIn wsX7_init wsX4_init := goodIn_r _ [55, 56, 2, 3, 29, 57, 58, 87, 88, 89] (by decide +kernel) (by decide +kernel)
set_option maxRecDepth 20000 in
theorem gX7_init_X4_init : GoodIn wsX7_init (wsX4_init) := ggX7_init_X4_init
theorem dX7_init_0 : decode cX7_init 0 = .ok (.aload_n 0, 1) := by decide +kernel
theorem dX7_init_1 : decode cX7_init 1 = .ok (.invokespecial 1, 3) := by decide +kernel
theorem dX7_init_4 : decode cX7_init 4 = .ok (.aload_n 0, 1) := by decide +kernel
theorem dX7_init_5 : decode cX7_init 5 = .ok (.new 7, 3) := by decide +kernel
theorem dX7_init_8 : decode cX7_init 8 = .ok (.dup, 1) := by decide +kernel
theorem dX7_init_9 : decode cX7_init 9 = .ok (.invokespecial 9, 3) := by decide +kernel
theorem dX7_init_12 : decode cX7_init 12 = .ok (.putfield 10, 3) := by decide +kernel
theorem dX7_init_15 : decode cX7_init 15 = .ok (.aload_n 0, 1) := by decide +kernel
theorem dX7_init_16 : decode cX7_init 16 = .ok (.iconst 2, 1) := by decide +kernel
theorem dX7_init_17 : decode cX7_init 17 = .ok (.anewarray 16, 3) := by decide +kernel
theorem dX7_init_20 : decode cX7_init 20 = .ok (.putfield 18, 3) := by decide +kernel
theorem dX7_init_23 : decode cX7_init 23 = .ok (.iconst 0, 1) := by decide +kernel
theorem dX7_init_24 : decode cX7_init 24 = .ok (.istore_n 1, 1) := by decide +kernel
theorem dX7_init_25 : decode cX7_init 25 = .ok (.iload_n 1, 1) := by decide +kernel
theorem dX7_init_26 : decode cX7_init 26 = .ok (.iconst 2, 1) := by decide +kernel
theorem dX7_init_27 : decode cX7_init 27 = .ok (.if_icmp .ge 22, 3) := by decide +kernel
theorem dX7_init_30 : decode cX7_init 30 = .ok (.aload_n 0, 1) := by decide +kernel
theorem dX7_init_31 : decode cX7_init 31 = .ok (.getfield 18, 3) := by decide +kernel
theorem dX7_init_34 : decode cX7_init 34 = .ok (.iload_n 1, 1) := by decide +kernel
theorem dX7_init_35 : decode cX7_init 35 = .ok (.new 16, 3) := by decide +kernel
theorem dX7_init_38 : decode cX7_init 38 = .ok (.dup, 1) := by decide +kernel
theorem dX7_init_39 : decode cX7_init 39 = .ok (.invokespecial 22, 3) := by decide +kernel
theorem dX7_init_42 : decode cX7_init 42 = .ok (.aastore, 1) := by decide +kernel
theorem dX7_init_43 : decode cX7_init 43 = .ok (.iinc 1 1, 3) := by decide +kernel
theorem dX7_init_46 : decode cX7_init 46 = .ok (.goto (-21), 3) := by decide +kernel
theorem dX7_init_49 : decode cX7_init 49 = .ok (.aload_n 0, 1) := by decide +kernel
theorem dX7_init_50 : decode cX7_init 50 = .ok (.new 23, 3) := by decide +kernel
theorem dX7_init_53 : decode cX7_init 53 = .ok (.dup, 1) := by decide +kernel
theorem dX7_init_54 : decode cX7_init 54 = .ok (.invokespecial 25, 3) := by decide +kernel
theorem dX7_init_57 : decode cX7_init 57 = .ok (.putfield 26, 3) := by decide +kernel
theorem dX7_init_60 : decode cX7_init 60 = .ok (.aload_n 0, 1) := by decide +kernel
theorem dX7_init_61 : decode cX7_init 61 = .ok (.new 30, 3) := by decide +kernel
theorem dX7_init_64 : decode cX7_init 64 = .ok (.dup, 1) := by decide +kernel
theorem dX7_init_65 : decode cX7_init 65 = .ok (.invokespecial 32, 3) := by decide +kernel
theorem dX7_init_68 : decode cX7_init 68 = .ok (.putfield 33, 3) := by decide +kernel
theorem dX7_init_71 : decode cX7_init 71 = .ok (.aload_n 0, 1) := by decide +kernel
theorem dX7_init_72 : decode cX7_init 72 = .ok (.new 37, 3) := by decide +kernel
theorem dX7_init_75 : decode cX7_init 75 = .ok (.dup, 1) := by decide +kernel
theorem dX7_init_76 : decode cX7_init 76 = .ok (.invokespecial 39, 3) := by decide +kernel
theorem dX7_init_79 : decode cX7_init 79 = .ok (.putfield 40, 3) := by decide +kernel
theorem dX7_init_82 : decode cX7_init 82 = .ok (.aload_n 0, 1) := by decide +kernel
theorem dX7_init_83 : decode cX7_init 83 = .ok (.iconst 1, 1) := by decide +kernel
theorem dX7_init_84 : decode cX7_init 84 = .ok (.putfield 44, 3) := by decide +kernel
theorem dX7_init_87 : decode cX7_init 87 = .ok (.return_, 1) := by decide +kernel
set_option maxRecDepth 20000 in
theorem ggX7_arrive_X7_isBay : GoodIn wsX7_arrive wsX7_isBay := goodIn_r _ [10] (by decide +kernel) (by decide +kernel)
set_option maxRecDepth 20000 in
theorem gX7_arrive_X7_isBay : GoodIn wsX7_arrive (va_wsS RX7 48 yX7_isBay wsX7_isBay) := goodIn_app (goodIn_of _ (by decide +kernel)) ggX7_arrive_X7_isBay
set_option maxRecDepth 20000 in
theorem ggX7_arrive_X7_fitsAnyLevel : GoodIn wsX7_arrive wsX7_fitsAnyLevel := goodIn_r _ [13, 14, 15, 9, 16] (by decide +kernel) (by decide +kernel)
set_option maxRecDepth 20000 in
theorem gX7_arrive_X7_fitsAnyLevel : GoodIn wsX7_arrive (va_wsS RX7 62 yX7_fitsAnyLevel wsX7_fitsAnyLevel) := goodIn_app (goodIn_of _ (by decide +kernel)) ggX7_arrive_X7_fitsAnyLevel
set_option maxRecDepth 20000 in
theorem ggX7_arrive_X7_cellFor : GoodIn wsX7_arrive wsX7_cellFor := goodIn_r _ [20, 6, 14, 15, 9, 16, 21, 22, 23, 24, 25, 26, 27, 28, 29, 30, 31, 32, 33, 34, 35, 36, 37, 38, 39, 40, 41, 42, 43, 44, 45, 46, 47, 48, 49, 50, 51, 52, 53, 54, 55, 56, 57, 58, 59, 60, 93, 94, 95, 96, 97, 98, 99, 100, 101, 102, 109, 110, 111, 112, 113, 114, 115, 116, 117, 118, 119] (by decide +kernel) (by decide +kernel)
set_option maxRecDepth 20000 in
theorem gX7_arrive_X7_cellFor : GoodIn wsX7_arrive (wsV RX7 66 RX7 yX7_cellFor wsX7_cellFor) := goodIn_app (goodIn_of _ (by decide +kernel)) ggX7_arrive_X7_cellFor
set_option maxRecDepth 20000 in
theorem ggX7_arrive_X7_serialAfter : GoodIn wsX7_arrive wsX7_serialAfter := goodIn_r _ [63, 64, 65, 9, 66] (by decide +kernel) (by decide +kernel)
set_option maxRecDepth 20000 in
theorem gX7_arrive_X7_serialAfter : GoodIn wsX7_arrive (va_wsS RX7 73 yX7_serialAfter wsX7_serialAfter) := goodIn_app (goodIn_of _ (by decide +kernel)) ggX7_arrive_X7_serialAfter
set_option maxRecDepth 20000 in
theorem ggX7_arrive_X7_allOrders : GoodIn wsX7_arrive wsX7_allOrders := goodIn_r _ [70, 26, 3, 71, 72, 73, 74, 75, 76, 77, 78, 93, 94, 95, 96, 97, 98, 99, 100, 101, 102, 114, 115, 116, 117, 103, 104, 105, 106, 107, 108] (by decide +kernel) (by decide +kernel)
set_option maxRecDepth 20000 in
theorem gX7_arrive_X7_allOrders : GoodIn wsX7_arrive (wsV RX7 77 RX7 yX7_allOrders wsX7_allOrders) := goodIn_app (goodIn_of _ (by decide +kernel)) ggX7_arrive_X7_allOrders
set_option maxRecDepth 20000 in
theorem ggX7_arrive_X5_keep : GoodIn wsX7_arrive wsX5_keep := goodIn_r _ [82, 52, 83, 9, 84, 118, 119] (by decide +kernel) (by decide +kernel)
set_option maxRecDepth 20000 in
theorem gX7_arrive_X5_keep : GoodIn wsX7_arrive (wsV RX7 81 RX5 yX5_keep wsX5_keep) := goodIn_app (goodIn_of _ (by decide +kernel)) ggX7_arrive_X5_keep
set_option maxRecDepth 20000 in
theorem ggX7_arrive_X7_ticketOf : GoodIn wsX7_arrive wsX7_ticketOf := goodIn_r _ [87, 64, 65, 9, 66] (by decide +kernel) (by decide +kernel)
set_option maxRecDepth 20000 in
theorem gX7_arrive_X7_ticketOf : GoodIn wsX7_arrive (va_wsS RX7 85 yX7_ticketOf wsX7_ticketOf) := goodIn_app (goodIn_of _ (by decide +kernel)) ggX7_arrive_X7_ticketOf
set_option maxRecDepth 20000 in
theorem ggX7_arrive_X1_receive : GoodIn wsX7_arrive wsX1_receive := goodIn_r _ [91, 76, 92, 103, 104, 105, 106, 107, 108] (by decide +kernel) (by decide +kernel)
set_option maxRecDepth 20000 in
theorem gX7_arrive_X1_receive : GoodIn wsX7_arrive (wsV RX7 88 RX1 yX1_receive wsX1_receive) := goodIn_app (goodIn_of _ (by decide +kernel)) ggX7_arrive_X1_receive
theorem dX7_arrive_0 : decode cX7_arrive 0 = .ok (.iload_n 1, 1) := by decide +kernel
theorem dX7_arrive_1 : decode cX7_arrive 1 = .ok (.invokestatic 48, 3) := by decide +kernel
theorem dX7_arrive_4 : decode cX7_arrive 4 = .ok (.ifCond .eq 19, 3) := by decide +kernel
theorem dX7_arrive_7 : decode cX7_arrive 7 = .ok (.iload_n 2, 1) := by decide +kernel
theorem dX7_arrive_8 : decode cX7_arrive 8 = .ok (.iconst 1, 1) := by decide +kernel
theorem dX7_arrive_9 : decode cX7_arrive 9 = .ok (.if_icmp .lt 14, 3) := by decide +kernel
theorem dX7_arrive_12 : decode cX7_arrive 12 = .ok (.iload_n 3, 1) := by decide +kernel
theorem dX7_arrive_13 : decode cX7_arrive 13 = .ok (.iconst 1, 1) := by decide +kernel
theorem dX7_arrive_14 : decode cX7_arrive 14 = .ok (.if_icmp .lt 9, 3) := by decide +kernel
theorem dX7_arrive_17 : decode cX7_arrive 17 = .ok (.iload 4, 2) := by decide +kernel
theorem dX7_arrive_19 : decode cX7_arrive 19 = .ok (.iconst 1, 1) := by decide +kernel
theorem dX7_arrive_20 : decode cX7_arrive 20 = .ok (.if_icmp .ge 11, 3) := by decide +kernel
theorem dX7_arrive_23 : decode cX7_arrive 23 = .ok (.new 52, 3) := by decide +kernel
theorem dX7_arrive_26 : decode cX7_arrive 26 = .ok (.dup, 1) := by decide +kernel
theorem dX7_arrive_27 : decode cX7_arrive 27 = .ok (.invokespecial 54, 3) := by decide +kernel
theorem dX7_arrive_30 : decode cX7_arrive 30 = .ok (.athrow, 1) := by decide +kernel
theorem dX7_arrive_31 : decode cX7_arrive 31 = .ok (.aload_n 0, 1) := by decide +kernel
theorem dX7_arrive_32 : decode cX7_arrive 32 = .ok (.getfield 18, 3) := by decide +kernel
theorem dX7_arrive_35 : decode cX7_arrive 35 = .ok (.iload_n 1, 1) := by decide +kernel
theorem dX7_arrive_36 : decode cX7_arrive 36 = .ok (.aaload, 1) := by decide +kernel
theorem dX7_arrive_37 : decode cX7_arrive 37 = .ok (.astore 5, 2) := by decide +kernel
theorem dX7_arrive_39 : decode cX7_arrive 39 = .ok (.aload 5, 2) := by decide +kernel
theorem dX7_arrive_41 : decode cX7_arrive 41 = .ok (.getfield 55, 3) := by decide +kernel
theorem dX7_arrive_44 : decode cX7_arrive 44 = .ok (.ifCond .eq 5, 3) := by decide +kernel
theorem dX7_arrive_47 : decode cX7_arrive 47 = .ok (.iconst (-1), 1) := by decide +kernel
theorem dX7_arrive_48 : decode cX7_arrive 48 = .ok (.ireturn, 1) := by decide +kernel
theorem dX7_arrive_49 : decode cX7_arrive 49 = .ok (.aload 5, 2) := by decide +kernel
theorem dX7_arrive_51 : decode cX7_arrive 51 = .ok (.getfield 59, 3) := by decide +kernel
theorem dX7_arrive_54 : decode cX7_arrive 54 = .ok (.iconst 2, 1) := by decide +kernel
theorem dX7_arrive_55 : decode cX7_arrive 55 = .ok (.if_icmp .eq 6, 3) := by decide +kernel
theorem dX7_arrive_58 : decode cX7_arrive 58 = .ok (.bipush (-2), 2) := by decide +kernel
theorem dX7_arrive_60 : decode cX7_arrive 60 = .ok (.ireturn, 1) := by decide +kernel
theorem dX7_arrive_61 : decode cX7_arrive 61 = .ok (.iload_n 2, 1) := by decide +kernel
theorem dX7_arrive_62 : decode cX7_arrive 62 = .ok (.sipush 520, 3) := by decide +kernel
theorem dX7_arrive_65 : decode cX7_arrive 65 = .ok (.if_icmp .gt 12, 3) := by decide +kernel
theorem dX7_arrive_68 : decode cX7_arrive 68 = .ok (.iload_n 3, 1) := by decide +kernel
theorem dX7_arrive_69 : decode cX7_arrive 69 = .ok (.iload 4, 2) := by decide +kernel
theorem dX7_arrive_71 : decode cX7_arrive 71 = .ok (.invokestatic 62, 3) := by decide +kernel
theorem dX7_arrive_74 : decode cX7_arrive 74 = .ok (.ifCond .ne 6, 3) := by decide +kernel
theorem dX7_arrive_77 : decode cX7_arrive 77 = .ok (.bipush (-3), 2) := by decide +kernel
theorem dX7_arrive_79 : decode cX7_arrive 79 = .ok (.ireturn, 1) := by decide +kernel
theorem dX7_arrive_80 : decode cX7_arrive 80 = .ok (.aload_n 0, 1) := by decide +kernel
theorem dX7_arrive_81 : decode cX7_arrive 81 = .ok (.iload_n 3, 1) := by decide +kernel
theorem dX7_arrive_82 : decode cX7_arrive 82 = .ok (.iload 4, 2) := by decide +kernel
theorem dX7_arrive_84 : decode cX7_arrive 84 = .ok (.invokevirtual 66, 3) := by decide +kernel
theorem dX7_arrive_87 : decode cX7_arrive 87 = .ok (.istore 6, 2) := by decide +kernel
theorem dX7_arrive_89 : decode cX7_arrive 89 = .ok (.iload 6, 2) := by decide +kernel
theorem dX7_arrive_91 : decode cX7_arrive 91 = .ok (.iconst (-1), 1) := by decide +kernel
theorem dX7_arrive_92 : decode cX7_arrive 92 = .ok (.if_icmp .ne 6, 3) := by decide +kernel
theorem dX7_arrive_95 : decode cX7_arrive 95 = .ok (.bipush (-4), 2) := by decide +kernel
theorem dX7_arrive_97 : decode cX7_arrive 97 = .ok (.ireturn, 1) := by decide +kernel
theorem dX7_arrive_98 : decode cX7_arrive 98 = .ok (.aload_n 0, 1) := by decide +kernel
theorem dX7_arrive_99 : decode cX7_arrive 99 = .ok (.getfield 44, 3) := by decide +kernel
theorem dX7_arrive_102 : decode cX7_arrive 102 = .ok (.ifCond .ne 6, 3) := by decide +kernel
theorem dX7_arrive_105 : decode cX7_arrive 105 = .ok (.bipush (-5), 2) := by decide +kernel
theorem dX7_arrive_107 : decode cX7_arrive 107 = .ok (.ireturn, 1) := by decide +kernel
theorem dX7_arrive_108 : decode cX7_arrive 108 = .ok (.aload_n 0, 1) := by decide +kernel
theorem dX7_arrive_109 : decode cX7_arrive 109 = .ok (.getfield 70, 3) := by decide +kernel
theorem dX7_arrive_112 : decode cX7_arrive 112 = .ok (.invokestatic 73, 3) := by decide +kernel
theorem dX7_arrive_115 : decode cX7_arrive 115 = .ok (.istore 7, 2) := by decide +kernel
theorem dX7_arrive_117 : decode cX7_arrive 117 = .ok (.aload_n 0, 1) := by decide +kernel
theorem dX7_arrive_118 : decode cX7_arrive 118 = .ok (.invokevirtual 77, 3) := by decide +kernel
theorem dX7_arrive_121 : decode cX7_arrive 121 = .ok (.bipush 24, 2) := by decide +kernel
theorem dX7_arrive_123 : decode cX7_arrive 123 = .ok (.if_icmp .ge 9, 3) := by decide +kernel
theorem dX7_arrive_126 : decode cX7_arrive 126 = .ok (.iload 7, 2) := by decide +kernel
theorem dX7_arrive_128 : decode cX7_arrive 128 = .ok (.iconst (-1), 1) := by decide +kernel
theorem dX7_arrive_129 : decode cX7_arrive 129 = .ok (.if_icmp .ne 6, 3) := by decide +kernel
theorem dX7_arrive_132 : decode cX7_arrive 132 = .ok (.bipush (-6), 2) := by decide +kernel
theorem dX7_arrive_134 : decode cX7_arrive 134 = .ok (.ireturn, 1) := by decide +kernel
theorem dX7_arrive_135 : decode cX7_arrive 135 = .ok (.aload_n 0, 1) := by decide +kernel
theorem dX7_arrive_136 : decode cX7_arrive 136 = .ok (.iload 7, 2) := by decide +kernel
theorem dX7_arrive_138 : decode cX7_arrive 138 = .ok (.putfield 70, 3) := by decide +kernel
theorem dX7_arrive_141 : decode cX7_arrive 141 = .ok (.aload_n 0, 1) := by decide +kernel
theorem dX7_arrive_142 : decode cX7_arrive 142 = .ok (.getfield 10, 3) := by decide +kernel
theorem dX7_arrive_145 : decode cX7_arrive 145 = .ok (.iload 6, 2) := by decide +kernel
theorem dX7_arrive_147 : decode cX7_arrive 147 = .ok (.invokevirtual 81, 3) := by decide +kernel
theorem dX7_arrive_150 : decode cX7_arrive 150 = .ok (.aload 5, 2) := by decide +kernel
theorem dX7_arrive_152 : decode cX7_arrive 152 = .ok (.iload 7, 2) := by decide +kernel
theorem dX7_arrive_154 : decode cX7_arrive 154 = .ok (.invokestatic 85, 3) := by decide +kernel
theorem dX7_arrive_157 : decode cX7_arrive 157 = .ok (.iload 6, 2) := by decide +kernel
theorem dX7_arrive_159 : decode cX7_arrive 159 = .ok (.invokevirtual 88, 3) := by decide +kernel
theorem dX7_arrive_162 : decode cX7_arrive 162 = .ok (.aload 5, 2) := by decide +kernel
theorem dX7_arrive_164 : decode cX7_arrive 164 = .ok (.getfield 55, 3) := by decide +kernel
theorem dX7_arrive_167 : decode cX7_arrive 167 = .ok (.ireturn, 1) := by decide +kernel
set_option maxRecDepth 20000 in
theorem ggX7_shut_X7_isBay : GoodIn wsX7_shut wsX7_isBay := goodIn_r _ [10] (by decide +kernel) (by decide +kernel)
set_option maxRecDepth 20000 in
theorem gX7_shut_X7_isBay : GoodIn wsX7_shut (va_wsS RX7 48 yX7_isBay wsX7_isBay) := goodIn_app (goodIn_of _ (by decide +kernel)) ggX7_shut_X7_isBay
set_option maxRecDepth 20000 in
theorem ggX7_shut_X1_beginToShut : GoodIn wsX7_shut wsX1_beginToShut := goodIn_r _ [15, 16, 17, 28, 29, 30, 31, 32, 33] (by decide +kernel) (by decide +kernel)
set_option maxRecDepth 20000 in
theorem gX7_shut_X1_beginToShut : GoodIn wsX7_shut (wsV RX7 101 RX1 yX1_beginToShut wsX1_beginToShut) := goodIn_app (goodIn_of _ (by decide +kernel)) ggX7_shut_X1_beginToShut
theorem dX7_shut_0 : decode cX7_shut 0 = .ok (.iload_n 1, 1) := by decide +kernel
theorem dX7_shut_1 : decode cX7_shut 1 = .ok (.invokestatic 48, 3) := by decide +kernel
theorem dX7_shut_4 : decode cX7_shut 4 = .ok (.ifCond .ne 11, 3) := by decide +kernel
theorem dX7_shut_7 : decode cX7_shut 7 = .ok (.new 52, 3) := by decide +kernel
theorem dX7_shut_10 : decode cX7_shut 10 = .ok (.dup, 1) := by decide +kernel
theorem dX7_shut_11 : decode cX7_shut 11 = .ok (.invokespecial 54, 3) := by decide +kernel
theorem dX7_shut_14 : decode cX7_shut 14 = .ok (.athrow, 1) := by decide +kernel
theorem dX7_shut_15 : decode cX7_shut 15 = .ok (.aload_n 0, 1) := by decide +kernel
theorem dX7_shut_16 : decode cX7_shut 16 = .ok (.getfield 18, 3) := by decide +kernel
theorem dX7_shut_19 : decode cX7_shut 19 = .ok (.iload_n 1, 1) := by decide +kernel
theorem dX7_shut_20 : decode cX7_shut 20 = .ok (.aaload, 1) := by decide +kernel
theorem dX7_shut_21 : decode cX7_shut 21 = .ok (.astore_n 2, 1) := by decide +kernel
theorem dX7_shut_22 : decode cX7_shut 22 = .ok (.aload_n 2, 1) := by decide +kernel
theorem dX7_shut_23 : decode cX7_shut 23 = .ok (.getfield 59, 3) := by decide +kernel
theorem dX7_shut_26 : decode cX7_shut 26 = .ok (.iconst 2, 1) := by decide +kernel
theorem dX7_shut_27 : decode cX7_shut 27 = .ok (.if_icmp .ne 24, 3) := by decide +kernel
theorem dX7_shut_30 : decode cX7_shut 30 = .ok (.aload_n 2, 1) := by decide +kernel
theorem dX7_shut_31 : decode cX7_shut 31 = .ok (.getfield 92, 3) := by decide +kernel
theorem dX7_shut_34 : decode cX7_shut 34 = .ok (.ifCond .ne 17, 3) := by decide +kernel
theorem dX7_shut_37 : decode cX7_shut 37 = .ok (.aload_n 2, 1) := by decide +kernel
theorem dX7_shut_38 : decode cX7_shut 38 = .ok (.getfield 95, 3) := by decide +kernel
theorem dX7_shut_41 : decode cX7_shut 41 = .ok (.ifCond .ne 10, 3) := by decide +kernel
theorem dX7_shut_44 : decode cX7_shut 44 = .ok (.aload_n 0, 1) := by decide +kernel
theorem dX7_shut_45 : decode cX7_shut 45 = .ok (.getfield 44, 3) := by decide +kernel
theorem dX7_shut_48 : decode cX7_shut 48 = .ok (.ifCond .ne 11, 3) := by decide +kernel
theorem dX7_shut_51 : decode cX7_shut 51 = .ok (.new 98, 3) := by decide +kernel
theorem dX7_shut_54 : decode cX7_shut 54 = .ok (.dup, 1) := by decide +kernel
theorem dX7_shut_55 : decode cX7_shut 55 = .ok (.invokespecial 100, 3) := by decide +kernel
theorem dX7_shut_58 : decode cX7_shut 58 = .ok (.athrow, 1) := by decide +kernel
theorem dX7_shut_59 : decode cX7_shut 59 = .ok (.aload_n 2, 1) := by decide +kernel
theorem dX7_shut_60 : decode cX7_shut 60 = .ok (.invokevirtual 101, 3) := by decide +kernel
theorem dX7_shut_63 : decode cX7_shut 63 = .ok (.return_, 1) := by decide +kernel
set_option maxRecDepth 20000 in
theorem ggX7_person_X7_isBay : GoodIn wsX7_person wsX7_isBay := goodIn_r _ [9] (by decide +kernel) (by decide +kernel)
set_option maxRecDepth 20000 in
theorem gX7_person_X7_isBay : GoodIn wsX7_person (va_wsS RX7 48 yX7_isBay wsX7_isBay) := goodIn_app (goodIn_of _ (by decide +kernel)) ggX7_person_X7_isBay
set_option maxRecDepth 20000 in
theorem ggX7_person_X1_beginToOpen : GoodIn wsX7_person wsX1_beginToOpen := goodIn_r _ [14, 15, 16, 27, 28, 29, 30, 31, 32] (by decide +kernel) (by decide +kernel)
set_option maxRecDepth 20000 in
theorem gX7_person_X1_beginToOpen : GoodIn wsX7_person (wsV RX7 104 RX1 yX1_beginToOpen wsX1_beginToOpen) := goodIn_app (goodIn_of _ (by decide +kernel)) ggX7_person_X1_beginToOpen
theorem dX7_person_0 : decode cX7_person 0 = .ok (.iload_n 1, 1) := by decide +kernel
theorem dX7_person_1 : decode cX7_person 1 = .ok (.invokestatic 48, 3) := by decide +kernel
theorem dX7_person_4 : decode cX7_person 4 = .ok (.ifCond .ne 11, 3) := by decide +kernel
theorem dX7_person_7 : decode cX7_person 7 = .ok (.new 52, 3) := by decide +kernel
theorem dX7_person_10 : decode cX7_person 10 = .ok (.dup, 1) := by decide +kernel
theorem dX7_person_11 : decode cX7_person 11 = .ok (.invokespecial 54, 3) := by decide +kernel
theorem dX7_person_14 : decode cX7_person 14 = .ok (.athrow, 1) := by decide +kernel
theorem dX7_person_15 : decode cX7_person 15 = .ok (.aload_n 0, 1) := by decide +kernel
theorem dX7_person_16 : decode cX7_person 16 = .ok (.getfield 18, 3) := by decide +kernel
theorem dX7_person_19 : decode cX7_person 19 = .ok (.iload_n 1, 1) := by decide +kernel
theorem dX7_person_20 : decode cX7_person 20 = .ok (.aaload, 1) := by decide +kernel
theorem dX7_person_21 : decode cX7_person 21 = .ok (.astore_n 3, 1) := by decide +kernel
theorem dX7_person_22 : decode cX7_person 22 = .ok (.iload_n 2, 1) := by decide +kernel
theorem dX7_person_23 : decode cX7_person 23 = .ok (.ifCond .eq 18, 3) := by decide +kernel
theorem dX7_person_26 : decode cX7_person 26 = .ok (.aload_n 3, 1) := by decide +kernel
theorem dX7_person_27 : decode cX7_person 27 = .ok (.getfield 59, 3) := by decide +kernel
theorem dX7_person_30 : decode cX7_person 30 = .ok (.ifCond .ne 11, 3) := by decide +kernel
theorem dX7_person_33 : decode cX7_person 33 = .ok (.new 98, 3) := by decide +kernel
theorem dX7_person_36 : decode cX7_person 36 = .ok (.dup, 1) := by decide +kernel
theorem dX7_person_37 : decode cX7_person 37 = .ok (.invokespecial 100, 3) := by decide +kernel
theorem dX7_person_40 : decode cX7_person 40 = .ok (.athrow, 1) := by decide +kernel
theorem dX7_person_41 : decode cX7_person 41 = .ok (.aload_n 3, 1) := by decide +kernel
theorem dX7_person_42 : decode cX7_person 42 = .ok (.iload_n 2, 1) := by decide +kernel
theorem dX7_person_43 : decode cX7_person 43 = .ok (.putfield 92, 3) := by decide +kernel
theorem dX7_person_46 : decode cX7_person 46 = .ok (.iload_n 2, 1) := by decide +kernel
theorem dX7_person_47 : decode cX7_person 47 = .ok (.ifCond .eq 15, 3) := by decide +kernel
theorem dX7_person_50 : decode cX7_person 50 = .ok (.aload_n 3, 1) := by decide +kernel
theorem dX7_person_51 : decode cX7_person 51 = .ok (.getfield 59, 3) := by decide +kernel
theorem dX7_person_54 : decode cX7_person 54 = .ok (.iconst 3, 1) := by decide +kernel
theorem dX7_person_55 : decode cX7_person 55 = .ok (.if_icmp .ne 7, 3) := by decide +kernel
theorem dX7_person_58 : decode cX7_person 58 = .ok (.aload_n 3, 1) := by decide +kernel
theorem dX7_person_59 : decode cX7_person 59 = .ok (.invokevirtual 104, 3) := by decide +kernel
theorem dX7_person_62 : decode cX7_person 62 = .ok (.return_, 1) := by decide +kernel
set_option maxRecDepth 20000 in
theorem ggX7_gone_X7_isBay : GoodIn wsX7_gone wsX7_isBay := goodIn_r _ [9] (by decide +kernel) (by decide +kernel)
set_option maxRecDepth 20000 in
theorem gX7_gone_X7_isBay : GoodIn wsX7_gone (va_wsS RX7 48 yX7_isBay wsX7_isBay) := goodIn_app (goodIn_of _ (by decide +kernel)) ggX7_gone_X7_isBay
set_option maxRecDepth 20000 in
theorem ggX7_gone_X1_clear : GoodIn wsX7_gone wsX1_clear := goodIn_r _ [14, 15, 16, 17, 28, 29, 30, 31, 32, 33] (by decide +kernel) (by decide +kernel)
set_option maxRecDepth 20000 in
theorem gX7_gone_X1_clear : GoodIn wsX7_gone (wsV RX7 107 RX1 yX1_clear wsX1_clear) := goodIn_app (goodIn_of _ (by decide +kernel)) ggX7_gone_X1_clear
theorem dX7_gone_0 : decode cX7_gone 0 = .ok (.iload_n 1, 1) := by decide +kernel
theorem dX7_gone_1 : decode cX7_gone 1 = .ok (.invokestatic 48, 3) := by decide +kernel
theorem dX7_gone_4 : decode cX7_gone 4 = .ok (.ifCond .ne 11, 3) := by decide +kernel
theorem dX7_gone_7 : decode cX7_gone 7 = .ok (.new 52, 3) := by decide +kernel
theorem dX7_gone_10 : decode cX7_gone 10 = .ok (.dup, 1) := by decide +kernel
theorem dX7_gone_11 : decode cX7_gone 11 = .ok (.invokespecial 54, 3) := by decide +kernel
theorem dX7_gone_14 : decode cX7_gone 14 = .ok (.athrow, 1) := by decide +kernel
theorem dX7_gone_15 : decode cX7_gone 15 = .ok (.aload_n 0, 1) := by decide +kernel
theorem dX7_gone_16 : decode cX7_gone 16 = .ok (.getfield 18, 3) := by decide +kernel
theorem dX7_gone_19 : decode cX7_gone 19 = .ok (.iload_n 1, 1) := by decide +kernel
theorem dX7_gone_20 : decode cX7_gone 20 = .ok (.aaload, 1) := by decide +kernel
theorem dX7_gone_21 : decode cX7_gone 21 = .ok (.astore_n 2, 1) := by decide +kernel
theorem dX7_gone_22 : decode cX7_gone 22 = .ok (.aload_n 2, 1) := by decide +kernel
theorem dX7_gone_23 : decode cX7_gone 23 = .ok (.getfield 95, 3) := by decide +kernel
theorem dX7_gone_26 : decode cX7_gone 26 = .ok (.ifCond .eq 11, 3) := by decide +kernel
theorem dX7_gone_29 : decode cX7_gone 29 = .ok (.aload_n 2, 1) := by decide +kernel
theorem dX7_gone_30 : decode cX7_gone 30 = .ok (.getfield 59, 3) := by decide +kernel
theorem dX7_gone_33 : decode cX7_gone 33 = .ok (.iconst 2, 1) := by decide +kernel
theorem dX7_gone_34 : decode cX7_gone 34 = .ok (.if_icmp .eq 11, 3) := by decide +kernel
theorem dX7_gone_37 : decode cX7_gone 37 = .ok (.new 98, 3) := by decide +kernel
theorem dX7_gone_40 : decode cX7_gone 40 = .ok (.dup, 1) := by decide +kernel
theorem dX7_gone_41 : decode cX7_gone 41 = .ok (.invokespecial 100, 3) := by decide +kernel
theorem dX7_gone_44 : decode cX7_gone 44 = .ok (.athrow, 1) := by decide +kernel
theorem dX7_gone_45 : decode cX7_gone 45 = .ok (.aload_n 2, 1) := by decide +kernel
theorem dX7_gone_46 : decode cX7_gone 46 = .ok (.getfield 55, 3) := by decide +kernel
theorem dX7_gone_49 : decode cX7_gone 49 = .ok (.istore_n 3, 1) := by decide +kernel
theorem dX7_gone_50 : decode cX7_gone 50 = .ok (.aload_n 2, 1) := by decide +kernel
theorem dX7_gone_51 : decode cX7_gone 51 = .ok (.invokevirtual 107, 3) := by decide +kernel
theorem dX7_gone_54 : decode cX7_gone 54 = .ok (.iload_n 3, 1) := by decide +kernel
theorem dX7_gone_55 : decode cX7_gone 55 = .ok (.ireturn, 1) := by decide +kernel
set_option maxRecDepth 20000 in
theorem ggX7_leave_X7_wasGiven : GoodIn wsX7_leave wsX7_wasGiven := goodIn_r _ [11, 12, 13, 14, 10, 15, 56, 57, 58, 59, 60, 61, 62, 63, 64, 65] (by decide +kernel) (by decide +kernel)
set_option maxRecDepth 20000 in
theorem gX7_leave_X7_wasGiven : GoodIn wsX7_leave (wsV RX7 110 RX7 yX7_wasGiven wsX7_wasGiven) := goodIn_app (goodIn_of _ (by decide +kernel)) ggX7_leave_X7_wasGiven
set_option maxRecDepth 20000 in
theorem ggX7_leave_X5_find : GoodIn wsX7_leave wsX5_find := goodIn_r _ [20, 21, 66, 67] (by decide +kernel) (by decide +kernel)
set_option maxRecDepth 20000 in
theorem gX7_leave_X5_find : GoodIn wsX7_leave (wsV RX7 113 RX5 yX5_find wsX5_find) := goodIn_app (goodIn_of _ (by decide +kernel)) ggX7_leave_X5_find
set_option maxRecDepth 20000 in
theorem ggX7_leave_X3_hasOneOf : GoodIn wsX7_leave wsX3_hasOneOf := goodIn_r _ [26, 27, 28, 68, 69, 70, 71] (by decide +kernel) (by decide +kernel)
set_option maxRecDepth 20000 in
theorem gX7_leave_X3_hasOneOf : GoodIn wsX7_leave (wsV RX7 116 RX3 yX3_hasOneOf wsX3_hasOneOf) := goodIn_app (goodIn_of _ (by decide +kernel)) ggX7_leave_X3_hasOneOf
set_option maxRecDepth 20000 in
theorem ggX7_leave_X7_allOrders : GoodIn wsX7_leave wsX7_allOrders := goodIn_r _ [32, 6, 33, 34, 35, 36, 37, 38, 39, 40, 41, 56, 57, 58, 59, 60, 61, 62, 63, 64, 65, 68, 69, 70, 71, 72, 73, 74, 75, 76, 77] (by decide +kernel) (by decide +kernel)
set_option maxRecDepth 20000 in
theorem gX7_leave_X7_allOrders : GoodIn wsX7_leave (wsV RX7 77 RX7 yX7_allOrders wsX7_allOrders) := goodIn_app (goodIn_of _ (by decide +kernel)) ggX7_leave_X7_allOrders
set_option maxRecDepth 20000 in
theorem ggX7_leave_X3_fetchesFor : GoodIn wsX7_leave wsX3_fetchesFor := goodIn_r _ [45, 27, 46, 47, 48, 49, 25, 50, 51, 68, 69, 70, 71] (by decide +kernel) (by decide +kernel)
set_option maxRecDepth 20000 in
theorem gX7_leave_X3_fetchesFor : GoodIn wsX7_leave (wsV RX7 119 RX3 yX3_fetchesFor wsX3_fetchesFor) := goodIn_app (goodIn_of _ (by decide +kernel)) ggX7_leave_X3_fetchesFor
set_option maxRecDepth 20000 in
theorem ggX7_leave_X3_add : GoodIn wsX7_leave wsX3_add := goodIn_r _ [55, 27, 28, 46, 51, 68, 69, 70, 71] (by decide +kernel) (by decide +kernel)
set_option maxRecDepth 20000 in
theorem gX7_leave_X3_add : GoodIn wsX7_leave (wsV RX7 122 RX3 yX3_add wsX3_add) := goodIn_app (goodIn_of _ (by decide +kernel)) ggX7_leave_X3_add
theorem dX7_leave_0 : decode cX7_leave 0 = .ok (.aload_n 0, 1) := by decide +kernel
theorem dX7_leave_1 : decode cX7_leave 1 = .ok (.iload_n 1, 1) := by decide +kernel
theorem dX7_leave_2 : decode cX7_leave 2 = .ok (.invokevirtual 110, 3) := by decide +kernel
theorem dX7_leave_5 : decode cX7_leave 5 = .ok (.ifCond .ne 11, 3) := by decide +kernel
theorem dX7_leave_8 : decode cX7_leave 8 = .ok (.new 52, 3) := by decide +kernel
theorem dX7_leave_11 : decode cX7_leave 11 = .ok (.dup, 1) := by decide +kernel
theorem dX7_leave_12 : decode cX7_leave 12 = .ok (.invokespecial 54, 3) := by decide +kernel
theorem dX7_leave_15 : decode cX7_leave 15 = .ok (.athrow, 1) := by decide +kernel
theorem dX7_leave_16 : decode cX7_leave 16 = .ok (.aload_n 0, 1) := by decide +kernel
theorem dX7_leave_17 : decode cX7_leave 17 = .ok (.getfield 10, 3) := by decide +kernel
theorem dX7_leave_20 : decode cX7_leave 20 = .ok (.iload_n 1, 1) := by decide +kernel
theorem dX7_leave_21 : decode cX7_leave 21 = .ok (.invokevirtual 113, 3) := by decide +kernel
theorem dX7_leave_24 : decode cX7_leave 24 = .ok (.iconst (-1), 1) := by decide +kernel
theorem dX7_leave_25 : decode cX7_leave 25 = .ok (.if_icmp .eq 23, 3) := by decide +kernel
theorem dX7_leave_28 : decode cX7_leave 28 = .ok (.aload_n 0, 1) := by decide +kernel
theorem dX7_leave_29 : decode cX7_leave 29 = .ok (.getfield 26, 3) := by decide +kernel
theorem dX7_leave_32 : decode cX7_leave 32 = .ok (.iload_n 1, 1) := by decide +kernel
theorem dX7_leave_33 : decode cX7_leave 33 = .ok (.invokevirtual 116, 3) := by decide +kernel
theorem dX7_leave_36 : decode cX7_leave 36 = .ok (.ifCond .ne 12, 3) := by decide +kernel
theorem dX7_leave_39 : decode cX7_leave 39 = .ok (.aload_n 0, 1) := by decide +kernel
theorem dX7_leave_40 : decode cX7_leave 40 = .ok (.invokevirtual 77, 3) := by decide +kernel
theorem dX7_leave_43 : decode cX7_leave 43 = .ok (.bipush 24, 2) := by decide +kernel
theorem dX7_leave_45 : decode cX7_leave 45 = .ok (.if_icmp .lt 11, 3) := by decide +kernel
theorem dX7_leave_48 : decode cX7_leave 48 = .ok (.new 98, 3) := by decide +kernel
theorem dX7_leave_51 : decode cX7_leave 51 = .ok (.dup, 1) := by decide +kernel
theorem dX7_leave_52 : decode cX7_leave 52 = .ok (.invokespecial 100, 3) := by decide +kernel
theorem dX7_leave_55 : decode cX7_leave 55 = .ok (.athrow, 1) := by decide +kernel
theorem dX7_leave_56 : decode cX7_leave 56 = .ok (.aload_n 0, 1) := by decide +kernel
theorem dX7_leave_57 : decode cX7_leave 57 = .ok (.getfield 26, 3) := by decide +kernel
theorem dX7_leave_60 : decode cX7_leave 60 = .ok (.iconst 1, 1) := by decide +kernel
theorem dX7_leave_61 : decode cX7_leave 61 = .ok (.invokevirtual 119, 3) := by decide +kernel
theorem dX7_leave_64 : decode cX7_leave 64 = .ok (.aload_n 0, 1) := by decide +kernel
theorem dX7_leave_65 : decode cX7_leave 65 = .ok (.getfield 26, 3) := by decide +kernel
theorem dX7_leave_68 : decode cX7_leave 68 = .ok (.iconst 0, 1) := by decide +kernel
theorem dX7_leave_69 : decode cX7_leave 69 = .ok (.invokevirtual 119, 3) := by decide +kernel
theorem dX7_leave_72 : decode cX7_leave 72 = .ok (.if_icmp .ge 7, 3) := by decide +kernel
theorem dX7_leave_75 : decode cX7_leave 75 = .ok (.iconst 1, 1) := by decide +kernel
theorem dX7_leave_76 : decode cX7_leave 76 = .ok (.goto 4, 3) := by decide +kernel
theorem dX7_leave_79 : decode cX7_leave 79 = .ok (.iconst 0, 1) := by decide +kernel
theorem dX7_leave_80 : decode cX7_leave 80 = .ok (.istore_n 2, 1) := by decide +kernel
theorem dX7_leave_81 : decode cX7_leave 81 = .ok (.aload_n 0, 1) := by decide +kernel
theorem dX7_leave_82 : decode cX7_leave 82 = .ok (.getfield 26, 3) := by decide +kernel
theorem dX7_leave_85 : decode cX7_leave 85 = .ok (.iload_n 1, 1) := by decide +kernel
theorem dX7_leave_86 : decode cX7_leave 86 = .ok (.iload_n 2, 1) := by decide +kernel
theorem dX7_leave_87 : decode cX7_leave 87 = .ok (.iconst (-1), 1) := by decide +kernel
theorem dX7_leave_88 : decode cX7_leave 88 = .ok (.invokevirtual 122, 3) := by decide +kernel
theorem dX7_leave_91 : decode cX7_leave 91 = .ok (.iload_n 2, 1) := by decide +kernel
theorem dX7_leave_92 : decode cX7_leave 92 = .ok (.ireturn, 1) := by decide +kernel
theorem dX7_jam_0 : decode cX7_jam 0 = .ok (.iload_n 1, 1) := by decide +kernel
theorem dX7_jam_1 : decode cX7_jam 1 = .ok (.ifCond .lt 8, 3) := by decide +kernel
theorem dX7_jam_4 : decode cX7_jam 4 = .ok (.iload_n 1, 1) := by decide +kernel
theorem dX7_jam_5 : decode cX7_jam 5 = .ok (.iconst 4, 1) := by decide +kernel
theorem dX7_jam_6 : decode cX7_jam 6 = .ok (.if_icmp .lt 11, 3) := by decide +kernel
theorem dX7_jam_9 : decode cX7_jam 9 = .ok (.new 52, 3) := by decide +kernel
theorem dX7_jam_12 : decode cX7_jam 12 = .ok (.dup, 1) := by decide +kernel
theorem dX7_jam_13 : decode cX7_jam 13 = .ok (.invokespecial 54, 3) := by decide +kernel
theorem dX7_jam_16 : decode cX7_jam 16 = .ok (.athrow, 1) := by decide +kernel
theorem dX7_jam_17 : decode cX7_jam 17 = .ok (.aload_n 0, 1) := by decide +kernel
theorem dX7_jam_18 : decode cX7_jam 18 = .ok (.getfield 10, 3) := by decide +kernel
theorem dX7_jam_21 : decode cX7_jam 21 = .ok (.getfield 126, 3) := by decide +kernel
theorem dX7_jam_24 : decode cX7_jam 24 = .ok (.iload_n 1, 1) := by decide +kernel
theorem dX7_jam_25 : decode cX7_jam 25 = .ok (.iload_n 2, 1) := by decide +kernel
theorem dX7_jam_26 : decode cX7_jam 26 = .ok (.bastore, 1) := by decide +kernel
theorem dX7_jam_27 : decode cX7_jam 27 = .ok (.return_, 1) := by decide +kernel
theorem dX7_power_0 : decode cX7_power 0 = .ok (.aload_n 0, 1) := by decide +kernel
theorem dX7_power_1 : decode cX7_power 1 = .ok (.getfield 44, 3) := by decide +kernel
theorem dX7_power_4 : decode cX7_power 4 = .ok (.iload_n 1, 1) := by decide +kernel
theorem dX7_power_5 : decode cX7_power 5 = .ok (.if_icmp .ne 11, 3) := by decide +kernel
theorem dX7_power_8 : decode cX7_power 8 = .ok (.new 98, 3) := by decide +kernel
theorem dX7_power_11 : decode cX7_power 11 = .ok (.dup, 1) := by decide +kernel
theorem dX7_power_12 : decode cX7_power 12 = .ok (.invokespecial 100, 3) := by decide +kernel
theorem dX7_power_15 : decode cX7_power 15 = .ok (.athrow, 1) := by decide +kernel
theorem dX7_power_16 : decode cX7_power 16 = .ok (.aload_n 0, 1) := by decide +kernel
theorem dX7_power_17 : decode cX7_power 17 = .ok (.iload_n 1, 1) := by decide +kernel
theorem dX7_power_18 : decode cX7_power 18 = .ok (.putfield 44, 3) := by decide +kernel
theorem dX7_power_21 : decode cX7_power 21 = .ok (.iload_n 1, 1) := by decide +kernel
theorem dX7_power_22 : decode cX7_power 22 = .ok (.ifCond .eq 8, 3) := by decide +kernel
theorem dX7_power_25 : decode cX7_power 25 = .ok (.aload_n 0, 1) := by decide +kernel
theorem dX7_power_26 : decode cX7_power 26 = .ok (.iconst 5, 1) := by decide +kernel
theorem dX7_power_27 : decode cX7_power 27 = .ok (.putfield 130, 3) := by decide +kernel
theorem dX7_power_30 : decode cX7_power 30 = .ok (.return_, 1) := by decide +kernel
set_option maxRecDepth 20000 in
theorem ggX7_tick_X7_passOneTick : GoodIn wsX7_tick wsX7_passOneTick := goodIn_r _ [8, 3, 9, 10, 11, 12, 13, 14, 7, 15, 16, 17, 18, 19, 20, 21, 22, 23, 24, 25, 26, 27, 28, 29, 30, 31, 32, 33, 34, 35, 36, 37, 38, 39, 40, 41, 42, 43, 44, 45, 46, 47, 48, 49, 50, 51, 52, 53, 54, 55, 56, 57, 58, 59, 60, 61, 62, 63, 64, 65, 66, 67, 68, 69, 70, 71, 72, 73, 74, 75, 76, 77, 78, 79, 80, 81, 82, 83, 84, 85, 86, 87, 88, 89, 90, 91, 92, 93, 94, 95, 96, 97, 98, 99, 100, 101, 102, 103, 104, 105, 106, 107, 108, 109, 110, 111, 112, 113, 114, 115, 116, 117, 118, 119, 120, 121, 122, 123, 124, 125, 126, 127, 128, 129, 130, 131, 132, 133, 134, 135, 136, 137, 138, 139, 140, 141, 142, 143, 144, 145, 146, 147, 148, 149, 150, 151, 152, 153, 154, 155, 156, 157, 158, 159, 160, 161, 162, 163, 164, 165, 166, 167, 168, 169, 170, 171, 172, 173, 174, 175, 176, 177, 178, 179, 180, 181, 182, 183, 184, 185, 186, 187, 188, 189, 190, 191, 192, 193, 194, 195, 196, 197, 198, 199, 200, 201, 202, 203, 204, 205, 206, 207, 208, 209, 210, 211, 212, 213, 214, 215, 216, 217, 218, 219, 220, 221, 222, 223, 224, 225, 226, 227, 228, 229, 230, 231, 232, 233, 234, 235, 236, 237, 238, 239, 240, 241, 242, 243, 244, 245, 246, 247, 248, 249, 250, 251, 252] (by decide +kernel) (by decide +kernel)
set_option maxRecDepth 20000 in
theorem gX7_tick_X7_passOneTick : GoodIn wsX7_tick (wsV RX7 133 RX7 yX7_passOneTick wsX7_passOneTick) := goodIn_app (goodIn_of _ (by decide +kernel)) ggX7_tick_X7_passOneTick
theorem dX7_tick_0 : decode cX7_tick 0 = .ok (.iload_n 1, 1) := by decide +kernel
theorem dX7_tick_1 : decode cX7_tick 1 = .ok (.iconst 1, 1) := by decide +kernel
theorem dX7_tick_2 : decode cX7_tick 2 = .ok (.if_icmp .lt 10, 3) := by decide +kernel
theorem dX7_tick_5 : decode cX7_tick 5 = .ok (.iload_n 1, 1) := by decide +kernel
theorem dX7_tick_6 : decode cX7_tick 6 = .ok (.sipush 500, 3) := by decide +kernel
theorem dX7_tick_9 : decode cX7_tick 9 = .ok (.if_icmp .le 11, 3) := by decide +kernel
theorem dX7_tick_12 : decode cX7_tick 12 = .ok (.new 52, 3) := by decide +kernel
theorem dX7_tick_15 : decode cX7_tick 15 = .ok (.dup, 1) := by decide +kernel
theorem dX7_tick_16 : decode cX7_tick 16 = .ok (.invokespecial 54, 3) := by decide +kernel
theorem dX7_tick_19 : decode cX7_tick 19 = .ok (.athrow, 1) := by decide +kernel
theorem dX7_tick_20 : decode cX7_tick 20 = .ok (.iconst 0, 1) := by decide +kernel
theorem dX7_tick_21 : decode cX7_tick 21 = .ok (.istore_n 2, 1) := by decide +kernel
theorem dX7_tick_22 : decode cX7_tick 22 = .ok (.iload_n 2, 1) := by decide +kernel
theorem dX7_tick_23 : decode cX7_tick 23 = .ok (.iload_n 1, 1) := by decide +kernel
theorem dX7_tick_24 : decode cX7_tick 24 = .ok (.if_icmp .ge 13, 3) := by decide +kernel
theorem dX7_tick_27 : decode cX7_tick 27 = .ok (.aload_n 0, 1) := by decide +kernel
theorem dX7_tick_28 : decode cX7_tick 28 = .ok (.invokevirtual 133, 3) := by decide +kernel
theorem dX7_tick_31 : decode cX7_tick 31 = .ok (.iinc 2 1, 3) := by decide +kernel
theorem dX7_tick_34 : decode cX7_tick 34 = .ok (.goto (-12), 3) := by decide +kernel
theorem dX7_tick_37 : decode cX7_tick 37 = .ok (.aload_n 0, 1) := by decide +kernel
theorem dX7_tick_38 : decode cX7_tick 38 = .ok (.getfield 136, 3) := by decide +kernel
theorem dX7_tick_41 : decode cX7_tick 41 = .ok (.ireturn, 1) := by decide +kernel
theorem dX7_cell_0 : decode cX7_cell 0 = .ok (.iload_n 1, 1) := by decide +kernel
theorem dX7_cell_1 : decode cX7_cell 1 = .ok (.ifCond .lt 9, 3) := by decide +kernel
theorem dX7_cell_4 : decode cX7_cell 4 = .ok (.iload_n 1, 1) := by decide +kernel
theorem dX7_cell_5 : decode cX7_cell 5 = .ok (.bipush 96, 2) := by decide +kernel
theorem dX7_cell_7 : decode cX7_cell 7 = .ok (.if_icmp .lt 11, 3) := by decide +kernel
theorem dX7_cell_10 : decode cX7_cell 10 = .ok (.new 52, 3) := by decide +kernel
theorem dX7_cell_13 : decode cX7_cell 13 = .ok (.dup, 1) := by decide +kernel
theorem dX7_cell_14 : decode cX7_cell 14 = .ok (.invokespecial 54, 3) := by decide +kernel
theorem dX7_cell_17 : decode cX7_cell 17 = .ok (.athrow, 1) := by decide +kernel
theorem dX7_cell_18 : decode cX7_cell 18 = .ok (.aload_n 0, 1) := by decide +kernel
theorem dX7_cell_19 : decode cX7_cell 19 = .ok (.getfield 10, 3) := by decide +kernel
theorem dX7_cell_22 : decode cX7_cell 22 = .ok (.getfield 139, 3) := by decide +kernel
theorem dX7_cell_25 : decode cX7_cell 25 = .ok (.iload_n 1, 1) := by decide +kernel
theorem dX7_cell_26 : decode cX7_cell 26 = .ok (.iaload, 1) := by decide +kernel
theorem dX7_cell_27 : decode cX7_cell 27 = .ok (.ireturn, 1) := by decide +kernel
set_option maxRecDepth 20000 in
theorem ggX7_plan_X7_wasGiven : GoodIn wsX7_plan wsX7_wasGiven := goodIn_r _ [13, 14, 15, 16, 12, 17, 57, 58, 59, 60, 61, 62, 63, 64, 65, 66] (by decide +kernel) (by decide +kernel)
set_option maxRecDepth 20000 in
theorem gX7_plan_X7_wasGiven : GoodIn wsX7_plan (wsV RX7 110 RX7 yX7_wasGiven wsX7_wasGiven) := goodIn_app (goodIn_of _ (by decide +kernel)) ggX7_plan_X7_wasGiven
set_option maxRecDepth 20000 in
theorem ggX7_plan_X5_find : GoodIn wsX7_plan wsX5_find := goodIn_r _ [22, 23, 70, 71] (by decide +kernel) (by decide +kernel)
set_option maxRecDepth 20000 in
theorem gX7_plan_X5_find : GoodIn wsX7_plan (wsV RX7 113 RX5 yX5_find wsX5_find) := goodIn_app (goodIn_of _ (by decide +kernel)) ggX7_plan_X5_find
set_option maxRecDepth 20000 in
theorem ggX7_plan_X4_make : GoodIn wsX7_plan wsX4_make := goodIn_r _ [28, 29, 30, 31, 32, 21, 33, 34, 12, 35, 36, 37, 38, 39, 23, 40, 41, 42, 43, 44, 45, 46, 47, 48, 49, 50, 51, 52, 53, 27, 54, 55, 56, 67, 68, 69, 70, 71] (by decide +kernel) (by decide +kernel)
set_option maxRecDepth 20000 in
theorem gX7_plan_X4_make : GoodIn wsX7_plan (wsV RX7 143 RX4 yX4_make wsX4_make) := goodIn_app (goodIn_of _ (by decide +kernel)) ggX7_plan_X4_make
theorem dX7_plan_0 : decode cX7_plan 0 = .ok (.aload_n 0, 1) := by decide +kernel
theorem dX7_plan_1 : decode cX7_plan 1 = .ok (.iload_n 1, 1) := by decide +kernel
theorem dX7_plan_2 : decode cX7_plan 2 = .ok (.invokevirtual 110, 3) := by decide +kernel
theorem dX7_plan_5 : decode cX7_plan 5 = .ok (.ifCond .ne 11, 3) := by decide +kernel
theorem dX7_plan_8 : decode cX7_plan 8 = .ok (.new 52, 3) := by decide +kernel
theorem dX7_plan_11 : decode cX7_plan 11 = .ok (.dup, 1) := by decide +kernel
theorem dX7_plan_12 : decode cX7_plan 12 = .ok (.invokespecial 54, 3) := by decide +kernel
theorem dX7_plan_15 : decode cX7_plan 15 = .ok (.athrow, 1) := by decide +kernel
theorem dX7_plan_16 : decode cX7_plan 16 = .ok (.aload_n 0, 1) := by decide +kernel
theorem dX7_plan_17 : decode cX7_plan 17 = .ok (.getfield 10, 3) := by decide +kernel
theorem dX7_plan_20 : decode cX7_plan 20 = .ok (.iload_n 1, 1) := by decide +kernel
theorem dX7_plan_21 : decode cX7_plan 21 = .ok (.invokevirtual 113, 3) := by decide +kernel
theorem dX7_plan_24 : decode cX7_plan 24 = .ok (.istore_n 3, 1) := by decide +kernel
theorem dX7_plan_25 : decode cX7_plan 25 = .ok (.iload_n 3, 1) := by decide +kernel
theorem dX7_plan_26 : decode cX7_plan 26 = .ok (.iconst (-1), 1) := by decide +kernel
theorem dX7_plan_27 : decode cX7_plan 27 = .ok (.if_icmp .ne 11, 3) := by decide +kernel
theorem dX7_plan_30 : decode cX7_plan 30 = .ok (.new 98, 3) := by decide +kernel
theorem dX7_plan_33 : decode cX7_plan 33 = .ok (.dup, 1) := by decide +kernel
theorem dX7_plan_34 : decode cX7_plan 34 = .ok (.invokespecial 100, 3) := by decide +kernel
theorem dX7_plan_37 : decode cX7_plan 37 = .ok (.athrow, 1) := by decide +kernel
theorem dX7_plan_38 : decode cX7_plan 38 = .ok (.aload_n 0, 1) := by decide +kernel
theorem dX7_plan_39 : decode cX7_plan 39 = .ok (.getfield 40, 3) := by decide +kernel
theorem dX7_plan_42 : decode cX7_plan 42 = .ok (.aload_n 0, 1) := by decide +kernel
theorem dX7_plan_43 : decode cX7_plan 43 = .ok (.getfield 10, 3) := by decide +kernel
theorem dX7_plan_46 : decode cX7_plan 46 = .ok (.iload_n 3, 1) := by decide +kernel
theorem dX7_plan_47 : decode cX7_plan 47 = .ok (.invokevirtual 143, 3) := by decide +kernel
theorem dX7_plan_50 : decode cX7_plan 50 = .ok (.pop, 1) := by decide +kernel
theorem dX7_plan_51 : decode cX7_plan 51 = .ok (.iload_n 2, 1) := by decide +kernel
theorem dX7_plan_52 : decode cX7_plan 52 = .ok (.iconst (-1), 1) := by decide +kernel
theorem dX7_plan_53 : decode cX7_plan 53 = .ok (.if_icmp .ne 11, 3) := by decide +kernel
theorem dX7_plan_56 : decode cX7_plan 56 = .ok (.aload_n 0, 1) := by decide +kernel
theorem dX7_plan_57 : decode cX7_plan 57 = .ok (.getfield 40, 3) := by decide +kernel
theorem dX7_plan_60 : decode cX7_plan 60 = .ok (.getfield 147, 3) := by decide +kernel
theorem dX7_plan_63 : decode cX7_plan 63 = .ok (.ireturn, 1) := by decide +kernel
theorem dX7_plan_64 : decode cX7_plan 64 = .ok (.iload_n 2, 1) := by decide +kernel
theorem dX7_plan_65 : decode cX7_plan 65 = .ok (.ifCond .lt 14, 3) := by decide +kernel
theorem dX7_plan_68 : decode cX7_plan 68 = .ok (.iload_n 2, 1) := by decide +kernel
theorem dX7_plan_69 : decode cX7_plan 69 = .ok (.aload_n 0, 1) := by decide +kernel
theorem dX7_plan_70 : decode cX7_plan 70 = .ok (.getfield 40, 3) := by decide +kernel
theorem dX7_plan_73 : decode cX7_plan 73 = .ok (.getfield 147, 3) := by decide +kernel
theorem dX7_plan_76 : decode cX7_plan 76 = .ok (.if_icmp .lt 11, 3) := by decide +kernel
theorem dX7_plan_79 : decode cX7_plan 79 = .ok (.new 150, 3) := by decide +kernel
theorem dX7_plan_82 : decode cX7_plan 82 = .ok (.dup, 1) := by decide +kernel
theorem dX7_plan_83 : decode cX7_plan 83 = .ok (.invokespecial 152, 3) := by decide +kernel
theorem dX7_plan_86 : decode cX7_plan 86 = .ok (.athrow, 1) := by decide +kernel
theorem dX7_plan_87 : decode cX7_plan 87 = .ok (.bipush 100, 2) := by decide +kernel
theorem dX7_plan_89 : decode cX7_plan 89 = .ok (.aload_n 0, 1) := by decide +kernel
theorem dX7_plan_90 : decode cX7_plan 90 = .ok (.getfield 40, 3) := by decide +kernel
theorem dX7_plan_93 : decode cX7_plan 93 = .ok (.getfield 153, 3) := by decide +kernel
theorem dX7_plan_96 : decode cX7_plan 96 = .ok (.iload_n 2, 1) := by decide +kernel
theorem dX7_plan_97 : decode cX7_plan 97 = .ok (.iaload, 1) := by decide +kernel
theorem dX7_plan_98 : decode cX7_plan 98 = .ok (.imul, 1) := by decide +kernel
theorem dX7_plan_99 : decode cX7_plan 99 = .ok (.aload_n 0, 1) := by decide +kernel
theorem dX7_plan_100 : decode cX7_plan 100 = .ok (.getfield 40, 3) := by decide +kernel
theorem dX7_plan_103 : decode cX7_plan 103 = .ok (.getfield 156, 3) := by decide +kernel
theorem dX7_plan_106 : decode cX7_plan 106 = .ok (.iload_n 2, 1) := by decide +kernel
theorem dX7_plan_107 : decode cX7_plan 107 = .ok (.iaload, 1) := by decide +kernel
theorem dX7_plan_108 : decode cX7_plan 108 = .ok (.iadd, 1) := by decide +kernel
theorem dX7_plan_109 : decode cX7_plan 109 = .ok (.ireturn, 1) := by decide +kernel
set_option maxRecDepth 20000 in
theorem ggX7_bay_X7_isBay : GoodIn wsX7_bay wsX7_isBay := goodIn_r _ [8] (by decide +kernel) (by decide +kernel)
set_option maxRecDepth 20000 in
theorem gX7_bay_X7_isBay : GoodIn wsX7_bay (va_wsS RX7 48 yX7_isBay wsX7_isBay) := goodIn_app (goodIn_of _ (by decide +kernel)) ggX7_bay_X7_isBay
set_option maxRecDepth 20000 in
theorem ggX7_bay_X3_countFor : GoodIn wsX7_bay wsX3_countFor := goodIn_r _ [13, 14, 15, 32, 33, 34, 35] (by decide +kernel) (by decide +kernel)
set_option maxRecDepth 20000 in
theorem gX7_bay_X3_countFor : GoodIn wsX7_bay (wsV RX7 159 RX3 yX3_countFor wsX3_countFor) := goodIn_app (goodIn_of _ (by decide +kernel)) ggX7_bay_X3_countFor
theorem dX7_bay_0 : decode cX7_bay 0 = .ok (.iload_n 1, 1) := by decide +kernel
theorem dX7_bay_1 : decode cX7_bay 1 = .ok (.invokestatic 48, 3) := by decide +kernel
theorem dX7_bay_4 : decode cX7_bay 4 = .ok (.ifCond .ne 11, 3) := by decide +kernel
theorem dX7_bay_7 : decode cX7_bay 7 = .ok (.new 52, 3) := by decide +kernel
theorem dX7_bay_10 : decode cX7_bay 10 = .ok (.dup, 1) := by decide +kernel
theorem dX7_bay_11 : decode cX7_bay 11 = .ok (.invokespecial 54, 3) := by decide +kernel
theorem dX7_bay_14 : decode cX7_bay 14 = .ok (.athrow, 1) := by decide +kernel
theorem dX7_bay_15 : decode cX7_bay 15 = .ok (.aload_n 0, 1) := by decide +kernel
theorem dX7_bay_16 : decode cX7_bay 16 = .ok (.getfield 18, 3) := by decide +kernel
theorem dX7_bay_19 : decode cX7_bay 19 = .ok (.iload_n 1, 1) := by decide +kernel
theorem dX7_bay_20 : decode cX7_bay 20 = .ok (.aaload, 1) := by decide +kernel
theorem dX7_bay_21 : decode cX7_bay 21 = .ok (.astore_n 3, 1) := by decide +kernel
theorem dX7_bay_22 : decode cX7_bay 22 = .ok (.iload_n 2, 1) := by decide +kernel
theorem dX7_bay_23 : decode cX7_bay 23 = .ok (.tableswitch 78 0 4 #[33, 38, 51, 56, 69], 33) := by decide +kernel
theorem dX7_bay_56 : decode cX7_bay 56 = .ok (.aload_n 3, 1) := by decide +kernel
theorem dX7_bay_57 : decode cX7_bay 57 = .ok (.getfield 59, 3) := by decide +kernel
theorem dX7_bay_60 : decode cX7_bay 60 = .ok (.ireturn, 1) := by decide +kernel
theorem dX7_bay_61 : decode cX7_bay 61 = .ok (.aload_n 3, 1) := by decide +kernel
theorem dX7_bay_62 : decode cX7_bay 62 = .ok (.getfield 92, 3) := by decide +kernel
theorem dX7_bay_65 : decode cX7_bay 65 = .ok (.ifCond .eq 7, 3) := by decide +kernel
theorem dX7_bay_68 : decode cX7_bay 68 = .ok (.iconst 1, 1) := by decide +kernel
theorem dX7_bay_69 : decode cX7_bay 69 = .ok (.goto 4, 3) := by decide +kernel
theorem dX7_bay_72 : decode cX7_bay 72 = .ok (.iconst 0, 1) := by decide +kernel
theorem dX7_bay_73 : decode cX7_bay 73 = .ok (.ireturn, 1) := by decide +kernel
theorem dX7_bay_74 : decode cX7_bay 74 = .ok (.aload_n 3, 1) := by decide +kernel
theorem dX7_bay_75 : decode cX7_bay 75 = .ok (.getfield 55, 3) := by decide +kernel
theorem dX7_bay_78 : decode cX7_bay 78 = .ok (.ireturn, 1) := by decide +kernel
theorem dX7_bay_79 : decode cX7_bay 79 = .ok (.aload_n 3, 1) := by decide +kernel
theorem dX7_bay_80 : decode cX7_bay 80 = .ok (.getfield 95, 3) := by decide +kernel
theorem dX7_bay_83 : decode cX7_bay 83 = .ok (.ifCond .eq 7, 3) := by decide +kernel
theorem dX7_bay_86 : decode cX7_bay 86 = .ok (.iconst 1, 1) := by decide +kernel
theorem dX7_bay_87 : decode cX7_bay 87 = .ok (.goto 4, 3) := by decide +kernel
theorem dX7_bay_90 : decode cX7_bay 90 = .ok (.iconst 0, 1) := by decide +kernel
theorem dX7_bay_91 : decode cX7_bay 91 = .ok (.ireturn, 1) := by decide +kernel
theorem dX7_bay_92 : decode cX7_bay 92 = .ok (.aload_n 0, 1) := by decide +kernel
theorem dX7_bay_93 : decode cX7_bay 93 = .ok (.getfield 26, 3) := by decide +kernel
theorem dX7_bay_96 : decode cX7_bay 96 = .ok (.iload_n 1, 1) := by decide +kernel
theorem dX7_bay_97 : decode cX7_bay 97 = .ok (.invokevirtual 159, 3) := by decide +kernel
theorem dX7_bay_100 : decode cX7_bay 100 = .ok (.ireturn, 1) := by decide +kernel
theorem dX7_bay_101 : decode cX7_bay 101 = .ok (.new 52, 3) := by decide +kernel
theorem dX7_bay_104 : decode cX7_bay 104 = .ok (.dup, 1) := by decide +kernel
theorem dX7_bay_105 : decode cX7_bay 105 = .ok (.invokespecial 54, 3) := by decide +kernel
theorem dX7_bay_108 : decode cX7_bay 108 = .ok (.athrow, 1) := by decide +kernel
set_option maxRecDepth 20000 in
theorem ggX7_look_X2_isIdle : GoodIn wsX7_look wsX2_isIdle := goodIn_r _ [12, 13, 38, 39, 40, 41, 42] (by decide +kernel) (by decide +kernel)
set_option maxRecDepth 20000 in
theorem gX7_look_X2_isIdle : GoodIn wsX7_look (wsV RX7 163 RX2 yX2_isIdle wsX2_isIdle) := goodIn_app (goodIn_of _ (by decide +kernel)) ggX7_look_X2_isIdle
set_option maxRecDepth 20000 in
theorem ggX7_look_X5_countCars : GoodIn wsX7_look wsX5_countCars := goodIn_r _ [18, 19, 20, 21, 17, 22, 23, 43, 44] (by decide +kernel) (by decide +kernel)
set_option maxRecDepth 20000 in
theorem gX7_look_X5_countCars : GoodIn wsX7_look (wsV RX7 182 RX5 yX5_countCars wsX5_countCars) := goodIn_app (goodIn_of _ (by decide +kernel)) ggX7_look_X5_countCars
theorem dX7_look_0 : decode cX7_look 0 = .ok (.iload_n 1, 1) := by decide +kernel
theorem dX7_look_1 : decode cX7_look 1 = .ok (.tableswitch 115 0 6 #[43, 51, 81, 89, 97, 102, 110], 43) := by decide +kernel
theorem dX7_look_44 : decode cX7_look 44 = .ok (.aload_n 0, 1) := by decide +kernel
theorem dX7_look_45 : decode cX7_look 45 = .ok (.getfield 26, 3) := by decide +kernel
theorem dX7_look_48 : decode cX7_look 48 = .ok (.getfield 162, 3) := by decide +kernel
theorem dX7_look_51 : decode cX7_look 51 = .ok (.ireturn, 1) := by decide +kernel
theorem dX7_look_52 : decode cX7_look 52 = .ok (.aload_n 0, 1) := by decide +kernel
theorem dX7_look_53 : decode cX7_look 53 = .ok (.getfield 33, 3) := by decide +kernel
theorem dX7_look_56 : decode cX7_look 56 = .ok (.invokevirtual 163, 3) := by decide +kernel
theorem dX7_look_59 : decode cX7_look 59 = .ok (.ifCond .eq 7, 3) := by decide +kernel
theorem dX7_look_62 : decode cX7_look 62 = .ok (.iconst 0, 1) := by decide +kernel
theorem dX7_look_63 : decode cX7_look 63 = .ok (.goto 18, 3) := by decide +kernel
theorem dX7_look_66 : decode cX7_look 66 = .ok (.aload_n 0, 1) := by decide +kernel
theorem dX7_look_67 : decode cX7_look 67 = .ok (.getfield 26, 3) := by decide +kernel
theorem dX7_look_70 : decode cX7_look 70 = .ok (.getfield 167, 3) := by decide +kernel
theorem dX7_look_73 : decode cX7_look 73 = .ok (.aload_n 0, 1) := by decide +kernel
theorem dX7_look_74 : decode cX7_look 74 = .ok (.getfield 33, 3) := by decide +kernel
theorem dX7_look_77 : decode cX7_look 77 = .ok (.getfield 170, 3) := by decide +kernel
theorem dX7_look_80 : decode cX7_look 80 = .ok (.iaload, 1) := by decide +kernel
theorem dX7_look_81 : decode cX7_look 81 = .ok (.ireturn, 1) := by decide +kernel
theorem dX7_look_82 : decode cX7_look 82 = .ok (.aload_n 0, 1) := by decide +kernel
theorem dX7_look_83 : decode cX7_look 83 = .ok (.getfield 33, 3) := by decide +kernel
theorem dX7_look_86 : decode cX7_look 86 = .ok (.getfield 173, 3) := by decide +kernel
theorem dX7_look_89 : decode cX7_look 89 = .ok (.ireturn, 1) := by decide +kernel
theorem dX7_look_90 : decode cX7_look 90 = .ok (.aload_n 0, 1) := by decide +kernel
theorem dX7_look_91 : decode cX7_look 91 = .ok (.getfield 33, 3) := by decide +kernel
theorem dX7_look_94 : decode cX7_look 94 = .ok (.getfield 176, 3) := by decide +kernel
theorem dX7_look_97 : decode cX7_look 97 = .ok (.ireturn, 1) := by decide +kernel
theorem dX7_look_98 : decode cX7_look 98 = .ok (.aload_n 0, 1) := by decide +kernel
theorem dX7_look_99 : decode cX7_look 99 = .ok (.getfield 179, 3) := by decide +kernel
theorem dX7_look_102 : decode cX7_look 102 = .ok (.ireturn, 1) := by decide +kernel
theorem dX7_look_103 : decode cX7_look 103 = .ok (.aload_n 0, 1) := by decide +kernel
theorem dX7_look_104 : decode cX7_look 104 = .ok (.getfield 10, 3) := by decide +kernel
theorem dX7_look_107 : decode cX7_look 107 = .ok (.invokevirtual 182, 3) := by decide +kernel
theorem dX7_look_110 : decode cX7_look 110 = .ok (.ireturn, 1) := by decide +kernel
theorem dX7_look_111 : decode cX7_look 111 = .ok (.aload_n 0, 1) := by decide +kernel
theorem dX7_look_112 : decode cX7_look 112 = .ok (.getfield 70, 3) := by decide +kernel
theorem dX7_look_115 : decode cX7_look 115 = .ok (.ireturn, 1) := by decide +kernel
theorem dX7_look_116 : decode cX7_look 116 = .ok (.new 52, 3) := by decide +kernel
theorem dX7_look_119 : decode cX7_look 119 = .ok (.dup, 1) := by decide +kernel
theorem dX7_look_120 : decode cX7_look 120 = .ok (.invokespecial 54, 3) := by decide +kernel
theorem dX7_look_123 : decode cX7_look 123 = .ok (.athrow, 1) := by decide +kernel
theorem dX7_isBay_0 : decode cX7_isBay 0 = .ok (.iload_n 0, 1) := by decide +kernel
theorem dX7_isBay_1 : decode cX7_isBay 1 = .ok (.ifCond .lt 12, 3) := by decide +kernel
theorem dX7_isBay_4 : decode cX7_isBay 4 = .ok (.iload_n 0, 1) := by decide +kernel
theorem dX7_isBay_5 : decode cX7_isBay 5 = .ok (.iconst 2, 1) := by decide +kernel
theorem dX7_isBay_6 : decode cX7_isBay 6 = .ok (.if_icmp .ge 7, 3) := by decide +kernel
theorem dX7_isBay_9 : decode cX7_isBay 9 = .ok (.iconst 1, 1) := by decide +kernel
theorem dX7_isBay_10 : decode cX7_isBay 10 = .ok (.goto 4, 3) := by decide +kernel
theorem dX7_isBay_13 : decode cX7_isBay 13 = .ok (.iconst 0, 1) := by decide +kernel
theorem dX7_isBay_14 : decode cX7_isBay 14 = .ok (.ireturn, 1) := by decide +kernel
theorem dX7_fitsLevel_0 : decode cX7_fitsLevel 0 = .ok (.iload_n 0, 1) := by decide +kernel
theorem dX7_fitsLevel_1 : decode cX7_fitsLevel 1 = .ok (.iconst 2, 1) := by decide +kernel
theorem dX7_fitsLevel_2 : decode cX7_fitsLevel 2 = .ok (.if_icmp .ge 9, 3) := by decide +kernel
theorem dX7_fitsLevel_5 : decode cX7_fitsLevel 5 = .ok (.sipush 160, 3) := by decide +kernel
theorem dX7_fitsLevel_8 : decode cX7_fitsLevel 8 = .ok (.goto 6, 3) := by decide +kernel
theorem dX7_fitsLevel_11 : decode cX7_fitsLevel 11 = .ok (.sipush 210, 3) := by decide +kernel
theorem dX7_fitsLevel_14 : decode cX7_fitsLevel 14 = .ok (.istore_n 3, 1) := by decide +kernel
theorem dX7_fitsLevel_15 : decode cX7_fitsLevel 15 = .ok (.iload_n 0, 1) := by decide +kernel
theorem dX7_fitsLevel_16 : decode cX7_fitsLevel 16 = .ok (.iconst 2, 1) := by decide +kernel
theorem dX7_fitsLevel_17 : decode cX7_fitsLevel 17 = .ok (.irem, 1) := by decide +kernel
theorem dX7_fitsLevel_18 : decode cX7_fitsLevel 18 = .ok (.ifCond .ne 9, 3) := by decide +kernel
theorem dX7_fitsLevel_21 : decode cX7_fitsLevel 21 = .ok (.sipush 2000, 3) := by decide +kernel
theorem dX7_fitsLevel_24 : decode cX7_fitsLevel 24 = .ok (.goto 6, 3) := by decide +kernel
theorem dX7_fitsLevel_27 : decode cX7_fitsLevel 27 = .ok (.sipush 3000, 3) := by decide +kernel
theorem dX7_fitsLevel_30 : decode cX7_fitsLevel 30 = .ok (.istore 4, 2) := by decide +kernel
theorem dX7_fitsLevel_32 : decode cX7_fitsLevel 32 = .ok (.iload_n 1, 1) := by decide +kernel
theorem dX7_fitsLevel_33 : decode cX7_fitsLevel 33 = .ok (.iload_n 3, 1) := by decide +kernel
theorem dX7_fitsLevel_34 : decode cX7_fitsLevel 34 = .ok (.if_icmp .gt 13, 3) := by decide +kernel
theorem dX7_fitsLevel_37 : decode cX7_fitsLevel 37 = .ok (.iload_n 2, 1) := by decide +kernel
theorem dX7_fitsLevel_38 : decode cX7_fitsLevel 38 = .ok (.iload 4, 2) := by decide +kernel
theorem dX7_fitsLevel_40 : decode cX7_fitsLevel 40 = .ok (.if_icmp .gt 7, 3) := by decide +kernel
theorem dX7_fitsLevel_43 : decode cX7_fitsLevel 43 = .ok (.iconst 1, 1) := by decide +kernel
theorem dX7_fitsLevel_44 : decode cX7_fitsLevel 44 = .ok (.goto 4, 3) := by decide +kernel
theorem dX7_fitsLevel_47 : decode cX7_fitsLevel 47 = .ok (.iconst 0, 1) := by decide +kernel
theorem dX7_fitsLevel_48 : decode cX7_fitsLevel 48 = .ok (.ireturn, 1) := by decide +kernel
set_option maxRecDepth 20000 in
theorem ggX7_fitsAnyLevel_X7_fitsLevel : GoodIn wsX7_fitsAnyLevel wsX7_fitsLevel := goodIn_r _ [4] (by decide +kernel) (by decide +kernel)
set_option maxRecDepth 20000 in
theorem gX7_fitsAnyLevel_X7_fitsLevel : GoodIn wsX7_fitsAnyLevel (va_wsS RX7 185 yX7_fitsLevel wsX7_fitsLevel) := goodIn_app (goodIn_of _ (by decide +kernel)) ggX7_fitsAnyLevel_X7_fitsLevel
theorem dX7_fitsAnyLevel_0 : decode cX7_fitsAnyLevel 0 = .ok (.iconst 0, 1) := by decide +kernel
theorem dX7_fitsAnyLevel_1 : decode cX7_fitsAnyLevel 1 = .ok (.istore_n 2, 1) := by decide +kernel
theorem dX7_fitsAnyLevel_2 : decode cX7_fitsAnyLevel 2 = .ok (.iload_n 2, 1) := by decide +kernel
theorem dX7_fitsAnyLevel_3 : decode cX7_fitsAnyLevel 3 = .ok (.iconst 4, 1) := by decide +kernel
theorem dX7_fitsAnyLevel_4 : decode cX7_fitsAnyLevel 4 = .ok (.if_icmp .ge 20, 3) := by decide +kernel
theorem dX7_fitsAnyLevel_7 : decode cX7_fitsAnyLevel 7 = .ok (.iload_n 2, 1) := by decide +kernel
theorem dX7_fitsAnyLevel_8 : decode cX7_fitsAnyLevel 8 = .ok (.iload_n 0, 1) := by decide +kernel
theorem dX7_fitsAnyLevel_9 : decode cX7_fitsAnyLevel 9 = .ok (.iload_n 1, 1) := by decide +kernel
theorem dX7_fitsAnyLevel_10 : decode cX7_fitsAnyLevel 10 = .ok (.invokestatic 185, 3) := by decide +kernel
theorem dX7_fitsAnyLevel_13 : decode cX7_fitsAnyLevel 13 = .ok (.ifCond .eq 5, 3) := by decide +kernel
theorem dX7_fitsAnyLevel_16 : decode cX7_fitsAnyLevel 16 = .ok (.iconst 1, 1) := by decide +kernel
theorem dX7_fitsAnyLevel_17 : decode cX7_fitsAnyLevel 17 = .ok (.ireturn, 1) := by decide +kernel
theorem dX7_fitsAnyLevel_18 : decode cX7_fitsAnyLevel 18 = .ok (.iinc 2 1, 3) := by decide +kernel
theorem dX7_fitsAnyLevel_21 : decode cX7_fitsAnyLevel 21 = .ok (.goto (-19), 3) := by decide +kernel
theorem dX7_fitsAnyLevel_24 : decode cX7_fitsAnyLevel 24 = .ok (.iconst 0, 1) := by decide +kernel
theorem dX7_fitsAnyLevel_25 : decode cX7_fitsAnyLevel 25 = .ok (.ireturn, 1) := by decide +kernel
set_option maxRecDepth 20000 in
theorem ggX7_cellFor_X7_fitsLevel : GoodIn wsX7_cellFor wsX7_fitsLevel := goodIn_r _ [5] (by decide +kernel) (by decide +kernel)
set_option maxRecDepth 20000 in
theorem gX7_cellFor_X7_fitsLevel : GoodIn wsX7_cellFor (va_wsS RX7 185 yX7_fitsLevel wsX7_fitsLevel) := goodIn_app (goodIn_of _ (by decide +kernel)) ggX7_cellFor_X7_fitsLevel
set_option maxRecDepth 20000 in
theorem ggX7_cellFor_X7_levelOfFetch : GoodIn wsX7_cellFor wsX7_levelOfFetch := goodIn_r _ [9, 10, 11, 12, 13, 14, 15, 16, 17, 18, 19, 20, 21, 22, 23, 24, 25, 4, 26, 46, 47, 48, 49, 50, 51, 52, 53, 54, 55, 56, 57, 58, 59, 60, 61, 62, 63, 64] (by decide +kernel) (by decide +kernel)
set_option maxRecDepth 20000 in
theorem gX7_cellFor_X7_levelOfFetch : GoodIn wsX7_cellFor (wsV RX7 189 RX7 yX7_levelOfFetch wsX7_levelOfFetch) := goodIn_app (goodIn_of _ (by decide +kernel)) ggX7_cellFor_X7_levelOfFetch
set_option maxRecDepth 20000 in
theorem ggX7_cellFor_X5_hasRoom : GoodIn wsX7_cellFor wsX5_hasRoom := goodIn_r _ [31, 32, 33, 34, 35, 30, 36, 37, 65, 66] (by decide +kernel) (by decide +kernel)
set_option maxRecDepth 20000 in
theorem gX7_cellFor_X5_hasRoom : GoodIn wsX7_cellFor (wsV RX7 192 RX5 yX5_hasRoom wsX5_hasRoom) := goodIn_app (goodIn_of _ (by decide +kernel)) ggX7_cellFor_X5_hasRoom
set_option maxRecDepth 20000 in
theorem ggX7_cellFor_X5_firstCellToStore : GoodIn wsX7_cellFor wsX5_firstCellToStore := goodIn_r _ [41, 37, 42, 43, 44, 30, 45, 65, 66] (by decide +kernel) (by decide +kernel)
set_option maxRecDepth 20000 in
theorem gX7_cellFor_X5_firstCellToStore : GoodIn wsX7_cellFor (wsV RX7 195 RX5 yX5_firstCellToStore wsX5_firstCellToStore) := goodIn_app (goodIn_of _ (by decide +kernel)) ggX7_cellFor_X5_firstCellToStore
theorem dX7_cellFor_0 : decode cX7_cellFor 0 = .ok (.iconst 0, 1) := by decide +kernel
theorem dX7_cellFor_1 : decode cX7_cellFor 1 = .ok (.istore_n 3, 1) := by decide +kernel
theorem dX7_cellFor_2 : decode cX7_cellFor 2 = .ok (.iload_n 3, 1) := by decide +kernel
theorem dX7_cellFor_3 : decode cX7_cellFor 3 = .ok (.iconst 4, 1) := by decide +kernel
theorem dX7_cellFor_4 : decode cX7_cellFor 4 = .ok (.if_icmp .ge 56, 3) := by decide +kernel
theorem dX7_cellFor_7 : decode cX7_cellFor 7 = .ok (.iload_n 3, 1) := by decide +kernel
theorem dX7_cellFor_8 : decode cX7_cellFor 8 = .ok (.iload_n 1, 1) := by decide +kernel
theorem dX7_cellFor_9 : decode cX7_cellFor 9 = .ok (.iload_n 2, 1) := by decide +kernel
theorem dX7_cellFor_10 : decode cX7_cellFor 10 = .ok (.invokestatic 185, 3) := by decide +kernel
theorem dX7_cellFor_13 : decode cX7_cellFor 13 = .ok (.ifCond .eq 41, 3) := by decide +kernel
theorem dX7_cellFor_16 : decode cX7_cellFor 16 = .ok (.iload_n 3, 1) := by decide +kernel
theorem dX7_cellFor_17 : decode cX7_cellFor 17 = .ok (.aload_n 0, 1) := by decide +kernel
theorem dX7_cellFor_18 : decode cX7_cellFor 18 = .ok (.invokevirtual 189, 3) := by decide +kernel
theorem dX7_cellFor_21 : decode cX7_cellFor 21 = .ok (.if_icmp .eq 33, 3) := by decide +kernel
theorem dX7_cellFor_24 : decode cX7_cellFor 24 = .ok (.aload_n 0, 1) := by decide +kernel
theorem dX7_cellFor_25 : decode cX7_cellFor 25 = .ok (.getfield 10, 3) := by decide +kernel
theorem dX7_cellFor_28 : decode cX7_cellFor 28 = .ok (.iload_n 3, 1) := by decide +kernel
theorem dX7_cellFor_29 : decode cX7_cellFor 29 = .ok (.invokevirtual 192, 3) := by decide +kernel
theorem dX7_cellFor_32 : decode cX7_cellFor 32 = .ok (.ifCond .eq 22, 3) := by decide +kernel
theorem dX7_cellFor_35 : decode cX7_cellFor 35 = .ok (.aload_n 0, 1) := by decide +kernel
theorem dX7_cellFor_36 : decode cX7_cellFor 36 = .ok (.getfield 10, 3) := by decide +kernel
theorem dX7_cellFor_39 : decode cX7_cellFor 39 = .ok (.iload_n 3, 1) := by decide +kernel
theorem dX7_cellFor_40 : decode cX7_cellFor 40 = .ok (.invokevirtual 195, 3) := by decide +kernel
theorem dX7_cellFor_43 : decode cX7_cellFor 43 = .ok (.istore 4, 2) := by decide +kernel
theorem dX7_cellFor_45 : decode cX7_cellFor 45 = .ok (.iload 4, 2) := by decide +kernel
theorem dX7_cellFor_47 : decode cX7_cellFor 47 = .ok (.iconst (-1), 1) := by decide +kernel
theorem dX7_cellFor_48 : decode cX7_cellFor 48 = .ok (.if_icmp .eq 6, 3) := by decide +kernel
theorem dX7_cellFor_51 : decode cX7_cellFor 51 = .ok (.iload 4, 2) := by decide +kernel
theorem dX7_cellFor_53 : decode cX7_cellFor 53 = .ok (.ireturn, 1) := by decide +kernel
theorem dX7_cellFor_54 : decode cX7_cellFor 54 = .ok (.iinc 3 1, 3) := by decide +kernel
theorem dX7_cellFor_57 : decode cX7_cellFor 57 = .ok (.goto (-55), 3) := by decide +kernel
theorem dX7_cellFor_60 : decode cX7_cellFor 60 = .ok (.iconst (-1), 1) := by decide +kernel
theorem dX7_cellFor_61 : decode cX7_cellFor 61 = .ok (.ireturn, 1) := by decide +kernel
set_option maxRecDepth 20000 in
theorem ggX7_levelOfFetch_X2_isIdle : GoodIn wsX7_levelOfFetch wsX2_isIdle := goodIn_r _ [7, 8, 29, 30, 31, 32, 33] (by decide +kernel) (by decide +kernel)
set_option maxRecDepth 20000 in
theorem gX7_levelOfFetch_X2_isIdle : GoodIn wsX7_levelOfFetch (wsV RX7 163 RX2 yX2_isIdle wsX2_isIdle) := goodIn_app (goodIn_of _ (by decide +kernel)) ggX7_levelOfFetch_X2_isIdle
set_option maxRecDepth 20000 in
theorem ggX7_levelOfFetch_X3_isFetch : GoodIn wsX7_levelOfFetch wsX3_isFetch := goodIn_r _ [13, 14, 34, 35, 36, 37] (by decide +kernel) (by decide +kernel)
set_option maxRecDepth 20000 in
theorem gX7_levelOfFetch_X3_isFetch : GoodIn wsX7_levelOfFetch (wsV RX7 198 RX3 yX3_isFetch wsX3_isFetch) := goodIn_app (goodIn_of _ (by decide +kernel)) ggX7_levelOfFetch_X3_isFetch
set_option maxRecDepth 20000 in
theorem ggX7_levelOfFetch_X7_levelOf : GoodIn wsX7_levelOfFetch wsX7_levelOf := goodIn_r _ [18] (by decide +kernel) (by decide +kernel)
set_option maxRecDepth 20000 in
theorem gX7_levelOfFetch_X7_levelOf : GoodIn wsX7_levelOfFetch (va_wsS RX7 204 yX7_levelOf wsX7_levelOf) := goodIn_app (goodIn_of _ (by decide +kernel)) ggX7_levelOfFetch_X7_levelOf
theorem dX7_levelOfFetch_0 : decode cX7_levelOfFetch 0 = .ok (.aload_n 0, 1) := by decide +kernel
theorem dX7_levelOfFetch_1 : decode cX7_levelOfFetch 1 = .ok (.getfield 33, 3) := by decide +kernel
theorem dX7_levelOfFetch_4 : decode cX7_levelOfFetch 4 = .ok (.invokevirtual 163, 3) := by decide +kernel
theorem dX7_levelOfFetch_7 : decode cX7_levelOfFetch 7 = .ok (.ifCond .ne 20, 3) := by decide +kernel
theorem dX7_levelOfFetch_10 : decode cX7_levelOfFetch 10 = .ok (.aload_n 0, 1) := by decide +kernel
theorem dX7_levelOfFetch_11 : decode cX7_levelOfFetch 11 = .ok (.getfield 26, 3) := by decide +kernel
theorem dX7_levelOfFetch_14 : decode cX7_levelOfFetch 14 = .ok (.aload_n 0, 1) := by decide +kernel
theorem dX7_levelOfFetch_15 : decode cX7_levelOfFetch 15 = .ok (.getfield 33, 3) := by decide +kernel
theorem dX7_levelOfFetch_18 : decode cX7_levelOfFetch 18 = .ok (.getfield 170, 3) := by decide +kernel
theorem dX7_levelOfFetch_21 : decode cX7_levelOfFetch 21 = .ok (.invokevirtual 198, 3) := by decide +kernel
theorem dX7_levelOfFetch_24 : decode cX7_levelOfFetch 24 = .ok (.ifCond .ne 5, 3) := by decide +kernel
theorem dX7_levelOfFetch_27 : decode cX7_levelOfFetch 27 = .ok (.iconst (-1), 1) := by decide +kernel
theorem dX7_levelOfFetch_28 : decode cX7_levelOfFetch 28 = .ok (.ireturn, 1) := by decide +kernel
theorem dX7_levelOfFetch_29 : decode cX7_levelOfFetch 29 = .ok (.aload_n 0, 1) := by decide +kernel
theorem dX7_levelOfFetch_30 : decode cX7_levelOfFetch 30 = .ok (.getfield 33, 3) := by decide +kernel
theorem dX7_levelOfFetch_33 : decode cX7_levelOfFetch 33 = .ok (.getfield 201, 3) := by decide +kernel
theorem dX7_levelOfFetch_36 : decode cX7_levelOfFetch 36 = .ok (.invokestatic 204, 3) := by decide +kernel
theorem dX7_levelOfFetch_39 : decode cX7_levelOfFetch 39 = .ok (.ireturn, 1) := by decide +kernel
theorem dX7_levelOf_0 : decode cX7_levelOf 0 = .ok (.iload_n 0, 1) := by decide +kernel
theorem dX7_levelOf_1 : decode cX7_levelOf 1 = .ok (.bipush 24, 2) := by decide +kernel
theorem dX7_levelOf_3 : decode cX7_levelOf 3 = .ok (.idiv, 1) := by decide +kernel
theorem dX7_levelOf_4 : decode cX7_levelOf 4 = .ok (.ireturn, 1) := by decide +kernel
theorem dX7_isFront_0 : decode cX7_isFront 0 = .ok (.iload_n 0, 1) := by decide +kernel
theorem dX7_isFront_1 : decode cX7_isFront 1 = .ok (.iconst 2, 1) := by decide +kernel
theorem dX7_isFront_2 : decode cX7_isFront 2 = .ok (.irem, 1) := by decide +kernel
theorem dX7_isFront_3 : decode cX7_isFront 3 = .ok (.ifCond .ne 7, 3) := by decide +kernel
theorem dX7_isFront_6 : decode cX7_isFront 6 = .ok (.iconst 1, 1) := by decide +kernel
theorem dX7_isFront_7 : decode cX7_isFront 7 = .ok (.goto 4, 3) := by decide +kernel
theorem dX7_isFront_10 : decode cX7_isFront 10 = .ok (.iconst 0, 1) := by decide +kernel
theorem dX7_isFront_11 : decode cX7_isFront 11 = .ok (.ireturn, 1) := by decide +kernel
theorem dX7_shuttleTicks_0 : decode cX7_shuttleTicks 0 = .ok (.iload_n 0, 1) := by decide +kernel
theorem dX7_shuttleTicks_1 : decode cX7_shuttleTicks 1 = .ok (.bipush 12, 2) := by decide +kernel
theorem dX7_shuttleTicks_3 : decode cX7_shuttleTicks 3 = .ok (.irem, 1) := by decide +kernel
theorem dX7_shuttleTicks_4 : decode cX7_shuttleTicks 4 = .ok (.iconst 2, 1) := by decide +kernel
theorem dX7_shuttleTicks_5 : decode cX7_shuttleTicks 5 = .ok (.idiv, 1) := by decide +kernel
theorem dX7_shuttleTicks_6 : decode cX7_shuttleTicks 6 = .ok (.istore_n 1, 1) := by decide +kernel
theorem dX7_shuttleTicks_7 : decode cX7_shuttleTicks 7 = .ok (.iload_n 0, 1) := by decide +kernel
theorem dX7_shuttleTicks_8 : decode cX7_shuttleTicks 8 = .ok (.iconst 2, 1) := by decide +kernel
theorem dX7_shuttleTicks_9 : decode cX7_shuttleTicks 9 = .ok (.irem, 1) := by decide +kernel
theorem dX7_shuttleTicks_10 : decode cX7_shuttleTicks 10 = .ok (.istore_n 2, 1) := by decide +kernel
theorem dX7_shuttleTicks_11 : decode cX7_shuttleTicks 11 = .ok (.iconst 2, 1) := by decide +kernel
theorem dX7_shuttleTicks_12 : decode cX7_shuttleTicks 12 = .ok (.iload_n 1, 1) := by decide +kernel
theorem dX7_shuttleTicks_13 : decode cX7_shuttleTicks 13 = .ok (.iconst 1, 1) := by decide +kernel
theorem dX7_shuttleTicks_14 : decode cX7_shuttleTicks 14 = .ok (.iadd, 1) := by decide +kernel
theorem dX7_shuttleTicks_15 : decode cX7_shuttleTicks 15 = .ok (.imul, 1) := by decide +kernel
theorem dX7_shuttleTicks_16 : decode cX7_shuttleTicks 16 = .ok (.iconst 2, 1) := by decide +kernel
theorem dX7_shuttleTicks_17 : decode cX7_shuttleTicks 17 = .ok (.iadd, 1) := by decide +kernel
theorem dX7_shuttleTicks_18 : decode cX7_shuttleTicks 18 = .ok (.iload_n 2, 1) := by decide +kernel
theorem dX7_shuttleTicks_19 : decode cX7_shuttleTicks 19 = .ok (.iadd, 1) := by decide +kernel
theorem dX7_shuttleTicks_20 : decode cX7_shuttleTicks 20 = .ok (.ireturn, 1) := by decide +kernel
theorem dX7_checkDigit_0 : decode cX7_checkDigit 0 = .ok (.iconst 5, 1) := by decide +kernel
theorem dX7_checkDigit_1 : decode cX7_checkDigit 1 = .ok (.iload_n 0, 1) := by decide +kernel
theorem dX7_checkDigit_2 : decode cX7_checkDigit 2 = .ok (.sipush 1000, 3) := by decide +kernel
theorem dX7_checkDigit_5 : decode cX7_checkDigit 5 = .ok (.idiv, 1) := by decide +kernel
theorem dX7_checkDigit_6 : decode cX7_checkDigit 6 = .ok (.imul, 1) := by decide +kernel
theorem dX7_checkDigit_7 : decode cX7_checkDigit 7 = .ok (.iconst 4, 1) := by decide +kernel
theorem dX7_checkDigit_8 : decode cX7_checkDigit 8 = .ok (.iload_n 0, 1) := by decide +kernel
theorem dX7_checkDigit_9 : decode cX7_checkDigit 9 = .ok (.bipush 100, 2) := by decide +kernel
theorem dX7_checkDigit_11 : decode cX7_checkDigit 11 = .ok (.idiv, 1) := by decide +kernel
theorem dX7_checkDigit_12 : decode cX7_checkDigit 12 = .ok (.bipush 10, 2) := by decide +kernel
theorem dX7_checkDigit_14 : decode cX7_checkDigit 14 = .ok (.irem, 1) := by decide +kernel
theorem dX7_checkDigit_15 : decode cX7_checkDigit 15 = .ok (.imul, 1) := by decide +kernel
theorem dX7_checkDigit_16 : decode cX7_checkDigit 16 = .ok (.iadd, 1) := by decide +kernel
theorem dX7_checkDigit_17 : decode cX7_checkDigit 17 = .ok (.iconst 3, 1) := by decide +kernel
theorem dX7_checkDigit_18 : decode cX7_checkDigit 18 = .ok (.iload_n 0, 1) := by decide +kernel
theorem dX7_checkDigit_19 : decode cX7_checkDigit 19 = .ok (.bipush 10, 2) := by decide +kernel
theorem dX7_checkDigit_21 : decode cX7_checkDigit 21 = .ok (.idiv, 1) := by decide +kernel
theorem dX7_checkDigit_22 : decode cX7_checkDigit 22 = .ok (.bipush 10, 2) := by decide +kernel
theorem dX7_checkDigit_24 : decode cX7_checkDigit 24 = .ok (.irem, 1) := by decide +kernel
theorem dX7_checkDigit_25 : decode cX7_checkDigit 25 = .ok (.imul, 1) := by decide +kernel
theorem dX7_checkDigit_26 : decode cX7_checkDigit 26 = .ok (.iadd, 1) := by decide +kernel
theorem dX7_checkDigit_27 : decode cX7_checkDigit 27 = .ok (.iconst 2, 1) := by decide +kernel
theorem dX7_checkDigit_28 : decode cX7_checkDigit 28 = .ok (.iload_n 0, 1) := by decide +kernel
theorem dX7_checkDigit_29 : decode cX7_checkDigit 29 = .ok (.bipush 10, 2) := by decide +kernel
theorem dX7_checkDigit_31 : decode cX7_checkDigit 31 = .ok (.irem, 1) := by decide +kernel
theorem dX7_checkDigit_32 : decode cX7_checkDigit 32 = .ok (.imul, 1) := by decide +kernel
theorem dX7_checkDigit_33 : decode cX7_checkDigit 33 = .ok (.iadd, 1) := by decide +kernel
theorem dX7_checkDigit_34 : decode cX7_checkDigit 34 = .ok (.istore_n 1, 1) := by decide +kernel
theorem dX7_checkDigit_35 : decode cX7_checkDigit 35 = .ok (.bipush 11, 2) := by decide +kernel
theorem dX7_checkDigit_37 : decode cX7_checkDigit 37 = .ok (.iload_n 1, 1) := by decide +kernel
theorem dX7_checkDigit_38 : decode cX7_checkDigit 38 = .ok (.bipush 11, 2) := by decide +kernel
theorem dX7_checkDigit_40 : decode cX7_checkDigit 40 = .ok (.irem, 1) := by decide +kernel
theorem dX7_checkDigit_41 : decode cX7_checkDigit 41 = .ok (.isub, 1) := by decide +kernel
theorem dX7_checkDigit_42 : decode cX7_checkDigit 42 = .ok (.bipush 11, 2) := by decide +kernel
theorem dX7_checkDigit_44 : decode cX7_checkDigit 44 = .ok (.irem, 1) := by decide +kernel
theorem dX7_checkDigit_45 : decode cX7_checkDigit 45 = .ok (.ireturn, 1) := by decide +kernel
set_option maxRecDepth 20000 in
theorem ggX7_ticketOf_X7_checkDigit : GoodIn wsX7_ticketOf wsX7_checkDigit := goodIn_r _ [4] (by decide +kernel) (by decide +kernel)
set_option maxRecDepth 20000 in
theorem gX7_ticketOf_X7_checkDigit : GoodIn wsX7_ticketOf (va_wsS RX7 207 yX7_checkDigit wsX7_checkDigit) := goodIn_app (goodIn_of _ (by decide +kernel)) ggX7_ticketOf_X7_checkDigit
theorem dX7_ticketOf_0 : decode cX7_ticketOf 0 = .ok (.bipush 10, 2) := by decide +kernel
theorem dX7_ticketOf_2 : decode cX7_ticketOf 2 = .ok (.iload_n 0, 1) := by decide +kernel
theorem dX7_ticketOf_3 : decode cX7_ticketOf 3 = .ok (.imul, 1) := by decide +kernel
theorem dX7_ticketOf_4 : decode cX7_ticketOf 4 = .ok (.iload_n 0, 1) := by decide +kernel
theorem dX7_ticketOf_5 : decode cX7_ticketOf 5 = .ok (.invokestatic 207, 3) := by decide +kernel
theorem dX7_ticketOf_8 : decode cX7_ticketOf 8 = .ok (.iadd, 1) := by decide +kernel
theorem dX7_ticketOf_9 : decode cX7_ticketOf 9 = .ok (.ireturn, 1) := by decide +kernel
set_option maxRecDepth 20000 in
theorem ggX7_serialAfter_X7_checkDigit : GoodIn wsX7_serialAfter wsX7_checkDigit := goodIn_r _ [4] (by decide +kernel) (by decide +kernel)
set_option maxRecDepth 20000 in
theorem gX7_serialAfter_X7_checkDigit : GoodIn wsX7_serialAfter (va_wsS RX7 207 yX7_checkDigit wsX7_checkDigit) := goodIn_app (goodIn_of _ (by decide +kernel)) ggX7_serialAfter_X7_checkDigit
theorem dX7_serialAfter_0 : decode cX7_serialAfter 0 = .ok (.iload_n 0, 1) := by decide +kernel
theorem dX7_serialAfter_1 : decode cX7_serialAfter 1 = .ok (.iconst 1, 1) := by decide +kernel
theorem dX7_serialAfter_2 : decode cX7_serialAfter 2 = .ok (.iadd, 1) := by decide +kernel
theorem dX7_serialAfter_3 : decode cX7_serialAfter 3 = .ok (.istore_n 1, 1) := by decide +kernel
theorem dX7_serialAfter_4 : decode cX7_serialAfter 4 = .ok (.iload_n 1, 1) := by decide +kernel
theorem dX7_serialAfter_5 : decode cX7_serialAfter 5 = .ok (.sipush 9999, 3) := by decide +kernel
theorem dX7_serialAfter_8 : decode cX7_serialAfter 8 = .ok (.if_icmp .gt 20, 3) := by decide +kernel
theorem dX7_serialAfter_11 : decode cX7_serialAfter 11 = .ok (.iload_n 1, 1) := by decide +kernel
theorem dX7_serialAfter_12 : decode cX7_serialAfter 12 = .ok (.invokestatic 207, 3) := by decide +kernel
theorem dX7_serialAfter_15 : decode cX7_serialAfter 15 = .ok (.bipush 10, 2) := by decide +kernel
theorem dX7_serialAfter_17 : decode cX7_serialAfter 17 = .ok (.if_icmp .eq 5, 3) := by decide +kernel
theorem dX7_serialAfter_20 : decode cX7_serialAfter 20 = .ok (.iload_n 1, 1) := by decide +kernel
theorem dX7_serialAfter_21 : decode cX7_serialAfter 21 = .ok (.ireturn, 1) := by decide +kernel
theorem dX7_serialAfter_22 : decode cX7_serialAfter 22 = .ok (.iinc 1 1, 3) := by decide +kernel
theorem dX7_serialAfter_25 : decode cX7_serialAfter 25 = .ok (.goto (-21), 3) := by decide +kernel
theorem dX7_serialAfter_28 : decode cX7_serialAfter 28 = .ok (.iconst (-1), 1) := by decide +kernel
theorem dX7_serialAfter_29 : decode cX7_serialAfter 29 = .ok (.ireturn, 1) := by decide +kernel
set_option maxRecDepth 20000 in
theorem ggX7_wasGiven_X7_checkDigit : GoodIn wsX7_wasGiven wsX7_checkDigit := goodIn_r _ [5] (by decide +kernel) (by decide +kernel)
set_option maxRecDepth 20000 in
theorem gX7_wasGiven_X7_checkDigit : GoodIn wsX7_wasGiven (va_wsS RX7 207 yX7_checkDigit wsX7_checkDigit) := goodIn_app (goodIn_of _ (by decide +kernel)) ggX7_wasGiven_X7_checkDigit
theorem dX7_wasGiven_0 : decode cX7_wasGiven 0 = .ok (.iload_n 1, 1) := by decide +kernel
theorem dX7_wasGiven_1 : decode cX7_wasGiven 1 = .ok (.bipush 10, 2) := by decide +kernel
theorem dX7_wasGiven_3 : decode cX7_wasGiven 3 = .ok (.idiv, 1) := by decide +kernel
theorem dX7_wasGiven_4 : decode cX7_wasGiven 4 = .ok (.istore_n 2, 1) := by decide +kernel
theorem dX7_wasGiven_5 : decode cX7_wasGiven 5 = .ok (.iload_n 2, 1) := by decide +kernel
theorem dX7_wasGiven_6 : decode cX7_wasGiven 6 = .ok (.iconst 1, 1) := by decide +kernel
theorem dX7_wasGiven_7 : decode cX7_wasGiven 7 = .ok (.if_icmp .lt 26, 3) := by decide +kernel
theorem dX7_wasGiven_10 : decode cX7_wasGiven 10 = .ok (.iload_n 2, 1) := by decide +kernel
theorem dX7_wasGiven_11 : decode cX7_wasGiven 11 = .ok (.aload_n 0, 1) := by decide +kernel
theorem dX7_wasGiven_12 : decode cX7_wasGiven 12 = .ok (.getfield 70, 3) := by decide +kernel
theorem dX7_wasGiven_15 : decode cX7_wasGiven 15 = .ok (.if_icmp .gt 18, 3) := by decide +kernel
theorem dX7_wasGiven_18 : decode cX7_wasGiven 18 = .ok (.iload_n 2, 1) := by decide +kernel
theorem dX7_wasGiven_19 : decode cX7_wasGiven 19 = .ok (.invokestatic 207, 3) := by decide +kernel
theorem dX7_wasGiven_22 : decode cX7_wasGiven 22 = .ok (.iload_n 1, 1) := by decide +kernel
theorem dX7_wasGiven_23 : decode cX7_wasGiven 23 = .ok (.bipush 10, 2) := by decide +kernel
theorem dX7_wasGiven_25 : decode cX7_wasGiven 25 = .ok (.irem, 1) := by decide +kernel
theorem dX7_wasGiven_26 : decode cX7_wasGiven 26 = .ok (.if_icmp .ne 7, 3) := by decide +kernel
theorem dX7_wasGiven_29 : decode cX7_wasGiven 29 = .ok (.iconst 1, 1) := by decide +kernel
theorem dX7_wasGiven_30 : decode cX7_wasGiven 30 = .ok (.goto 4, 3) := by decide +kernel
theorem dX7_wasGiven_33 : decode cX7_wasGiven 33 = .ok (.iconst 0, 1) := by decide +kernel
theorem dX7_wasGiven_34 : decode cX7_wasGiven 34 = .ok (.ireturn, 1) := by decide +kernel
set_option maxRecDepth 20000 in
theorem ggX7_allOrders_X1_holdsCarWithoutOrder : GoodIn wsX7_allOrders wsX1_holdsCarWithoutOrder := goodIn_r _ [7, 8, 9, 10, 25, 26, 27, 28, 29, 30] (by decide +kernel) (by decide +kernel)
set_option maxRecDepth 20000 in
theorem gX7_allOrders_X1_holdsCarWithoutOrder : GoodIn wsX7_allOrders (wsV RX7 210 RX1 yX1_holdsCarWithoutOrder wsX1_holdsCarWithoutOrder) := goodIn_app (goodIn_of _ (by decide +kernel)) ggX7_allOrders_X1_holdsCarWithoutOrder
theorem dX7_allOrders_0 : decode cX7_allOrders 0 = .ok (.aload_n 0, 1) := by decide +kernel
theorem dX7_allOrders_1 : decode cX7_allOrders 1 = .ok (.getfield 26, 3) := by decide +kernel
theorem dX7_allOrders_4 : decode cX7_allOrders 4 = .ok (.getfield 162, 3) := by decide +kernel
theorem dX7_allOrders_7 : decode cX7_allOrders 7 = .ok (.istore_n 1, 1) := by decide +kernel
theorem dX7_allOrders_8 : decode cX7_allOrders 8 = .ok (.iconst 0, 1) := by decide +kernel
theorem dX7_allOrders_9 : decode cX7_allOrders 9 = .ok (.istore_n 2, 1) := by decide +kernel
theorem dX7_allOrders_10 : decode cX7_allOrders 10 = .ok (.iload_n 2, 1) := by decide +kernel
theorem dX7_allOrders_11 : decode cX7_allOrders 11 = .ok (.iconst 2, 1) := by decide +kernel
theorem dX7_allOrders_12 : decode cX7_allOrders 12 = .ok (.if_icmp .ge 24, 3) := by decide +kernel
theorem dX7_allOrders_15 : decode cX7_allOrders 15 = .ok (.aload_n 0, 1) := by decide +kernel
theorem dX7_allOrders_16 : decode cX7_allOrders 16 = .ok (.getfield 18, 3) := by decide +kernel
theorem dX7_allOrders_19 : decode cX7_allOrders 19 = .ok (.iload_n 2, 1) := by decide +kernel
theorem dX7_allOrders_20 : decode cX7_allOrders 20 = .ok (.aaload, 1) := by decide +kernel
theorem dX7_allOrders_21 : decode cX7_allOrders 21 = .ok (.invokevirtual 210, 3) := by decide +kernel
theorem dX7_allOrders_24 : decode cX7_allOrders 24 = .ok (.ifCond .eq 6, 3) := by decide +kernel
theorem dX7_allOrders_27 : decode cX7_allOrders 27 = .ok (.iinc 1 1, 3) := by decide +kernel
theorem dX7_allOrders_30 : decode cX7_allOrders 30 = .ok (.iinc 2 1, 3) := by decide +kernel
theorem dX7_allOrders_33 : decode cX7_allOrders 33 = .ok (.goto (-23), 3) := by decide +kernel
theorem dX7_allOrders_36 : decode cX7_allOrders 36 = .ok (.iload_n 1, 1) := by decide +kernel
theorem dX7_allOrders_37 : decode cX7_allOrders 37 = .ok (.ireturn, 1) := by decide +kernel
set_option maxRecDepth 20000 in
theorem ggX7_passOneTick_X7_workDoor : GoodIn wsX7_passOneTick wsX7_workDoor := goodIn_r _ [9, 10, 11, 4, 12, 13, 14, 15, 16, 17, 18, 19, 20, 21, 22, 23, 24, 25, 26, 27, 28, 29, 30, 31, 32, 33, 34, 35, 36, 37, 38, 39, 40, 41, 42, 43, 44, 45, 46, 47, 48, 49, 50, 217, 218, 219, 220, 221, 222, 223, 224, 225, 226, 227, 228, 229, 230, 231, 232, 233, 234, 235, 236, 237, 238, 239, 240, 241] (by decide +kernel) (by decide +kernel)
set_option maxRecDepth 20000 in
theorem gX7_passOneTick_X7_workDoor : GoodIn wsX7_passOneTick (wsV RX7 213 RX7 yX7_workDoor wsX7_workDoor) := goodIn_app (goodIn_of _ (by decide +kernel)) ggX7_passOneTick_X7_workDoor
set_option maxRecDepth 20000 in
theorem ggX7_passOneTick_X2_isIdle : GoodIn wsX7_passOneTick wsX2_isIdle := goodIn_r _ [55, 56, 233, 234, 235, 236, 237] (by decide +kernel) (by decide +kernel)
set_option maxRecDepth 20000 in
theorem gX7_passOneTick_X2_isIdle : GoodIn wsX7_passOneTick (wsV RX7 163 RX2 yX2_isIdle wsX2_isIdle) := goodIn_app (goodIn_of _ (by decide +kernel)) ggX7_passOneTick_X2_isIdle
set_option maxRecDepth 20000 in
theorem ggX7_passOneTick_X7_beginFirstThatCan : GoodIn wsX7_passOneTick wsX7_beginFirstThatCan := goodIn_r _ [60, 11, 61, 44, 45, 28, 46, 33, 62, 63, 64, 8, 65, 10, 66, 4, 67, 68, 69, 15, 70, 19, 38, 71, 72, 73, 74, 75, 76, 77, 78, 79, 80, 81, 82, 83, 84, 85, 86, 87, 88, 89, 90, 91, 92, 93, 94, 95, 96, 97, 98, 99, 100, 101, 102, 103, 104, 105, 106, 107, 108, 109, 110, 111, 112, 113, 114, 115, 116, 117, 118, 119, 120, 121, 122, 123, 124, 125, 126, 127, 128, 129, 130, 131, 132, 133, 134, 135, 136, 137, 138, 139, 140, 141, 142, 143, 144, 145, 146, 147, 148, 149, 150, 151, 152, 153, 154, 155, 156, 157, 158, 159, 160, 161, 162, 163, 164, 54, 165, 166, 167, 168, 169, 170, 171, 172, 173, 174, 217, 218, 219, 220, 221, 222, 223, 224, 225, 226, 238, 239, 240, 241, 227, 228, 229, 230, 231, 232, 242, 243, 233, 234, 235, 236, 237, 244, 245, 246] (by decide +kernel) (by decide +kernel)
set_option maxRecDepth 20000 in
theorem gX7_passOneTick_X7_beginFirstThatCan : GoodIn wsX7_passOneTick (wsV RX7 216 RX7 yX7_beginFirstThatCan wsX7_beginFirstThatCan) := goodIn_app (goodIn_of _ (by decide +kernel)) ggX7_passOneTick_X7_beginFirstThatCan
set_option maxRecDepth 20000 in
theorem ggX7_passOneTick_X7_stepMayGoOn : GoodIn wsX7_passOneTick wsX7_stepMayGoOn := goodIn_r _ [178, 2, 66, 4, 10, 11, 123, 124, 125, 8, 126, 61, 44, 45, 28, 46, 33, 127, 128, 129, 130, 131, 132, 133, 134, 135, 136, 137, 138, 139, 140, 141, 142, 143, 144, 145, 77, 78, 79, 67, 68, 69, 15, 70, 19, 38, 217, 218, 219, 220, 221, 222, 223, 224, 225, 226, 242, 243, 233, 234, 235, 236, 237, 238, 239, 240, 241, 244, 245, 246, 227, 228, 229, 230, 231, 232] (by decide +kernel) (by decide +kernel)
set_option maxRecDepth 20000 in
theorem gX7_passOneTick_X7_stepMayGoOn : GoodIn wsX7_passOneTick (wsV RX7 219 RX7 yX7_stepMayGoOn wsX7_stepMayGoOn) := goodIn_app (goodIn_of _ (by decide +kernel)) ggX7_passOneTick_X7_stepMayGoOn
set_option maxRecDepth 20000 in
theorem ggX7_passOneTick_X7_goOnByOne : GoodIn wsX7_passOneTick wsX7_goOnByOne := goodIn_r _ [182, 4, 11, 123, 124, 125, 8, 126, 61, 44, 45, 28, 46, 33, 127, 128, 129, 130, 131, 132, 133, 134, 135, 136, 137, 138, 139, 140, 141, 142, 143, 144, 145, 183, 184, 185, 186, 10, 150, 151, 66, 155, 156, 157, 158, 159, 160, 161, 77, 78, 79, 162, 163, 164, 54, 165, 166, 167, 171, 172, 173, 174, 187, 188, 189, 74, 190, 76, 191, 192, 193, 194, 90, 91, 195, 196, 197, 15, 198, 17, 18, 199, 200, 201, 202, 203, 19, 24, 204, 205, 206, 207, 119, 120, 121, 122, 115, 116, 117, 118, 146, 147, 148, 149, 152, 153, 154, 168, 169, 170, 208, 209, 210, 211, 30, 31, 32, 212, 213, 214, 215, 56, 216, 217, 218, 219, 220, 221, 222, 223, 224, 225, 226, 233, 234, 235, 236, 237, 238, 239, 240, 241, 244, 245, 246, 242, 243, 227, 228, 229, 230, 231, 232] (by decide +kernel) (by decide +kernel)
set_option maxRecDepth 20000 in
theorem gX7_passOneTick_X7_goOnByOne : GoodIn wsX7_passOneTick (wsV RX7 222 RX7 yX7_goOnByOne wsX7_goOnByOne) := goodIn_app (goodIn_of _ (by decide +kernel)) ggX7_passOneTick_X7_goOnByOne
theorem dX7_passOneTick_0 : decode cX7_passOneTick 0 = .ok (.aload_n 0, 1) := by decide +kernel
theorem dX7_passOneTick_1 : decode cX7_passOneTick 1 = .ok (.dup, 1) := by decide +kernel
theorem dX7_passOneTick_2 : decode cX7_passOneTick 2 = .ok (.getfield 136, 3) := by decide +kernel
theorem dX7_passOneTick_5 : decode cX7_passOneTick 5 = .ok (.iconst 1, 1) := by decide +kernel
theorem dX7_passOneTick_6 : decode cX7_passOneTick 6 = .ok (.iadd, 1) := by decide +kernel
theorem dX7_passOneTick_7 : decode cX7_passOneTick 7 = .ok (.putfield 136, 3) := by decide +kernel
theorem dX7_passOneTick_10 : decode cX7_passOneTick 10 = .ok (.aload_n 0, 1) := by decide +kernel
theorem dX7_passOneTick_11 : decode cX7_passOneTick 11 = .ok (.getfield 44, 3) := by decide +kernel
theorem dX7_passOneTick_14 : decode cX7_passOneTick 14 = .ok (.ifCond .eq 21, 3) := by decide +kernel
theorem dX7_passOneTick_17 : decode cX7_passOneTick 17 = .ok (.iconst 0, 1) := by decide +kernel
theorem dX7_passOneTick_18 : decode cX7_passOneTick 18 = .ok (.istore_n 1, 1) := by decide +kernel
theorem dX7_passOneTick_19 : decode cX7_passOneTick 19 = .ok (.iload_n 1, 1) := by decide +kernel
theorem dX7_passOneTick_20 : decode cX7_passOneTick 20 = .ok (.iconst 2, 1) := by decide +kernel
theorem dX7_passOneTick_21 : decode cX7_passOneTick 21 = .ok (.if_icmp .ge 14, 3) := by decide +kernel
theorem dX7_passOneTick_24 : decode cX7_passOneTick 24 = .ok (.aload_n 0, 1) := by decide +kernel
theorem dX7_passOneTick_25 : decode cX7_passOneTick 25 = .ok (.iload_n 1, 1) := by decide +kernel
theorem dX7_passOneTick_26 : decode cX7_passOneTick 26 = .ok (.invokevirtual 213, 3) := by decide +kernel
theorem dX7_passOneTick_29 : decode cX7_passOneTick 29 = .ok (.iinc 1 1, 3) := by decide +kernel
theorem dX7_passOneTick_32 : decode cX7_passOneTick 32 = .ok (.goto (-13), 3) := by decide +kernel
theorem dX7_passOneTick_35 : decode cX7_passOneTick 35 = .ok (.aload_n 0, 1) := by decide +kernel
theorem dX7_passOneTick_36 : decode cX7_passOneTick 36 = .ok (.getfield 130, 3) := by decide +kernel
theorem dX7_passOneTick_39 : decode cX7_passOneTick 39 = .ok (.ifCond .le 14, 3) := by decide +kernel
theorem dX7_passOneTick_42 : decode cX7_passOneTick 42 = .ok (.aload_n 0, 1) := by decide +kernel
theorem dX7_passOneTick_43 : decode cX7_passOneTick 43 = .ok (.dup, 1) := by decide +kernel
theorem dX7_passOneTick_44 : decode cX7_passOneTick 44 = .ok (.getfield 130, 3) := by decide +kernel
theorem dX7_passOneTick_47 : decode cX7_passOneTick 47 = .ok (.iconst 1, 1) := by decide +kernel
theorem dX7_passOneTick_48 : decode cX7_passOneTick 48 = .ok (.isub, 1) := by decide +kernel
theorem dX7_passOneTick_49 : decode cX7_passOneTick 49 = .ok (.putfield 130, 3) := by decide +kernel
theorem dX7_passOneTick_52 : decode cX7_passOneTick 52 = .ok (.return_, 1) := by decide +kernel
theorem dX7_passOneTick_53 : decode cX7_passOneTick 53 = .ok (.aload_n 0, 1) := by decide +kernel
theorem dX7_passOneTick_54 : decode cX7_passOneTick 54 = .ok (.getfield 33, 3) := by decide +kernel
theorem dX7_passOneTick_57 : decode cX7_passOneTick 57 = .ok (.invokevirtual 163, 3) := by decide +kernel
theorem dX7_passOneTick_60 : decode cX7_passOneTick 60 = .ok (.ifCond .eq 7, 3) := by decide +kernel
theorem dX7_passOneTick_63 : decode cX7_passOneTick 63 = .ok (.aload_n 0, 1) := by decide +kernel
theorem dX7_passOneTick_64 : decode cX7_passOneTick 64 = .ok (.invokevirtual 216, 3) := by decide +kernel
theorem dX7_passOneTick_67 : decode cX7_passOneTick 67 = .ok (.aload_n 0, 1) := by decide +kernel
theorem dX7_passOneTick_68 : decode cX7_passOneTick 68 = .ok (.getfield 33, 3) := by decide +kernel
theorem dX7_passOneTick_71 : decode cX7_passOneTick 71 = .ok (.invokevirtual 163, 3) := by decide +kernel
theorem dX7_passOneTick_74 : decode cX7_passOneTick 74 = .ok (.ifCond .ne 14, 3) := by decide +kernel
theorem dX7_passOneTick_77 : decode cX7_passOneTick 77 = .ok (.aload_n 0, 1) := by decide +kernel
theorem dX7_passOneTick_78 : decode cX7_passOneTick 78 = .ok (.invokevirtual 219, 3) := by decide +kernel
theorem dX7_passOneTick_81 : decode cX7_passOneTick 81 = .ok (.ifCond .eq 7, 3) := by decide +kernel
theorem dX7_passOneTick_84 : decode cX7_passOneTick 84 = .ok (.aload_n 0, 1) := by decide +kernel
theorem dX7_passOneTick_85 : decode cX7_passOneTick 85 = .ok (.invokevirtual 222, 3) := by decide +kernel
theorem dX7_passOneTick_88 : decode cX7_passOneTick 88 = .ok (.return_, 1) := by decide +kernel
set_option maxRecDepth 20000 in
theorem ggX7_workDoor_X1_holdsCarWithoutOrder : GoodIn wsX7_workDoor wsX1_holdsCarWithoutOrder := goodIn_r _ [8, 9, 10, 11, 53, 54, 55, 56, 57, 58] (by decide +kernel) (by decide +kernel)
set_option maxRecDepth 20000 in
theorem gX7_workDoor_X1_holdsCarWithoutOrder : GoodIn wsX7_workDoor (wsV RX7 210 RX1 yX1_holdsCarWithoutOrder wsX1_holdsCarWithoutOrder) := goodIn_app (goodIn_of _ (by decide +kernel)) ggX7_workDoor_X1_holdsCarWithoutOrder
set_option maxRecDepth 20000 in
theorem ggX7_workDoor_X1_moveDoor : GoodIn wsX7_workDoor wsX1_moveDoor := goodIn_r _ [15, 16, 11, 53, 54, 55, 56, 57, 58] (by decide +kernel) (by decide +kernel)
set_option maxRecDepth 20000 in
theorem gX7_workDoor_X1_moveDoor : GoodIn wsX7_workDoor (wsV RX7 225 RX1 yX1_moveDoor wsX1_moveDoor) := goodIn_app (goodIn_of _ (by decide +kernel)) ggX7_workDoor_X1_moveDoor
set_option maxRecDepth 20000 in
theorem ggX7_workDoor_X3_add : GoodIn wsX7_workDoor wsX3_add := goodIn_r _ [21, 22, 23, 24, 25, 64, 65, 66, 67] (by decide +kernel) (by decide +kernel)
set_option maxRecDepth 20000 in
theorem gX7_workDoor_X3_add : GoodIn wsX7_workDoor (wsV RX7 122 RX3 yX3_add wsX3_add) := goodIn_app (goodIn_of _ (by decide +kernel)) ggX7_workDoor_X3_add
set_option maxRecDepth 20000 in
theorem ggX7_workDoor_X1_isOpenAndClear : GoodIn wsX7_workDoor wsX1_isOpenAndClear := goodIn_r _ [29, 11, 9, 30, 53, 54, 55, 56, 57, 58] (by decide +kernel) (by decide +kernel)
set_option maxRecDepth 20000 in
theorem gX7_workDoor_X1_isOpenAndClear : GoodIn wsX7_workDoor (wsV RX7 231 RX1 yX1_isOpenAndClear wsX1_isOpenAndClear) := goodIn_app (goodIn_of _ (by decide +kernel)) ggX7_workDoor_X1_isOpenAndClear
set_option maxRecDepth 20000 in
theorem ggX7_workDoor_X3_firstWaitingIsFetch : GoodIn wsX7_workDoor wsX3_firstWaitingIsFetch := goodIn_r _ [34, 22, 24, 35, 36, 37, 20, 38, 25, 64, 65, 66, 67] (by decide +kernel) (by decide +kernel)
set_option maxRecDepth 20000 in
theorem gX7_workDoor_X3_firstWaitingIsFetch : GoodIn wsX7_workDoor (wsV RX7 234 RX3 yX3_firstWaitingIsFetch wsX3_firstWaitingIsFetch) := goodIn_app (goodIn_of _ (by decide +kernel)) ggX7_workDoor_X3_firstWaitingIsFetch
set_option maxRecDepth 20000 in
theorem ggX7_workDoor_X1_beginToShut : GoodIn wsX7_workDoor wsX1_beginToShut := goodIn_r _ [42, 11, 16, 53, 54, 55, 56, 57, 58] (by decide +kernel) (by decide +kernel)
set_option maxRecDepth 20000 in
theorem gX7_workDoor_X1_beginToShut : GoodIn wsX7_workDoor (wsV RX7 101 RX1 yX1_beginToShut wsX1_beginToShut) := goodIn_app (goodIn_of _ (by decide +kernel)) ggX7_workDoor_X1_beginToShut
theorem dX7_workDoor_0 : decode cX7_workDoor 0 = .ok (.aload_n 0, 1) := by decide +kernel
theorem dX7_workDoor_1 : decode cX7_workDoor 1 = .ok (.getfield 18, 3) := by decide +kernel
theorem dX7_workDoor_4 : decode cX7_workDoor 4 = .ok (.iload_n 1, 1) := by decide +kernel
theorem dX7_workDoor_5 : decode cX7_workDoor 5 = .ok (.aaload, 1) := by decide +kernel
theorem dX7_workDoor_6 : decode cX7_workDoor 6 = .ok (.astore_n 2, 1) := by decide +kernel
theorem dX7_workDoor_7 : decode cX7_workDoor 7 = .ok (.aload_n 2, 1) := by decide +kernel
theorem dX7_workDoor_8 : decode cX7_workDoor 8 = .ok (.invokevirtual 210, 3) := by decide +kernel
theorem dX7_workDoor_11 : decode cX7_workDoor 11 = .ok (.istore_n 3, 1) := by decide +kernel
theorem dX7_workDoor_12 : decode cX7_workDoor 12 = .ok (.aload_n 2, 1) := by decide +kernel
theorem dX7_workDoor_13 : decode cX7_workDoor 13 = .ok (.invokevirtual 225, 3) := by decide +kernel
theorem dX7_workDoor_16 : decode cX7_workDoor 16 = .ok (.iload_n 3, 1) := by decide +kernel
theorem dX7_workDoor_17 : decode cX7_workDoor 17 = .ok (.ifCond .eq 26, 3) := by decide +kernel
theorem dX7_workDoor_20 : decode cX7_workDoor 20 = .ok (.aload_n 2, 1) := by decide +kernel
theorem dX7_workDoor_21 : decode cX7_workDoor 21 = .ok (.getfield 59, 3) := by decide +kernel
theorem dX7_workDoor_24 : decode cX7_workDoor 24 = .ok (.ifCond .ne 19, 3) := by decide +kernel
theorem dX7_workDoor_27 : decode cX7_workDoor 27 = .ok (.aload_n 0, 1) := by decide +kernel
theorem dX7_workDoor_28 : decode cX7_workDoor 28 = .ok (.getfield 26, 3) := by decide +kernel
theorem dX7_workDoor_31 : decode cX7_workDoor 31 = .ok (.aload_n 2, 1) := by decide +kernel
theorem dX7_workDoor_32 : decode cX7_workDoor 32 = .ok (.getfield 55, 3) := by decide +kernel
theorem dX7_workDoor_35 : decode cX7_workDoor 35 = .ok (.iload_n 1, 1) := by decide +kernel
theorem dX7_workDoor_36 : decode cX7_workDoor 36 = .ok (.aload_n 2, 1) := by decide +kernel
theorem dX7_workDoor_37 : decode cX7_workDoor 37 = .ok (.getfield 228, 3) := by decide +kernel
theorem dX7_workDoor_40 : decode cX7_workDoor 40 = .ok (.invokevirtual 122, 3) := by decide +kernel
theorem dX7_workDoor_43 : decode cX7_workDoor 43 = .ok (.aload_n 2, 1) := by decide +kernel
theorem dX7_workDoor_44 : decode cX7_workDoor 44 = .ok (.invokevirtual 231, 3) := by decide +kernel
theorem dX7_workDoor_47 : decode cX7_workDoor 47 = .ok (.ifCond .eq 25, 3) := by decide +kernel
theorem dX7_workDoor_50 : decode cX7_workDoor 50 = .ok (.aload_n 0, 1) := by decide +kernel
theorem dX7_workDoor_51 : decode cX7_workDoor 51 = .ok (.getfield 26, 3) := by decide +kernel
theorem dX7_workDoor_54 : decode cX7_workDoor 54 = .ok (.iload_n 1, 1) := by decide +kernel
theorem dX7_workDoor_55 : decode cX7_workDoor 55 = .ok (.aload_n 0, 1) := by decide +kernel
theorem dX7_workDoor_56 : decode cX7_workDoor 56 = .ok (.getfield 33, 3) := by decide +kernel
theorem dX7_workDoor_59 : decode cX7_workDoor 59 = .ok (.getfield 170, 3) := by decide +kernel
theorem dX7_workDoor_62 : decode cX7_workDoor 62 = .ok (.invokevirtual 234, 3) := by decide +kernel
theorem dX7_workDoor_65 : decode cX7_workDoor 65 = .ok (.ifCond .eq 7, 3) := by decide +kernel
theorem dX7_workDoor_68 : decode cX7_workDoor 68 = .ok (.aload_n 2, 1) := by decide +kernel
theorem dX7_workDoor_69 : decode cX7_workDoor 69 = .ok (.invokevirtual 101, 3) := by decide +kernel
theorem dX7_workDoor_72 : decode cX7_workDoor 72 = .ok (.return_, 1) := by decide +kernel
set_option maxRecDepth 20000 in
theorem ggX7_beginFirstThatCan_X3_isFetch : GoodIn wsX7_beginFirstThatCan wsX3_isFetch := goodIn_r _ [6, 7, 138, 139, 140, 141] (by decide +kernel) (by decide +kernel)
set_option maxRecDepth 20000 in
theorem gX7_beginFirstThatCan_X3_isFetch : GoodIn wsX7_beginFirstThatCan (wsV RX7 198 RX3 yX3_isFetch wsX3_isFetch) := goodIn_app (goodIn_of _ (by decide +kernel)) ggX7_beginFirstThatCan_X3_isFetch
set_option maxRecDepth 20000 in
theorem ggX7_beginFirstThatCan_X7_cellToFetchFrom : GoodIn wsX7_beginFirstThatCan wsX7_cellToFetchFrom := goodIn_r _ [12, 13, 1, 14, 15, 16, 17, 18, 19, 20, 21, 22, 23, 24, 25, 26, 27, 28, 29, 30, 11, 31, 32, 33, 34, 35, 36, 37, 38, 39, 40, 41, 42, 43, 44, 45, 46, 47, 48, 49, 50, 51, 52, 53, 54, 55, 56, 57, 58, 59, 60, 61, 62, 128, 129, 130, 131, 132, 133, 134, 135, 136, 137, 138, 139, 140, 141, 142, 143, 144, 145, 146, 147, 148, 149, 150, 151, 152, 153, 154, 155, 156, 157] (by decide +kernel) (by decide +kernel)
set_option maxRecDepth 20000 in
theorem gX7_beginFirstThatCan_X7_cellToFetchFrom : GoodIn wsX7_beginFirstThatCan (wsV RX7 237 RX7 yX7_cellToFetchFrom wsX7_cellToFetchFrom) := goodIn_app (goodIn_of _ (by decide +kernel)) ggX7_beginFirstThatCan_X7_cellToFetchFrom
set_option maxRecDepth 20000 in
theorem ggX7_beginFirstThatCan_X7_beginJob : GoodIn wsX7_beginFirstThatCan wsX7_beginJob := goodIn_r _ [66, 15, 67, 68, 69, 11, 70, 71, 72, 73, 74, 1, 2, 3, 4, 5, 6, 7, 75, 76, 77, 78, 79, 80, 81, 82, 83, 84, 85, 86, 87, 88, 89, 90, 91, 92, 93, 94, 95, 96, 97, 98, 99, 100, 101, 102, 103, 104, 105, 106, 107, 108, 109, 110, 111, 112, 113, 29, 30, 31, 114, 115, 116, 117, 118, 119, 120, 121, 122, 123, 124, 125, 126, 127, 128, 129, 130, 131, 132, 133, 134, 135, 136, 137, 150, 151, 152, 153, 154, 155, 156, 157, 138, 139, 140, 141] (by decide +kernel) (by decide +kernel)
set_option maxRecDepth 20000 in
theorem gX7_beginFirstThatCan_X7_beginJob : GoodIn wsX7_beginFirstThatCan (wsV RX7 243 RX7 yX7_beginJob wsX7_beginJob) := goodIn_app (goodIn_of _ (by decide +kernel)) ggX7_beginFirstThatCan_X7_beginJob
theorem dX7_beginFirstThatCan_0 : decode cX7_beginFirstThatCan 0 = .ok (.iconst 0, 1) := by decide +kernel
theorem dX7_beginFirstThatCan_1 : decode cX7_beginFirstThatCan 1 = .ok (.istore_n 1, 1) := by decide +kernel
theorem dX7_beginFirstThatCan_2 : decode cX7_beginFirstThatCan 2 = .ok (.iload_n 1, 1) := by decide +kernel
theorem dX7_beginFirstThatCan_3 : decode cX7_beginFirstThatCan 3 = .ok (.aload_n 0, 1) := by decide +kernel
theorem dX7_beginFirstThatCan_4 : decode cX7_beginFirstThatCan 4 = .ok (.getfield 26, 3) := by decide +kernel
theorem dX7_beginFirstThatCan_7 : decode cX7_beginFirstThatCan 7 = .ok (.getfield 162, 3) := by decide +kernel
theorem dX7_beginFirstThatCan_10 : decode cX7_beginFirstThatCan 10 = .ok (.if_icmp .ge 50, 3) := by decide +kernel
theorem dX7_beginFirstThatCan_13 : decode cX7_beginFirstThatCan 13 = .ok (.aload_n 0, 1) := by decide +kernel
theorem dX7_beginFirstThatCan_14 : decode cX7_beginFirstThatCan 14 = .ok (.getfield 26, 3) := by decide +kernel
theorem dX7_beginFirstThatCan_17 : decode cX7_beginFirstThatCan 17 = .ok (.iload_n 1, 1) := by decide +kernel
theorem dX7_beginFirstThatCan_18 : decode cX7_beginFirstThatCan 18 = .ok (.invokevirtual 198, 3) := by decide +kernel
theorem dX7_beginFirstThatCan_21 : decode cX7_beginFirstThatCan 21 = .ok (.ifCond .eq 11, 3) := by decide +kernel
theorem dX7_beginFirstThatCan_24 : decode cX7_beginFirstThatCan 24 = .ok (.aload_n 0, 1) := by decide +kernel
theorem dX7_beginFirstThatCan_25 : decode cX7_beginFirstThatCan 25 = .ok (.iload_n 1, 1) := by decide +kernel
theorem dX7_beginFirstThatCan_26 : decode cX7_beginFirstThatCan 26 = .ok (.invokevirtual 237, 3) := by decide +kernel
theorem dX7_beginFirstThatCan_29 : decode cX7_beginFirstThatCan 29 = .ok (.goto 12, 3) := by decide +kernel
theorem dX7_beginFirstThatCan_32 : decode cX7_beginFirstThatCan 32 = .ok (.aload_n 0, 1) := by decide +kernel
theorem dX7_beginFirstThatCan_33 : decode cX7_beginFirstThatCan 33 = .ok (.getfield 26, 3) := by decide +kernel
theorem dX7_beginFirstThatCan_36 : decode cX7_beginFirstThatCan 36 = .ok (.getfield 240, 3) := by decide +kernel
theorem dX7_beginFirstThatCan_39 : decode cX7_beginFirstThatCan 39 = .ok (.iload_n 1, 1) := by decide +kernel
theorem dX7_beginFirstThatCan_40 : decode cX7_beginFirstThatCan 40 = .ok (.iaload, 1) := by decide +kernel
theorem dX7_beginFirstThatCan_41 : decode cX7_beginFirstThatCan 41 = .ok (.istore_n 2, 1) := by decide +kernel
theorem dX7_beginFirstThatCan_42 : decode cX7_beginFirstThatCan 42 = .ok (.iload_n 2, 1) := by decide +kernel
theorem dX7_beginFirstThatCan_43 : decode cX7_beginFirstThatCan 43 = .ok (.iconst (-1), 1) := by decide +kernel
theorem dX7_beginFirstThatCan_44 : decode cX7_beginFirstThatCan 44 = .ok (.if_icmp .eq 10, 3) := by decide +kernel
theorem dX7_beginFirstThatCan_47 : decode cX7_beginFirstThatCan 47 = .ok (.aload_n 0, 1) := by decide +kernel
theorem dX7_beginFirstThatCan_48 : decode cX7_beginFirstThatCan 48 = .ok (.iload_n 1, 1) := by decide +kernel
theorem dX7_beginFirstThatCan_49 : decode cX7_beginFirstThatCan 49 = .ok (.iload_n 2, 1) := by decide +kernel
theorem dX7_beginFirstThatCan_50 : decode cX7_beginFirstThatCan 50 = .ok (.invokevirtual 243, 3) := by decide +kernel
theorem dX7_beginFirstThatCan_53 : decode cX7_beginFirstThatCan 53 = .ok (.return_, 1) := by decide +kernel
theorem dX7_beginFirstThatCan_54 : decode cX7_beginFirstThatCan 54 = .ok (.iinc 1 1, 3) := by decide +kernel
theorem dX7_beginFirstThatCan_57 : decode cX7_beginFirstThatCan 57 = .ok (.goto (-55), 3) := by decide +kernel
theorem dX7_beginFirstThatCan_60 : decode cX7_beginFirstThatCan 60 = .ok (.return_, 1) := by decide +kernel
set_option maxRecDepth 20000 in
theorem ggX7_cellToFetchFrom_X1_isSafe : GoodIn wsX7_cellToFetchFrom wsX1_isSafe := goodIn_r _ [9, 10, 11, 67, 68, 69, 70, 71, 72] (by decide +kernel) (by decide +kernel)
set_option maxRecDepth 20000 in
theorem gX7_cellToFetchFrom_X1_isSafe : GoodIn wsX7_cellToFetchFrom (wsV RX7 248 RX1 yX1_isSafe wsX1_isSafe) := goodIn_app (goodIn_of _ (by decide +kernel)) ggX7_cellToFetchFrom_X1_isSafe
set_option maxRecDepth 20000 in
theorem ggX7_cellToFetchFrom_X5_find : GoodIn wsX7_cellToFetchFrom wsX5_find := goodIn_r _ [16, 17, 73, 74] (by decide +kernel) (by decide +kernel)
set_option maxRecDepth 20000 in
theorem gX7_cellToFetchFrom_X5_find : GoodIn wsX7_cellToFetchFrom (wsV RX7 113 RX5 yX5_find wsX5_find) := goodIn_app (goodIn_of _ (by decide +kernel)) ggX7_cellToFetchFrom_X5_find
set_option maxRecDepth 20000 in
theorem ggX7_cellToFetchFrom_X7_levelOf : GoodIn wsX7_cellToFetchFrom wsX7_levelOf := goodIn_r _ [21] (by decide +kernel) (by decide +kernel)
set_option maxRecDepth 20000 in
theorem gX7_cellToFetchFrom_X7_levelOf : GoodIn wsX7_cellToFetchFrom (va_wsS RX7 204 yX7_levelOf wsX7_levelOf) := goodIn_app (goodIn_of _ (by decide +kernel)) ggX7_cellToFetchFrom_X7_levelOf
set_option maxRecDepth 20000 in
theorem ggX7_cellToFetchFrom_X4_make : GoodIn wsX7_cellToFetchFrom wsX4_make := goodIn_r _ [26, 27, 28, 29, 30, 15, 31, 32, 20, 33, 34, 35, 36, 37, 17, 19, 21, 38, 39, 40, 41, 42, 43, 44, 45, 46, 47, 48, 49, 25, 50, 51, 52, 80, 81, 82, 73, 74] (by decide +kernel) (by decide +kernel)
set_option maxRecDepth 20000 in
theorem gX7_cellToFetchFrom_X4_make : GoodIn wsX7_cellToFetchFrom (wsV RX7 143 RX4 yX4_make wsX4_make) := goodIn_app (goodIn_of _ (by decide +kernel)) ggX7_cellToFetchFrom_X4_make
theorem dX7_cellToFetchFrom_0 : decode cX7_cellToFetchFrom 0 = .ok (.aload_n 0, 1) := by decide +kernel
theorem dX7_cellToFetchFrom_1 : decode cX7_cellToFetchFrom 1 = .ok (.getfield 18, 3) := by decide +kernel
theorem dX7_cellToFetchFrom_4 : decode cX7_cellToFetchFrom 4 = .ok (.aload_n 0, 1) := by decide +kernel
theorem dX7_cellToFetchFrom_5 : decode cX7_cellToFetchFrom 5 = .ok (.getfield 26, 3) := by decide +kernel
theorem dX7_cellToFetchFrom_8 : decode cX7_cellToFetchFrom 8 = .ok (.getfield 246, 3) := by decide +kernel
theorem dX7_cellToFetchFrom_11 : decode cX7_cellToFetchFrom 11 = .ok (.iload_n 1, 1) := by decide +kernel
theorem dX7_cellToFetchFrom_12 : decode cX7_cellToFetchFrom 12 = .ok (.iaload, 1) := by decide +kernel
theorem dX7_cellToFetchFrom_13 : decode cX7_cellToFetchFrom 13 = .ok (.aaload, 1) := by decide +kernel
theorem dX7_cellToFetchFrom_14 : decode cX7_cellToFetchFrom 14 = .ok (.astore_n 2, 1) := by decide +kernel
theorem dX7_cellToFetchFrom_15 : decode cX7_cellToFetchFrom 15 = .ok (.aload_n 2, 1) := by decide +kernel
theorem dX7_cellToFetchFrom_16 : decode cX7_cellToFetchFrom 16 = .ok (.getfield 55, 3) := by decide +kernel
theorem dX7_cellToFetchFrom_19 : decode cX7_cellToFetchFrom 19 = .ok (.ifCond .ne 10, 3) := by decide +kernel
theorem dX7_cellToFetchFrom_22 : decode cX7_cellToFetchFrom 22 = .ok (.aload_n 2, 1) := by decide +kernel
theorem dX7_cellToFetchFrom_23 : decode cX7_cellToFetchFrom 23 = .ok (.invokevirtual 248, 3) := by decide +kernel
theorem dX7_cellToFetchFrom_26 : decode cX7_cellToFetchFrom 26 = .ok (.ifCond .ne 5, 3) := by decide +kernel
theorem dX7_cellToFetchFrom_29 : decode cX7_cellToFetchFrom 29 = .ok (.iconst (-1), 1) := by decide +kernel
theorem dX7_cellToFetchFrom_30 : decode cX7_cellToFetchFrom 30 = .ok (.ireturn, 1) := by decide +kernel
theorem dX7_cellToFetchFrom_31 : decode cX7_cellToFetchFrom 31 = .ok (.aload_n 0, 1) := by decide +kernel
theorem dX7_cellToFetchFrom_32 : decode cX7_cellToFetchFrom 32 = .ok (.getfield 10, 3) := by decide +kernel
theorem dX7_cellToFetchFrom_35 : decode cX7_cellToFetchFrom 35 = .ok (.aload_n 0, 1) := by decide +kernel
theorem dX7_cellToFetchFrom_36 : decode cX7_cellToFetchFrom 36 = .ok (.getfield 26, 3) := by decide +kernel
theorem dX7_cellToFetchFrom_39 : decode cX7_cellToFetchFrom 39 = .ok (.getfield 167, 3) := by decide +kernel
theorem dX7_cellToFetchFrom_42 : decode cX7_cellToFetchFrom 42 = .ok (.iload_n 1, 1) := by decide +kernel
theorem dX7_cellToFetchFrom_43 : decode cX7_cellToFetchFrom 43 = .ok (.iaload, 1) := by decide +kernel
theorem dX7_cellToFetchFrom_44 : decode cX7_cellToFetchFrom 44 = .ok (.invokevirtual 113, 3) := by decide +kernel
theorem dX7_cellToFetchFrom_47 : decode cX7_cellToFetchFrom 47 = .ok (.istore_n 3, 1) := by decide +kernel
theorem dX7_cellToFetchFrom_48 : decode cX7_cellToFetchFrom 48 = .ok (.iload_n 3, 1) := by decide +kernel
theorem dX7_cellToFetchFrom_49 : decode cX7_cellToFetchFrom 49 = .ok (.iconst (-1), 1) := by decide +kernel
theorem dX7_cellToFetchFrom_50 : decode cX7_cellToFetchFrom 50 = .ok (.if_icmp .eq 36, 3) := by decide +kernel
theorem dX7_cellToFetchFrom_53 : decode cX7_cellToFetchFrom 53 = .ok (.aload_n 0, 1) := by decide +kernel
theorem dX7_cellToFetchFrom_54 : decode cX7_cellToFetchFrom 54 = .ok (.getfield 10, 3) := by decide +kernel
theorem dX7_cellToFetchFrom_57 : decode cX7_cellToFetchFrom 57 = .ok (.getfield 126, 3) := by decide +kernel
theorem dX7_cellToFetchFrom_60 : decode cX7_cellToFetchFrom 60 = .ok (.iload_n 3, 1) := by decide +kernel
theorem dX7_cellToFetchFrom_61 : decode cX7_cellToFetchFrom 61 = .ok (.invokestatic 204, 3) := by decide +kernel
theorem dX7_cellToFetchFrom_64 : decode cX7_cellToFetchFrom 64 = .ok (.baload, 1) := by decide +kernel
theorem dX7_cellToFetchFrom_65 : decode cX7_cellToFetchFrom 65 = .ok (.ifCond .ne 21, 3) := by decide +kernel
theorem dX7_cellToFetchFrom_68 : decode cX7_cellToFetchFrom 68 = .ok (.aload_n 0, 1) := by decide +kernel
theorem dX7_cellToFetchFrom_69 : decode cX7_cellToFetchFrom 69 = .ok (.getfield 33, 3) := by decide +kernel
theorem dX7_cellToFetchFrom_72 : decode cX7_cellToFetchFrom 72 = .ok (.getfield 251, 3) := by decide +kernel
theorem dX7_cellToFetchFrom_75 : decode cX7_cellToFetchFrom 75 = .ok (.aload_n 0, 1) := by decide +kernel
theorem dX7_cellToFetchFrom_76 : decode cX7_cellToFetchFrom 76 = .ok (.getfield 10, 3) := by decide +kernel
theorem dX7_cellToFetchFrom_79 : decode cX7_cellToFetchFrom 79 = .ok (.iload_n 3, 1) := by decide +kernel
theorem dX7_cellToFetchFrom_80 : decode cX7_cellToFetchFrom 80 = .ok (.invokevirtual 143, 3) := by decide +kernel
theorem dX7_cellToFetchFrom_83 : decode cX7_cellToFetchFrom 83 = .ok (.ifCond .ne 5, 3) := by decide +kernel
theorem dX7_cellToFetchFrom_86 : decode cX7_cellToFetchFrom 86 = .ok (.iconst (-1), 1) := by decide +kernel
theorem dX7_cellToFetchFrom_87 : decode cX7_cellToFetchFrom 87 = .ok (.ireturn, 1) := by decide +kernel
theorem dX7_cellToFetchFrom_88 : decode cX7_cellToFetchFrom 88 = .ok (.iload_n 3, 1) := by decide +kernel
theorem dX7_cellToFetchFrom_89 : decode cX7_cellToFetchFrom 89 = .ok (.ireturn, 1) := by decide +kernel
set_option maxRecDepth 20000 in
theorem ggX7_beginJob_X7_beginStep : GoodIn wsX7_beginJob wsX7_beginStep := goodIn_r _ [6, 1, 7, 8, 9, 5, 10, 11, 12, 13, 14, 15, 16, 17, 18, 19, 20, 21, 22, 23, 24, 25, 26, 27, 28, 29, 30, 31, 32, 33, 34, 35, 36, 37, 38, 39, 40, 41, 42, 43, 44, 45, 46, 47, 48, 49, 50, 51, 52, 53, 54, 55, 56, 57, 58, 59, 60, 61, 62, 63, 64, 65, 66, 67, 68, 69, 70, 71, 72, 73, 74, 75, 76, 77, 78, 79, 80, 81, 82, 83, 84, 85, 86, 87, 88, 89, 90, 91, 92, 93, 94, 95] (by decide +kernel) (by decide +kernel)
set_option maxRecDepth 20000 in
theorem gX7_beginJob_X7_beginStep : GoodIn wsX7_beginJob (wsV RX7 254 RX7 yX7_beginStep wsX7_beginStep) := goodIn_app (goodIn_of _ (by decide +kernel)) ggX7_beginJob_X7_beginStep
theorem dX7_beginJob_0 : decode cX7_beginJob 0 = .ok (.aload_n 0, 1) := by decide +kernel
theorem dX7_beginJob_1 : decode cX7_beginJob 1 = .ok (.getfield 33, 3) := by decide +kernel
theorem dX7_beginJob_4 : decode cX7_beginJob 4 = .ok (.iload_n 1, 1) := by decide +kernel
theorem dX7_beginJob_5 : decode cX7_beginJob 5 = .ok (.putfield 170, 3) := by decide +kernel
theorem dX7_beginJob_8 : decode cX7_beginJob 8 = .ok (.aload_n 0, 1) := by decide +kernel
theorem dX7_beginJob_9 : decode cX7_beginJob 9 = .ok (.getfield 33, 3) := by decide +kernel
theorem dX7_beginJob_12 : decode cX7_beginJob 12 = .ok (.iload_n 2, 1) := by decide +kernel
theorem dX7_beginJob_13 : decode cX7_beginJob 13 = .ok (.putfield 201, 3) := by decide +kernel
theorem dX7_beginJob_16 : decode cX7_beginJob 16 = .ok (.aload_n 0, 1) := by decide +kernel
theorem dX7_beginJob_17 : decode cX7_beginJob 17 = .ok (.getfield 33, 3) := by decide +kernel
theorem dX7_beginJob_20 : decode cX7_beginJob 20 = .ok (.iconst 0, 1) := by decide +kernel
theorem dX7_beginJob_21 : decode cX7_beginJob 21 = .ok (.putfield 173, 3) := by decide +kernel
theorem dX7_beginJob_24 : decode cX7_beginJob 24 = .ok (.aload_n 0, 1) := by decide +kernel
theorem dX7_beginJob_25 : decode cX7_beginJob 25 = .ok (.invokevirtual 254, 3) := by decide +kernel
theorem dX7_beginJob_28 : decode cX7_beginJob 28 = .ok (.return_, 1) := by decide +kernel
set_option maxRecDepth 20000 in
theorem ggX7_stepMayGoOn_X7_stepNow : GoodIn wsX7_stepMayGoOn wsX7_stepNow := goodIn_r _ [10, 5, 3, 11, 12, 13, 14, 15, 16, 17, 18, 19, 9, 20, 21, 22, 23, 24, 25, 26, 27, 28, 29, 30, 31, 32, 33, 34, 35, 46, 47, 48, 49, 50, 51, 52, 53, 54, 55, 58, 59, 60, 61, 62, 63, 64, 65, 66, 67, 68, 69] (by decide +kernel) (by decide +kernel)
set_option maxRecDepth 20000 in
theorem gX7_stepMayGoOn_X7_stepNow : GoodIn wsX7_stepMayGoOn (wsV RX7 257 RX7 yX7_stepNow wsX7_stepNow) := goodIn_app (goodIn_of _ (by decide +kernel)) ggX7_stepMayGoOn_X7_stepNow
set_option maxRecDepth 20000 in
theorem ggX7_stepMayGoOn_X7_levelOf : GoodIn wsX7_stepMayGoOn wsX7_levelOf := goodIn_r _ [38] (by decide +kernel) (by decide +kernel)
set_option maxRecDepth 20000 in
theorem gX7_stepMayGoOn_X7_levelOf : GoodIn wsX7_stepMayGoOn (va_wsS RX7 204 yX7_levelOf wsX7_levelOf) := goodIn_app (goodIn_of _ (by decide +kernel)) ggX7_stepMayGoOn_X7_levelOf
set_option maxRecDepth 20000 in
theorem ggX7_stepMayGoOn_X1_isSafe : GoodIn wsX7_stepMayGoOn wsX1_isSafe := goodIn_r _ [43, 44, 45, 70, 71, 72, 73, 74, 75] (by decide +kernel) (by decide +kernel)
set_option maxRecDepth 20000 in
theorem gX7_stepMayGoOn_X1_isSafe : GoodIn wsX7_stepMayGoOn (wsV RX7 248 RX1 yX1_isSafe wsX1_isSafe) := goodIn_app (goodIn_of _ (by decide +kernel)) ggX7_stepMayGoOn_X1_isSafe
theorem dX7_stepMayGoOn_0 : decode cX7_stepMayGoOn 0 = .ok (.aload_n 0, 1) := by decide +kernel
theorem dX7_stepMayGoOn_1 : decode cX7_stepMayGoOn 1 = .ok (.invokevirtual 257, 3) := by decide +kernel
theorem dX7_stepMayGoOn_4 : decode cX7_stepMayGoOn 4 = .ok (.astore_n 1, 1) := by decide +kernel
theorem dX7_stepMayGoOn_5 : decode cX7_stepMayGoOn 5 = .ok (.aload_n 0, 1) := by decide +kernel
theorem dX7_stepMayGoOn_6 : decode cX7_stepMayGoOn 6 = .ok (.getfield 44, 3) := by decide +kernel
theorem dX7_stepMayGoOn_9 : decode cX7_stepMayGoOn 9 = .ok (.ifCond .eq 31, 3) := by decide +kernel
theorem dX7_stepMayGoOn_12 : decode cX7_stepMayGoOn 12 = .ok (.aload_n 1, 1) := by decide +kernel
theorem dX7_stepMayGoOn_13 : decode cX7_stepMayGoOn 13 = .ok (.getfield 261, 3) := by decide +kernel
theorem dX7_stepMayGoOn_16 : decode cX7_stepMayGoOn 16 = .ok (.ifCond .eq 26, 3) := by decide +kernel
theorem dX7_stepMayGoOn_19 : decode cX7_stepMayGoOn 19 = .ok (.aload_n 0, 1) := by decide +kernel
theorem dX7_stepMayGoOn_20 : decode cX7_stepMayGoOn 20 = .ok (.getfield 10, 3) := by decide +kernel
theorem dX7_stepMayGoOn_23 : decode cX7_stepMayGoOn 23 = .ok (.getfield 126, 3) := by decide +kernel
theorem dX7_stepMayGoOn_26 : decode cX7_stepMayGoOn 26 = .ok (.aload_n 0, 1) := by decide +kernel
theorem dX7_stepMayGoOn_27 : decode cX7_stepMayGoOn 27 = .ok (.getfield 33, 3) := by decide +kernel
theorem dX7_stepMayGoOn_30 : decode cX7_stepMayGoOn 30 = .ok (.getfield 201, 3) := by decide +kernel
theorem dX7_stepMayGoOn_33 : decode cX7_stepMayGoOn 33 = .ok (.invokestatic 204, 3) := by decide +kernel
theorem dX7_stepMayGoOn_36 : decode cX7_stepMayGoOn 36 = .ok (.baload, 1) := by decide +kernel
theorem dX7_stepMayGoOn_37 : decode cX7_stepMayGoOn 37 = .ok (.ifCond .eq 5, 3) := by decide +kernel
theorem dX7_stepMayGoOn_40 : decode cX7_stepMayGoOn 40 = .ok (.iconst 0, 1) := by decide +kernel
theorem dX7_stepMayGoOn_41 : decode cX7_stepMayGoOn 41 = .ok (.ireturn, 1) := by decide +kernel
theorem dX7_stepMayGoOn_42 : decode cX7_stepMayGoOn 42 = .ok (.aload_n 1, 1) := by decide +kernel
theorem dX7_stepMayGoOn_43 : decode cX7_stepMayGoOn 43 = .ok (.getfield 266, 3) := by decide +kernel
theorem dX7_stepMayGoOn_46 : decode cX7_stepMayGoOn 46 = .ok (.ifCond .eq 29, 3) := by decide +kernel
theorem dX7_stepMayGoOn_49 : decode cX7_stepMayGoOn 49 = .ok (.aload_n 0, 1) := by decide +kernel
theorem dX7_stepMayGoOn_50 : decode cX7_stepMayGoOn 50 = .ok (.getfield 18, 3) := by decide +kernel
theorem dX7_stepMayGoOn_53 : decode cX7_stepMayGoOn 53 = .ok (.aload_n 0, 1) := by decide +kernel
theorem dX7_stepMayGoOn_54 : decode cX7_stepMayGoOn 54 = .ok (.getfield 26, 3) := by decide +kernel
theorem dX7_stepMayGoOn_57 : decode cX7_stepMayGoOn 57 = .ok (.getfield 246, 3) := by decide +kernel
theorem dX7_stepMayGoOn_60 : decode cX7_stepMayGoOn 60 = .ok (.aload_n 0, 1) := by decide +kernel
theorem dX7_stepMayGoOn_61 : decode cX7_stepMayGoOn 61 = .ok (.getfield 33, 3) := by decide +kernel
theorem dX7_stepMayGoOn_64 : decode cX7_stepMayGoOn 64 = .ok (.getfield 170, 3) := by decide +kernel
theorem dX7_stepMayGoOn_67 : decode cX7_stepMayGoOn 67 = .ok (.iaload, 1) := by decide +kernel
theorem dX7_stepMayGoOn_68 : decode cX7_stepMayGoOn 68 = .ok (.aaload, 1) := by decide +kernel
theorem dX7_stepMayGoOn_69 : decode cX7_stepMayGoOn 69 = .ok (.invokevirtual 248, 3) := by decide +kernel
theorem dX7_stepMayGoOn_72 : decode cX7_stepMayGoOn 72 = .ok (.ifCond .eq 7, 3) := by decide +kernel
theorem dX7_stepMayGoOn_75 : decode cX7_stepMayGoOn 75 = .ok (.iconst 1, 1) := by decide +kernel
theorem dX7_stepMayGoOn_76 : decode cX7_stepMayGoOn 76 = .ok (.goto 4, 3) := by decide +kernel
theorem dX7_stepMayGoOn_79 : decode cX7_stepMayGoOn 79 = .ok (.iconst 0, 1) := by decide +kernel
theorem dX7_stepMayGoOn_80 : decode cX7_stepMayGoOn 80 = .ok (.ireturn, 1) := by decide +kernel
set_option maxRecDepth 20000 in
theorem ggX7_goOnByOne_X7_stepNow : GoodIn wsX7_goOnByOne wsX7_stepNow := goodIn_r _ [7, 2, 1, 8, 9, 10, 11, 12, 13, 14, 15, 16, 6, 17, 18, 19, 20, 21, 22, 23, 24, 25, 26, 27, 28, 29, 30, 31, 32, 123, 124, 125, 126, 127, 128, 129, 130, 131, 132, 133, 134, 135, 136, 137, 138, 139, 140, 141, 142, 143, 144] (by decide +kernel) (by decide +kernel)
set_option maxRecDepth 20000 in
theorem gX7_goOnByOne_X7_stepNow : GoodIn wsX7_goOnByOne (wsV RX7 257 RX7 yX7_stepNow wsX7_stepNow) := goodIn_app (goodIn_of _ (by decide +kernel)) ggX7_goOnByOne_X7_stepNow
set_option maxRecDepth 20000 in
theorem ggX7_goOnByOne_X7_endStep : GoodIn wsX7_goOnByOne wsX7_endStep := goodIn_r _ [36, 37, 2, 1, 38, 39, 40, 41, 42, 43, 44, 45, 46, 47, 48, 49, 6, 50, 51, 52, 53, 54, 55, 56, 57, 58, 59, 60, 61, 62, 63, 64, 65, 66, 67, 68, 69, 70, 71, 72, 73, 74, 75, 76, 77, 78, 79, 80, 81, 82, 83, 84, 85, 86, 87, 88, 89, 90, 91, 123, 124, 125, 126, 127, 128, 129, 130, 131, 132, 138, 139, 140, 141, 133, 134, 135, 136, 137, 145, 146, 142, 143, 144, 147, 148, 149, 150, 151, 152] (by decide +kernel) (by decide +kernel)
set_option maxRecDepth 20000 in
theorem gX7_goOnByOne_X7_endStep : GoodIn wsX7_goOnByOne (wsV RX7 269 RX7 yX7_endStep wsX7_endStep) := goodIn_app (goodIn_of _ (by decide +kernel)) ggX7_goOnByOne_X7_endStep
set_option maxRecDepth 20000 in
theorem ggX7_goOnByOne_X7_stepCount : GoodIn wsX7_goOnByOne wsX7_stepCount := goodIn_r _ [95, 2, 1, 8, 9, 10, 11, 12, 13, 123, 124, 125, 126, 127, 128, 129, 130, 131, 132, 133, 134, 135, 136, 137, 142, 143, 144, 138, 139, 140, 141] (by decide +kernel) (by decide +kernel)
set_option maxRecDepth 20000 in
theorem gX7_goOnByOne_X7_stepCount : GoodIn wsX7_goOnByOne (wsV RX7 273 RX7 yX7_stepCount wsX7_stepCount) := goodIn_app (goodIn_of _ (by decide +kernel)) ggX7_goOnByOne_X7_stepCount
set_option maxRecDepth 20000 in
theorem ggX7_goOnByOne_X7_beginStep : GoodIn wsX7_goOnByOne wsX7_beginStep := goodIn_r _ [99, 1, 92, 93, 94, 6, 95, 2, 8, 9, 10, 11, 12, 13, 3, 4, 5, 7, 14, 15, 16, 17, 18, 19, 20, 21, 22, 23, 24, 25, 26, 27, 28, 29, 30, 31, 32, 100, 101, 102, 103, 38, 39, 104, 105, 106, 41, 42, 43, 44, 45, 46, 47, 48, 49, 50, 51, 52, 53, 54, 55, 56, 57, 107, 108, 109, 58, 59, 60, 61, 123, 124, 125, 126, 127, 128, 129, 130, 131, 132, 133, 134, 135, 136, 137, 142, 143, 144, 138, 139, 140, 141] (by decide +kernel) (by decide +kernel)
set_option maxRecDepth 20000 in
theorem gX7_goOnByOne_X7_beginStep : GoodIn wsX7_goOnByOne (wsV RX7 254 RX7 yX7_beginStep wsX7_beginStep) := goodIn_app (goodIn_of _ (by decide +kernel)) ggX7_goOnByOne_X7_beginStep
set_option maxRecDepth 20000 in
theorem ggX7_goOnByOne_X3_remove : GoodIn wsX7_goOnByOne wsX3_remove := goodIn_r _ [113, 114, 115, 116, 13, 138, 139, 140, 141] (by decide +kernel) (by decide +kernel)
set_option maxRecDepth 20000 in
theorem gX7_goOnByOne_X3_remove : GoodIn wsX7_goOnByOne (wsV RX7 276 RX3 yX3_remove wsX3_remove) := goodIn_app (goodIn_of _ (by decide +kernel)) ggX7_goOnByOne_X3_remove
set_option maxRecDepth 20000 in
theorem ggX7_goOnByOne_X2_end : GoodIn wsX7_goOnByOne wsX2_end := goodIn_r _ [120, 121, 57, 122, 133, 134, 135, 136, 137] (by decide +kernel) (by decide +kernel)
set_option maxRecDepth 20000 in
theorem gX7_goOnByOne_X2_end : GoodIn wsX7_goOnByOne (wsV RX7 279 RX2 yX2_end wsX2_end) := goodIn_app (goodIn_of _ (by decide +kernel)) ggX7_goOnByOne_X2_end
theorem dX7_goOnByOne_0 : decode cX7_goOnByOne 0 = .ok (.aload_n 0, 1) := by decide +kernel
theorem dX7_goOnByOne_1 : decode cX7_goOnByOne 1 = .ok (.getfield 33, 3) := by decide +kernel
theorem dX7_goOnByOne_4 : decode cX7_goOnByOne 4 = .ok (.dup, 1) := by decide +kernel
theorem dX7_goOnByOne_5 : decode cX7_goOnByOne 5 = .ok (.getfield 176, 3) := by decide +kernel
theorem dX7_goOnByOne_8 : decode cX7_goOnByOne 8 = .ok (.iconst 1, 1) := by decide +kernel
theorem dX7_goOnByOne_9 : decode cX7_goOnByOne 9 = .ok (.isub, 1) := by decide +kernel
theorem dX7_goOnByOne_10 : decode cX7_goOnByOne 10 = .ok (.putfield 176, 3) := by decide +kernel
theorem dX7_goOnByOne_13 : decode cX7_goOnByOne 13 = .ok (.aload_n 0, 1) := by decide +kernel
theorem dX7_goOnByOne_14 : decode cX7_goOnByOne 14 = .ok (.getfield 33, 3) := by decide +kernel
theorem dX7_goOnByOne_17 : decode cX7_goOnByOne 17 = .ok (.getfield 176, 3) := by decide +kernel
theorem dX7_goOnByOne_20 : decode cX7_goOnByOne 20 = .ok (.ifCond .le 4, 3) := by decide +kernel
theorem dX7_goOnByOne_23 : decode cX7_goOnByOne 23 = .ok (.return_, 1) := by decide +kernel
theorem dX7_goOnByOne_24 : decode cX7_goOnByOne 24 = .ok (.aload_n 0, 1) := by decide +kernel
theorem dX7_goOnByOne_25 : decode cX7_goOnByOne 25 = .ok (.aload_n 0, 1) := by decide +kernel
theorem dX7_goOnByOne_26 : decode cX7_goOnByOne 26 = .ok (.invokevirtual 257, 3) := by decide +kernel
theorem dX7_goOnByOne_29 : decode cX7_goOnByOne 29 = .ok (.invokevirtual 269, 3) := by decide +kernel
theorem dX7_goOnByOne_32 : decode cX7_goOnByOne 32 = .ok (.aload_n 0, 1) := by decide +kernel
theorem dX7_goOnByOne_33 : decode cX7_goOnByOne 33 = .ok (.getfield 33, 3) := by decide +kernel
theorem dX7_goOnByOne_36 : decode cX7_goOnByOne 36 = .ok (.dup, 1) := by decide +kernel
theorem dX7_goOnByOne_37 : decode cX7_goOnByOne 37 = .ok (.getfield 173, 3) := by decide +kernel
theorem dX7_goOnByOne_40 : decode cX7_goOnByOne 40 = .ok (.iconst 1, 1) := by decide +kernel
theorem dX7_goOnByOne_41 : decode cX7_goOnByOne 41 = .ok (.iadd, 1) := by decide +kernel
theorem dX7_goOnByOne_42 : decode cX7_goOnByOne 42 = .ok (.putfield 173, 3) := by decide +kernel
theorem dX7_goOnByOne_45 : decode cX7_goOnByOne 45 = .ok (.aload_n 0, 1) := by decide +kernel
theorem dX7_goOnByOne_46 : decode cX7_goOnByOne 46 = .ok (.getfield 33, 3) := by decide +kernel
theorem dX7_goOnByOne_49 : decode cX7_goOnByOne 49 = .ok (.getfield 173, 3) := by decide +kernel
theorem dX7_goOnByOne_52 : decode cX7_goOnByOne 52 = .ok (.aload_n 0, 1) := by decide +kernel
theorem dX7_goOnByOne_53 : decode cX7_goOnByOne 53 = .ok (.invokevirtual 273, 3) := by decide +kernel
theorem dX7_goOnByOne_56 : decode cX7_goOnByOne 56 = .ok (.if_icmp .ge 10, 3) := by decide +kernel
theorem dX7_goOnByOne_59 : decode cX7_goOnByOne 59 = .ok (.aload_n 0, 1) := by decide +kernel
theorem dX7_goOnByOne_60 : decode cX7_goOnByOne 60 = .ok (.invokevirtual 254, 3) := by decide +kernel
theorem dX7_goOnByOne_63 : decode cX7_goOnByOne 63 = .ok (.goto 24, 3) := by decide +kernel
theorem dX7_goOnByOne_66 : decode cX7_goOnByOne 66 = .ok (.aload_n 0, 1) := by decide +kernel
theorem dX7_goOnByOne_67 : decode cX7_goOnByOne 67 = .ok (.getfield 26, 3) := by decide +kernel
theorem dX7_goOnByOne_70 : decode cX7_goOnByOne 70 = .ok (.aload_n 0, 1) := by decide +kernel
theorem dX7_goOnByOne_71 : decode cX7_goOnByOne 71 = .ok (.getfield 33, 3) := by decide +kernel
theorem dX7_goOnByOne_74 : decode cX7_goOnByOne 74 = .ok (.getfield 170, 3) := by decide +kernel
theorem dX7_goOnByOne_77 : decode cX7_goOnByOne 77 = .ok (.invokevirtual 276, 3) := by decide +kernel
theorem dX7_goOnByOne_80 : decode cX7_goOnByOne 80 = .ok (.aload_n 0, 1) := by decide +kernel
theorem dX7_goOnByOne_81 : decode cX7_goOnByOne 81 = .ok (.getfield 33, 3) := by decide +kernel
theorem dX7_goOnByOne_84 : decode cX7_goOnByOne 84 = .ok (.invokevirtual 279, 3) := by decide +kernel
theorem dX7_goOnByOne_87 : decode cX7_goOnByOne 87 = .ok (.return_, 1) := by decide +kernel
set_option maxRecDepth 20000 in
theorem ggX7_beginStep_X7_stepCount : GoodIn wsX7_beginStep wsX7_stepCount := goodIn_r _ [6, 7, 1, 8, 9, 10, 11, 12, 13, 70, 71, 72, 73, 74, 75, 76, 77, 78, 79, 80, 81, 82, 83, 84, 85, 86, 87, 88, 89, 90, 91] (by decide +kernel) (by decide +kernel)
set_option maxRecDepth 20000 in
theorem gX7_beginStep_X7_stepCount : GoodIn wsX7_beginStep (wsV RX7 273 RX7 yX7_stepCount wsX7_stepCount) := goodIn_app (goodIn_of _ (by decide +kernel)) ggX7_beginStep_X7_stepCount
set_option maxRecDepth 20000 in
theorem ggX7_beginStep_X7_stepNow : GoodIn wsX7_beginStep wsX7_stepNow := goodIn_r _ [17, 7, 1, 8, 9, 10, 11, 12, 13, 18, 19, 20, 5, 21, 22, 23, 24, 25, 26, 27, 28, 29, 30, 31, 32, 33, 34, 35, 36, 70, 71, 72, 73, 74, 75, 76, 77, 78, 79, 80, 81, 82, 83, 84, 88, 89, 90, 91, 85, 86, 87] (by decide +kernel) (by decide +kernel)
set_option maxRecDepth 20000 in
theorem gX7_beginStep_X7_stepNow : GoodIn wsX7_beginStep (wsV RX7 257 RX7 yX7_stepNow wsX7_stepNow) := goodIn_app (goodIn_of _ (by decide +kernel)) ggX7_beginStep_X7_stepNow
set_option maxRecDepth 20000 in
theorem ggX7_beginStep_X7_ticksOf : GoodIn wsX7_beginStep wsX7_ticksOf := goodIn_r _ [40, 41, 42, 1, 43, 44, 25, 45, 46, 47, 48, 49, 50, 51, 52, 53, 54, 5, 55, 56, 57, 58, 59, 60, 61, 62, 63, 64, 65, 66, 67, 68, 69, 70, 71, 72, 73, 74, 75, 76, 77, 78, 79, 80, 81, 82, 83, 84, 85, 86, 87] (by decide +kernel) (by decide +kernel)
set_option maxRecDepth 20000 in
theorem gX7_beginStep_X7_ticksOf : GoodIn wsX7_beginStep (wsV RX7 282 RX7 yX7_ticksOf wsX7_ticksOf) := goodIn_app (goodIn_of _ (by decide +kernel)) ggX7_beginStep_X7_ticksOf
theorem dX7_beginStep_0 : decode cX7_beginStep 0 = .ok (.aload_n 0, 1) := by decide +kernel
theorem dX7_beginStep_1 : decode cX7_beginStep 1 = .ok (.invokevirtual 273, 3) := by decide +kernel
theorem dX7_beginStep_4 : decode cX7_beginStep 4 = .ok (.istore_n 1, 1) := by decide +kernel
theorem dX7_beginStep_5 : decode cX7_beginStep 5 = .ok (.aload_n 0, 1) := by decide +kernel
theorem dX7_beginStep_6 : decode cX7_beginStep 6 = .ok (.getfield 33, 3) := by decide +kernel
theorem dX7_beginStep_9 : decode cX7_beginStep 9 = .ok (.aload_n 0, 1) := by decide +kernel
theorem dX7_beginStep_10 : decode cX7_beginStep 10 = .ok (.aload_n 0, 1) := by decide +kernel
theorem dX7_beginStep_11 : decode cX7_beginStep 11 = .ok (.invokevirtual 257, 3) := by decide +kernel
theorem dX7_beginStep_14 : decode cX7_beginStep 14 = .ok (.invokevirtual 282, 3) := by decide +kernel
theorem dX7_beginStep_17 : decode cX7_beginStep 17 = .ok (.putfield 176, 3) := by decide +kernel
theorem dX7_beginStep_20 : decode cX7_beginStep 20 = .ok (.aload_n 0, 1) := by decide +kernel
theorem dX7_beginStep_21 : decode cX7_beginStep 21 = .ok (.getfield 33, 3) := by decide +kernel
theorem dX7_beginStep_24 : decode cX7_beginStep 24 = .ok (.getfield 176, 3) := by decide +kernel
theorem dX7_beginStep_27 : decode cX7_beginStep 27 = .ok (.ifCond .ne 47, 3) := by decide +kernel
theorem dX7_beginStep_30 : decode cX7_beginStep 30 = .ok (.aload_n 0, 1) := by decide +kernel
theorem dX7_beginStep_31 : decode cX7_beginStep 31 = .ok (.getfield 33, 3) := by decide +kernel
theorem dX7_beginStep_34 : decode cX7_beginStep 34 = .ok (.getfield 173, 3) := by decide +kernel
theorem dX7_beginStep_37 : decode cX7_beginStep 37 = .ok (.iload_n 1, 1) := by decide +kernel
theorem dX7_beginStep_38 : decode cX7_beginStep 38 = .ok (.iconst 1, 1) := by decide +kernel
theorem dX7_beginStep_39 : decode cX7_beginStep 39 = .ok (.isub, 1) := by decide +kernel
theorem dX7_beginStep_40 : decode cX7_beginStep 40 = .ok (.if_icmp .ge 34, 3) := by decide +kernel
theorem dX7_beginStep_43 : decode cX7_beginStep 43 = .ok (.aload_n 0, 1) := by decide +kernel
theorem dX7_beginStep_44 : decode cX7_beginStep 44 = .ok (.getfield 33, 3) := by decide +kernel
theorem dX7_beginStep_47 : decode cX7_beginStep 47 = .ok (.dup, 1) := by decide +kernel
theorem dX7_beginStep_48 : decode cX7_beginStep 48 = .ok (.getfield 173, 3) := by decide +kernel
theorem dX7_beginStep_51 : decode cX7_beginStep 51 = .ok (.iconst 1, 1) := by decide +kernel
theorem dX7_beginStep_52 : decode cX7_beginStep 52 = .ok (.iadd, 1) := by decide +kernel
theorem dX7_beginStep_53 : decode cX7_beginStep 53 = .ok (.putfield 173, 3) := by decide +kernel
theorem dX7_beginStep_56 : decode cX7_beginStep 56 = .ok (.aload_n 0, 1) := by decide +kernel
theorem dX7_beginStep_57 : decode cX7_beginStep 57 = .ok (.getfield 33, 3) := by decide +kernel
theorem dX7_beginStep_60 : decode cX7_beginStep 60 = .ok (.aload_n 0, 1) := by decide +kernel
theorem dX7_beginStep_61 : decode cX7_beginStep 61 = .ok (.aload_n 0, 1) := by decide +kernel
theorem dX7_beginStep_62 : decode cX7_beginStep 62 = .ok (.invokevirtual 257, 3) := by decide +kernel
theorem dX7_beginStep_65 : decode cX7_beginStep 65 = .ok (.invokevirtual 282, 3) := by decide +kernel
theorem dX7_beginStep_68 : decode cX7_beginStep 68 = .ok (.putfield 176, 3) := by decide +kernel
theorem dX7_beginStep_71 : decode cX7_beginStep 71 = .ok (.goto (-51), 3) := by decide +kernel
theorem dX7_beginStep_74 : decode cX7_beginStep 74 = .ok (.return_, 1) := by decide +kernel
set_option maxRecDepth 20000 in
theorem ggX7_stepCount_X3_isFetch : GoodIn wsX7_stepCount wsX3_isFetch := goodIn_r _ [7, 8, 27, 28, 29, 30] (by decide +kernel) (by decide +kernel)
set_option maxRecDepth 20000 in
theorem gX7_stepCount_X3_isFetch : GoodIn wsX7_stepCount (wsV RX7 198 RX3 yX3_isFetch wsX3_isFetch) := goodIn_app (goodIn_of _ (by decide +kernel)) ggX7_stepCount_X3_isFetch
theorem dX7_stepCount_0 : decode cX7_stepCount 0 = .ok (.aload_n 0, 1) := by decide +kernel
theorem dX7_stepCount_1 : decode cX7_stepCount 1 = .ok (.getfield 26, 3) := by decide +kernel
theorem dX7_stepCount_4 : decode cX7_stepCount 4 = .ok (.aload_n 0, 1) := by decide +kernel
theorem dX7_stepCount_5 : decode cX7_stepCount 5 = .ok (.getfield 33, 3) := by decide +kernel
theorem dX7_stepCount_8 : decode cX7_stepCount 8 = .ok (.getfield 170, 3) := by decide +kernel
theorem dX7_stepCount_11 : decode cX7_stepCount 11 = .ok (.invokevirtual 198, 3) := by decide +kernel
theorem dX7_stepCount_14 : decode cX7_stepCount 14 = .ok (.ifCond .eq 18, 3) := by decide +kernel
theorem dX7_stepCount_17 : decode cX7_stepCount 17 = .ok (.aload_n 0, 1) := by decide +kernel
theorem dX7_stepCount_18 : decode cX7_stepCount 18 = .ok (.getfield 33, 3) := by decide +kernel
theorem dX7_stepCount_21 : decode cX7_stepCount 21 = .ok (.getfield 251, 3) := by decide +kernel
theorem dX7_stepCount_24 : decode cX7_stepCount 24 = .ok (.getfield 147, 3) := by decide +kernel
theorem dX7_stepCount_27 : decode cX7_stepCount 27 = .ok (.iconst 4, 1) := by decide +kernel
theorem dX7_stepCount_28 : decode cX7_stepCount 28 = .ok (.iadd, 1) := by decide +kernel
theorem dX7_stepCount_29 : decode cX7_stepCount 29 = .ok (.goto 4, 3) := by decide +kernel
theorem dX7_stepCount_32 : decode cX7_stepCount 32 = .ok (.iconst 4, 1) := by decide +kernel
theorem dX7_stepCount_33 : decode cX7_stepCount 33 = .ok (.ireturn, 1) := by decide +kernel
set_option maxRecDepth 20000 in
theorem ggX7_stepNow_X3_isFetch : GoodIn wsX7_stepNow wsX3_isFetch := goodIn_r _ [7, 8, 44, 45, 46, 47] (by decide +kernel) (by decide +kernel)
set_option maxRecDepth 20000 in
theorem gX7_stepNow_X3_isFetch : GoodIn wsX7_stepNow (wsV RX7 198 RX3 yX3_isFetch wsX3_isFetch) := goodIn_app (goodIn_of _ (by decide +kernel)) ggX7_stepNow_X3_isFetch
set_option maxRecDepth 20000 in
theorem ggX7_stepNow_X7_fetchStep : GoodIn wsX7_stepNow wsX7_fetchStep := goodIn_r _ [13, 2, 14, 15, 16, 17, 18, 19, 20, 21, 22, 29, 30, 31, 32, 33, 34, 35, 36, 37, 38, 39, 40, 41, 42, 43, 48, 49, 50] (by decide +kernel) (by decide +kernel)
set_option maxRecDepth 20000 in
theorem gX7_stepNow_X7_fetchStep : GoodIn wsX7_stepNow (wsV RX7 286 RX7 yX7_fetchStep wsX7_fetchStep) := goodIn_app (goodIn_of _ (by decide +kernel)) ggX7_stepNow_X7_fetchStep
set_option maxRecDepth 20000 in
theorem ggX7_stepNow_X7_storeStep : GoodIn wsX7_stepNow wsX7_storeStep := goodIn_r _ [26, 2, 21, 27, 14, 28, 29, 30, 31, 32, 33, 34, 35, 36, 37, 38, 39, 40, 41, 42, 43] (by decide +kernel) (by decide +kernel)
set_option maxRecDepth 20000 in
theorem gX7_stepNow_X7_storeStep : GoodIn wsX7_stepNow (wsV RX7 289 RX7 yX7_storeStep wsX7_storeStep) := goodIn_app (goodIn_of _ (by decide +kernel)) ggX7_stepNow_X7_storeStep
theorem dX7_stepNow_0 : decode cX7_stepNow 0 = .ok (.aload_n 0, 1) := by decide +kernel
theorem dX7_stepNow_1 : decode cX7_stepNow 1 = .ok (.getfield 26, 3) := by decide +kernel
theorem dX7_stepNow_4 : decode cX7_stepNow 4 = .ok (.aload_n 0, 1) := by decide +kernel
theorem dX7_stepNow_5 : decode cX7_stepNow 5 = .ok (.getfield 33, 3) := by decide +kernel
theorem dX7_stepNow_8 : decode cX7_stepNow 8 = .ok (.getfield 170, 3) := by decide +kernel
theorem dX7_stepNow_11 : decode cX7_stepNow 11 = .ok (.invokevirtual 198, 3) := by decide +kernel
theorem dX7_stepNow_14 : decode cX7_stepNow 14 = .ok (.ifCond .eq 10, 3) := by decide +kernel
theorem dX7_stepNow_17 : decode cX7_stepNow 17 = .ok (.aload_n 0, 1) := by decide +kernel
theorem dX7_stepNow_18 : decode cX7_stepNow 18 = .ok (.invokevirtual 286, 3) := by decide +kernel
theorem dX7_stepNow_21 : decode cX7_stepNow 21 = .ok (.goto 7, 3) := by decide +kernel
theorem dX7_stepNow_24 : decode cX7_stepNow 24 = .ok (.aload_n 0, 1) := by decide +kernel
theorem dX7_stepNow_25 : decode cX7_stepNow 25 = .ok (.invokevirtual 289, 3) := by decide +kernel
theorem dX7_stepNow_28 : decode cX7_stepNow 28 = .ok (.areturn, 1) := by decide +kernel
theorem dX7_storeStep_0 : decode cX7_storeStep 0 = .ok (.aload_n 0, 1) := by decide +kernel
theorem dX7_storeStep_1 : decode cX7_storeStep 1 = .ok (.getfield 33, 3) := by decide +kernel
theorem dX7_storeStep_4 : decode cX7_storeStep 4 = .ok (.getfield 173, 3) := by decide +kernel
theorem dX7_storeStep_7 : decode cX7_storeStep 7 = .ok (.tableswitch 37 0 2 #[25, 29, 33], 25) := by decide +kernel
theorem dX7_storeStep_32 : decode cX7_storeStep 32 = .ok (.getstatic 292, 3) := by decide +kernel
theorem dX7_storeStep_35 : decode cX7_storeStep 35 = .ok (.areturn, 1) := by decide +kernel
theorem dX7_storeStep_36 : decode cX7_storeStep 36 = .ok (.getstatic 296, 3) := by decide +kernel
theorem dX7_storeStep_39 : decode cX7_storeStep 39 = .ok (.areturn, 1) := by decide +kernel
theorem dX7_storeStep_40 : decode cX7_storeStep 40 = .ok (.getstatic 299, 3) := by decide +kernel
theorem dX7_storeStep_43 : decode cX7_storeStep 43 = .ok (.areturn, 1) := by decide +kernel
theorem dX7_storeStep_44 : decode cX7_storeStep 44 = .ok (.getstatic 302, 3) := by decide +kernel
theorem dX7_storeStep_47 : decode cX7_storeStep 47 = .ok (.areturn, 1) := by decide +kernel
theorem dX7_fetchStep_0 : decode cX7_fetchStep 0 = .ok (.aload_n 0, 1) := by decide +kernel
theorem dX7_fetchStep_1 : decode cX7_fetchStep 1 = .ok (.getfield 33, 3) := by decide +kernel
theorem dX7_fetchStep_4 : decode cX7_fetchStep 4 = .ok (.getfield 173, 3) := by decide +kernel
theorem dX7_fetchStep_7 : decode cX7_fetchStep 7 = .ok (.ifCond .ne 7, 3) := by decide +kernel
theorem dX7_fetchStep_10 : decode cX7_fetchStep 10 = .ok (.getstatic 299, 3) := by decide +kernel
theorem dX7_fetchStep_13 : decode cX7_fetchStep 13 = .ok (.areturn, 1) := by decide +kernel
theorem dX7_fetchStep_14 : decode cX7_fetchStep 14 = .ok (.iconst 0, 1) := by decide +kernel
theorem dX7_fetchStep_15 : decode cX7_fetchStep 15 = .ok (.aload_n 0, 1) := by decide +kernel
theorem dX7_fetchStep_16 : decode cX7_fetchStep 16 = .ok (.getfield 33, 3) := by decide +kernel
theorem dX7_fetchStep_19 : decode cX7_fetchStep 19 = .ok (.getfield 173, 3) := by decide +kernel
theorem dX7_fetchStep_22 : decode cX7_fetchStep 22 = .ok (.aload_n 0, 1) := by decide +kernel
theorem dX7_fetchStep_23 : decode cX7_fetchStep 23 = .ok (.getfield 33, 3) := by decide +kernel
theorem dX7_fetchStep_26 : decode cX7_fetchStep 26 = .ok (.getfield 251, 3) := by decide +kernel
theorem dX7_fetchStep_29 : decode cX7_fetchStep 29 = .ok (.getfield 147, 3) := by decide +kernel
theorem dX7_fetchStep_32 : decode cX7_fetchStep 32 = .ok (.isub, 1) := by decide +kernel
theorem dX7_fetchStep_33 : decode cX7_fetchStep 33 = .ok (.invokestatic 305, 3) := by decide +kernel
theorem dX7_fetchStep_36 : decode cX7_fetchStep 36 = .ok (.tableswitch 40 0 2 #[28, 32, 36], 28) := by decide +kernel
theorem dX7_fetchStep_64 : decode cX7_fetchStep 64 = .ok (.getstatic 310, 3) := by decide +kernel
theorem dX7_fetchStep_67 : decode cX7_fetchStep 67 = .ok (.areturn, 1) := by decide +kernel
theorem dX7_fetchStep_68 : decode cX7_fetchStep 68 = .ok (.getstatic 313, 3) := by decide +kernel
theorem dX7_fetchStep_71 : decode cX7_fetchStep 71 = .ok (.areturn, 1) := by decide +kernel
theorem dX7_fetchStep_72 : decode cX7_fetchStep 72 = .ok (.getstatic 292, 3) := by decide +kernel
theorem dX7_fetchStep_75 : decode cX7_fetchStep 75 = .ok (.areturn, 1) := by decide +kernel
theorem dX7_fetchStep_76 : decode cX7_fetchStep 76 = .ok (.getstatic 316, 3) := by decide +kernel
theorem dX7_fetchStep_79 : decode cX7_fetchStep 79 = .ok (.areturn, 1) := by decide +kernel
set_option maxRecDepth 20000 in
theorem ggX7_ticksOf_X7_levelOf : GoodIn wsX7_ticksOf wsX7_levelOf := goodIn_r _ [18] (by decide +kernel) (by decide +kernel)
set_option maxRecDepth 20000 in
theorem gX7_ticksOf_X7_levelOf : GoodIn wsX7_ticksOf (va_wsS RX7 204 yX7_levelOf wsX7_levelOf) := goodIn_app (goodIn_of _ (by decide +kernel)) ggX7_ticksOf_X7_levelOf
set_option maxRecDepth 20000 in
theorem ggX7_ticksOf_X2_moveFrom : GoodIn wsX7_ticksOf wsX2_moveFrom := goodIn_r _ [23, 24, 25, 43, 44, 45, 46, 47, 48, 49, 50] (by decide +kernel) (by decide +kernel)
set_option maxRecDepth 20000 in
theorem gX7_ticksOf_X2_moveFrom : GoodIn wsX7_ticksOf (wsV RX7 330 RX2 yX2_moveFrom wsX2_moveFrom) := goodIn_app (goodIn_of _ (by decide +kernel)) ggX7_ticksOf_X2_moveFrom
set_option maxRecDepth 20000 in
theorem ggX7_ticksOf_X7_shuttleTicks : GoodIn wsX7_ticksOf wsX7_shuttleTicks := goodIn_r _ [28] (by decide +kernel) (by decide +kernel)
set_option maxRecDepth 20000 in
theorem gX7_ticksOf_X7_shuttleTicks : GoodIn wsX7_ticksOf (va_wsS RX7 333 yX7_shuttleTicks wsX7_shuttleTicks) := goodIn_app (goodIn_of _ (by decide +kernel)) ggX7_ticksOf_X7_shuttleTicks
set_option maxRecDepth 20000 in
theorem ggX7_ticksOf_X2_moveTo : GoodIn wsX7_ticksOf wsX2_moveTo := goodIn_r _ [32, 24, 25, 43, 44, 45, 46, 47, 48, 49, 50] (by decide +kernel) (by decide +kernel)
set_option maxRecDepth 20000 in
theorem gX7_ticksOf_X2_moveTo : GoodIn wsX7_ticksOf (wsV RX7 336 RX2 yX2_moveTo wsX2_moveTo) := goodIn_app (goodIn_of _ (by decide +kernel)) ggX7_ticksOf_X2_moveTo
theorem dX7_ticksOf_0 : decode cX7_ticksOf 0 = .ok (.getstatic 319, 3) := by decide +kernel
theorem dX7_ticksOf_3 : decode cX7_ticksOf 3 = .ok (.aload_n 1, 1) := by decide +kernel
theorem dX7_ticksOf_4 : decode cX7_ticksOf 4 = .ok (.invokevirtual 324, 3) := by decide +kernel
theorem dX7_ticksOf_7 : decode cX7_ticksOf 7 = .ok (.iaload, 1) := by decide +kernel
theorem dX7_ticksOf_8 : decode cX7_ticksOf 8 = .ok (.tableswitch 97 1 5 #[36, 43, 64, 86, 86], 36) := by decide +kernel
theorem dX7_ticksOf_44 : decode cX7_ticksOf 44 = .ok (.iconst 3, 1) := by decide +kernel
theorem dX7_ticksOf_45 : decode cX7_ticksOf 45 = .ok (.aload_n 0, 1) := by decide +kernel
theorem dX7_ticksOf_46 : decode cX7_ticksOf 46 = .ok (.getfield 179, 3) := by decide +kernel
theorem dX7_ticksOf_49 : decode cX7_ticksOf 49 = .ok (.imul, 1) := by decide +kernel
theorem dX7_ticksOf_50 : decode cX7_ticksOf 50 = .ok (.ireturn, 1) := by decide +kernel
theorem dX7_ticksOf_51 : decode cX7_ticksOf 51 = .ok (.iconst 3, 1) := by decide +kernel
theorem dX7_ticksOf_52 : decode cX7_ticksOf 52 = .ok (.aload_n 0, 1) := by decide +kernel
theorem dX7_ticksOf_53 : decode cX7_ticksOf 53 = .ok (.getfield 33, 3) := by decide +kernel
theorem dX7_ticksOf_56 : decode cX7_ticksOf 56 = .ok (.getfield 201, 3) := by decide +kernel
theorem dX7_ticksOf_59 : decode cX7_ticksOf 59 = .ok (.invokestatic 204, 3) := by decide +kernel
theorem dX7_ticksOf_62 : decode cX7_ticksOf 62 = .ok (.aload_n 0, 1) := by decide +kernel
theorem dX7_ticksOf_63 : decode cX7_ticksOf 63 = .ok (.getfield 179, 3) := by decide +kernel
theorem dX7_ticksOf_66 : decode cX7_ticksOf 66 = .ok (.isub, 1) := by decide +kernel
theorem dX7_ticksOf_67 : decode cX7_ticksOf 67 = .ok (.invokestatic 327, 3) := by decide +kernel
theorem dX7_ticksOf_70 : decode cX7_ticksOf 70 = .ok (.imul, 1) := by decide +kernel
theorem dX7_ticksOf_71 : decode cX7_ticksOf 71 = .ok (.ireturn, 1) := by decide +kernel
theorem dX7_ticksOf_72 : decode cX7_ticksOf 72 = .ok (.aload_n 0, 1) := by decide +kernel
theorem dX7_ticksOf_73 : decode cX7_ticksOf 73 = .ok (.getfield 33, 3) := by decide +kernel
theorem dX7_ticksOf_76 : decode cX7_ticksOf 76 = .ok (.invokevirtual 330, 3) := by decide +kernel
theorem dX7_ticksOf_79 : decode cX7_ticksOf 79 = .ok (.invokestatic 333, 3) := by decide +kernel
theorem dX7_ticksOf_82 : decode cX7_ticksOf 82 = .ok (.aload_n 0, 1) := by decide +kernel
theorem dX7_ticksOf_83 : decode cX7_ticksOf 83 = .ok (.getfield 33, 3) := by decide +kernel
theorem dX7_ticksOf_86 : decode cX7_ticksOf 86 = .ok (.invokevirtual 336, 3) := by decide +kernel
theorem dX7_ticksOf_89 : decode cX7_ticksOf 89 = .ok (.invokestatic 333, 3) := by decide +kernel
theorem dX7_ticksOf_92 : decode cX7_ticksOf 92 = .ok (.iadd, 1) := by decide +kernel
theorem dX7_ticksOf_93 : decode cX7_ticksOf 93 = .ok (.ireturn, 1) := by decide +kernel
theorem dX7_ticksOf_94 : decode cX7_ticksOf 94 = .ok (.aload_n 0, 1) := by decide +kernel
theorem dX7_ticksOf_95 : decode cX7_ticksOf 95 = .ok (.getfield 33, 3) := by decide +kernel
theorem dX7_ticksOf_98 : decode cX7_ticksOf 98 = .ok (.getfield 201, 3) := by decide +kernel
theorem dX7_ticksOf_101 : decode cX7_ticksOf 101 = .ok (.invokestatic 333, 3) := by decide +kernel
theorem dX7_ticksOf_104 : decode cX7_ticksOf 104 = .ok (.ireturn, 1) := by decide +kernel
theorem dX7_ticksOf_105 : decode cX7_ticksOf 105 = .ok (.iconst 2, 1) := by decide +kernel
theorem dX7_ticksOf_106 : decode cX7_ticksOf 106 = .ok (.ireturn, 1) := by decide +kernel
set_option maxRecDepth 20000 in
theorem ggX7_endStep_X7_levelOf : GoodIn wsX7_endStep wsX7_levelOf := goodIn_r _ [17] (by decide +kernel) (by decide +kernel)
set_option maxRecDepth 20000 in
theorem gX7_endStep_X7_levelOf : GoodIn wsX7_endStep (va_wsS RX7 204 yX7_levelOf wsX7_levelOf) := goodIn_app (goodIn_of _ (by decide +kernel)) ggX7_endStep_X7_levelOf
set_option maxRecDepth 20000 in
theorem ggX7_endStep_X2_moveFrom : GoodIn wsX7_endStep wsX2_moveFrom := goodIn_r _ [22, 23, 24, 73, 74, 75, 76, 77, 80, 81, 82] (by decide +kernel) (by decide +kernel)
set_option maxRecDepth 20000 in
theorem gX7_endStep_X2_moveFrom : GoodIn wsX7_endStep (wsV RX7 330 RX2 yX2_moveFrom wsX2_moveFrom) := goodIn_app (goodIn_of _ (by decide +kernel)) ggX7_endStep_X2_moveFrom
set_option maxRecDepth 20000 in
theorem ggX7_endStep_X2_moveTo : GoodIn wsX7_endStep wsX2_moveTo := goodIn_r _ [28, 23, 24, 73, 74, 75, 76, 77, 80, 81, 82] (by decide +kernel) (by decide +kernel)
set_option maxRecDepth 20000 in
theorem gX7_endStep_X2_moveTo : GoodIn wsX7_endStep (wsV RX7 336 RX2 yX2_moveTo wsX2_moveTo) := goodIn_app (goodIn_of _ (by decide +kernel)) ggX7_endStep_X2_moveTo
set_option maxRecDepth 20000 in
theorem ggX7_endStep_X5_move : GoodIn wsX7_endStep wsX5_move := goodIn_r _ [33, 34, 78, 79] (by decide +kernel) (by decide +kernel)
set_option maxRecDepth 20000 in
theorem gX7_endStep_X5_move : GoodIn wsX7_endStep (wsV RX7 339 RX5 yX5_move wsX5_move) := goodIn_app (goodIn_of _ (by decide +kernel)) ggX7_endStep_X5_move
set_option maxRecDepth 20000 in
theorem ggX7_endStep_X5_fillKept : GoodIn wsX7_endStep wsX5_fillKept := goodIn_r _ [38, 34, 39, 16, 40, 78, 79] (by decide +kernel) (by decide +kernel)
set_option maxRecDepth 20000 in
theorem gX7_endStep_X5_fillKept : GoodIn wsX7_endStep (wsV RX7 342 RX5 yX5_fillKept wsX5_fillKept) := goodIn_app (goodIn_of _ (by decide +kernel)) ggX7_endStep_X5_fillKept
set_option maxRecDepth 20000 in
theorem ggX7_endStep_X1_clear : GoodIn wsX7_endStep wsX1_clear := goodIn_r _ [45, 46, 47, 48, 83, 84, 85, 86, 87, 88] (by decide +kernel) (by decide +kernel)
set_option maxRecDepth 20000 in
theorem gX7_endStep_X1_clear : GoodIn wsX7_endStep (wsV RX7 107 RX1 yX1_clear wsX1_clear) := goodIn_app (goodIn_of _ (by decide +kernel)) ggX7_endStep_X1_clear
set_option maxRecDepth 20000 in
theorem ggX7_endStep_X1_beginToOpen : GoodIn wsX7_endStep wsX1_beginToOpen := goodIn_r _ [52, 53, 54, 83, 84, 85, 86, 87, 88] (by decide +kernel) (by decide +kernel)
set_option maxRecDepth 20000 in
theorem gX7_endStep_X1_beginToOpen : GoodIn wsX7_endStep (wsV RX7 104 RX1 yX1_beginToOpen wsX1_beginToOpen) := goodIn_app (goodIn_of _ (by decide +kernel)) ggX7_endStep_X1_beginToOpen
set_option maxRecDepth 20000 in
theorem ggX7_endStep_X1_putFetched : GoodIn wsX7_endStep wsX1_putFetched := goodIn_r _ [58, 46, 47, 83, 84, 85, 86, 87, 88] (by decide +kernel) (by decide +kernel)
set_option maxRecDepth 20000 in
theorem gX7_endStep_X1_putFetched : GoodIn wsX7_endStep (wsV RX7 345 RX1 yX1_putFetched wsX1_putFetched) := goodIn_app (goodIn_of _ (by decide +kernel)) ggX7_endStep_X1_putFetched
theorem dX7_endStep_0 : decode cX7_endStep 0 = .ok (.aload_n 0, 1) := by decide +kernel
theorem dX7_endStep_1 : decode cX7_endStep 1 = .ok (.getfield 18, 3) := by decide +kernel
theorem dX7_endStep_4 : decode cX7_endStep 4 = .ok (.aload_n 0, 1) := by decide +kernel
theorem dX7_endStep_5 : decode cX7_endStep 5 = .ok (.getfield 26, 3) := by decide +kernel
theorem dX7_endStep_8 : decode cX7_endStep 8 = .ok (.getfield 246, 3) := by decide +kernel
theorem dX7_endStep_11 : decode cX7_endStep 11 = .ok (.aload_n 0, 1) := by decide +kernel
theorem dX7_endStep_12 : decode cX7_endStep 12 = .ok (.getfield 33, 3) := by decide +kernel
theorem dX7_endStep_15 : decode cX7_endStep 15 = .ok (.getfield 170, 3) := by decide +kernel
theorem dX7_endStep_18 : decode cX7_endStep 18 = .ok (.iaload, 1) := by decide +kernel
theorem dX7_endStep_19 : decode cX7_endStep 19 = .ok (.aaload, 1) := by decide +kernel
theorem dX7_endStep_20 : decode cX7_endStep 20 = .ok (.astore_n 2, 1) := by decide +kernel
theorem dX7_endStep_21 : decode cX7_endStep 21 = .ok (.aload_n 0, 1) := by decide +kernel
theorem dX7_endStep_22 : decode cX7_endStep 22 = .ok (.getfield 26, 3) := by decide +kernel
theorem dX7_endStep_25 : decode cX7_endStep 25 = .ok (.getfield 167, 3) := by decide +kernel
theorem dX7_endStep_28 : decode cX7_endStep 28 = .ok (.aload_n 0, 1) := by decide +kernel
theorem dX7_endStep_29 : decode cX7_endStep 29 = .ok (.getfield 33, 3) := by decide +kernel
theorem dX7_endStep_32 : decode cX7_endStep 32 = .ok (.getfield 170, 3) := by decide +kernel
theorem dX7_endStep_35 : decode cX7_endStep 35 = .ok (.iaload, 1) := by decide +kernel
theorem dX7_endStep_36 : decode cX7_endStep 36 = .ok (.istore_n 3, 1) := by decide +kernel
theorem dX7_endStep_37 : decode cX7_endStep 37 = .ok (.getstatic 319, 3) := by decide +kernel
theorem dX7_endStep_40 : decode cX7_endStep 40 = .ok (.aload_n 1, 1) := by decide +kernel
theorem dX7_endStep_41 : decode cX7_endStep 41 = .ok (.invokevirtual 324, 3) := by decide +kernel
theorem dX7_endStep_44 : decode cX7_endStep 44 = .ok (.iaload, 1) := by decide +kernel
theorem dX7_endStep_45 : decode cX7_endStep 45 = .ok (.tableswitch 136 1 6 #[39, 47, 64, 88, 107, 125], 39) := by decide +kernel
theorem dX7_endStep_84 : decode cX7_endStep 84 = .ok (.aload_n 0, 1) := by decide +kernel
theorem dX7_endStep_85 : decode cX7_endStep 85 = .ok (.iconst 0, 1) := by decide +kernel
theorem dX7_endStep_86 : decode cX7_endStep 86 = .ok (.putfield 179, 3) := by decide +kernel
theorem dX7_endStep_89 : decode cX7_endStep 89 = .ok (.goto 101, 3) := by decide +kernel
theorem dX7_endStep_92 : decode cX7_endStep 92 = .ok (.aload_n 0, 1) := by decide +kernel
theorem dX7_endStep_93 : decode cX7_endStep 93 = .ok (.aload_n 0, 1) := by decide +kernel
theorem dX7_endStep_94 : decode cX7_endStep 94 = .ok (.getfield 33, 3) := by decide +kernel
theorem dX7_endStep_97 : decode cX7_endStep 97 = .ok (.getfield 201, 3) := by decide +kernel
theorem dX7_endStep_100 : decode cX7_endStep 100 = .ok (.invokestatic 204, 3) := by decide +kernel
theorem dX7_endStep_103 : decode cX7_endStep 103 = .ok (.putfield 179, 3) := by decide +kernel
theorem dX7_endStep_106 : decode cX7_endStep 106 = .ok (.goto 84, 3) := by decide +kernel
theorem dX7_endStep_109 : decode cX7_endStep 109 = .ok (.aload_n 0, 1) := by decide +kernel
theorem dX7_endStep_110 : decode cX7_endStep 110 = .ok (.getfield 10, 3) := by decide +kernel
theorem dX7_endStep_113 : decode cX7_endStep 113 = .ok (.aload_n 0, 1) := by decide +kernel
theorem dX7_endStep_114 : decode cX7_endStep 114 = .ok (.getfield 33, 3) := by decide +kernel
theorem dX7_endStep_117 : decode cX7_endStep 117 = .ok (.invokevirtual 330, 3) := by decide +kernel
theorem dX7_endStep_120 : decode cX7_endStep 120 = .ok (.aload_n 0, 1) := by decide +kernel
theorem dX7_endStep_121 : decode cX7_endStep 121 = .ok (.getfield 33, 3) := by decide +kernel
theorem dX7_endStep_124 : decode cX7_endStep 124 = .ok (.invokevirtual 336, 3) := by decide +kernel
theorem dX7_endStep_127 : decode cX7_endStep 127 = .ok (.invokevirtual 339, 3) := by decide +kernel
theorem dX7_endStep_130 : decode cX7_endStep 130 = .ok (.goto 60, 3) := by decide +kernel
theorem dX7_endStep_133 : decode cX7_endStep 133 = .ok (.aload_n 0, 1) := by decide +kernel
theorem dX7_endStep_134 : decode cX7_endStep 134 = .ok (.getfield 10, 3) := by decide +kernel
theorem dX7_endStep_137 : decode cX7_endStep 137 = .ok (.getfield 139, 3) := by decide +kernel
theorem dX7_endStep_140 : decode cX7_endStep 140 = .ok (.aload_n 0, 1) := by decide +kernel
theorem dX7_endStep_141 : decode cX7_endStep 141 = .ok (.getfield 33, 3) := by decide +kernel
theorem dX7_endStep_144 : decode cX7_endStep 144 = .ok (.getfield 201, 3) := by decide +kernel
theorem dX7_endStep_147 : decode cX7_endStep 147 = .ok (.iconst 0, 1) := by decide +kernel
theorem dX7_endStep_148 : decode cX7_endStep 148 = .ok (.iastore, 1) := by decide +kernel
theorem dX7_endStep_149 : decode cX7_endStep 149 = .ok (.goto 41, 3) := by decide +kernel
theorem dX7_endStep_152 : decode cX7_endStep 152 = .ok (.aload_n 0, 1) := by decide +kernel
theorem dX7_endStep_153 : decode cX7_endStep 153 = .ok (.getfield 10, 3) := by decide +kernel
theorem dX7_endStep_156 : decode cX7_endStep 156 = .ok (.aload_n 0, 1) := by decide +kernel
theorem dX7_endStep_157 : decode cX7_endStep 157 = .ok (.getfield 33, 3) := by decide +kernel
theorem dX7_endStep_160 : decode cX7_endStep 160 = .ok (.getfield 201, 3) := by decide +kernel
theorem dX7_endStep_163 : decode cX7_endStep 163 = .ok (.iload_n 3, 1) := by decide +kernel
theorem dX7_endStep_164 : decode cX7_endStep 164 = .ok (.invokevirtual 342, 3) := by decide +kernel
theorem dX7_endStep_167 : decode cX7_endStep 167 = .ok (.goto 23, 3) := by decide +kernel
theorem dX7_endStep_170 : decode cX7_endStep 170 = .ok (.aload_n 2, 1) := by decide +kernel
theorem dX7_endStep_171 : decode cX7_endStep 171 = .ok (.invokevirtual 107, 3) := by decide +kernel
theorem dX7_endStep_174 : decode cX7_endStep 174 = .ok (.aload_n 2, 1) := by decide +kernel
theorem dX7_endStep_175 : decode cX7_endStep 175 = .ok (.invokevirtual 104, 3) := by decide +kernel
theorem dX7_endStep_178 : decode cX7_endStep 178 = .ok (.goto 12, 3) := by decide +kernel
theorem dX7_endStep_181 : decode cX7_endStep 181 = .ok (.aload_n 2, 1) := by decide +kernel
theorem dX7_endStep_182 : decode cX7_endStep 182 = .ok (.iload_n 3, 1) := by decide +kernel
theorem dX7_endStep_183 : decode cX7_endStep 183 = .ok (.invokevirtual 345, 3) := by decide +kernel
theorem dX7_endStep_186 : decode cX7_endStep 186 = .ok (.aload_n 2, 1) := by decide +kernel
theorem dX7_endStep_187 : decode cX7_endStep 187 = .ok (.invokevirtual 104, 3) := by decide +kernel
theorem dX7_endStep_190 : decode cX7_endStep 190 = .ok (.return_, 1) := by decide +kernel
